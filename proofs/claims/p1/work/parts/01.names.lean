/-! ===== BEGIN words of one list among another's, by their places ===== -/
theorem goodIn_r {big : List Cond} (ws : List Cond) (ps : List Nat) (hp : ws = ps.filterMap (fun i => big[i]?)) (h : ws.all goodWord = true) : GoodIn big ws := by
  intro w hw
  have h1 := List.all_eq_true.mp h w hw
  rw [hp] at hw
  obtain ⟨i, -, hi⟩ := List.mem_filterMap.mp hw
  have hm : w ∈ big := by first | exact List.mem_of_getElem? hi | exact List.getElem?_mem hi
  exact ⟨hm, good_of_word h1⟩
theorem goodIn_app {big a b : List Cond} (ha : GoodIn big a) (hb : GoodIn big b) : GoodIn big (a ++ b) := fun w h => (List.mem_append.mp h).elim (ha w) (hb w)
theorem goodIn_ca {big a b : List Cond} {c : Cond} (ha : GoodIn big (c :: a)) (hb : GoodIn big b) : GoodIn big (c :: (a ++ b)) := fun w h => (List.mem_cons.mp h).elim (fun e => ha w (List.mem_cons.mpr (Or.inl e))) (fun h => (List.mem_append.mp h).elim (fun h => ha w (List.mem_cons.mpr (Or.inr h))) (hb w))
theorem goodIn_sub {big ws : List Cond} (hm : ∀ w ∈ ws, w ∈ big) (h : ws.all goodWord = true) : GoodIn big ws := fun w hw => ⟨hm w hw, good_of_word (List.all_eq_true.mp h w hw)⟩
/-! ===== END ===== -/


/-! ===== BEGIN printed: names, fields, word lists, decode rows ===== -/
def RX0 : String := "GrazeBook$Claim"
def TX0 : u_T := fun k => match k with
  | 0 => ("GrazeBook$Claim", "kind", "I", true)
  | 1 => ("GrazeBook$Claim", "parts", "I", true)
  | 2 => ("GrazeBook$Claim", "first", "I", true)
  | 3 => ("GrazeBook$Claim", "last", "I", true)
  | 4 => ("GrazeBook$Claim", "piece", "I", true)
  | 5 => ("GrazeBook$Claim", "source", "I", true)
  | 6 => ("GrazeBook$Claim", "who", "I", false)
  | 7 => ("GrazeBook$Claim", "usedOn", "I", false)
  | _ => ("GrazeBook$Claim", "gone", "Z", false)
def tyX0 : Nat → FieldType := fun k => match k with
  | 0 => .int
  | 1 => .int
  | 2 => .int
  | 3 => .int
  | 4 => .int
  | 5 => .int
  | 6 => .int
  | 7 => .int
  | _ => .boolean
abbrev wsX00 : List Cond := u_ws RX0 TX0 9
theorem nmX0 : ∀ a, a < 9 → ∀ b, b < 9 → a ≠ b → (TX0 a).2.1 ≠ (TX0 b).2.1 := by decide +kernel
theorem tyX0_ok : ∀ k, k < 9 → parseFieldDescriptor (TX0 k).2.2.1 = some (tyX0 k) := by decide +kernel
abbrev cX0_init : ByteArray := prog_2_method_1_code
def yX0_init : MethodName := ⟨RX0, "<init>", "(IIIIIII)V"⟩
abbrev cX0_isInForce : ByteArray := prog_2_method_2_code
def yX0_isInForce : MethodName := ⟨RX0, "isInForce", "(I)Z"⟩
abbrev cX0_fits : ByteArray := prog_2_method_3_code
def yX0_fits : MethodName := ⟨RX0, "fits", "(LGrazeBook$Drove;)Z"⟩
def RX1 : String := "GrazeBook$Cover"
def TX1 : u_T := fun k => match k with
  | 0 => ("GrazeBook$Cover", "sheepOn", "[I", true)
  | 1 => ("GrazeBook$Cover", "othersOn", "[I", true)
  | 2 => ("GrazeBook$Cover", "leazesFor", "[I", true)
  | 3 => ("GrazeBook$Cover", "walks", "I", false)
  | _ => ("GrazeBook$Cover", "forAny", "I", false)
def tyX1 : Nat → FieldType := fun k => match k with
  | 0 => .array .int
  | 1 => .array .int
  | 2 => .array .int
  | 3 => .int
  | _ => .int
abbrev wsX10 : List Cond := u_ws RX1 TX1 5
theorem nmX1 : ∀ a, a < 5 → ∀ b, b < 5 → a ≠ b → (TX1 a).2.1 ≠ (TX1 b).2.1 := by decide +kernel
theorem tyX1_ok : ∀ k, k < 5 → parseFieldDescriptor (TX1 k).2.2.1 = some (tyX1 k) := by decide +kernel
abbrev cX1_init : ByteArray := prog_3_method_1_code
def yX1_init : MethodName := ⟨RX1, "<init>", "()V"⟩
abbrev cX1_clear : ByteArray := prog_3_method_2_code
def yX1_clear : MethodName := ⟨RX1, "clear", "()V"⟩
abbrev cX1_addHerd : ByteArray := prog_3_method_3_code
def yX1_addHerd : MethodName := ⟨RX1, "addHerd", "(LGrazeBook$Drove;)V"⟩
abbrev cX1_addRight : ByteArray := prog_3_method_4_code
def yX1_addRight : MethodName := ⟨RX1, "addRight", "(LGrazeBook$Claim;I)V"⟩
abbrev cX1_lack : ByteArray := prog_3_method_5_code
def yX1_lack : MethodName := ⟨RX1, "lack", "()I"⟩
abbrev cX1_partsOut : ByteArray := prog_3_method_6_code
def yX1_partsOut : MethodName := ⟨RX1, "partsOut", "()I"⟩
abbrev cX1_partsHeld : ByteArray := prog_3_method_7_code
def yX1_partsHeld : MethodName := ⟨RX1, "partsHeld", "()I"⟩
abbrev cX1_partsForHay : ByteArray := prog_3_method_8_code
def yX1_partsForHay : MethodName := ⟨RX1, "partsForHay", "(I)I"⟩
def RX2 : String := "GrazeBook$Drove"
def TX2 : u_T := fun k => match k with
  | 0 => ("GrazeBook$Drove", "owner", "I", true)
  | 1 => ("GrazeBook$Drove", "sort", "I", true)
  | 2 => ("GrazeBook$Drove", "beasts", "I", true)
  | 3 => ("GrazeBook$Drove", "piece", "I", false)
  | 4 => ("GrazeBook$Drove", "order", "I", false)
  | 5 => ("GrazeBook$Drove", "hunger", "I", false)
  | 6 => ("GrazeBook$Drove", "state", "I", false)
  | _ => ("GrazeBook$Drove", "poundedOn", "I", false)
def tyX2 : Nat → FieldType := fun k => match k with
  | 0 => .int
  | 1 => .int
  | 2 => .int
  | 3 => .int
  | 4 => .int
  | 5 => .int
  | 6 => .int
  | _ => .int
abbrev wsX20 : List Cond := u_ws RX2 TX2 8
theorem nmX2 : ∀ a, a < 8 → ∀ b, b < 8 → a ≠ b → (TX2 a).2.1 ≠ (TX2 b).2.1 := by decide +kernel
theorem tyX2_ok : ∀ k, k < 8 → parseFieldDescriptor (TX2 k).2.2.1 = some (tyX2 k) := by decide +kernel
abbrev cX2_init : ByteArray := prog_4_method_1_code
def yX2_init : MethodName := ⟨RX2, "<init>", "(III)V"⟩
abbrev cX2_parts : ByteArray := prog_4_method_2_code
def yX2_parts : MethodName := ⟨RX2, "parts", "()I"⟩
abbrev cX2_daysInPound : ByteArray := prog_4_method_3_code
def yX2_daysInPound : MethodName := ⟨RX2, "daysInPound", "(I)I"⟩
abbrev cX2_fee : ByteArray := prog_4_method_4_code
def yX2_fee : MethodName := ⟨RX2, "fee", "(I)I"⟩
def RX3 : String := "GrazeBook$Grazing"
def TX3 : u_T := fun k => match k with
  | 0 => ("GrazeBook$Grazing", "numbers", "[I", true)
  | 1 => ("GrazeBook$Grazing", "partsOf", "[I", true)
  | 2 => ("GrazeBook$Grazing", "hungers", "[I", true)
  | 3 => ("GrazeBook$Grazing", "remainders", "[I", true)
  | 4 => ("GrazeBook$Grazing", "size", "I", false)
  | 5 => ("GrazeBook$Grazing", "all", "I", false)
  | _ => ("GrazeBook$Grazing", "eaten", "I", false)
def tyX3 : Nat → FieldType := fun k => match k with
  | 0 => .array .int
  | 1 => .array .int
  | 2 => .array .int
  | 3 => .array .int
  | 4 => .int
  | 5 => .int
  | _ => .int
abbrev wsX30 : List Cond := u_ws RX3 TX3 7
theorem nmX3 : ∀ a, a < 7 → ∀ b, b < 7 → a ≠ b → (TX3 a).2.1 ≠ (TX3 b).2.1 := by decide +kernel
theorem tyX3_ok : ∀ k, k < 7 → parseFieldDescriptor (TX3 k).2.2.1 = some (tyX3 k) := by decide +kernel
abbrev cX3_init : ByteArray := prog_5_method_1_code
def yX3_init : MethodName := ⟨RX3, "<init>", "()V"⟩
abbrev cX3_clear : ByteArray := prog_5_method_2_code
def yX3_clear : MethodName := ⟨RX3, "clear", "()V"⟩
abbrev cX3_add : ByteArray := prog_5_method_3_code
def yX3_add : MethodName := ⟨RX3, "add", "(II)V"⟩
abbrev cX3_hungerOf : ByteArray := prog_5_method_4_code
def yX3_hungerOf : MethodName := ⟨RX3, "hungerOf", "(I)I"⟩
abbrev cX3_passDay : ByteArray := prog_5_method_5_code
def yX3_passDay : MethodName := ⟨RX3, "passDay", "(LGrazeBook$Ground;III)I"⟩
abbrev cX3_tread : ByteArray := prog_5_method_6_code
def yX3_tread : MethodName := ⟨RX3, "tread", "(II)I"⟩
abbrev cX3_grow : ByteArray := prog_5_method_7_code
def yX3_grow : MethodName := ⟨RX3, "grow", "(III)I"⟩
abbrev cX3_shareHunger : ByteArray := prog_5_method_8_code
def yX3_shareHunger : MethodName := ⟨RX3, "shareHunger", "(I)V"⟩
abbrev cX3_greatestRemainder : ByteArray := prog_5_method_9_code
def yX3_greatestRemainder : MethodName := ⟨RX3, "greatestRemainder", "()I"⟩
def RX4 : String := "GrazeBook$Ground"
def TX4 : u_T := fun k => match k with
  | 0 => ("GrazeBook$Ground", "full", "I", true)
  | 1 => ("GrazeBook$Ground", "bears", "I", true)
  | 2 => ("GrazeBook$Ground", "water", "Z", true)
  | 3 => ("GrazeBook$Ground", "grass", "I", false)
  | 4 => ("GrazeBook$Ground", "rest", "I", false)
  | _ => ("GrazeBook$Ground", "eaten", "I", false)
def tyX4 : Nat → FieldType := fun k => match k with
  | 0 => .int
  | 1 => .int
  | 2 => .boolean
  | 3 => .int
  | 4 => .int
  | _ => .int
abbrev wsX40 : List Cond := u_ws RX4 TX4 6
theorem nmX4 : ∀ a, a < 6 → ∀ b, b < 6 → a ≠ b → (TX4 a).2.1 ≠ (TX4 b).2.1 := by decide +kernel
theorem tyX4_ok : ∀ k, k < 6 → parseFieldDescriptor (TX4 k).2.2.1 = some (tyX4 k) := by decide +kernel
abbrev cX4_init : ByteArray := prog_6_method_1_code
def yX4_init : MethodName := ⟨RX4, "<init>", "(IIIZ)V"⟩
abbrev cX4_restsOn : ByteArray := prog_6_method_2_code
def yX4_restsOn : MethodName := ⟨RX4, "restsOn", "(I)Z"⟩
def RX5 : String := "GrazeBook$Purse"
def TX5 : u_T := fun k => match k with
  | 0 => ("GrazeBook$Purse", "coins", "I", false)
  | _ => ("GrazeBook$Purse", "hay", "I", false)
def tyX5 : Nat → FieldType := fun k => match k with
  | 0 => .int
  | _ => .int
abbrev wsX50 : List Cond := u_ws RX5 TX5 2
theorem nmX5 : ∀ a, a < 2 → ∀ b, b < 2 → a ≠ b → (TX5 a).2.1 ≠ (TX5 b).2.1 := by decide +kernel
theorem tyX5_ok : ∀ k, k < 2 → parseFieldDescriptor (TX5 k).2.2.1 = some (tyX5 k) := by decide +kernel
abbrev cX5_init : ByteArray := prog_7_method_1_code
def yX5_init : MethodName := ⟨RX5, "<init>", "(I)V"⟩
def RX6 : String := "GrazeBook$Turns"
def TX6 : u_T := fun k => match k with
  | 0 => ("GrazeBook$Turns", "hunger", "[[I", true)
  | 1 => ("GrazeBook$Turns", "open", "[I", true)
  | 2 => ("GrazeBook$Turns", "trial", "[I", true)
  | 3 => ("GrazeBook$Turns", "best", "[I", true)
  | 4 => ("GrazeBook$Turns", "visitsOf", "[I", true)
  | 5 => ("GrazeBook$Turns", "firstHerd", "I", false)
  | 6 => ("GrazeBook$Turns", "secondHerd", "I", false)
  | 7 => ("GrazeBook$Turns", "width", "I", false)
  | 8 => ("GrazeBook$Turns", "steps", "I", false)
  | _ => ("GrazeBook$Turns", "days", "I", false)
def tyX6 : Nat → FieldType := fun k => match k with
  | 0 => .array (.array .int)
  | 1 => .array .int
  | 2 => .array .int
  | 3 => .array .int
  | 4 => .array .int
  | 5 => .int
  | 6 => .int
  | 7 => .int
  | 8 => .int
  | _ => .int
abbrev wsX60 : List Cond := u_ws RX6 TX6 10
theorem nmX6 : ∀ a, a < 10 → ∀ b, b < 10 → a ≠ b → (TX6 a).2.1 ≠ (TX6 b).2.1 := by decide +kernel
theorem tyX6_ok : ∀ k, k < 10 → parseFieldDescriptor (TX6 k).2.2.1 = some (tyX6 k) := by decide +kernel
abbrev cX6_init : ByteArray := prog_8_method_1_code
def yX6_init : MethodName := ⟨RX6, "<init>", "()V"⟩
abbrev cX6_begin : ByteArray := prog_8_method_2_code
def yX6_begin : MethodName := ⟨RX6, "begin", "(IIII)V"⟩
abbrev cX6_isTurning : ByteArray := prog_8_method_3_code
def yX6_isTurning : MethodName := ⟨RX6, "isTurning", "(I)Z"⟩
abbrev cX6_slots : ByteArray := prog_8_method_4_code
def yX6_slots : MethodName := ⟨RX6, "slots", "()I"⟩
abbrev cX6_waysToVisit : ByteArray := prog_8_method_5_code
def yX6_waysToVisit : MethodName := ⟨RX6, "waysToVisit", "()I"⟩
abbrev cX6_visitsIn : ByteArray := prog_8_method_6_code
def yX6_visitsIn : MethodName := ⟨RX6, "visitsIn", "(III)Z"⟩
abbrev cX6_pieceOfStep : ByteArray := prog_8_method_7_code
def yX6_pieceOfStep : MethodName := ⟨RX6, "pieceOfStep", "(II)I"⟩
abbrev cX6_choose : ByteArray := prog_8_method_8_code
def yX6_choose : MethodName := ⟨RX6, "choose", "(I)I"⟩
abbrev cX6_isOpen : ByteArray := prog_8_method_9_code
def yX6_isOpen : MethodName := ⟨RX6, "isOpen", "()Z"⟩
abbrev cX6_hungerOfTrial : ByteArray := prog_8_method_10_code
def yX6_hungerOfTrial : MethodName := ⟨RX6, "hungerOfTrial", "()I"⟩
abbrev cX6_nextTrial : ByteArray := prog_8_method_11_code
def yX6_nextTrial : MethodName := ⟨RX6, "nextTrial", "(I)V"⟩
def RX7 : String := "GrazeBook$Year"
def TX7 : u_T := fun k => match k with
  | 0 => ("GrazeBook$Year", "rates", "[I", true)
  | _ => ("GrazeBook$Year", "skies", "[I", true)
def tyX7 : Nat → FieldType := fun k => match k with
  | 0 => .array .int
  | _ => .array .int
abbrev wsX70 : List Cond := u_ws RX7 TX7 2
theorem nmX7 : ∀ a, a < 2 → ∀ b, b < 2 → a ≠ b → (TX7 a).2.1 ≠ (TX7 b).2.1 := by decide +kernel
theorem tyX7_ok : ∀ k, k < 2 → parseFieldDescriptor (TX7 k).2.2.1 = some (tyX7 k) := by decide +kernel
abbrev cX7_init : ByteArray := prog_9_method_1_code
def yX7_init : MethodName := ⟨RX7, "<init>", "()V"⟩
abbrev cX7_isWeather : ByteArray := prog_9_method_2_code
def yX7_isWeather : MethodName := ⟨RX7, "isWeather", "(II)Z"⟩
abbrev cX7_changeRate : ByteArray := prog_9_method_3_code
def yX7_changeRate : MethodName := ⟨RX7, "changeRate", "(III)I"⟩
abbrev cX7_changeWeather : ByteArray := prog_9_method_4_code
def yX7_changeWeather : MethodName := ⟨RX7, "changeWeather", "(III)V"⟩
abbrev cX7_rainOn : ByteArray := prog_9_method_5_code
def yX7_rainOn : MethodName := ⟨RX7, "rainOn", "(I)I"⟩
abbrev cX7_rateOn : ByteArray := prog_9_method_6_code
def yX7_rateOn : MethodName := ⟨RX7, "rateOn", "(I)I"⟩
def RX8 : String := "GrazeBook"
def TX8 : u_T := fun k => match k with
  | 0 => ("GrazeBook", "pieces", "[LGrazeBook$Ground;", true)
  | 1 => ("GrazeBook", "owners", "[LGrazeBook$Purse;", true)
  | 2 => ("GrazeBook", "reeve", "LGrazeBook$Purse;", true)
  | 3 => ("GrazeBook", "houses", "[I", true)
  | 4 => ("GrazeBook", "rights", "[LGrazeBook$Claim;", true)
  | 5 => ("GrazeBook", "herds", "[LGrazeBook$Drove;", true)
  | 6 => ("GrazeBook", "year", "LGrazeBook$Year;", true)
  | 7 => ("GrazeBook", "cover", "LGrazeBook$Cover;", true)
  | 8 => ("GrazeBook", "grazing", "LGrazeBook$Grazing;", true)
  | 9 => ("GrazeBook", "turns", "LGrazeBook$Turns;", true)
  | 10 => ("GrazeBook", "refusals", "[I", true)
  | 11 => ("GrazeBook", "pieceCount", "I", false)
  | 12 => ("GrazeBook", "ownerCount", "I", false)
  | 13 => ("GrazeBook", "houseCount", "I", false)
  | 14 => ("GrazeBook", "rightCount", "I", false)
  | 15 => ("GrazeBook", "herdCount", "I", false)
  | 16 => ("GrazeBook", "day", "I", false)
  | 17 => ("GrazeBook", "latestOrder", "I", false)
  | _ => ("GrazeBook", "lapses", "I", false)
def tyX8 : Nat → FieldType := fun k => match k with
  | 0 => .array (.object "GrazeBook$Ground")
  | 1 => .array (.object "GrazeBook$Purse")
  | 2 => .object "GrazeBook$Purse"
  | 3 => .array .int
  | 4 => .array (.object "GrazeBook$Claim")
  | 5 => .array (.object "GrazeBook$Drove")
  | 6 => .object "GrazeBook$Year"
  | 7 => .object "GrazeBook$Cover"
  | 8 => .object "GrazeBook$Grazing"
  | 9 => .object "GrazeBook$Turns"
  | 10 => .array .int
  | 11 => .int
  | 12 => .int
  | 13 => .int
  | 14 => .int
  | 15 => .int
  | 16 => .int
  | 17 => .int
  | _ => .int
abbrev wsX80 : List Cond := u_ws RX8 TX8 19
theorem nmX8 : ∀ a, a < 19 → ∀ b, b < 19 → a ≠ b → (TX8 a).2.1 ≠ (TX8 b).2.1 := by decide +kernel
theorem tyX8_ok : ∀ k, k < 19 → parseFieldDescriptor (TX8 k).2.2.1 = some (tyX8 k) := by decide +kernel
abbrev cX8_init : ByteArray := prog_1_method_1_code
def yX8_init : MethodName := ⟨RX8, "<init>", "()V"⟩
abbrev cX8_piece : ByteArray := prog_1_method_2_code
def yX8_piece : MethodName := ⟨RX8, "piece", "(IIIZ)I"⟩
abbrev cX8_owner : ByteArray := prog_1_method_3_code
def yX8_owner : MethodName := ⟨RX8, "owner", "(I)I"⟩
abbrev cX8_house : ByteArray := prog_1_method_4_code
def yX8_house : MethodName := ⟨RX8, "house", "(I)I"⟩
abbrev cX8_rate : ByteArray := prog_1_method_5_code
def yX8_rate : MethodName := ⟨RX8, "rate", "(III)I"⟩
abbrev cX8_weather : ByteArray := prog_1_method_6_code
def yX8_weather : MethodName := ⟨RX8, "weather", "(III)I"⟩
abbrev cX8_right : ByteArray := prog_1_method_7_code
def yX8_right : MethodName := ⟨RX8, "right", "(IIIII)I"⟩
abbrev cX8_lend : ByteArray := prog_1_method_8_code
def yX8_lend : MethodName := ⟨RX8, "lend", "(IIII)I"⟩
abbrev cX8_sell : ByteArray := prog_1_method_9_code
def yX8_sell : MethodName := ⟨RX8, "sell", "(II)I"⟩
abbrev cX8_move : ByteArray := prog_1_method_10_code
def yX8_move : MethodName := ⟨RX8, "move", "(II)I"⟩
abbrev cX8_herd : ByteArray := prog_1_method_11_code
def yX8_herd : MethodName := ⟨RX8, "herd", "(III)I"⟩
abbrev cX8_put : ByteArray := prog_1_method_12_code
def yX8_put : MethodName := ⟨RX8, "put", "(II)I"⟩
abbrev cX8_drive : ByteArray := prog_1_method_13_code
def yX8_drive : MethodName := ⟨RX8, "drive", "(II)I"⟩
abbrev cX8_covered : ByteArray := prog_1_method_14_code
def yX8_covered : MethodName := ⟨RX8, "covered", "(I)I"⟩
abbrev cX8_lacks : ByteArray := prog_1_method_15_code
def yX8_lacks : MethodName := ⟨RX8, "lacks", "(I)I"⟩
abbrev cX8_over : ByteArray := prog_1_method_16_code
def yX8_over : MethodName := ⟨RX8, "over", "(II)I"⟩
abbrev cX8_pass : ByteArray := prog_1_method_17_code
def yX8_pass : MethodName := ⟨RX8, "pass", "(I)I"⟩
abbrev cX8_rest : ByteArray := prog_1_method_18_code
def yX8_rest : MethodName := ⟨RX8, "rest", "(II)I"⟩
abbrev cX8_cut : ByteArray := prog_1_method_19_code
def yX8_cut : MethodName := ⟨RX8, "cut", "(I)I"⟩
abbrev cX8_pound : ByteArray := prog_1_method_20_code
def yX8_pound : MethodName := ⟨RX8, "pound", "(I)I"⟩
abbrev cX8_free : ByteArray := prog_1_method_21_code
def yX8_free : MethodName := ⟨RX8, "free", "(I)I"⟩
abbrev cX8_plan : ByteArray := prog_1_method_22_code
def yX8_plan : MethodName := ⟨RX8, "plan", "(IIII)I"⟩
abbrev cX8_planned : ByteArray := prog_1_method_23_code
def yX8_planned : MethodName := ⟨RX8, "planned", "(II)I"⟩
abbrev cX8_pieceOf : ByteArray := prog_1_method_24_code
def yX8_pieceOf : MethodName := ⟨RX8, "pieceOf", "(II)I"⟩
abbrev cX8_rightOf : ByteArray := prog_1_method_25_code
def yX8_rightOf : MethodName := ⟨RX8, "rightOf", "(II)I"⟩
abbrev cX8_herdOf : ByteArray := prog_1_method_26_code
def yX8_herdOf : MethodName := ⟨RX8, "herdOf", "(II)I"⟩
abbrev cX8_ownerOf : ByteArray := prog_1_method_27_code
def yX8_ownerOf : MethodName := ⟨RX8, "ownerOf", "(II)I"⟩
abbrev cX8_count : ByteArray := prog_1_method_28_code
def yX8_count : MethodName := ⟨RX8, "count", "(I)I"⟩
abbrev cX8_refuse : ByteArray := prog_1_method_29_code
def yX8_refuse : MethodName := ⟨RX8, "refuse", "(I)I"⟩
abbrev cX8_isPiece : ByteArray := prog_1_method_30_code
def yX8_isPiece : MethodName := ⟨RX8, "isPiece", "(I)Z"⟩
abbrev cX8_isOwner : ByteArray := prog_1_method_31_code
def yX8_isOwner : MethodName := ⟨RX8, "isOwner", "(I)Z"⟩
abbrev cX8_isHouse : ByteArray := prog_1_method_32_code
def yX8_isHouse : MethodName := ⟨RX8, "isHouse", "(I)Z"⟩
abbrev cX8_isRight : ByteArray := prog_1_method_33_code
def yX8_isRight : MethodName := ⟨RX8, "isRight", "(I)Z"⟩
abbrev cX8_isHerd : ByteArray := prog_1_method_34_code
def yX8_isHerd : MethodName := ⟨RX8, "isHerd", "(I)Z"⟩
abbrev cX8_addRight : ByteArray := prog_1_method_35_code
def yX8_addRight : MethodName := ⟨RX8, "addRight", "(LGrazeBook$Claim;)I"⟩
abbrev cX8_canPass : ByteArray := prog_1_method_36_code
def yX8_canPass : MethodName := ⟨RX8, "canPass", "(II)Z"⟩
abbrev cX8_holder : ByteArray := prog_1_method_37_code
def yX8_holder : MethodName := ⟨RX8, "holder", "(LGrazeBook$Claim;)I"⟩
abbrev cX8_countingParts : ByteArray := prog_1_method_38_code
def yX8_countingParts : MethodName := ⟨RX8, "countingParts", "(I)I"⟩
abbrev cX8_coverOf : ByteArray := prog_1_method_39_code
def yX8_coverOf : MethodName := ⟨RX8, "coverOf", "(I)LGrazeBook$Cover;"⟩
abbrev cX8_lackOf : ByteArray := prog_1_method_40_code
def yX8_lackOf : MethodName := ⟨RX8, "lackOf", "(I)I"⟩
abbrev cX8_rightsInForce : ByteArray := prog_1_method_41_code
def yX8_rightsInForce : MethodName := ⟨RX8, "rightsInForce", "()I"⟩
abbrev cX8_partsOn : ByteArray := prog_1_method_42_code
def yX8_partsOn : MethodName := ⟨RX8, "partsOn", "(I)I"⟩
abbrev cX8_herdsOn : ByteArray := prog_1_method_43_code
def yX8_herdsOn : MethodName := ⟨RX8, "herdsOn", "(I)I"⟩
abbrev cX8_latestOn : ByteArray := prog_1_method_44_code
def yX8_latestOn : MethodName := ⟨RX8, "latestOn", "(II)I"⟩
abbrev cX8_herdsNotLost : ByteArray := prog_1_method_45_code
def yX8_herdsNotLost : MethodName := ⟨RX8, "herdsNotLost", "()I"⟩
abbrev cX8_allGrass : ByteArray := prog_1_method_46_code
def yX8_allGrass : MethodName := ⟨RX8, "allGrass", "()I"⟩
abbrev cX8_allHunger : ByteArray := prog_1_method_47_code
def yX8_allHunger : MethodName := ⟨RX8, "allHunger", "()I"⟩
abbrev cX8_allEaten : ByteArray := prog_1_method_48_code
def yX8_allEaten : MethodName := ⟨RX8, "allEaten", "()I"⟩
abbrev cX8_grazeAll : ByteArray := prog_1_method_49_code
def yX8_grazeAll : MethodName := ⟨RX8, "grazeAll", "()I"⟩
abbrev cX8_graze : ByteArray := prog_1_method_50_code
def yX8_graze : MethodName := ⟨RX8, "graze", "(I)I"⟩
abbrev cX8_sellFromPound : ByteArray := prog_1_method_51_code
def yX8_sellFromPound : MethodName := ⟨RX8, "sellFromPound", "()V"⟩
abbrev cX8_findUsed : ByteArray := prog_1_method_52_code
def yX8_findUsed : MethodName := ⟨RX8, "findUsed", "()V"⟩
abbrev cX8_hasHerdFor : ByteArray := prog_1_method_53_code
def yX8_hasHerdFor : MethodName := ⟨RX8, "hasHerdFor", "(LGrazeBook$Claim;)Z"⟩
abbrev cX8_lapse : ByteArray := prog_1_method_54_code
def yX8_lapse : MethodName := ⟨RX8, "lapse", "()V"⟩
abbrev cX8_shareHay : ByteArray := prog_1_method_55_code
def yX8_shareHay : MethodName := ⟨RX8, "shareHay", "(II)V"⟩
abbrev cX8_openPieces : ByteArray := prog_1_method_56_code
def yX8_openPieces : MethodName := ⟨RX8, "openPieces", "(I)I"⟩
abbrev cX8_reckonTurns : ByteArray := prog_1_method_57_code
def yX8_reckonTurns : MethodName := ⟨RX8, "reckonTurns", "()V"⟩
abbrev cX8_hungerOfVisits : ByteArray := prog_1_method_58_code
def yX8_hungerOfVisits : MethodName := ⟨RX8, "hungerOfVisits", "(II)I"⟩
abbrev cX8_gatherForStep : ByteArray := prog_1_method_59_code
def yX8_gatherForStep : MethodName := ⟨RX8, "gatherForStep", "(III)V"⟩
def RX9 : String := "GrazeBookModel"
def TX9 : u_T := fun k => match k with
  | 0 => ("GrazeBookModel", "refusals", "[I", true)
  | 1 => ("GrazeBookModel", "day", "I", false)
  | 2 => ("GrazeBookModel", "pieces", "I", false)
  | 3 => ("GrazeBookModel", "owners", "I", false)
  | 4 => ("GrazeBookModel", "houses", "I", false)
  | 5 => ("GrazeBookModel", "rights", "I", false)
  | 6 => ("GrazeBookModel", "herds", "I", false)
  | 7 => ("GrazeBookModel", "orders", "I", false)
  | 8 => ("GrazeBookModel", "reeveCoins", "I", false)
  | 9 => ("GrazeBookModel", "reeveHay", "I", false)
  | 10 => ("GrazeBookModel", "hungers", "I", false)
  | 11 => ("GrazeBookModel", "eats", "I", false)
  | 12 => ("GrazeBookModel", "lapsed", "I", false)
  | 13 => ("GrazeBookModel", "grass", "[I", true)
  | 14 => ("GrazeBookModel", "full", "[I", true)
  | 15 => ("GrazeBookModel", "bears", "[I", true)
  | 16 => ("GrazeBookModel", "rest", "[I", true)
  | 17 => ("GrazeBookModel", "eaten", "[I", true)
  | 18 => ("GrazeBookModel", "water", "[Z", true)
  | 19 => ("GrazeBookModel", "coins", "[I", true)
  | 20 => ("GrazeBookModel", "hay", "[I", true)
  | 21 => ("GrazeBookModel", "houseOf", "[I", true)
  | 22 => ("GrazeBookModel", "rates", "[I", true)
  | 23 => ("GrazeBookModel", "rains", "[I", true)
  | 24 => ("GrazeBookModel", "warmths", "[I", true)
  | 25 => ("GrazeBookModel", "rKind", "[I", true)
  | 26 => ("GrazeBookModel", "rWho", "[I", true)
  | 27 => ("GrazeBookModel", "rParts", "[I", true)
  | 28 => ("GrazeBookModel", "rFrom", "[I", true)
  | 29 => ("GrazeBookModel", "rTo", "[I", true)
  | 30 => ("GrazeBookModel", "rPiece", "[I", true)
  | 31 => ("GrazeBookModel", "rOf", "[I", true)
  | 32 => ("GrazeBookModel", "rUsed", "[I", true)
  | 33 => ("GrazeBookModel", "rGone", "[Z", true)
  | 34 => ("GrazeBookModel", "uses", "[Z", true)
  | 35 => ("GrazeBookModel", "hOwner", "[I", true)
  | 36 => ("GrazeBookModel", "hSort", "[I", true)
  | 37 => ("GrazeBookModel", "hMany", "[I", true)
  | 38 => ("GrazeBookModel", "hPiece", "[I", true)
  | 39 => ("GrazeBookModel", "hOrder", "[I", true)
  | 40 => ("GrazeBookModel", "hHunger", "[I", true)
  | 41 => ("GrazeBookModel", "hState", "[I", true)
  | 42 => ("GrazeBookModel", "hSince", "[I", true)
  | 43 => ("GrazeBookModel", "hunger", "[I", true)
  | 44 => ("GrazeBookModel", "tryGrass", "[I", true)
  | 45 => ("GrazeBookModel", "tryPiece", "[I", true)
  | 46 => ("GrazeBookModel", "eatenNow", "[I", true)
  | 47 => ("GrazeBookModel", "trial", "[I", true)
  | 48 => ("GrazeBookModel", "best", "[I", true)
  | 49 => ("GrazeBookModel", "planSteps", "I", false)
  | _ => ("GrazeBookModel", "planHerds", "I", false)
def tyX9 : Nat → FieldType := fun k => match k with
  | 0 => .array .int
  | 1 => .int
  | 2 => .int
  | 3 => .int
  | 4 => .int
  | 5 => .int
  | 6 => .int
  | 7 => .int
  | 8 => .int
  | 9 => .int
  | 10 => .int
  | 11 => .int
  | 12 => .int
  | 13 => .array .int
  | 14 => .array .int
  | 15 => .array .int
  | 16 => .array .int
  | 17 => .array .int
  | 18 => .array .boolean
  | 19 => .array .int
  | 20 => .array .int
  | 21 => .array .int
  | 22 => .array .int
  | 23 => .array .int
  | 24 => .array .int
  | 25 => .array .int
  | 26 => .array .int
  | 27 => .array .int
  | 28 => .array .int
  | 29 => .array .int
  | 30 => .array .int
  | 31 => .array .int
  | 32 => .array .int
  | 33 => .array .boolean
  | 34 => .array .boolean
  | 35 => .array .int
  | 36 => .array .int
  | 37 => .array .int
  | 38 => .array .int
  | 39 => .array .int
  | 40 => .array .int
  | 41 => .array .int
  | 42 => .array .int
  | 43 => .array .int
  | 44 => .array .int
  | 45 => .array .int
  | 46 => .array .int
  | 47 => .array .int
  | 48 => .array .int
  | 49 => .int
  | _ => .int
abbrev wsX90 : List Cond := u_ws RX9 TX9 51
theorem nmX9 : ∀ a, a < 51 → ∀ b, b < 51 → a ≠ b → (TX9 a).2.1 ≠ (TX9 b).2.1 := by decide +kernel
theorem tyX9_ok : ∀ k, k < 51 → parseFieldDescriptor (TX9 k).2.2.1 = some (tyX9 k) := by decide +kernel
abbrev cX9_init : ByteArray := prog_11_method_1_code
def yX9_init : MethodName := ⟨RX9, "<init>", "()V"⟩
abbrev cX9_refuse : ByteArray := prog_11_method_2_code
def yX9_refuse : MethodName := ⟨RX9, "refuse", "(I)I"⟩
abbrev cX9_isIn : ByteArray := prog_11_method_3_code
def yX9_isIn : MethodName := ⟨RX9, "isIn", "(II)Z"⟩
abbrev cX9_piece : ByteArray := prog_11_method_4_code
def yX9_piece : MethodName := ⟨RX9, "piece", "(IIIZ)I"⟩
abbrev cX9_owner : ByteArray := prog_11_method_5_code
def yX9_owner : MethodName := ⟨RX9, "owner", "(I)I"⟩
abbrev cX9_house : ByteArray := prog_11_method_6_code
def yX9_house : MethodName := ⟨RX9, "house", "(I)I"⟩
abbrev cX9_rate : ByteArray := prog_11_method_7_code
def yX9_rate : MethodName := ⟨RX9, "rate", "(III)I"⟩
abbrev cX9_weather : ByteArray := prog_11_method_8_code
def yX9_weather : MethodName := ⟨RX9, "weather", "(III)I"⟩
abbrev cX9_ownerOfRight : ByteArray := prog_11_method_9_code
def yX9_ownerOfRight : MethodName := ⟨RX9, "ownerOfRight", "(I)I"⟩
abbrev cX9_isInForce : ByteArray := prog_11_method_10_code
def yX9_isInForce : MethodName := ⟨RX9, "isInForce", "(I)Z"⟩
abbrev cX9_partsOf : ByteArray := prog_11_method_11_code
def yX9_partsOf : MethodName := ⟨RX9, "partsOf", "(I)I"⟩
abbrev cX9_adds : ByteArray := prog_11_method_12_code
def yX9_adds : MethodName := ⟨RX9, "adds", "(IIIIII)I"⟩
abbrev cX9_right : ByteArray := prog_11_method_13_code
def yX9_right : MethodName := ⟨RX9, "right", "(IIIII)I"⟩
abbrev cX9_lend : ByteArray := prog_11_method_14_code
def yX9_lend : MethodName := ⟨RX9, "lend", "(IIII)I"⟩
abbrev cX9_sell : ByteArray := prog_11_method_15_code
def yX9_sell : MethodName := ⟨RX9, "sell", "(II)I"⟩
abbrev cX9_move : ByteArray := prog_11_method_16_code
def yX9_move : MethodName := ⟨RX9, "move", "(II)I"⟩
abbrev cX9_partsOfSort : ByteArray := prog_11_method_17_code
def yX9_partsOfSort : MethodName := ⟨RX9, "partsOfSort", "(I)I"⟩
abbrev cX9_partsOfHerd : ByteArray := prog_11_method_18_code
def yX9_partsOfHerd : MethodName := ⟨RX9, "partsOfHerd", "(I)I"⟩
abbrev cX9_isOut : ByteArray := prog_11_method_19_code
def yX9_isOut : MethodName := ⟨RX9, "isOut", "(I)Z"⟩
abbrev cX9_herd : ByteArray := prog_11_method_20_code
def yX9_herd : MethodName := ⟨RX9, "herd", "(III)I"⟩
abbrev cX9_lacksOf : ByteArray := prog_11_method_21_code
def yX9_lacksOf : MethodName := ⟨RX9, "lacksOf", "(I)I"⟩
abbrev cX9_rests : ByteArray := prog_11_method_22_code
def yX9_rests : MethodName := ⟨RX9, "rests", "(I)Z"⟩
abbrev cX9_put : ByteArray := prog_11_method_23_code
def yX9_put : MethodName := ⟨RX9, "put", "(II)I"⟩
abbrev cX9_drive : ByteArray := prog_11_method_24_code
def yX9_drive : MethodName := ⟨RX9, "drive", "(II)I"⟩
abbrev cX9_covered : ByteArray := prog_11_method_25_code
def yX9_covered : MethodName := ⟨RX9, "covered", "(I)I"⟩
abbrev cX9_lacks : ByteArray := prog_11_method_26_code
def yX9_lacks : MethodName := ⟨RX9, "lacks", "(I)I"⟩
abbrev cX9_partsOn : ByteArray := prog_11_method_27_code
def yX9_partsOn : MethodName := ⟨RX9, "partsOn", "(I)I"⟩
abbrev cX9_over : ByteArray := prog_11_method_28_code
def yX9_over : MethodName := ⟨RX9, "over", "(II)I"⟩
abbrev cX9_goes : ByteArray := prog_11_method_29_code
def yX9_goes : MethodName := ⟨RX9, "goes", "([I[II[I)V"⟩
abbrev cX9_shares : ByteArray := prog_11_method_30_code
def yX9_shares : MethodName := ⟨RX9, "shares", "([IIII)V"⟩
abbrev cX9_places : ByteArray := prog_11_method_31_code
def yX9_places : MethodName := ⟨RX9, "places", "()V"⟩
abbrev cX9_sells : ByteArray := prog_11_method_32_code
def yX9_sells : MethodName := ⟨RX9, "sells", "()V"⟩
abbrev cX9_isAsked : ByteArray := prog_11_method_33_code
def yX9_isAsked : MethodName := ⟨RX9, "isAsked", "(I)Z"⟩
abbrev cX9_lapses : ByteArray := prog_11_method_34_code
def yX9_lapses : MethodName := ⟨RX9, "lapses", "()V"⟩
abbrev cX9_pass : ByteArray := prog_11_method_35_code
def yX9_pass : MethodName := ⟨RX9, "pass", "(I)I"⟩
abbrev cX9_rest : ByteArray := prog_11_method_36_code
def yX9_rest : MethodName := ⟨RX9, "rest", "(II)I"⟩
abbrev cX9_cut : ByteArray := prog_11_method_37_code
def yX9_cut : MethodName := ⟨RX9, "cut", "(I)I"⟩
abbrev cX9_counts : ByteArray := prog_11_method_38_code
def yX9_counts : MethodName := ⟨RX9, "counts", "(II)I"⟩
abbrev cX9_pound : ByteArray := prog_11_method_39_code
def yX9_pound : MethodName := ⟨RX9, "pound", "(I)I"⟩
abbrev cX9_feeOf : ByteArray := prog_11_method_40_code
def yX9_feeOf : MethodName := ⟨RX9, "feeOf", "(I)I"⟩
abbrev cX9_free : ByteArray := prog_11_method_41_code
def yX9_free : MethodName := ⟨RX9, "free", "(I)I"⟩
abbrev cX9_mayTake : ByteArray := prog_11_method_42_code
def yX9_mayTake : MethodName := ⟨RX9, "mayTake", "(III)Z"⟩
abbrev cX9_plan : ByteArray := prog_11_method_43_code
def yX9_plan : MethodName := ⟨RX9, "plan", "(IIII)I"⟩
abbrev cX9_tries : ByteArray := prog_11_method_44_code
def yX9_tries : MethodName := ⟨RX9, "tries", "(IIIII)I"⟩
abbrev cX9_planned : ByteArray := prog_11_method_45_code
def yX9_planned : MethodName := ⟨RX9, "planned", "(II)I"⟩
abbrev cX9_pieceOf : ByteArray := prog_11_method_46_code
def yX9_pieceOf : MethodName := ⟨RX9, "pieceOf", "(II)I"⟩
abbrev cX9_rightOf : ByteArray := prog_11_method_47_code
def yX9_rightOf : MethodName := ⟨RX9, "rightOf", "(II)I"⟩
abbrev cX9_herdOf : ByteArray := prog_11_method_48_code
def yX9_herdOf : MethodName := ⟨RX9, "herdOf", "(II)I"⟩
abbrev cX9_ownerOf : ByteArray := prog_11_method_49_code
def yX9_ownerOf : MethodName := ⟨RX9, "ownerOf", "(II)I"⟩
abbrev cX9_count : ByteArray := prog_11_method_50_code
def yX9_count : MethodName := ⟨RX9, "count", "(I)I"⟩
def RJ9 : String := "java/lang/Math"
def TJ9 : u_T := fun k => match k with
  | _ => ("", "", "", false)
def tyJ9 : Nat → FieldType := fun k => match k with
  | _ => .int
abbrev wsJ90 : List Cond := u_ws RJ9 TJ9 0
theorem nmJ9 : ∀ a, a < 0 → ∀ b, b < 0 → a ≠ b → (TJ9 a).2.1 ≠ (TJ9 b).2.1 := by decide +kernel
theorem tyJ9_ok : ∀ k, k < 0 → parseFieldDescriptor (TJ9 k).2.2.1 = some (tyJ9 k) := by decide +kernel
abbrev cJ9_max_7cf53 : ByteArray := prog_12_method_65_code
def yJ9_max_7cf53 : MethodName := ⟨RJ9, "max", "(II)I"⟩
abbrev cJ9_max_f86c9 : ByteArray := prog_12_method_66_code
def yJ9_max_f86c9 : MethodName := ⟨RJ9, "max", "(JJ)J"⟩
abbrev cJ9_min_7cf53 : ByteArray := prog_12_method_69_code
def yJ9_min_7cf53 : MethodName := ⟨RJ9, "min", "(II)I"⟩
abbrev cJ9_min_f86c9 : ByteArray := prog_12_method_70_code
def yJ9_min_f86c9 : MethodName := ⟨RJ9, "min", "(JJ)J"⟩
def RJ10 : String := "java/lang/System"
def TJ10 : u_T := fun k => match k with
  | _ => ("", "", "", false)
def tyJ10 : Nat → FieldType := fun k => match k with
  | _ => .int
abbrev wsJ100 : List Cond := u_ws RJ10 TJ10 0
theorem nmJ10 : ∀ a, a < 0 → ∀ b, b < 0 → a ≠ b → (TJ10 a).2.1 ≠ (TJ10 b).2.1 := by decide +kernel
theorem tyJ10_ok : ∀ k, k < 0 → parseFieldDescriptor (TJ10 k).2.2.1 = some (tyJ10 k) := by decide +kernel
def RL : String := "GrazeBookLaw"
abbrev cL_law : ByteArray := code
def yL_law : MethodName := ⟨RL, "law", "([I)Z"⟩
def wsX0_init : List Cond := .code yX0_init cX0_init 8 none :: ([.methodLink RX0 3 objectInit, .instanceMethod objectInit, .code objectInit ⟨#[0xb1]⟩ 1 none, .fieldLink RX0 9 "GrazeBook$Claim" "usedOn" "I", .fieldLink RX0 15 "GrazeBook$Claim" "gone" "Z", .fieldLink RX0 19 "GrazeBook$Claim" "kind" "I", .fieldLink RX0 22 "GrazeBook$Claim" "who" "I", .fieldLink RX0 25 "GrazeBook$Claim" "parts" "I", .fieldLink RX0 28 "GrazeBook$Claim" "first" "I", .fieldLink RX0 31 "GrazeBook$Claim" "last" "I", .fieldLink RX0 34 "GrazeBook$Claim" "piece" "I", .fieldLink RX0 37 "GrazeBook$Claim" "source" "I"] ++ wsX00)
def wsX0_isInForce : List Cond := .code yX0_isInForce cX0_isInForce 2 (some .boolean) :: ([.fieldLink RX0 15 "GrazeBook$Claim" "gone" "Z", .fieldLink RX0 28 "GrazeBook$Claim" "first" "I", .fieldLink RX0 31 "GrazeBook$Claim" "last" "I"] ++ wsX00)
def wsX0_fits : List Cond := .code yX0_fits cX0_fits 2 (some .boolean) :: ([.fieldLink RX0 40 "GrazeBook$Drove" "piece" "I", .fieldLink RX0 19 "GrazeBook$Claim" "kind" "I", .fieldLink RX0 43 "GrazeBook$Drove" "sort" "I", .fieldLink RX0 34 "GrazeBook$Claim" "piece" "I"] ++ wsX20 ++ wsX00)
def wsX1_init : List Cond := .code yX1_init cX1_init 1 none :: ([.methodLink RX1 3 objectInit, .instanceMethod objectInit, .code objectInit ⟨#[0xb1]⟩ 1 none, .arrayClass .int, .fieldLink RX1 9 "GrazeBook$Cover" "sheepOn" "[I", .fieldLink RX1 15 "GrazeBook$Cover" "othersOn" "[I", .fieldLink RX1 18 "GrazeBook$Cover" "leazesFor" "[I", .fieldLink RX1 21 "GrazeBook$Cover" "walks" "I", .fieldLink RX1 25 "GrazeBook$Cover" "forAny" "I"] ++ wsX10)
def wsX1_clear : List Cond := .code yX1_clear cX1_clear 2 none :: ([.fieldLink RX1 9 "GrazeBook$Cover" "sheepOn" "[I", .fieldLink RX1 15 "GrazeBook$Cover" "othersOn" "[I", .fieldLink RX1 18 "GrazeBook$Cover" "leazesFor" "[I", .fieldLink RX1 21 "GrazeBook$Cover" "walks" "I", .fieldLink RX1 25 "GrazeBook$Cover" "forAny" "I"] ++ wsX10)
def wsX2_parts : List Cond := .code yX2_parts cX2_parts 1 (some .int) :: ([.fieldLink RX2 30 "GrazeBook$Drove" "sort" "I", .fieldLink RX2 33 "GrazeBook$Drove" "beasts" "I"] ++ wsX20)
def wsX1_addHerd : List Cond := .code yX1_addHerd cX1_addHerd 2 none :: ([.fieldLink RX1 28 "GrazeBook$Drove" "piece" "I", .fieldLink RX1 33 "GrazeBook$Drove" "sort" "I", .fieldLink RX1 9 "GrazeBook$Cover" "sheepOn" "[I", .fieldLink RX1 15 "GrazeBook$Cover" "othersOn" "[I", .methodLink RX1 36 yX2_parts, .instanceMethod yX2_parts, .selects RX2 yX2_parts yX2_parts, .initialized RX2, .code yX2_parts cX2_parts 1 (some .int), .fieldLink RX2 30 "GrazeBook$Drove" "sort" "I", .fieldLink RX2 33 "GrazeBook$Drove" "beasts" "I"] ++ wsX20 ++ wsX10)
def wsX1_addRight : List Cond := .code yX1_addRight cX1_addRight 3 none :: ([.fieldLink RX1 40 "GrazeBook$Claim" "kind" "I", .fieldLink RX1 21 "GrazeBook$Cover" "walks" "I", .fieldLink RX1 25 "GrazeBook$Cover" "forAny" "I", .fieldLink RX1 45 "GrazeBook$Claim" "piece" "I", .fieldLink RX1 18 "GrazeBook$Cover" "leazesFor" "[I"] ++ wsX00 ++ wsX10)
def wsX1_lack : List Cond := .code yX1_lack cX1_lack 5 (some .int) :: ([.fieldLink RX1 18 "GrazeBook$Cover" "leazesFor" "[I", .fieldLink RX1 15 "GrazeBook$Cover" "othersOn" "[I", .methodLink RX1 46 Lib.Math.max.name, .static Lib.Math.max.name, .initialized "java/lang/Math", .code Lib.Math.max.name Lib.Math.max.code 2 (some .int), .fieldLink RX1 9 "GrazeBook$Cover" "sheepOn" "[I", .fieldLink RX1 21 "GrazeBook$Cover" "walks" "I", .fieldLink RX1 25 "GrazeBook$Cover" "forAny" "I"] ++ wsX10)
def wsX1_partsOut : List Cond := .code yX1_partsOut cX1_partsOut 3 (some .int) :: ([.fieldLink RX1 9 "GrazeBook$Cover" "sheepOn" "[I", .fieldLink RX1 15 "GrazeBook$Cover" "othersOn" "[I"] ++ wsX10)
def wsX1_partsHeld : List Cond := .code yX1_partsHeld cX1_partsHeld 3 (some .int) :: ([.fieldLink RX1 21 "GrazeBook$Cover" "walks" "I", .fieldLink RX1 25 "GrazeBook$Cover" "forAny" "I", .fieldLink RX1 18 "GrazeBook$Cover" "leazesFor" "[I"] ++ wsX10)
def wsX1_partsForHay : List Cond := .code yX1_partsForHay cX1_partsForHay 2 (some .int) :: ([.fieldLink RX1 25 "GrazeBook$Cover" "forAny" "I", .fieldLink RX1 18 "GrazeBook$Cover" "leazesFor" "[I"] ++ wsX10)
def wsX2_init : List Cond := .code yX2_init cX2_init 4 none :: ([.methodLink RX2 3 objectInit, .instanceMethod objectInit, .code objectInit ⟨#[0xb1]⟩ 1 none, .fieldLink RX2 9 "GrazeBook$Drove" "piece" "I", .fieldLink RX2 15 "GrazeBook$Drove" "order" "I", .fieldLink RX2 18 "GrazeBook$Drove" "hunger" "I", .fieldLink RX2 21 "GrazeBook$Drove" "state" "I", .fieldLink RX2 24 "GrazeBook$Drove" "poundedOn" "I", .fieldLink RX2 27 "GrazeBook$Drove" "owner" "I", .fieldLink RX2 30 "GrazeBook$Drove" "sort" "I", .fieldLink RX2 33 "GrazeBook$Drove" "beasts" "I"] ++ wsX20)
def wsX2_daysInPound : List Cond := .code yX2_daysInPound cX2_daysInPound 2 (some .int) :: ([.fieldLink RX2 21 "GrazeBook$Drove" "state" "I", .fieldLink RX2 24 "GrazeBook$Drove" "poundedOn" "I"] ++ wsX20)
def wsX2_fee : List Cond := .code yX2_fee cX2_fee 2 (some .int) :: ([.fieldLink RX2 33 "GrazeBook$Drove" "beasts" "I", .methodLink RX2 40 yX2_daysInPound, .instanceMethod yX2_daysInPound, .selects RX2 yX2_daysInPound yX2_daysInPound, .initialized RX2, .code yX2_daysInPound cX2_daysInPound 2 (some .int), .fieldLink RX2 21 "GrazeBook$Drove" "state" "I", .fieldLink RX2 24 "GrazeBook$Drove" "poundedOn" "I"] ++ wsX20)
def wsX3_init : List Cond := .code yX3_init cX3_init 1 none :: ([.methodLink RX3 3 objectInit, .instanceMethod objectInit, .code objectInit ⟨#[0xb1]⟩ 1 none, .arrayClass .int, .fieldLink RX3 9 "GrazeBook$Grazing" "numbers" "[I", .fieldLink RX3 15 "GrazeBook$Grazing" "partsOf" "[I", .fieldLink RX3 18 "GrazeBook$Grazing" "hungers" "[I", .fieldLink RX3 21 "GrazeBook$Grazing" "remainders" "[I", .fieldLink RX3 24 "GrazeBook$Grazing" "size" "I", .fieldLink RX3 28 "GrazeBook$Grazing" "all" "I", .fieldLink RX3 31 "GrazeBook$Grazing" "eaten" "I"] ++ wsX30)
def wsX3_clear : List Cond := .code yX3_clear cX3_clear 1 none :: ([.fieldLink RX3 24 "GrazeBook$Grazing" "size" "I", .fieldLink RX3 28 "GrazeBook$Grazing" "all" "I", .fieldLink RX3 31 "GrazeBook$Grazing" "eaten" "I"] ++ wsX30)
def wsX3_add : List Cond := .code yX3_add cX3_add 3 none :: ([.fieldLink RX3 24 "GrazeBook$Grazing" "size" "I", .fieldLink RX3 9 "GrazeBook$Grazing" "numbers" "[I", .fieldLink RX3 15 "GrazeBook$Grazing" "partsOf" "[I", .fieldLink RX3 18 "GrazeBook$Grazing" "hungers" "[I", .fieldLink RX3 28 "GrazeBook$Grazing" "all" "I"] ++ wsX30)
def wsX3_hungerOf : List Cond := .code yX3_hungerOf cX3_hungerOf 3 (some .int) :: ([.fieldLink RX3 24 "GrazeBook$Grazing" "size" "I", .fieldLink RX3 9 "GrazeBook$Grazing" "numbers" "[I", .fieldLink RX3 18 "GrazeBook$Grazing" "hungers" "[I"] ++ wsX30)
def wsX3_tread : List Cond := .code yX3_tread cX3_tread 3 (some .int) :: ([.fieldLink RX3 28 "GrazeBook$Grazing" "all" "I", .methodLink RX3 60 Lib.Math.max.name, .static Lib.Math.max.name, .initialized "java/lang/Math", .code Lib.Math.max.name Lib.Math.max.code 2 (some .int)] ++ wsX30)
def wsX3_grow : List Cond := .code yX3_grow cX3_grow 3 (some .int) :: ([.methodLink RX3 60 Lib.Math.max.name, .static Lib.Math.max.name, .initialized "java/lang/Math", .code Lib.Math.max.name Lib.Math.max.code 2 (some .int), .methodLink RX3 47 Lib.Math.min.name, .static Lib.Math.min.name, .code Lib.Math.min.name Lib.Math.min.code 2 (some .int)])
def wsX3_greatestRemainder : List Cond := .code yX3_greatestRemainder cX3_greatestRemainder 3 (some .int) :: ([.fieldLink RX3 24 "GrazeBook$Grazing" "size" "I", .fieldLink RX3 21 "GrazeBook$Grazing" "remainders" "[I"] ++ wsX30)
def wsX3_shareHunger : List Cond := .code yX3_shareHunger cX3_shareHunger 5 none :: ([.fieldLink RX3 24 "GrazeBook$Grazing" "size" "I", .fieldLink RX3 28 "GrazeBook$Grazing" "all" "I", .fieldLink RX3 15 "GrazeBook$Grazing" "partsOf" "[I", .fieldLink RX3 18 "GrazeBook$Grazing" "hungers" "[I", .fieldLink RX3 21 "GrazeBook$Grazing" "remainders" "[I", .methodLink RX3 63 yX3_greatestRemainder, .instanceMethod yX3_greatestRemainder, .selects RX3 yX3_greatestRemainder yX3_greatestRemainder, .initialized RX3, .code yX3_greatestRemainder cX3_greatestRemainder 3 (some .int)] ++ wsX30)
def wsX3_passDay_r1 : List Cond := [Cond.fieldLink RX3 38 "GrazeBook$Ground" "full" "I", Cond.fieldLink RX3 28 "GrazeBook$Grazing" "all" "I", Cond.methodLink RX3 47 Lib.Math.min.name, Cond.static Lib.Math.min.name, Cond.initialized "java/lang/Math", Cond.code Lib.Math.min.name Lib.Math.min.code 2 (some .int), Cond.fieldLink RX3 31 "GrazeBook$Grazing" "eaten" "I", Cond.fieldLink RX3 56 "GrazeBook$Ground" "water" "Z", Cond.fieldLink RX3 24 "GrazeBook$Grazing" "size" "I", Cond.fieldLink RX3 18 "GrazeBook$Grazing" "hungers" "[I", Cond.fieldLink RX3 15 "GrazeBook$Grazing" "partsOf" "[I", Cond.methodLink RX3 34 yX3_tread, Cond.instanceMethod yX3_tread, Cond.selects RX3 yX3_tread yX3_tread, Cond.initialized RX3, Cond.code yX3_tread cX3_tread 3 (some .int), Cond.methodLink RX3 60 Lib.Math.max.name, Cond.static Lib.Math.max.name, Cond.code Lib.Math.max.name Lib.Math.max.code 2 (some .int), Cond.methodLink RX3 43 yX3_grow, Cond.static yX3_grow, Cond.code yX3_grow cX3_grow 3 (some .int), Cond.methodLink RX3 52 yX3_shareHunger, Cond.instanceMethod yX3_shareHunger]
def wsX3_passDay_r2 : List Cond := [Cond.selects RX3 yX3_shareHunger yX3_shareHunger, Cond.code yX3_shareHunger cX3_shareHunger 5 none, Cond.fieldLink RX3 21 "GrazeBook$Grazing" "remainders" "[I", Cond.methodLink RX3 63 yX3_greatestRemainder, Cond.instanceMethod yX3_greatestRemainder, Cond.selects RX3 yX3_greatestRemainder yX3_greatestRemainder, Cond.code yX3_greatestRemainder cX3_greatestRemainder 3 (some .int)]
def wsX3_passDay : List Cond := .code yX3_passDay cX3_passDay 7 (some .int) :: ((wsX3_passDay_r1 ++ wsX3_passDay_r2) ++ wsX40 ++ wsX30)
def wsX4_init : List Cond := .code yX4_init cX4_init 5 none :: ([.methodLink RX4 1 objectInit, .instanceMethod objectInit, .code objectInit ⟨#[0xb1]⟩ 1 none, .fieldLink RX4 7 "GrazeBook$Ground" "rest" "I", .fieldLink RX4 13 "GrazeBook$Ground" "eaten" "I", .fieldLink RX4 16 "GrazeBook$Ground" "grass" "I", .fieldLink RX4 19 "GrazeBook$Ground" "full" "I", .fieldLink RX4 22 "GrazeBook$Ground" "bears" "I", .fieldLink RX4 25 "GrazeBook$Ground" "water" "Z"] ++ wsX40)
def wsX4_restsOn : List Cond := .code yX4_restsOn cX4_restsOn 2 (some .boolean) :: ([.fieldLink RX4 7 "GrazeBook$Ground" "rest" "I"] ++ wsX40)
def wsX5_init : List Cond := .code yX5_init cX5_init 2 none :: ([.methodLink RX5 1 objectInit, .instanceMethod objectInit, .code objectInit ⟨#[0xb1]⟩ 1 none, .fieldLink RX5 7 "GrazeBook$Purse" "hay" "I", .fieldLink RX5 13 "GrazeBook$Purse" "coins" "I"] ++ wsX50)
def wsX6_init : List Cond := .code yX6_init cX6_init 1 none :: ([.methodLink RX6 3 objectInit, .instanceMethod objectInit, .code objectInit ⟨#[0xb1]⟩ 1 none, .classLink RX6 9 "[[I", .arrayClass .int, .fieldLink RX6 11 "GrazeBook$Turns" "hunger" "[[I", .fieldLink RX6 16 "GrazeBook$Turns" "open" "[I", .fieldLink RX6 20 "GrazeBook$Turns" "trial" "[I", .fieldLink RX6 23 "GrazeBook$Turns" "best" "[I", .fieldLink RX6 26 "GrazeBook$Turns" "visitsOf" "[I", .fieldLink RX6 29 "GrazeBook$Turns" "firstHerd" "I", .fieldLink RX6 33 "GrazeBook$Turns" "secondHerd" "I", .fieldLink RX6 36 "GrazeBook$Turns" "width" "I", .fieldLink RX6 39 "GrazeBook$Turns" "steps" "I", .fieldLink RX6 42 "GrazeBook$Turns" "days" "I"] ++ wsX60)
def wsX6_begin : List Cond := .code yX6_begin cX6_begin 5 none :: ([.fieldLink RX6 29 "GrazeBook$Turns" "firstHerd" "I", .fieldLink RX6 33 "GrazeBook$Turns" "secondHerd" "I", .fieldLink RX6 36 "GrazeBook$Turns" "width" "I", .fieldLink RX6 39 "GrazeBook$Turns" "steps" "I", .fieldLink RX6 42 "GrazeBook$Turns" "days" "I"] ++ wsX60)
def wsX6_isTurning : List Cond := .code yX6_isTurning cX6_isTurning 2 (some .boolean) :: ([.fieldLink RX6 29 "GrazeBook$Turns" "firstHerd" "I", .fieldLink RX6 33 "GrazeBook$Turns" "secondHerd" "I"] ++ wsX60)
def wsX6_slots : List Cond := .code yX6_slots cX6_slots 1 (some .int) :: ([.fieldLink RX6 36 "GrazeBook$Turns" "width" "I", .fieldLink RX6 39 "GrazeBook$Turns" "steps" "I", .methodLink RX6 45 Lib.Math.min.name, .static Lib.Math.min.name, .initialized "java/lang/Math", .code Lib.Math.min.name Lib.Math.min.code 2 (some .int)] ++ wsX60)
def wsX6_waysToVisit : List Cond := .code yX6_waysToVisit cX6_waysToVisit 1 (some .int) :: ([.methodLink RX6 51 yX6_slots, .instanceMethod yX6_slots, .selects RX6 yX6_slots yX6_slots, .initialized RX6, .code yX6_slots cX6_slots 1 (some .int), .fieldLink RX6 36 "GrazeBook$Turns" "width" "I", .fieldLink RX6 39 "GrazeBook$Turns" "steps" "I", .methodLink RX6 45 Lib.Math.min.name, .static Lib.Math.min.name, .initialized "java/lang/Math", .code Lib.Math.min.name Lib.Math.min.code 2 (some .int)] ++ wsX60)
def wsX6_visitsIn : List Cond := .code yX6_visitsIn cX6_visitsIn 5 (some .boolean) :: ([.fieldLink RX6 36 "GrazeBook$Turns" "width" "I", .fieldLink RX6 29 "GrazeBook$Turns" "firstHerd" "I"] ++ wsX60)
def wsX6_pieceOfStep : List Cond := .code yX6_pieceOfStep cX6_pieceOfStep 3 (some .int) :: ([.fieldLink RX6 39 "GrazeBook$Turns" "steps" "I", .fieldLink RX6 36 "GrazeBook$Turns" "width" "I", .fieldLink RX6 23 "GrazeBook$Turns" "best" "[I"] ++ wsX60)
def wsX6_isOpen : List Cond := .code yX6_isOpen cX6_isOpen 3 (some .boolean) :: ([.fieldLink RX6 39 "GrazeBook$Turns" "steps" "I", .fieldLink RX6 36 "GrazeBook$Turns" "width" "I", .fieldLink RX6 16 "GrazeBook$Turns" "open" "[I", .fieldLink RX6 20 "GrazeBook$Turns" "trial" "[I"] ++ wsX60)
def wsX6_hungerOfTrial : List Cond := .code yX6_hungerOfTrial cX6_hungerOfTrial 3 (some .int) :: ([.fieldLink RX6 26 "GrazeBook$Turns" "visitsOf" "[I", .fieldLink RX6 20 "GrazeBook$Turns" "trial" "[I", .fieldLink RX6 11 "GrazeBook$Turns" "hunger" "[[I", .methodLink RX6 51 yX6_slots, .instanceMethod yX6_slots, .selects RX6 yX6_slots yX6_slots, .initialized RX6, .code yX6_slots cX6_slots 1 (some .int), .fieldLink RX6 36 "GrazeBook$Turns" "width" "I", .fieldLink RX6 39 "GrazeBook$Turns" "steps" "I", .methodLink RX6 45 Lib.Math.min.name, .static Lib.Math.min.name, .initialized "java/lang/Math", .code Lib.Math.min.name Lib.Math.min.code 2 (some .int)] ++ wsX60)
def wsX6_nextTrial : List Cond := .code yX6_nextTrial cX6_nextTrial 3 none :: ([.fieldLink RX6 20 "GrazeBook$Turns" "trial" "[I", .methodLink RX6 51 yX6_slots, .instanceMethod yX6_slots, .selects RX6 yX6_slots yX6_slots, .initialized RX6, .code yX6_slots cX6_slots 1 (some .int), .fieldLink RX6 36 "GrazeBook$Turns" "width" "I", .fieldLink RX6 39 "GrazeBook$Turns" "steps" "I", .methodLink RX6 45 Lib.Math.min.name, .static Lib.Math.min.name, .initialized "java/lang/Math", .code Lib.Math.min.name Lib.Math.min.code 2 (some .int)] ++ wsX60)
def wsX6_choose_r1 : List Cond := [Cond.fieldLink RX6 20 "GrazeBook$Turns" "trial" "[I", Cond.fieldLink RX6 23 "GrazeBook$Turns" "best" "[I", Cond.methodLink RX6 62 arraycopyName, Cond.native arraycopyName, Cond.static arraycopyName, Cond.initialized "java/lang/System", Cond.methodLink RX6 51 yX6_slots, Cond.instanceMethod yX6_slots, Cond.selects RX6 yX6_slots yX6_slots, Cond.initialized RX6, Cond.code yX6_slots cX6_slots 1 (some .int), Cond.fieldLink RX6 36 "GrazeBook$Turns" "width" "I", Cond.fieldLink RX6 39 "GrazeBook$Turns" "steps" "I", Cond.methodLink RX6 45 Lib.Math.min.name, Cond.static Lib.Math.min.name, Cond.initialized "java/lang/Math", Cond.code Lib.Math.min.name Lib.Math.min.code 2 (some .int), Cond.methodLink RX6 55 yX6_isOpen, Cond.instanceMethod yX6_isOpen, Cond.selects RX6 yX6_isOpen yX6_isOpen, Cond.code yX6_isOpen cX6_isOpen 3 (some .boolean), Cond.fieldLink RX6 16 "GrazeBook$Turns" "open" "[I", Cond.methodLink RX6 59 yX6_hungerOfTrial, Cond.instanceMethod yX6_hungerOfTrial]
def wsX6_choose_r2 : List Cond := [Cond.selects RX6 yX6_hungerOfTrial yX6_hungerOfTrial, Cond.code yX6_hungerOfTrial cX6_hungerOfTrial 3 (some .int), Cond.fieldLink RX6 26 "GrazeBook$Turns" "visitsOf" "[I", Cond.fieldLink RX6 11 "GrazeBook$Turns" "hunger" "[[I", Cond.methodLink RX6 68 yX6_nextTrial, Cond.instanceMethod yX6_nextTrial, Cond.selects RX6 yX6_nextTrial yX6_nextTrial, Cond.code yX6_nextTrial cX6_nextTrial 3 none]
def wsX6_choose : List Cond := .code yX6_choose cX6_choose 6 (some .int) :: ((wsX6_choose_r1 ++ wsX6_choose_r2) ++ wsX60)
def wsX7_init : List Cond := .code yX7_init cX7_init 1 none :: ([.methodLink RX7 3 objectInit, .instanceMethod objectInit, .code objectInit ⟨#[0xb1]⟩ 1 none, .arrayClass .int, .fieldLink RX7 11 "GrazeBook$Year" "rates" "[I", .fieldLink RX7 15 "GrazeBook$Year" "skies" "[I"] ++ wsX70)
def wsX7_isWeather : List Cond := .code yX7_isWeather cX7_isWeather 2 (some .boolean) :: ([])
def wsX7_changeRate : List Cond := .code yX7_changeRate cX7_changeRate 5 (some .int) :: ([.fieldLink RX7 11 "GrazeBook$Year" "rates" "[I", .methodLink RX7 18 yX7_isWeather, .static yX7_isWeather, .initialized RX7, .code yX7_isWeather cX7_isWeather 2 (some .boolean)] ++ wsX70)
def wsX7_changeWeather : List Cond := .code yX7_changeWeather cX7_changeWeather 4 none :: ([.fieldLink RX7 15 "GrazeBook$Year" "skies" "[I", .methodLink RX7 18 yX7_isWeather, .static yX7_isWeather, .initialized RX7, .code yX7_isWeather cX7_isWeather 2 (some .boolean)] ++ wsX70)
def wsX7_rainOn : List Cond := .code yX7_rainOn cX7_rainOn 2 (some .int) :: ([.fieldLink RX7 15 "GrazeBook$Year" "skies" "[I"] ++ wsX70)
def wsX7_rateOn : List Cond := .code yX7_rateOn cX7_rateOn 2 (some .int) :: ([.fieldLink RX7 11 "GrazeBook$Year" "rates" "[I", .fieldLink RX7 15 "GrazeBook$Year" "skies" "[I"] ++ wsX70)
def wsX8_init_r1 : List Cond := [Cond.methodLink RX8 1 objectInit, Cond.instanceMethod objectInit, Cond.code objectInit ⟨#[0xb1]⟩ 1 none, Cond.classLink RX8 9 RX4, Cond.fieldLink RX8 11 "GrazeBook" "pieces" "[LGrazeBook$Ground;", Cond.classLink RX8 15 RX5, Cond.fieldLink RX8 17 "GrazeBook" "owners" "[LGrazeBook$Purse;", Cond.instantiable RX5 2, Cond.initialized RX5, Cond.fieldLink RX8 24 "GrazeBook" "reeve" "LGrazeBook$Purse;", Cond.arrayClass .int, Cond.fieldLink RX8 28 "GrazeBook" "houses" "[I", Cond.classLink RX8 32 RX0, Cond.fieldLink RX8 34 "GrazeBook" "rights" "[LGrazeBook$Claim;", Cond.classLink RX8 38 RX2, Cond.fieldLink RX8 40 "GrazeBook" "herds" "[LGrazeBook$Drove;", Cond.classLink RX8 44 RX7, Cond.instantiable RX7 2, Cond.initialized RX7, Cond.fieldLink RX8 47 "GrazeBook" "year" "LGrazeBook$Year;", Cond.classLink RX8 51 RX1, Cond.instantiable RX1 5, Cond.initialized RX1, Cond.fieldLink RX8 54 "GrazeBook" "cover" "LGrazeBook$Cover;"]
def wsX8_init_r2 : List Cond := [Cond.classLink RX8 58 RX3, Cond.instantiable RX3 7, Cond.initialized RX3, Cond.fieldLink RX8 61 "GrazeBook" "grazing" "LGrazeBook$Grazing;", Cond.classLink RX8 65 RX6, Cond.instantiable RX6 10, Cond.initialized RX6, Cond.fieldLink RX8 68 "GrazeBook" "turns" "LGrazeBook$Turns;", Cond.fieldLink RX8 72 "GrazeBook" "refusals" "[I", Cond.fieldLink RX8 75 "GrazeBook" "pieceCount" "I", Cond.fieldLink RX8 79 "GrazeBook" "ownerCount" "I", Cond.fieldLink RX8 82 "GrazeBook" "houseCount" "I", Cond.fieldLink RX8 85 "GrazeBook" "rightCount" "I", Cond.fieldLink RX8 88 "GrazeBook" "herdCount" "I", Cond.fieldLink RX8 91 "GrazeBook" "day" "I", Cond.fieldLink RX8 94 "GrazeBook" "latestOrder" "I", Cond.fieldLink RX8 97 "GrazeBook" "lapses" "I", Cond.methodLink RX8 21 yX5_init, Cond.instanceMethod yX5_init, Cond.code yX5_init cX5_init 2 none, Cond.methodLink RX5 1 objectInit, Cond.fieldLink RX5 7 "GrazeBook$Purse" "hay" "I", Cond.fieldLink RX5 13 "GrazeBook$Purse" "coins" "I", Cond.instanceMethod yX7_init]
def wsX8_init_r3 : List Cond := [Cond.code yX7_init cX7_init 1 none, Cond.methodLink RX7 3 objectInit, Cond.fieldLink RX7 11 "GrazeBook$Year" "rates" "[I", Cond.fieldLink RX7 15 "GrazeBook$Year" "skies" "[I", Cond.instanceMethod yX1_init, Cond.code yX1_init cX1_init 1 none, Cond.methodLink RX1 3 objectInit, Cond.fieldLink RX1 9 "GrazeBook$Cover" "sheepOn" "[I", Cond.fieldLink RX1 15 "GrazeBook$Cover" "othersOn" "[I", Cond.fieldLink RX1 18 "GrazeBook$Cover" "leazesFor" "[I", Cond.fieldLink RX1 21 "GrazeBook$Cover" "walks" "I", Cond.fieldLink RX1 25 "GrazeBook$Cover" "forAny" "I", Cond.instanceMethod yX3_init, Cond.code yX3_init cX3_init 1 none, Cond.methodLink RX3 3 objectInit, Cond.fieldLink RX3 9 "GrazeBook$Grazing" "numbers" "[I", Cond.fieldLink RX3 15 "GrazeBook$Grazing" "partsOf" "[I", Cond.fieldLink RX3 18 "GrazeBook$Grazing" "hungers" "[I", Cond.fieldLink RX3 21 "GrazeBook$Grazing" "remainders" "[I", Cond.fieldLink RX3 24 "GrazeBook$Grazing" "size" "I", Cond.fieldLink RX3 28 "GrazeBook$Grazing" "all" "I", Cond.fieldLink RX3 31 "GrazeBook$Grazing" "eaten" "I", Cond.instanceMethod yX6_init, Cond.code yX6_init cX6_init 1 none]
def wsX8_init_r4 : List Cond := [Cond.methodLink RX6 3 objectInit, Cond.classLink RX6 9 "[[I", Cond.fieldLink RX6 11 "GrazeBook$Turns" "hunger" "[[I", Cond.fieldLink RX6 16 "GrazeBook$Turns" "open" "[I", Cond.fieldLink RX6 20 "GrazeBook$Turns" "trial" "[I", Cond.fieldLink RX6 23 "GrazeBook$Turns" "best" "[I", Cond.fieldLink RX6 26 "GrazeBook$Turns" "visitsOf" "[I", Cond.fieldLink RX6 29 "GrazeBook$Turns" "firstHerd" "I", Cond.fieldLink RX6 33 "GrazeBook$Turns" "secondHerd" "I", Cond.fieldLink RX6 36 "GrazeBook$Turns" "width" "I", Cond.fieldLink RX6 39 "GrazeBook$Turns" "steps" "I", Cond.fieldLink RX6 42 "GrazeBook$Turns" "days" "I"]
def wsX8_init : List Cond := .code yX8_init cX8_init 1 none :: ((wsX8_init_r1 ++ (wsX8_init_r2 ++ (wsX8_init_r3 ++ wsX8_init_r4))) ++ wsX80 ++ wsX50 ++ wsX70 ++ wsX10 ++ wsX30 ++ wsX60)
def wsX8_refuse : List Cond := .code yX8_refuse cX8_refuse 2 (some .int) :: ([.fieldLink RX8 72 "GrazeBook" "refusals" "[I"] ++ wsX80)
def wsX8_piece : List Cond := .code yX8_piece cX8_piece 5 (some .int) :: ([.constant RX8 104 (100000), .fieldLink RX8 75 "GrazeBook" "pieceCount" "I", .fieldLink RX8 11 "GrazeBook" "pieces" "[LGrazeBook$Ground;", .classLink RX8 9 RX4, .instantiable RX4 6, .initialized RX4, .methodLink RX8 100 yX8_refuse, .instanceMethod yX8_refuse, .selects RX8 yX8_refuse yX8_refuse, .initialized RX8, .code yX8_refuse cX8_refuse 2 (some .int), .fieldLink RX8 72 "GrazeBook" "refusals" "[I", .methodLink RX8 105 yX4_init, .instanceMethod yX4_init, .code yX4_init cX4_init 5 none, .methodLink RX4 1 objectInit, .instanceMethod objectInit, .code objectInit ⟨#[0xb1]⟩ 1 none, .fieldLink RX4 7 "GrazeBook$Ground" "rest" "I", .fieldLink RX4 13 "GrazeBook$Ground" "eaten" "I", .fieldLink RX4 16 "GrazeBook$Ground" "grass" "I", .fieldLink RX4 19 "GrazeBook$Ground" "full" "I", .fieldLink RX4 22 "GrazeBook$Ground" "bears" "I", .fieldLink RX4 25 "GrazeBook$Ground" "water" "Z"] ++ wsX80 ++ wsX40)
def wsX8_owner : List Cond := .code yX8_owner cX8_owner 2 (some .int) :: ([.constant RX8 104 (100000), .fieldLink RX8 79 "GrazeBook" "ownerCount" "I", .fieldLink RX8 17 "GrazeBook" "owners" "[LGrazeBook$Purse;", .classLink RX8 15 RX5, .instantiable RX5 2, .initialized RX5, .methodLink RX8 100 yX8_refuse, .instanceMethod yX8_refuse, .selects RX8 yX8_refuse yX8_refuse, .initialized RX8, .code yX8_refuse cX8_refuse 2 (some .int), .fieldLink RX8 72 "GrazeBook" "refusals" "[I", .methodLink RX8 21 yX5_init, .instanceMethod yX5_init, .code yX5_init cX5_init 2 none, .methodLink RX5 1 objectInit, .instanceMethod objectInit, .code objectInit ⟨#[0xb1]⟩ 1 none, .fieldLink RX5 7 "GrazeBook$Purse" "hay" "I", .fieldLink RX5 13 "GrazeBook$Purse" "coins" "I"] ++ wsX80 ++ wsX50)
def wsX8_isOwner : List Cond := .code yX8_isOwner cX8_isOwner 2 (some .boolean) :: ([.fieldLink RX8 79 "GrazeBook" "ownerCount" "I"] ++ wsX80)
def wsX8_house : List Cond := .code yX8_house cX8_house 2 (some .int) :: ([.fieldLink RX8 82 "GrazeBook" "houseCount" "I", .fieldLink RX8 28 "GrazeBook" "houses" "[I", .methodLink RX8 108 yX8_isOwner, .instanceMethod yX8_isOwner, .selects RX8 yX8_isOwner yX8_isOwner, .initialized RX8, .code yX8_isOwner cX8_isOwner 2 (some .boolean), .fieldLink RX8 79 "GrazeBook" "ownerCount" "I", .methodLink RX8 100 yX8_refuse, .instanceMethod yX8_refuse, .selects RX8 yX8_refuse yX8_refuse, .code yX8_refuse cX8_refuse 2 (some .int), .fieldLink RX8 72 "GrazeBook" "refusals" "[I"] ++ wsX80)
def wsX8_rate : List Cond := .code yX8_rate cX8_rate 4 (some .int) :: ([.fieldLink RX8 47 "GrazeBook" "year" "LGrazeBook$Year;", .methodLink RX8 112 yX7_isWeather, .static yX7_isWeather, .initialized RX7, .code yX7_isWeather cX7_isWeather 2 (some .boolean), .methodLink RX8 100 yX8_refuse, .instanceMethod yX8_refuse, .selects RX8 yX8_refuse yX8_refuse, .initialized RX8, .code yX8_refuse cX8_refuse 2 (some .int), .fieldLink RX8 72 "GrazeBook" "refusals" "[I", .methodLink RX8 116 yX7_changeRate, .instanceMethod yX7_changeRate, .selects RX7 yX7_changeRate yX7_changeRate, .code yX7_changeRate cX7_changeRate 5 (some .int), .fieldLink RX7 11 "GrazeBook$Year" "rates" "[I", .methodLink RX7 18 yX7_isWeather] ++ wsX80 ++ wsX70)
def wsX8_weather : List Cond := .code yX8_weather cX8_weather 4 (some .int) :: ([.fieldLink RX8 47 "GrazeBook" "year" "LGrazeBook$Year;", .methodLink RX8 112 yX7_isWeather, .static yX7_isWeather, .initialized RX7, .code yX7_isWeather cX7_isWeather 2 (some .boolean), .methodLink RX8 100 yX8_refuse, .instanceMethod yX8_refuse, .selects RX8 yX8_refuse yX8_refuse, .initialized RX8, .code yX8_refuse cX8_refuse 2 (some .int), .fieldLink RX8 72 "GrazeBook" "refusals" "[I", .methodLink RX8 120 yX7_changeWeather, .instanceMethod yX7_changeWeather, .selects RX7 yX7_changeWeather yX7_changeWeather, .code yX7_changeWeather cX7_changeWeather 4 none, .fieldLink RX7 15 "GrazeBook$Year" "skies" "[I", .methodLink RX7 18 yX7_isWeather] ++ wsX80 ++ wsX70)
def wsX8_isHouse : List Cond := .code yX8_isHouse cX8_isHouse 2 (some .boolean) :: ([.fieldLink RX8 82 "GrazeBook" "houseCount" "I"] ++ wsX80)
def wsX8_isPiece : List Cond := .code yX8_isPiece cX8_isPiece 2 (some .boolean) :: ([.fieldLink RX8 75 "GrazeBook" "pieceCount" "I"] ++ wsX80)
def wsX8_addRight : List Cond := .code yX8_addRight cX8_addRight 2 (some .int) :: ([.fieldLink RX8 34 "GrazeBook" "rights" "[LGrazeBook$Claim;", .fieldLink RX8 85 "GrazeBook" "rightCount" "I"] ++ wsX80)
def wsX8_right_r1 : List Cond := [Cond.fieldLink RX8 91 "GrazeBook" "day" "I", Cond.fieldLink RX8 85 "GrazeBook" "rightCount" "I", Cond.classLink RX8 32 RX0, Cond.instantiable RX0 9, Cond.initialized RX0, Cond.methodLink RX8 100 yX8_refuse, Cond.instanceMethod yX8_refuse, Cond.selects RX8 yX8_refuse yX8_refuse, Cond.initialized RX8, Cond.code yX8_refuse cX8_refuse 2 (some .int), Cond.fieldLink RX8 72 "GrazeBook" "refusals" "[I", Cond.methodLink RX8 124 yX8_isHouse, Cond.instanceMethod yX8_isHouse, Cond.selects RX8 yX8_isHouse yX8_isHouse, Cond.code yX8_isHouse cX8_isHouse 2 (some .boolean), Cond.fieldLink RX8 82 "GrazeBook" "houseCount" "I", Cond.methodLink RX8 108 yX8_isOwner, Cond.instanceMethod yX8_isOwner, Cond.selects RX8 yX8_isOwner yX8_isOwner, Cond.code yX8_isOwner cX8_isOwner 2 (some .boolean), Cond.fieldLink RX8 79 "GrazeBook" "ownerCount" "I", Cond.methodLink RX8 127 yX8_isPiece, Cond.instanceMethod yX8_isPiece, Cond.selects RX8 yX8_isPiece yX8_isPiece]
def wsX8_right_r2 : List Cond := [Cond.code yX8_isPiece cX8_isPiece 2 (some .boolean), Cond.fieldLink RX8 75 "GrazeBook" "pieceCount" "I", Cond.methodLink RX8 130 yX0_init, Cond.instanceMethod yX0_init, Cond.code yX0_init cX0_init 8 none, Cond.methodLink RX0 3 objectInit, Cond.instanceMethod objectInit, Cond.code objectInit ⟨#[0xb1]⟩ 1 none, Cond.fieldLink RX0 9 "GrazeBook$Claim" "usedOn" "I", Cond.fieldLink RX0 15 "GrazeBook$Claim" "gone" "Z", Cond.fieldLink RX0 19 "GrazeBook$Claim" "kind" "I", Cond.fieldLink RX0 22 "GrazeBook$Claim" "who" "I", Cond.fieldLink RX0 25 "GrazeBook$Claim" "parts" "I", Cond.fieldLink RX0 28 "GrazeBook$Claim" "first" "I", Cond.fieldLink RX0 31 "GrazeBook$Claim" "last" "I", Cond.fieldLink RX0 34 "GrazeBook$Claim" "piece" "I", Cond.fieldLink RX0 37 "GrazeBook$Claim" "source" "I", Cond.methodLink RX8 133 yX8_addRight, Cond.instanceMethod yX8_addRight, Cond.selects RX8 yX8_addRight yX8_addRight, Cond.code yX8_addRight cX8_addRight 2 (some .int), Cond.fieldLink RX8 34 "GrazeBook" "rights" "[LGrazeBook$Claim;"]
def wsX8_right : List Cond := .code yX8_right cX8_right 6 (some .int) :: ((wsX8_right_r1 ++ wsX8_right_r2) ++ wsX80 ++ wsX00)
def wsX8_isRight : List Cond := .code yX8_isRight cX8_isRight 2 (some .boolean) :: ([.fieldLink RX8 85 "GrazeBook" "rightCount" "I"] ++ wsX80)
def wsX8_holder : List Cond := .code yX8_holder cX8_holder 2 (some .int) :: ([.fieldLink RX8 140 "GrazeBook$Claim" "kind" "I", .fieldLink RX8 152 "GrazeBook$Claim" "who" "I", .fieldLink RX8 28 "GrazeBook" "houses" "[I", .methodLink RX8 124 yX8_isHouse, .instanceMethod yX8_isHouse, .selects RX8 yX8_isHouse yX8_isHouse, .initialized RX8, .code yX8_isHouse cX8_isHouse 2 (some .boolean), .fieldLink RX8 82 "GrazeBook" "houseCount" "I"] ++ wsX00 ++ wsX80)
def wsX8_canPass : List Cond := .code yX8_canPass cX8_canPass 3 (some .boolean) :: ([.fieldLink RX8 34 "GrazeBook" "rights" "[LGrazeBook$Claim;", .methodLink RX8 253 yX8_isRight, .instanceMethod yX8_isRight, .selects RX8 yX8_isRight yX8_isRight, .initialized RX8, .code yX8_isRight cX8_isRight 2 (some .boolean), .fieldLink RX8 85 "GrazeBook" "rightCount" "I", .methodLink RX8 108 yX8_isOwner, .instanceMethod yX8_isOwner, .selects RX8 yX8_isOwner yX8_isOwner, .code yX8_isOwner cX8_isOwner 2 (some .boolean), .fieldLink RX8 79 "GrazeBook" "ownerCount" "I", .methodLink RX8 256 yX8_holder, .instanceMethod yX8_holder, .selects RX8 yX8_holder yX8_holder, .code yX8_holder cX8_holder 2 (some .int), .fieldLink RX8 140 "GrazeBook$Claim" "kind" "I", .fieldLink RX8 152 "GrazeBook$Claim" "who" "I", .fieldLink RX8 28 "GrazeBook" "houses" "[I", .methodLink RX8 124 yX8_isHouse, .instanceMethod yX8_isHouse, .selects RX8 yX8_isHouse yX8_isHouse, .code yX8_isHouse cX8_isHouse 2 (some .boolean), .fieldLink RX8 82 "GrazeBook" "houseCount" "I"] ++ wsX80 ++ wsX00)
def wsX8_countingParts : List Cond := .code yX8_countingParts cX8_countingParts 4 (some .int) :: ([.fieldLink RX8 34 "GrazeBook" "rights" "[LGrazeBook$Claim;", .fieldLink RX8 91 "GrazeBook" "day" "I", .fieldLink RX8 309 "GrazeBook$Claim" "parts" "I", .fieldLink RX8 85 "GrazeBook" "rightCount" "I", .fieldLink RX8 140 "GrazeBook$Claim" "kind" "I", .fieldLink RX8 266 "GrazeBook$Claim" "source" "I", .methodLink RX8 143 yX0_isInForce, .instanceMethod yX0_isInForce, .selects RX0 yX0_isInForce yX0_isInForce, .initialized RX0, .code yX0_isInForce cX0_isInForce 2 (some .boolean), .fieldLink RX0 15 "GrazeBook$Claim" "gone" "Z", .fieldLink RX0 28 "GrazeBook$Claim" "first" "I", .fieldLink RX0 31 "GrazeBook$Claim" "last" "I"] ++ wsX80 ++ wsX00)
def wsX8_lend_r1 : List Cond := [Cond.fieldLink RX8 34 "GrazeBook" "rights" "[LGrazeBook$Claim;", Cond.fieldLink RX8 140 "GrazeBook$Claim" "kind" "I", Cond.fieldLink RX8 91 "GrazeBook" "day" "I", Cond.fieldLink RX8 149 "GrazeBook$Claim" "last" "I", Cond.fieldLink RX8 85 "GrazeBook" "rightCount" "I", Cond.classLink RX8 32 RX0, Cond.instantiable RX0 9, Cond.initialized RX0, Cond.methodLink RX8 137 yX8_canPass, Cond.instanceMethod yX8_canPass, Cond.selects RX8 yX8_canPass yX8_canPass, Cond.initialized RX8, Cond.code yX8_canPass cX8_canPass 3 (some .boolean), Cond.methodLink RX8 253 yX8_isRight, Cond.instanceMethod yX8_isRight, Cond.selects RX8 yX8_isRight yX8_isRight, Cond.code yX8_isRight cX8_isRight 2 (some .boolean), Cond.methodLink RX8 108 yX8_isOwner, Cond.instanceMethod yX8_isOwner, Cond.selects RX8 yX8_isOwner yX8_isOwner, Cond.code yX8_isOwner cX8_isOwner 2 (some .boolean), Cond.fieldLink RX8 79 "GrazeBook" "ownerCount" "I", Cond.methodLink RX8 256 yX8_holder, Cond.instanceMethod yX8_holder]
def wsX8_lend_r2 : List Cond := [Cond.selects RX8 yX8_holder yX8_holder, Cond.code yX8_holder cX8_holder 2 (some .int), Cond.fieldLink RX8 152 "GrazeBook$Claim" "who" "I", Cond.fieldLink RX8 28 "GrazeBook" "houses" "[I", Cond.methodLink RX8 124 yX8_isHouse, Cond.instanceMethod yX8_isHouse, Cond.selects RX8 yX8_isHouse yX8_isHouse, Cond.code yX8_isHouse cX8_isHouse 2 (some .boolean), Cond.fieldLink RX8 82 "GrazeBook" "houseCount" "I", Cond.methodLink RX8 100 yX8_refuse, Cond.instanceMethod yX8_refuse, Cond.selects RX8 yX8_refuse yX8_refuse, Cond.code yX8_refuse cX8_refuse 2 (some .int), Cond.fieldLink RX8 72 "GrazeBook" "refusals" "[I", Cond.methodLink RX8 143 yX0_isInForce, Cond.instanceMethod yX0_isInForce, Cond.selects RX0 yX0_isInForce yX0_isInForce, Cond.code yX0_isInForce cX0_isInForce 2 (some .boolean), Cond.fieldLink RX0 15 "GrazeBook$Claim" "gone" "Z", Cond.fieldLink RX0 28 "GrazeBook$Claim" "first" "I", Cond.fieldLink RX0 31 "GrazeBook$Claim" "last" "I", Cond.methodLink RX8 146 yX8_countingParts, Cond.instanceMethod yX8_countingParts, Cond.selects RX8 yX8_countingParts yX8_countingParts]
def wsX8_lend_r3 : List Cond := [Cond.code yX8_countingParts cX8_countingParts 4 (some .int), Cond.fieldLink RX8 309 "GrazeBook$Claim" "parts" "I", Cond.fieldLink RX8 266 "GrazeBook$Claim" "source" "I", Cond.methodLink RX8 130 yX0_init, Cond.instanceMethod yX0_init, Cond.code yX0_init cX0_init 8 none, Cond.methodLink RX0 3 objectInit, Cond.instanceMethod objectInit, Cond.code objectInit ⟨#[0xb1]⟩ 1 none, Cond.fieldLink RX0 9 "GrazeBook$Claim" "usedOn" "I", Cond.fieldLink RX0 19 "GrazeBook$Claim" "kind" "I", Cond.fieldLink RX0 22 "GrazeBook$Claim" "who" "I", Cond.fieldLink RX0 25 "GrazeBook$Claim" "parts" "I", Cond.fieldLink RX0 34 "GrazeBook$Claim" "piece" "I", Cond.fieldLink RX0 37 "GrazeBook$Claim" "source" "I", Cond.methodLink RX8 133 yX8_addRight, Cond.instanceMethod yX8_addRight, Cond.selects RX8 yX8_addRight yX8_addRight, Cond.code yX8_addRight cX8_addRight 2 (some .int)]
def wsX8_lend : List Cond := .code yX8_lend cX8_lend 5 (some .int) :: ((wsX8_lend_r1 ++ (wsX8_lend_r2 ++ wsX8_lend_r3)) ++ wsX80 ++ wsX00)
def wsX8_sell_r1 : List Cond := [Cond.fieldLink RX8 34 "GrazeBook" "rights" "[LGrazeBook$Claim;", Cond.fieldLink RX8 140 "GrazeBook$Claim" "kind" "I", Cond.fieldLink RX8 91 "GrazeBook" "day" "I", Cond.fieldLink RX8 152 "GrazeBook$Claim" "who" "I", Cond.methodLink RX8 137 yX8_canPass, Cond.instanceMethod yX8_canPass, Cond.selects RX8 yX8_canPass yX8_canPass, Cond.initialized RX8, Cond.code yX8_canPass cX8_canPass 3 (some .boolean), Cond.methodLink RX8 253 yX8_isRight, Cond.instanceMethod yX8_isRight, Cond.selects RX8 yX8_isRight yX8_isRight, Cond.code yX8_isRight cX8_isRight 2 (some .boolean), Cond.fieldLink RX8 85 "GrazeBook" "rightCount" "I", Cond.methodLink RX8 108 yX8_isOwner, Cond.instanceMethod yX8_isOwner, Cond.selects RX8 yX8_isOwner yX8_isOwner, Cond.code yX8_isOwner cX8_isOwner 2 (some .boolean), Cond.fieldLink RX8 79 "GrazeBook" "ownerCount" "I", Cond.methodLink RX8 256 yX8_holder, Cond.instanceMethod yX8_holder, Cond.selects RX8 yX8_holder yX8_holder, Cond.code yX8_holder cX8_holder 2 (some .int), Cond.fieldLink RX8 28 "GrazeBook" "houses" "[I"]
def wsX8_sell_r2 : List Cond := [Cond.methodLink RX8 124 yX8_isHouse, Cond.instanceMethod yX8_isHouse, Cond.selects RX8 yX8_isHouse yX8_isHouse, Cond.code yX8_isHouse cX8_isHouse 2 (some .boolean), Cond.fieldLink RX8 82 "GrazeBook" "houseCount" "I", Cond.methodLink RX8 100 yX8_refuse, Cond.instanceMethod yX8_refuse, Cond.selects RX8 yX8_refuse yX8_refuse, Cond.code yX8_refuse cX8_refuse 2 (some .int), Cond.fieldLink RX8 72 "GrazeBook" "refusals" "[I", Cond.methodLink RX8 143 yX0_isInForce, Cond.instanceMethod yX0_isInForce, Cond.selects RX0 yX0_isInForce yX0_isInForce, Cond.initialized RX0, Cond.code yX0_isInForce cX0_isInForce 2 (some .boolean), Cond.fieldLink RX0 15 "GrazeBook$Claim" "gone" "Z", Cond.fieldLink RX0 28 "GrazeBook$Claim" "first" "I", Cond.fieldLink RX0 31 "GrazeBook$Claim" "last" "I"]
def wsX8_sell : List Cond := .code yX8_sell cX8_sell 3 (some .int) :: ((wsX8_sell_r1 ++ wsX8_sell_r2) ++ wsX80 ++ wsX00)
def wsX8_move : List Cond := .code yX8_move cX8_move 3 (some .int) :: ([.fieldLink RX8 28 "GrazeBook" "houses" "[I", .methodLink RX8 124 yX8_isHouse, .instanceMethod yX8_isHouse, .selects RX8 yX8_isHouse yX8_isHouse, .initialized RX8, .code yX8_isHouse cX8_isHouse 2 (some .boolean), .fieldLink RX8 82 "GrazeBook" "houseCount" "I", .methodLink RX8 108 yX8_isOwner, .instanceMethod yX8_isOwner, .selects RX8 yX8_isOwner yX8_isOwner, .code yX8_isOwner cX8_isOwner 2 (some .boolean), .fieldLink RX8 79 "GrazeBook" "ownerCount" "I", .methodLink RX8 100 yX8_refuse, .instanceMethod yX8_refuse, .selects RX8 yX8_refuse yX8_refuse, .code yX8_refuse cX8_refuse 2 (some .int), .fieldLink RX8 72 "GrazeBook" "refusals" "[I"] ++ wsX80)
def wsX8_herd_r1 : List Cond := [Cond.fieldLink RX8 88 "GrazeBook" "herdCount" "I", Cond.fieldLink RX8 40 "GrazeBook" "herds" "[LGrazeBook$Drove;", Cond.classLink RX8 38 RX2, Cond.instantiable RX2 8, Cond.initialized RX2, Cond.methodLink RX8 108 yX8_isOwner, Cond.instanceMethod yX8_isOwner, Cond.selects RX8 yX8_isOwner yX8_isOwner, Cond.initialized RX8, Cond.code yX8_isOwner cX8_isOwner 2 (some .boolean), Cond.fieldLink RX8 79 "GrazeBook" "ownerCount" "I", Cond.methodLink RX8 100 yX8_refuse, Cond.instanceMethod yX8_refuse, Cond.selects RX8 yX8_refuse yX8_refuse, Cond.code yX8_refuse cX8_refuse 2 (some .int), Cond.fieldLink RX8 72 "GrazeBook" "refusals" "[I", Cond.methodLink RX8 155 yX2_init, Cond.instanceMethod yX2_init, Cond.code yX2_init cX2_init 4 none, Cond.methodLink RX2 3 objectInit, Cond.instanceMethod objectInit, Cond.code objectInit ⟨#[0xb1]⟩ 1 none, Cond.fieldLink RX2 9 "GrazeBook$Drove" "piece" "I", Cond.fieldLink RX2 15 "GrazeBook$Drove" "order" "I"]
def wsX8_herd_r2 : List Cond := [Cond.fieldLink RX2 18 "GrazeBook$Drove" "hunger" "I", Cond.fieldLink RX2 21 "GrazeBook$Drove" "state" "I", Cond.fieldLink RX2 24 "GrazeBook$Drove" "poundedOn" "I", Cond.fieldLink RX2 27 "GrazeBook$Drove" "owner" "I", Cond.fieldLink RX2 30 "GrazeBook$Drove" "sort" "I", Cond.fieldLink RX2 33 "GrazeBook$Drove" "beasts" "I"]
def wsX8_herd : List Cond := .code yX8_herd cX8_herd 4 (some .int) :: ((wsX8_herd_r1 ++ wsX8_herd_r2) ++ wsX80 ++ wsX20)
def wsX8_isHerd : List Cond := .code yX8_isHerd cX8_isHerd 2 (some .boolean) :: ([.fieldLink RX8 88 "GrazeBook" "herdCount" "I"] ++ wsX80)
def wsX8_coverOf_r1 : List Cond := [Cond.fieldLink RX8 54 "GrazeBook" "cover" "LGrazeBook$Cover;", Cond.fieldLink RX8 88 "GrazeBook" "herdCount" "I", Cond.fieldLink RX8 40 "GrazeBook" "herds" "[LGrazeBook$Drove;", Cond.fieldLink RX8 169 "GrazeBook$Drove" "owner" "I", Cond.fieldLink RX8 85 "GrazeBook" "rightCount" "I", Cond.fieldLink RX8 34 "GrazeBook" "rights" "[LGrazeBook$Claim;", Cond.methodLink RX8 311 yX1_clear, Cond.instanceMethod yX1_clear, Cond.selects RX1 yX1_clear yX1_clear, Cond.initialized RX1, Cond.code yX1_clear cX1_clear 2 none, Cond.fieldLink RX1 9 "GrazeBook$Cover" "sheepOn" "[I", Cond.fieldLink RX1 15 "GrazeBook$Cover" "othersOn" "[I", Cond.fieldLink RX1 18 "GrazeBook$Cover" "leazesFor" "[I", Cond.fieldLink RX1 21 "GrazeBook$Cover" "walks" "I", Cond.fieldLink RX1 25 "GrazeBook$Cover" "forAny" "I", Cond.methodLink RX8 314 yX1_addHerd, Cond.instanceMethod yX1_addHerd, Cond.selects RX1 yX1_addHerd yX1_addHerd, Cond.code yX1_addHerd cX1_addHerd 2 none, Cond.fieldLink RX1 28 "GrazeBook$Drove" "piece" "I", Cond.fieldLink RX1 33 "GrazeBook$Drove" "sort" "I", Cond.methodLink RX1 36 yX2_parts, Cond.instanceMethod yX2_parts]
def wsX8_coverOf_r2 : List Cond := [Cond.selects RX2 yX2_parts yX2_parts, Cond.initialized RX2, Cond.code yX2_parts cX2_parts 1 (some .int), Cond.fieldLink RX2 30 "GrazeBook$Drove" "sort" "I", Cond.fieldLink RX2 33 "GrazeBook$Drove" "beasts" "I", Cond.methodLink RX8 256 yX8_holder, Cond.instanceMethod yX8_holder, Cond.selects RX8 yX8_holder yX8_holder, Cond.initialized RX8, Cond.code yX8_holder cX8_holder 2 (some .int), Cond.fieldLink RX8 140 "GrazeBook$Claim" "kind" "I", Cond.fieldLink RX8 152 "GrazeBook$Claim" "who" "I", Cond.fieldLink RX8 28 "GrazeBook" "houses" "[I", Cond.methodLink RX8 124 yX8_isHouse, Cond.instanceMethod yX8_isHouse, Cond.selects RX8 yX8_isHouse yX8_isHouse, Cond.code yX8_isHouse cX8_isHouse 2 (some .boolean), Cond.fieldLink RX8 82 "GrazeBook" "houseCount" "I", Cond.methodLink RX8 146 yX8_countingParts, Cond.instanceMethod yX8_countingParts, Cond.selects RX8 yX8_countingParts yX8_countingParts, Cond.code yX8_countingParts cX8_countingParts 4 (some .int), Cond.fieldLink RX8 91 "GrazeBook" "day" "I", Cond.fieldLink RX8 309 "GrazeBook$Claim" "parts" "I"]
def wsX8_coverOf_r3 : List Cond := [Cond.fieldLink RX8 266 "GrazeBook$Claim" "source" "I", Cond.methodLink RX8 143 yX0_isInForce, Cond.instanceMethod yX0_isInForce, Cond.selects RX0 yX0_isInForce yX0_isInForce, Cond.initialized RX0, Cond.code yX0_isInForce cX0_isInForce 2 (some .boolean), Cond.fieldLink RX0 15 "GrazeBook$Claim" "gone" "Z", Cond.fieldLink RX0 28 "GrazeBook$Claim" "first" "I", Cond.fieldLink RX0 31 "GrazeBook$Claim" "last" "I", Cond.methodLink RX8 318 yX1_addRight, Cond.instanceMethod yX1_addRight, Cond.selects RX1 yX1_addRight yX1_addRight, Cond.code yX1_addRight cX1_addRight 3 none, Cond.fieldLink RX1 40 "GrazeBook$Claim" "kind" "I", Cond.fieldLink RX1 45 "GrazeBook$Claim" "piece" "I"]
def wsX8_coverOf : List Cond := .code yX8_coverOf cX8_coverOf 3 (some (.object "GrazeBook$Cover")) :: ((wsX8_coverOf_r1 ++ (wsX8_coverOf_r2 ++ wsX8_coverOf_r3)) ++ wsX80 ++ wsX20 ++ wsX10 ++ wsX00)
def wsX8_lackOf_r1 : List Cond := [Cond.methodLink RX8 284 yX8_coverOf, Cond.instanceMethod yX8_coverOf, Cond.selects RX8 yX8_coverOf yX8_coverOf, Cond.initialized RX8, Cond.code yX8_coverOf cX8_coverOf 3 (some (.object "GrazeBook$Cover")), Cond.fieldLink RX8 54 "GrazeBook" "cover" "LGrazeBook$Cover;", Cond.fieldLink RX8 88 "GrazeBook" "herdCount" "I", Cond.fieldLink RX8 40 "GrazeBook" "herds" "[LGrazeBook$Drove;", Cond.fieldLink RX8 169 "GrazeBook$Drove" "owner" "I", Cond.fieldLink RX8 85 "GrazeBook" "rightCount" "I", Cond.fieldLink RX8 34 "GrazeBook" "rights" "[LGrazeBook$Claim;", Cond.methodLink RX8 311 yX1_clear, Cond.instanceMethod yX1_clear, Cond.selects RX1 yX1_clear yX1_clear, Cond.initialized RX1, Cond.code yX1_clear cX1_clear 2 none, Cond.fieldLink RX1 9 "GrazeBook$Cover" "sheepOn" "[I", Cond.fieldLink RX1 15 "GrazeBook$Cover" "othersOn" "[I", Cond.fieldLink RX1 18 "GrazeBook$Cover" "leazesFor" "[I", Cond.fieldLink RX1 21 "GrazeBook$Cover" "walks" "I", Cond.fieldLink RX1 25 "GrazeBook$Cover" "forAny" "I", Cond.methodLink RX8 314 yX1_addHerd, Cond.instanceMethod yX1_addHerd, Cond.selects RX1 yX1_addHerd yX1_addHerd]
def wsX8_lackOf_r2 : List Cond := [Cond.code yX1_addHerd cX1_addHerd 2 none, Cond.fieldLink RX1 28 "GrazeBook$Drove" "piece" "I", Cond.fieldLink RX1 33 "GrazeBook$Drove" "sort" "I", Cond.methodLink RX1 36 yX2_parts, Cond.instanceMethod yX2_parts, Cond.selects RX2 yX2_parts yX2_parts, Cond.initialized RX2, Cond.code yX2_parts cX2_parts 1 (some .int), Cond.fieldLink RX2 30 "GrazeBook$Drove" "sort" "I", Cond.fieldLink RX2 33 "GrazeBook$Drove" "beasts" "I", Cond.methodLink RX8 256 yX8_holder, Cond.instanceMethod yX8_holder, Cond.selects RX8 yX8_holder yX8_holder, Cond.code yX8_holder cX8_holder 2 (some .int), Cond.fieldLink RX8 140 "GrazeBook$Claim" "kind" "I", Cond.fieldLink RX8 152 "GrazeBook$Claim" "who" "I", Cond.fieldLink RX8 28 "GrazeBook" "houses" "[I", Cond.methodLink RX8 124 yX8_isHouse, Cond.instanceMethod yX8_isHouse, Cond.selects RX8 yX8_isHouse yX8_isHouse, Cond.code yX8_isHouse cX8_isHouse 2 (some .boolean), Cond.fieldLink RX8 82 "GrazeBook" "houseCount" "I", Cond.methodLink RX8 146 yX8_countingParts, Cond.instanceMethod yX8_countingParts]
def wsX8_lackOf_r3 : List Cond := [Cond.selects RX8 yX8_countingParts yX8_countingParts, Cond.code yX8_countingParts cX8_countingParts 4 (some .int), Cond.fieldLink RX8 91 "GrazeBook" "day" "I", Cond.fieldLink RX8 309 "GrazeBook$Claim" "parts" "I", Cond.fieldLink RX8 266 "GrazeBook$Claim" "source" "I", Cond.methodLink RX8 143 yX0_isInForce, Cond.instanceMethod yX0_isInForce, Cond.selects RX0 yX0_isInForce yX0_isInForce, Cond.initialized RX0, Cond.code yX0_isInForce cX0_isInForce 2 (some .boolean), Cond.fieldLink RX0 15 "GrazeBook$Claim" "gone" "Z", Cond.fieldLink RX0 28 "GrazeBook$Claim" "first" "I", Cond.fieldLink RX0 31 "GrazeBook$Claim" "last" "I", Cond.methodLink RX8 318 yX1_addRight, Cond.instanceMethod yX1_addRight, Cond.selects RX1 yX1_addRight yX1_addRight, Cond.code yX1_addRight cX1_addRight 3 none, Cond.fieldLink RX1 40 "GrazeBook$Claim" "kind" "I", Cond.fieldLink RX1 45 "GrazeBook$Claim" "piece" "I", Cond.methodLink RX8 321 yX1_lack, Cond.instanceMethod yX1_lack, Cond.selects RX1 yX1_lack yX1_lack, Cond.code yX1_lack cX1_lack 5 (some .int), Cond.methodLink RX1 46 Lib.Math.max.name]
def wsX8_lackOf_r4 : List Cond := [Cond.static Lib.Math.max.name, Cond.initialized "java/lang/Math", Cond.code Lib.Math.max.name Lib.Math.max.code 2 (some .int)]
def wsX8_lackOf : List Cond := .code yX8_lackOf cX8_lackOf 2 (some .int) :: ((wsX8_lackOf_r1 ++ (wsX8_lackOf_r2 ++ (wsX8_lackOf_r3 ++ wsX8_lackOf_r4))) ++ wsX80 ++ wsX20 ++ wsX10 ++ wsX00)
def wsX8_put_r1 : List Cond := [Cond.fieldLink RX8 40 "GrazeBook" "herds" "[LGrazeBook$Drove;", Cond.fieldLink RX8 160 "GrazeBook$Drove" "state" "I", Cond.fieldLink RX8 163 "GrazeBook$Drove" "piece" "I", Cond.fieldLink RX8 11 "GrazeBook" "pieces" "[LGrazeBook$Ground;", Cond.fieldLink RX8 91 "GrazeBook" "day" "I", Cond.fieldLink RX8 169 "GrazeBook$Drove" "owner" "I", Cond.fieldLink RX8 94 "GrazeBook" "latestOrder" "I", Cond.fieldLink RX8 175 "GrazeBook$Drove" "order" "I", Cond.methodLink RX8 157 yX8_isHerd, Cond.instanceMethod yX8_isHerd, Cond.selects RX8 yX8_isHerd yX8_isHerd, Cond.initialized RX8, Cond.code yX8_isHerd cX8_isHerd 2 (some .boolean), Cond.fieldLink RX8 88 "GrazeBook" "herdCount" "I", Cond.methodLink RX8 127 yX8_isPiece, Cond.instanceMethod yX8_isPiece, Cond.selects RX8 yX8_isPiece yX8_isPiece, Cond.code yX8_isPiece cX8_isPiece 2 (some .boolean), Cond.fieldLink RX8 75 "GrazeBook" "pieceCount" "I", Cond.methodLink RX8 100 yX8_refuse, Cond.instanceMethod yX8_refuse, Cond.selects RX8 yX8_refuse yX8_refuse, Cond.code yX8_refuse cX8_refuse 2 (some .int), Cond.fieldLink RX8 72 "GrazeBook" "refusals" "[I"]
def wsX8_put_r2 : List Cond := [Cond.methodLink RX8 166 yX4_restsOn, Cond.instanceMethod yX4_restsOn, Cond.selects RX4 yX4_restsOn yX4_restsOn, Cond.initialized RX4, Cond.code yX4_restsOn cX4_restsOn 2 (some .boolean), Cond.fieldLink RX4 7 "GrazeBook$Ground" "rest" "I", Cond.methodLink RX8 172 yX8_lackOf, Cond.instanceMethod yX8_lackOf, Cond.selects RX8 yX8_lackOf yX8_lackOf, Cond.code yX8_lackOf cX8_lackOf 2 (some .int), Cond.methodLink RX8 284 yX8_coverOf, Cond.instanceMethod yX8_coverOf, Cond.selects RX8 yX8_coverOf yX8_coverOf, Cond.code yX8_coverOf cX8_coverOf 3 (some (.object "GrazeBook$Cover")), Cond.fieldLink RX8 54 "GrazeBook" "cover" "LGrazeBook$Cover;", Cond.fieldLink RX8 85 "GrazeBook" "rightCount" "I", Cond.fieldLink RX8 34 "GrazeBook" "rights" "[LGrazeBook$Claim;", Cond.methodLink RX8 311 yX1_clear, Cond.instanceMethod yX1_clear, Cond.selects RX1 yX1_clear yX1_clear, Cond.initialized RX1, Cond.code yX1_clear cX1_clear 2 none, Cond.fieldLink RX1 9 "GrazeBook$Cover" "sheepOn" "[I", Cond.fieldLink RX1 15 "GrazeBook$Cover" "othersOn" "[I"]
def wsX8_put_r3 : List Cond := [Cond.fieldLink RX1 18 "GrazeBook$Cover" "leazesFor" "[I", Cond.fieldLink RX1 21 "GrazeBook$Cover" "walks" "I", Cond.fieldLink RX1 25 "GrazeBook$Cover" "forAny" "I", Cond.methodLink RX8 314 yX1_addHerd, Cond.instanceMethod yX1_addHerd, Cond.selects RX1 yX1_addHerd yX1_addHerd, Cond.code yX1_addHerd cX1_addHerd 2 none, Cond.fieldLink RX1 28 "GrazeBook$Drove" "piece" "I", Cond.fieldLink RX1 33 "GrazeBook$Drove" "sort" "I", Cond.methodLink RX1 36 yX2_parts, Cond.instanceMethod yX2_parts, Cond.selects RX2 yX2_parts yX2_parts, Cond.initialized RX2, Cond.code yX2_parts cX2_parts 1 (some .int), Cond.fieldLink RX2 30 "GrazeBook$Drove" "sort" "I", Cond.fieldLink RX2 33 "GrazeBook$Drove" "beasts" "I", Cond.methodLink RX8 256 yX8_holder, Cond.instanceMethod yX8_holder, Cond.selects RX8 yX8_holder yX8_holder, Cond.code yX8_holder cX8_holder 2 (some .int), Cond.fieldLink RX8 140 "GrazeBook$Claim" "kind" "I", Cond.fieldLink RX8 152 "GrazeBook$Claim" "who" "I", Cond.fieldLink RX8 28 "GrazeBook" "houses" "[I", Cond.methodLink RX8 124 yX8_isHouse]
def wsX8_put_r4 : List Cond := [Cond.instanceMethod yX8_isHouse, Cond.selects RX8 yX8_isHouse yX8_isHouse, Cond.code yX8_isHouse cX8_isHouse 2 (some .boolean), Cond.fieldLink RX8 82 "GrazeBook" "houseCount" "I", Cond.methodLink RX8 146 yX8_countingParts, Cond.instanceMethod yX8_countingParts, Cond.selects RX8 yX8_countingParts yX8_countingParts, Cond.code yX8_countingParts cX8_countingParts 4 (some .int), Cond.fieldLink RX8 309 "GrazeBook$Claim" "parts" "I", Cond.fieldLink RX8 266 "GrazeBook$Claim" "source" "I", Cond.methodLink RX8 143 yX0_isInForce, Cond.instanceMethod yX0_isInForce, Cond.selects RX0 yX0_isInForce yX0_isInForce, Cond.initialized RX0, Cond.code yX0_isInForce cX0_isInForce 2 (some .boolean), Cond.fieldLink RX0 15 "GrazeBook$Claim" "gone" "Z", Cond.fieldLink RX0 28 "GrazeBook$Claim" "first" "I", Cond.fieldLink RX0 31 "GrazeBook$Claim" "last" "I", Cond.methodLink RX8 318 yX1_addRight, Cond.instanceMethod yX1_addRight, Cond.selects RX1 yX1_addRight yX1_addRight, Cond.code yX1_addRight cX1_addRight 3 none, Cond.fieldLink RX1 40 "GrazeBook$Claim" "kind" "I", Cond.fieldLink RX1 45 "GrazeBook$Claim" "piece" "I"]
def wsX8_put_r5 : List Cond := [Cond.methodLink RX8 321 yX1_lack, Cond.instanceMethod yX1_lack, Cond.selects RX1 yX1_lack yX1_lack, Cond.code yX1_lack cX1_lack 5 (some .int), Cond.methodLink RX1 46 Lib.Math.max.name, Cond.static Lib.Math.max.name, Cond.initialized "java/lang/Math", Cond.code Lib.Math.max.name Lib.Math.max.code 2 (some .int)]
def wsX8_put : List Cond := .code yX8_put cX8_put 4 (some .int) :: ((wsX8_put_r1 ++ (wsX8_put_r2 ++ (wsX8_put_r3 ++ (wsX8_put_r4 ++ wsX8_put_r5)))) ++ wsX80 ++ wsX20 ++ wsX40 ++ wsX10 ++ wsX00)
def wsX8_drive_r1 : List Cond := [Cond.fieldLink RX8 40 "GrazeBook" "herds" "[LGrazeBook$Drove;", Cond.fieldLink RX8 163 "GrazeBook$Drove" "piece" "I", Cond.fieldLink RX8 11 "GrazeBook" "pieces" "[LGrazeBook$Ground;", Cond.fieldLink RX8 91 "GrazeBook" "day" "I", Cond.fieldLink RX8 94 "GrazeBook" "latestOrder" "I", Cond.fieldLink RX8 175 "GrazeBook$Drove" "order" "I", Cond.methodLink RX8 157 yX8_isHerd, Cond.instanceMethod yX8_isHerd, Cond.selects RX8 yX8_isHerd yX8_isHerd, Cond.initialized RX8, Cond.code yX8_isHerd cX8_isHerd 2 (some .boolean), Cond.fieldLink RX8 88 "GrazeBook" "herdCount" "I", Cond.methodLink RX8 127 yX8_isPiece, Cond.instanceMethod yX8_isPiece, Cond.selects RX8 yX8_isPiece yX8_isPiece, Cond.code yX8_isPiece cX8_isPiece 2 (some .boolean), Cond.fieldLink RX8 75 "GrazeBook" "pieceCount" "I", Cond.methodLink RX8 100 yX8_refuse, Cond.instanceMethod yX8_refuse, Cond.selects RX8 yX8_refuse yX8_refuse, Cond.code yX8_refuse cX8_refuse 2 (some .int), Cond.fieldLink RX8 72 "GrazeBook" "refusals" "[I", Cond.methodLink RX8 166 yX4_restsOn, Cond.instanceMethod yX4_restsOn]
def wsX8_drive_r2 : List Cond := [Cond.selects RX4 yX4_restsOn yX4_restsOn, Cond.initialized RX4, Cond.code yX4_restsOn cX4_restsOn 2 (some .boolean), Cond.fieldLink RX4 7 "GrazeBook$Ground" "rest" "I"]
def wsX8_drive : List Cond := .code yX8_drive cX8_drive 5 (some .int) :: ((wsX8_drive_r1 ++ wsX8_drive_r2) ++ wsX80 ++ wsX20 ++ wsX40)
def wsX8_covered_r1 : List Cond := [Cond.methodLink RX8 108 yX8_isOwner, Cond.instanceMethod yX8_isOwner, Cond.selects RX8 yX8_isOwner yX8_isOwner, Cond.initialized RX8, Cond.code yX8_isOwner cX8_isOwner 2 (some .boolean), Cond.fieldLink RX8 79 "GrazeBook" "ownerCount" "I", Cond.methodLink RX8 100 yX8_refuse, Cond.instanceMethod yX8_refuse, Cond.selects RX8 yX8_refuse yX8_refuse, Cond.code yX8_refuse cX8_refuse 2 (some .int), Cond.fieldLink RX8 72 "GrazeBook" "refusals" "[I", Cond.methodLink RX8 172 yX8_lackOf, Cond.instanceMethod yX8_lackOf, Cond.selects RX8 yX8_lackOf yX8_lackOf, Cond.code yX8_lackOf cX8_lackOf 2 (some .int), Cond.methodLink RX8 284 yX8_coverOf, Cond.instanceMethod yX8_coverOf, Cond.selects RX8 yX8_coverOf yX8_coverOf, Cond.code yX8_coverOf cX8_coverOf 3 (some (.object "GrazeBook$Cover")), Cond.fieldLink RX8 54 "GrazeBook" "cover" "LGrazeBook$Cover;", Cond.fieldLink RX8 88 "GrazeBook" "herdCount" "I", Cond.fieldLink RX8 40 "GrazeBook" "herds" "[LGrazeBook$Drove;", Cond.fieldLink RX8 169 "GrazeBook$Drove" "owner" "I", Cond.fieldLink RX8 85 "GrazeBook" "rightCount" "I"]
def wsX8_covered_r2 : List Cond := [Cond.fieldLink RX8 34 "GrazeBook" "rights" "[LGrazeBook$Claim;", Cond.methodLink RX8 311 yX1_clear, Cond.instanceMethod yX1_clear, Cond.selects RX1 yX1_clear yX1_clear, Cond.initialized RX1, Cond.code yX1_clear cX1_clear 2 none, Cond.fieldLink RX1 9 "GrazeBook$Cover" "sheepOn" "[I", Cond.fieldLink RX1 15 "GrazeBook$Cover" "othersOn" "[I", Cond.fieldLink RX1 18 "GrazeBook$Cover" "leazesFor" "[I", Cond.fieldLink RX1 21 "GrazeBook$Cover" "walks" "I", Cond.fieldLink RX1 25 "GrazeBook$Cover" "forAny" "I", Cond.methodLink RX8 314 yX1_addHerd, Cond.instanceMethod yX1_addHerd, Cond.selects RX1 yX1_addHerd yX1_addHerd, Cond.code yX1_addHerd cX1_addHerd 2 none, Cond.fieldLink RX1 28 "GrazeBook$Drove" "piece" "I", Cond.fieldLink RX1 33 "GrazeBook$Drove" "sort" "I", Cond.methodLink RX1 36 yX2_parts, Cond.instanceMethod yX2_parts, Cond.selects RX2 yX2_parts yX2_parts, Cond.initialized RX2, Cond.code yX2_parts cX2_parts 1 (some .int), Cond.fieldLink RX2 30 "GrazeBook$Drove" "sort" "I", Cond.fieldLink RX2 33 "GrazeBook$Drove" "beasts" "I"]
def wsX8_covered_r3 : List Cond := [Cond.methodLink RX8 256 yX8_holder, Cond.instanceMethod yX8_holder, Cond.selects RX8 yX8_holder yX8_holder, Cond.code yX8_holder cX8_holder 2 (some .int), Cond.fieldLink RX8 140 "GrazeBook$Claim" "kind" "I", Cond.fieldLink RX8 152 "GrazeBook$Claim" "who" "I", Cond.fieldLink RX8 28 "GrazeBook" "houses" "[I", Cond.methodLink RX8 124 yX8_isHouse, Cond.instanceMethod yX8_isHouse, Cond.selects RX8 yX8_isHouse yX8_isHouse, Cond.code yX8_isHouse cX8_isHouse 2 (some .boolean), Cond.fieldLink RX8 82 "GrazeBook" "houseCount" "I", Cond.methodLink RX8 146 yX8_countingParts, Cond.instanceMethod yX8_countingParts, Cond.selects RX8 yX8_countingParts yX8_countingParts, Cond.code yX8_countingParts cX8_countingParts 4 (some .int), Cond.fieldLink RX8 91 "GrazeBook" "day" "I", Cond.fieldLink RX8 309 "GrazeBook$Claim" "parts" "I", Cond.fieldLink RX8 266 "GrazeBook$Claim" "source" "I", Cond.methodLink RX8 143 yX0_isInForce, Cond.instanceMethod yX0_isInForce, Cond.selects RX0 yX0_isInForce yX0_isInForce, Cond.initialized RX0, Cond.code yX0_isInForce cX0_isInForce 2 (some .boolean)]
def wsX8_covered_r4 : List Cond := [Cond.fieldLink RX0 15 "GrazeBook$Claim" "gone" "Z", Cond.fieldLink RX0 28 "GrazeBook$Claim" "first" "I", Cond.fieldLink RX0 31 "GrazeBook$Claim" "last" "I", Cond.methodLink RX8 318 yX1_addRight, Cond.instanceMethod yX1_addRight, Cond.selects RX1 yX1_addRight yX1_addRight, Cond.code yX1_addRight cX1_addRight 3 none, Cond.fieldLink RX1 40 "GrazeBook$Claim" "kind" "I", Cond.fieldLink RX1 45 "GrazeBook$Claim" "piece" "I", Cond.methodLink RX8 321 yX1_lack, Cond.instanceMethod yX1_lack, Cond.selects RX1 yX1_lack yX1_lack, Cond.code yX1_lack cX1_lack 5 (some .int), Cond.methodLink RX1 46 Lib.Math.max.name, Cond.static Lib.Math.max.name, Cond.initialized "java/lang/Math", Cond.code Lib.Math.max.name Lib.Math.max.code 2 (some .int)]
def wsX8_covered : List Cond := .code yX8_covered cX8_covered 2 (some .int) :: ((wsX8_covered_r1 ++ (wsX8_covered_r2 ++ (wsX8_covered_r3 ++ wsX8_covered_r4))) ++ wsX80 ++ wsX20 ++ wsX10 ++ wsX00)
def wsX8_lacks_r1 : List Cond := [Cond.methodLink RX8 108 yX8_isOwner, Cond.instanceMethod yX8_isOwner, Cond.selects RX8 yX8_isOwner yX8_isOwner, Cond.initialized RX8, Cond.code yX8_isOwner cX8_isOwner 2 (some .boolean), Cond.fieldLink RX8 79 "GrazeBook" "ownerCount" "I", Cond.methodLink RX8 100 yX8_refuse, Cond.instanceMethod yX8_refuse, Cond.selects RX8 yX8_refuse yX8_refuse, Cond.code yX8_refuse cX8_refuse 2 (some .int), Cond.fieldLink RX8 72 "GrazeBook" "refusals" "[I", Cond.methodLink RX8 172 yX8_lackOf, Cond.instanceMethod yX8_lackOf, Cond.selects RX8 yX8_lackOf yX8_lackOf, Cond.code yX8_lackOf cX8_lackOf 2 (some .int), Cond.methodLink RX8 284 yX8_coverOf, Cond.instanceMethod yX8_coverOf, Cond.selects RX8 yX8_coverOf yX8_coverOf, Cond.code yX8_coverOf cX8_coverOf 3 (some (.object "GrazeBook$Cover")), Cond.fieldLink RX8 54 "GrazeBook" "cover" "LGrazeBook$Cover;", Cond.fieldLink RX8 88 "GrazeBook" "herdCount" "I", Cond.fieldLink RX8 40 "GrazeBook" "herds" "[LGrazeBook$Drove;", Cond.fieldLink RX8 169 "GrazeBook$Drove" "owner" "I", Cond.fieldLink RX8 85 "GrazeBook" "rightCount" "I"]
def wsX8_lacks_r2 : List Cond := [Cond.fieldLink RX8 34 "GrazeBook" "rights" "[LGrazeBook$Claim;", Cond.methodLink RX8 311 yX1_clear, Cond.instanceMethod yX1_clear, Cond.selects RX1 yX1_clear yX1_clear, Cond.initialized RX1, Cond.code yX1_clear cX1_clear 2 none, Cond.fieldLink RX1 9 "GrazeBook$Cover" "sheepOn" "[I", Cond.fieldLink RX1 15 "GrazeBook$Cover" "othersOn" "[I", Cond.fieldLink RX1 18 "GrazeBook$Cover" "leazesFor" "[I", Cond.fieldLink RX1 21 "GrazeBook$Cover" "walks" "I", Cond.fieldLink RX1 25 "GrazeBook$Cover" "forAny" "I", Cond.methodLink RX8 314 yX1_addHerd, Cond.instanceMethod yX1_addHerd, Cond.selects RX1 yX1_addHerd yX1_addHerd, Cond.code yX1_addHerd cX1_addHerd 2 none, Cond.fieldLink RX1 28 "GrazeBook$Drove" "piece" "I", Cond.fieldLink RX1 33 "GrazeBook$Drove" "sort" "I", Cond.methodLink RX1 36 yX2_parts, Cond.instanceMethod yX2_parts, Cond.selects RX2 yX2_parts yX2_parts, Cond.initialized RX2, Cond.code yX2_parts cX2_parts 1 (some .int), Cond.fieldLink RX2 30 "GrazeBook$Drove" "sort" "I", Cond.fieldLink RX2 33 "GrazeBook$Drove" "beasts" "I"]
def wsX8_lacks_r3 : List Cond := [Cond.methodLink RX8 256 yX8_holder, Cond.instanceMethod yX8_holder, Cond.selects RX8 yX8_holder yX8_holder, Cond.code yX8_holder cX8_holder 2 (some .int), Cond.fieldLink RX8 140 "GrazeBook$Claim" "kind" "I", Cond.fieldLink RX8 152 "GrazeBook$Claim" "who" "I", Cond.fieldLink RX8 28 "GrazeBook" "houses" "[I", Cond.methodLink RX8 124 yX8_isHouse, Cond.instanceMethod yX8_isHouse, Cond.selects RX8 yX8_isHouse yX8_isHouse, Cond.code yX8_isHouse cX8_isHouse 2 (some .boolean), Cond.fieldLink RX8 82 "GrazeBook" "houseCount" "I", Cond.methodLink RX8 146 yX8_countingParts, Cond.instanceMethod yX8_countingParts, Cond.selects RX8 yX8_countingParts yX8_countingParts, Cond.code yX8_countingParts cX8_countingParts 4 (some .int), Cond.fieldLink RX8 91 "GrazeBook" "day" "I", Cond.fieldLink RX8 309 "GrazeBook$Claim" "parts" "I", Cond.fieldLink RX8 266 "GrazeBook$Claim" "source" "I", Cond.methodLink RX8 143 yX0_isInForce, Cond.instanceMethod yX0_isInForce, Cond.selects RX0 yX0_isInForce yX0_isInForce, Cond.initialized RX0, Cond.code yX0_isInForce cX0_isInForce 2 (some .boolean)]
def wsX8_lacks_r4 : List Cond := [Cond.fieldLink RX0 15 "GrazeBook$Claim" "gone" "Z", Cond.fieldLink RX0 28 "GrazeBook$Claim" "first" "I", Cond.fieldLink RX0 31 "GrazeBook$Claim" "last" "I", Cond.methodLink RX8 318 yX1_addRight, Cond.instanceMethod yX1_addRight, Cond.selects RX1 yX1_addRight yX1_addRight, Cond.code yX1_addRight cX1_addRight 3 none, Cond.fieldLink RX1 40 "GrazeBook$Claim" "kind" "I", Cond.fieldLink RX1 45 "GrazeBook$Claim" "piece" "I", Cond.methodLink RX8 321 yX1_lack, Cond.instanceMethod yX1_lack, Cond.selects RX1 yX1_lack yX1_lack, Cond.code yX1_lack cX1_lack 5 (some .int), Cond.methodLink RX1 46 Lib.Math.max.name, Cond.static Lib.Math.max.name, Cond.initialized "java/lang/Math", Cond.code Lib.Math.max.name Lib.Math.max.code 2 (some .int)]
def wsX8_lacks : List Cond := .code yX8_lacks cX8_lacks 2 (some .int) :: ((wsX8_lacks_r1 ++ (wsX8_lacks_r2 ++ (wsX8_lacks_r3 ++ wsX8_lacks_r4))) ++ wsX80 ++ wsX20 ++ wsX10 ++ wsX00)
def wsX8_partsOn : List Cond := .code yX8_partsOn cX8_partsOn 4 (some .int) :: ([.fieldLink RX8 88 "GrazeBook" "herdCount" "I", .fieldLink RX8 40 "GrazeBook" "herds" "[LGrazeBook$Drove;", .fieldLink RX8 163 "GrazeBook$Drove" "piece" "I", .methodLink RX8 185 yX2_parts, .instanceMethod yX2_parts, .selects RX2 yX2_parts yX2_parts, .initialized RX2, .code yX2_parts cX2_parts 1 (some .int), .fieldLink RX2 30 "GrazeBook$Drove" "sort" "I", .fieldLink RX2 33 "GrazeBook$Drove" "beasts" "I"] ++ wsX80 ++ wsX20)
def wsX8_latestOn : List Cond := .code yX8_latestOn cX8_latestOn 6 (some .int) :: ([.fieldLink RX8 88 "GrazeBook" "herdCount" "I", .fieldLink RX8 40 "GrazeBook" "herds" "[LGrazeBook$Drove;", .fieldLink RX8 163 "GrazeBook$Drove" "piece" "I", .fieldLink RX8 175 "GrazeBook$Drove" "order" "I"] ++ wsX80 ++ wsX20)
def wsX8_over_r1 : List Cond := [Cond.fieldLink RX8 94 "GrazeBook" "latestOrder" "I", Cond.fieldLink RX8 40 "GrazeBook" "herds" "[LGrazeBook$Drove;", Cond.fieldLink RX8 175 "GrazeBook$Drove" "order" "I", Cond.fieldLink RX8 11 "GrazeBook" "pieces" "[LGrazeBook$Ground;", Cond.fieldLink RX8 189 "GrazeBook$Ground" "bears" "I", Cond.methodLink RX8 127 yX8_isPiece, Cond.instanceMethod yX8_isPiece, Cond.selects RX8 yX8_isPiece yX8_isPiece, Cond.initialized RX8, Cond.code yX8_isPiece cX8_isPiece 2 (some .boolean), Cond.fieldLink RX8 75 "GrazeBook" "pieceCount" "I", Cond.methodLink RX8 100 yX8_refuse, Cond.instanceMethod yX8_refuse, Cond.selects RX8 yX8_refuse yX8_refuse, Cond.code yX8_refuse cX8_refuse 2 (some .int), Cond.fieldLink RX8 72 "GrazeBook" "refusals" "[I", Cond.methodLink RX8 178 yX8_partsOn, Cond.instanceMethod yX8_partsOn, Cond.selects RX8 yX8_partsOn yX8_partsOn, Cond.code yX8_partsOn cX8_partsOn 4 (some .int), Cond.fieldLink RX8 88 "GrazeBook" "herdCount" "I", Cond.fieldLink RX8 163 "GrazeBook$Drove" "piece" "I", Cond.methodLink RX8 185 yX2_parts, Cond.instanceMethod yX2_parts]
def wsX8_over_r2 : List Cond := [Cond.selects RX2 yX2_parts yX2_parts, Cond.initialized RX2, Cond.code yX2_parts cX2_parts 1 (some .int), Cond.fieldLink RX2 30 "GrazeBook$Drove" "sort" "I", Cond.fieldLink RX2 33 "GrazeBook$Drove" "beasts" "I", Cond.methodLink RX8 181 yX8_latestOn, Cond.instanceMethod yX8_latestOn, Cond.selects RX8 yX8_latestOn yX8_latestOn, Cond.code yX8_latestOn cX8_latestOn 6 (some .int)]
def wsX8_over : List Cond := .code yX8_over cX8_over 6 (some .int) :: ((wsX8_over_r1 ++ wsX8_over_r2) ++ wsX80 ++ wsX20 ++ wsX40)
def wsX8_graze_r1 : List Cond := [Cond.fieldLink RX8 61 "GrazeBook" "grazing" "LGrazeBook$Grazing;", Cond.fieldLink RX8 88 "GrazeBook" "herdCount" "I", Cond.fieldLink RX8 40 "GrazeBook" "herds" "[LGrazeBook$Drove;", Cond.fieldLink RX8 163 "GrazeBook$Drove" "piece" "I", Cond.fieldLink RX8 11 "GrazeBook" "pieces" "[LGrazeBook$Ground;", Cond.fieldLink RX8 210 "GrazeBook$Ground" "grass" "I", Cond.fieldLink RX8 47 "GrazeBook" "year" "LGrazeBook$Year;", Cond.fieldLink RX8 91 "GrazeBook" "day" "I", Cond.fieldLink RX8 250 "GrazeBook$Ground" "eaten" "I", Cond.fieldLink RX8 341 "GrazeBook$Grazing" "eaten" "I", Cond.fieldLink RX8 278 "GrazeBook$Drove" "hunger" "I", Cond.methodLink RX8 327 yX3_clear, Cond.instanceMethod yX3_clear, Cond.selects RX3 yX3_clear yX3_clear, Cond.initialized RX3, Cond.code yX3_clear cX3_clear 1 none, Cond.fieldLink RX3 24 "GrazeBook$Grazing" "size" "I", Cond.fieldLink RX3 28 "GrazeBook$Grazing" "all" "I", Cond.fieldLink RX3 31 "GrazeBook$Grazing" "eaten" "I", Cond.methodLink RX8 185 yX2_parts, Cond.instanceMethod yX2_parts, Cond.selects RX2 yX2_parts yX2_parts, Cond.initialized RX2, Cond.code yX2_parts cX2_parts 1 (some .int)]
def wsX8_graze_r2 : List Cond := [Cond.fieldLink RX2 30 "GrazeBook$Drove" "sort" "I", Cond.fieldLink RX2 33 "GrazeBook$Drove" "beasts" "I", Cond.methodLink RX8 328 yX3_add, Cond.instanceMethod yX3_add, Cond.selects RX3 yX3_add yX3_add, Cond.code yX3_add cX3_add 3 none, Cond.fieldLink RX3 9 "GrazeBook$Grazing" "numbers" "[I", Cond.fieldLink RX3 15 "GrazeBook$Grazing" "partsOf" "[I", Cond.fieldLink RX3 18 "GrazeBook$Grazing" "hungers" "[I", Cond.methodLink RX8 331 yX7_rainOn, Cond.instanceMethod yX7_rainOn, Cond.selects RX7 yX7_rainOn yX7_rainOn, Cond.initialized RX7, Cond.code yX7_rainOn cX7_rainOn 2 (some .int), Cond.fieldLink RX7 15 "GrazeBook$Year" "skies" "[I", Cond.methodLink RX8 334 yX7_rateOn, Cond.instanceMethod yX7_rateOn, Cond.selects RX7 yX7_rateOn yX7_rateOn, Cond.code yX7_rateOn cX7_rateOn 2 (some .int), Cond.fieldLink RX7 11 "GrazeBook$Year" "rates" "[I", Cond.methodLink RX8 337 yX3_passDay, Cond.instanceMethod yX3_passDay, Cond.selects RX3 yX3_passDay yX3_passDay, Cond.code yX3_passDay cX3_passDay 7 (some .int)]
def wsX8_graze_r3 : List Cond := [Cond.fieldLink RX3 38 "GrazeBook$Ground" "full" "I", Cond.methodLink RX3 47 Lib.Math.min.name, Cond.static Lib.Math.min.name, Cond.initialized "java/lang/Math", Cond.code Lib.Math.min.name Lib.Math.min.code 2 (some .int), Cond.fieldLink RX3 56 "GrazeBook$Ground" "water" "Z", Cond.methodLink RX3 34 yX3_tread, Cond.instanceMethod yX3_tread, Cond.selects RX3 yX3_tread yX3_tread, Cond.code yX3_tread cX3_tread 3 (some .int), Cond.methodLink RX3 60 Lib.Math.max.name, Cond.static Lib.Math.max.name, Cond.code Lib.Math.max.name Lib.Math.max.code 2 (some .int), Cond.methodLink RX3 43 yX3_grow, Cond.static yX3_grow, Cond.code yX3_grow cX3_grow 3 (some .int), Cond.methodLink RX3 52 yX3_shareHunger, Cond.instanceMethod yX3_shareHunger, Cond.selects RX3 yX3_shareHunger yX3_shareHunger, Cond.code yX3_shareHunger cX3_shareHunger 5 none, Cond.fieldLink RX3 21 "GrazeBook$Grazing" "remainders" "[I", Cond.methodLink RX3 63 yX3_greatestRemainder, Cond.instanceMethod yX3_greatestRemainder, Cond.selects RX3 yX3_greatestRemainder yX3_greatestRemainder]
def wsX8_graze_r4 : List Cond := [Cond.code yX3_greatestRemainder cX3_greatestRemainder 3 (some .int), Cond.methodLink RX8 342 yX3_hungerOf, Cond.instanceMethod yX3_hungerOf, Cond.selects RX3 yX3_hungerOf yX3_hungerOf, Cond.code yX3_hungerOf cX3_hungerOf 3 (some .int)]
def wsX8_graze : List Cond := .code yX8_graze cX8_graze 6 (some .int) :: ((wsX8_graze_r1 ++ (wsX8_graze_r2 ++ (wsX8_graze_r3 ++ wsX8_graze_r4))) ++ wsX80 ++ wsX20 ++ wsX40 ++ wsX30 ++ wsX70)
def wsX8_grazeAll_r1 : List Cond := [Cond.fieldLink RX8 75 "GrazeBook" "pieceCount" "I", Cond.methodLink RX8 324 yX8_graze, Cond.instanceMethod yX8_graze, Cond.selects RX8 yX8_graze yX8_graze, Cond.initialized RX8, Cond.code yX8_graze cX8_graze 6 (some .int), Cond.fieldLink RX8 61 "GrazeBook" "grazing" "LGrazeBook$Grazing;", Cond.fieldLink RX8 88 "GrazeBook" "herdCount" "I", Cond.fieldLink RX8 40 "GrazeBook" "herds" "[LGrazeBook$Drove;", Cond.fieldLink RX8 163 "GrazeBook$Drove" "piece" "I", Cond.fieldLink RX8 11 "GrazeBook" "pieces" "[LGrazeBook$Ground;", Cond.fieldLink RX8 210 "GrazeBook$Ground" "grass" "I", Cond.fieldLink RX8 47 "GrazeBook" "year" "LGrazeBook$Year;", Cond.fieldLink RX8 91 "GrazeBook" "day" "I", Cond.fieldLink RX8 250 "GrazeBook$Ground" "eaten" "I", Cond.fieldLink RX8 341 "GrazeBook$Grazing" "eaten" "I", Cond.fieldLink RX8 278 "GrazeBook$Drove" "hunger" "I", Cond.methodLink RX8 327 yX3_clear, Cond.instanceMethod yX3_clear, Cond.selects RX3 yX3_clear yX3_clear, Cond.initialized RX3, Cond.code yX3_clear cX3_clear 1 none, Cond.fieldLink RX3 24 "GrazeBook$Grazing" "size" "I", Cond.fieldLink RX3 28 "GrazeBook$Grazing" "all" "I"]
def wsX8_grazeAll_r2 : List Cond := [Cond.fieldLink RX3 31 "GrazeBook$Grazing" "eaten" "I", Cond.methodLink RX8 185 yX2_parts, Cond.instanceMethod yX2_parts, Cond.selects RX2 yX2_parts yX2_parts, Cond.initialized RX2, Cond.code yX2_parts cX2_parts 1 (some .int), Cond.fieldLink RX2 30 "GrazeBook$Drove" "sort" "I", Cond.fieldLink RX2 33 "GrazeBook$Drove" "beasts" "I", Cond.methodLink RX8 328 yX3_add, Cond.instanceMethod yX3_add, Cond.selects RX3 yX3_add yX3_add, Cond.code yX3_add cX3_add 3 none, Cond.fieldLink RX3 9 "GrazeBook$Grazing" "numbers" "[I", Cond.fieldLink RX3 15 "GrazeBook$Grazing" "partsOf" "[I", Cond.fieldLink RX3 18 "GrazeBook$Grazing" "hungers" "[I", Cond.methodLink RX8 331 yX7_rainOn, Cond.instanceMethod yX7_rainOn, Cond.selects RX7 yX7_rainOn yX7_rainOn, Cond.initialized RX7, Cond.code yX7_rainOn cX7_rainOn 2 (some .int), Cond.fieldLink RX7 15 "GrazeBook$Year" "skies" "[I", Cond.methodLink RX8 334 yX7_rateOn, Cond.instanceMethod yX7_rateOn, Cond.selects RX7 yX7_rateOn yX7_rateOn]
def wsX8_grazeAll_r3 : List Cond := [Cond.code yX7_rateOn cX7_rateOn 2 (some .int), Cond.fieldLink RX7 11 "GrazeBook$Year" "rates" "[I", Cond.methodLink RX8 337 yX3_passDay, Cond.instanceMethod yX3_passDay, Cond.selects RX3 yX3_passDay yX3_passDay, Cond.code yX3_passDay cX3_passDay 7 (some .int), Cond.fieldLink RX3 38 "GrazeBook$Ground" "full" "I", Cond.methodLink RX3 47 Lib.Math.min.name, Cond.static Lib.Math.min.name, Cond.initialized "java/lang/Math", Cond.code Lib.Math.min.name Lib.Math.min.code 2 (some .int), Cond.fieldLink RX3 56 "GrazeBook$Ground" "water" "Z", Cond.methodLink RX3 34 yX3_tread, Cond.instanceMethod yX3_tread, Cond.selects RX3 yX3_tread yX3_tread, Cond.code yX3_tread cX3_tread 3 (some .int), Cond.methodLink RX3 60 Lib.Math.max.name, Cond.static Lib.Math.max.name, Cond.code Lib.Math.max.name Lib.Math.max.code 2 (some .int), Cond.methodLink RX3 43 yX3_grow, Cond.static yX3_grow, Cond.code yX3_grow cX3_grow 3 (some .int), Cond.methodLink RX3 52 yX3_shareHunger, Cond.instanceMethod yX3_shareHunger]
def wsX8_grazeAll_r4 : List Cond := [Cond.selects RX3 yX3_shareHunger yX3_shareHunger, Cond.code yX3_shareHunger cX3_shareHunger 5 none, Cond.fieldLink RX3 21 "GrazeBook$Grazing" "remainders" "[I", Cond.methodLink RX3 63 yX3_greatestRemainder, Cond.instanceMethod yX3_greatestRemainder, Cond.selects RX3 yX3_greatestRemainder yX3_greatestRemainder, Cond.code yX3_greatestRemainder cX3_greatestRemainder 3 (some .int), Cond.methodLink RX8 342 yX3_hungerOf, Cond.instanceMethod yX3_hungerOf, Cond.selects RX3 yX3_hungerOf yX3_hungerOf, Cond.code yX3_hungerOf cX3_hungerOf 3 (some .int)]
def wsX8_grazeAll : List Cond := .code yX8_grazeAll cX8_grazeAll 3 (some .int) :: ((wsX8_grazeAll_r1 ++ (wsX8_grazeAll_r2 ++ (wsX8_grazeAll_r3 ++ wsX8_grazeAll_r4))) ++ wsX80 ++ wsX20 ++ wsX40 ++ wsX30 ++ wsX70)
def wsX8_sellFromPound_r1 : List Cond := [Cond.fieldLink RX8 88 "GrazeBook" "herdCount" "I", Cond.fieldLink RX8 40 "GrazeBook" "herds" "[LGrazeBook$Drove;", Cond.fieldLink RX8 160 "GrazeBook$Drove" "state" "I", Cond.fieldLink RX8 91 "GrazeBook" "day" "I", Cond.methodLink RX8 348 Lib.Math.min.name, Cond.static Lib.Math.min.name, Cond.initialized "java/lang/Math", Cond.code Lib.Math.min.name Lib.Math.min.code 2 (some .int), Cond.fieldLink RX8 17 "GrazeBook" "owners" "[LGrazeBook$Purse;", Cond.fieldLink RX8 169 "GrazeBook$Drove" "owner" "I", Cond.fieldLink RX8 228 "GrazeBook$Purse" "coins" "I", Cond.fieldLink RX8 24 "GrazeBook" "reeve" "LGrazeBook$Purse;", Cond.methodLink RX8 345 yX2_daysInPound, Cond.instanceMethod yX2_daysInPound, Cond.selects RX2 yX2_daysInPound yX2_daysInPound, Cond.initialized RX2, Cond.code yX2_daysInPound cX2_daysInPound 2 (some .int), Cond.fieldLink RX2 21 "GrazeBook$Drove" "state" "I", Cond.fieldLink RX2 24 "GrazeBook$Drove" "poundedOn" "I", Cond.methodLink RX8 185 yX2_parts, Cond.instanceMethod yX2_parts, Cond.selects RX2 yX2_parts yX2_parts, Cond.code yX2_parts cX2_parts 1 (some .int), Cond.fieldLink RX2 30 "GrazeBook$Drove" "sort" "I"]
def wsX8_sellFromPound_r2 : List Cond := [Cond.fieldLink RX2 33 "GrazeBook$Drove" "beasts" "I", Cond.methodLink RX8 225 yX2_fee, Cond.instanceMethod yX2_fee, Cond.selects RX2 yX2_fee yX2_fee, Cond.code yX2_fee cX2_fee 2 (some .int), Cond.methodLink RX2 40 yX2_daysInPound]
def wsX8_sellFromPound : List Cond := .code yX8_sellFromPound cX8_sellFromPound 5 none :: ((wsX8_sellFromPound_r1 ++ wsX8_sellFromPound_r2) ++ wsX80 ++ wsX20 ++ wsX50)
def wsX8_hasHerdFor_r1 : List Cond := [Cond.fieldLink RX8 88 "GrazeBook" "herdCount" "I", Cond.fieldLink RX8 40 "GrazeBook" "herds" "[LGrazeBook$Drove;", Cond.fieldLink RX8 169 "GrazeBook$Drove" "owner" "I", Cond.methodLink RX8 256 yX8_holder, Cond.instanceMethod yX8_holder, Cond.selects RX8 yX8_holder yX8_holder, Cond.initialized RX8, Cond.code yX8_holder cX8_holder 2 (some .int), Cond.fieldLink RX8 140 "GrazeBook$Claim" "kind" "I", Cond.fieldLink RX8 152 "GrazeBook$Claim" "who" "I", Cond.fieldLink RX8 28 "GrazeBook" "houses" "[I", Cond.methodLink RX8 124 yX8_isHouse, Cond.instanceMethod yX8_isHouse, Cond.selects RX8 yX8_isHouse yX8_isHouse, Cond.code yX8_isHouse cX8_isHouse 2 (some .boolean), Cond.fieldLink RX8 82 "GrazeBook" "houseCount" "I", Cond.methodLink RX8 355 yX0_fits, Cond.instanceMethod yX0_fits, Cond.selects RX0 yX0_fits yX0_fits, Cond.initialized RX0, Cond.code yX0_fits cX0_fits 2 (some .boolean), Cond.fieldLink RX0 40 "GrazeBook$Drove" "piece" "I", Cond.fieldLink RX0 19 "GrazeBook$Claim" "kind" "I", Cond.fieldLink RX0 43 "GrazeBook$Drove" "sort" "I"]
def wsX8_hasHerdFor_r2 : List Cond := [Cond.fieldLink RX0 34 "GrazeBook$Claim" "piece" "I"]
def wsX8_hasHerdFor : List Cond := .code yX8_hasHerdFor cX8_hasHerdFor 4 (some .boolean) :: ((wsX8_hasHerdFor_r1 ++ wsX8_hasHerdFor_r2) ++ wsX80 ++ wsX20 ++ wsX00)
def wsX8_findUsed_r1 : List Cond := [Cond.fieldLink RX8 85 "GrazeBook" "rightCount" "I", Cond.fieldLink RX8 34 "GrazeBook" "rights" "[LGrazeBook$Claim;", Cond.fieldLink RX8 91 "GrazeBook" "day" "I", Cond.fieldLink RX8 269 "GrazeBook$Claim" "usedOn" "I", Cond.fieldLink RX8 266 "GrazeBook$Claim" "source" "I", Cond.methodLink RX8 143 yX0_isInForce, Cond.instanceMethod yX0_isInForce, Cond.selects RX0 yX0_isInForce yX0_isInForce, Cond.initialized RX0, Cond.code yX0_isInForce cX0_isInForce 2 (some .boolean), Cond.fieldLink RX0 15 "GrazeBook$Claim" "gone" "Z", Cond.fieldLink RX0 28 "GrazeBook$Claim" "first" "I", Cond.fieldLink RX0 31 "GrazeBook$Claim" "last" "I", Cond.methodLink RX8 351 yX8_hasHerdFor, Cond.instanceMethod yX8_hasHerdFor, Cond.selects RX8 yX8_hasHerdFor yX8_hasHerdFor, Cond.initialized RX8, Cond.code yX8_hasHerdFor cX8_hasHerdFor 4 (some .boolean), Cond.fieldLink RX8 88 "GrazeBook" "herdCount" "I", Cond.fieldLink RX8 40 "GrazeBook" "herds" "[LGrazeBook$Drove;", Cond.fieldLink RX8 169 "GrazeBook$Drove" "owner" "I", Cond.methodLink RX8 256 yX8_holder, Cond.instanceMethod yX8_holder, Cond.selects RX8 yX8_holder yX8_holder]
def wsX8_findUsed_r2 : List Cond := [Cond.code yX8_holder cX8_holder 2 (some .int), Cond.fieldLink RX8 140 "GrazeBook$Claim" "kind" "I", Cond.fieldLink RX8 152 "GrazeBook$Claim" "who" "I", Cond.fieldLink RX8 28 "GrazeBook" "houses" "[I", Cond.methodLink RX8 124 yX8_isHouse, Cond.instanceMethod yX8_isHouse, Cond.selects RX8 yX8_isHouse yX8_isHouse, Cond.code yX8_isHouse cX8_isHouse 2 (some .boolean), Cond.fieldLink RX8 82 "GrazeBook" "houseCount" "I", Cond.methodLink RX8 355 yX0_fits, Cond.instanceMethod yX0_fits, Cond.selects RX0 yX0_fits yX0_fits, Cond.code yX0_fits cX0_fits 2 (some .boolean), Cond.fieldLink RX0 40 "GrazeBook$Drove" "piece" "I", Cond.fieldLink RX0 19 "GrazeBook$Claim" "kind" "I", Cond.fieldLink RX0 43 "GrazeBook$Drove" "sort" "I", Cond.fieldLink RX0 34 "GrazeBook$Claim" "piece" "I", Cond.methodLink RX8 146 yX8_countingParts, Cond.instanceMethod yX8_countingParts, Cond.selects RX8 yX8_countingParts yX8_countingParts, Cond.code yX8_countingParts cX8_countingParts 4 (some .int), Cond.fieldLink RX8 309 "GrazeBook$Claim" "parts" "I", Cond.methodLink RX8 253 yX8_isRight, Cond.instanceMethod yX8_isRight]
def wsX8_findUsed_r3 : List Cond := [Cond.selects RX8 yX8_isRight yX8_isRight, Cond.code yX8_isRight cX8_isRight 2 (some .boolean)]
def wsX8_findUsed : List Cond := .code yX8_findUsed cX8_findUsed 3 none :: ((wsX8_findUsed_r1 ++ (wsX8_findUsed_r2 ++ wsX8_findUsed_r3)) ++ wsX80 ++ wsX00 ++ wsX20)
def wsX8_lapse : List Cond := .code yX8_lapse cX8_lapse 4 none :: ([.fieldLink RX8 85 "GrazeBook" "rightCount" "I", .fieldLink RX8 34 "GrazeBook" "rights" "[LGrazeBook$Claim;", .fieldLink RX8 91 "GrazeBook" "day" "I", .fieldLink RX8 259 "GrazeBook$Claim" "first" "I", .fieldLink RX8 269 "GrazeBook$Claim" "usedOn" "I", .fieldLink RX8 262 "GrazeBook$Claim" "gone" "Z", .fieldLink RX8 97 "GrazeBook" "lapses" "I", .methodLink RX8 143 yX0_isInForce, .instanceMethod yX0_isInForce, .selects RX0 yX0_isInForce yX0_isInForce, .initialized RX0, .code yX0_isInForce cX0_isInForce 2 (some .boolean), .fieldLink RX0 15 "GrazeBook$Claim" "gone" "Z", .fieldLink RX0 28 "GrazeBook$Claim" "first" "I", .fieldLink RX0 31 "GrazeBook$Claim" "last" "I"] ++ wsX80 ++ wsX00)
def wsX8_pass_r1 : List Cond := [Cond.fieldLink RX8 91 "GrazeBook" "day" "I", Cond.methodLink RX8 100 yX8_refuse, Cond.instanceMethod yX8_refuse, Cond.selects RX8 yX8_refuse yX8_refuse, Cond.initialized RX8, Cond.code yX8_refuse cX8_refuse 2 (some .int), Cond.fieldLink RX8 72 "GrazeBook" "refusals" "[I", Cond.methodLink RX8 192 yX8_grazeAll, Cond.instanceMethod yX8_grazeAll, Cond.selects RX8 yX8_grazeAll yX8_grazeAll, Cond.code yX8_grazeAll cX8_grazeAll 3 (some .int), Cond.fieldLink RX8 75 "GrazeBook" "pieceCount" "I", Cond.methodLink RX8 324 yX8_graze, Cond.instanceMethod yX8_graze, Cond.selects RX8 yX8_graze yX8_graze, Cond.code yX8_graze cX8_graze 6 (some .int), Cond.fieldLink RX8 61 "GrazeBook" "grazing" "LGrazeBook$Grazing;", Cond.fieldLink RX8 88 "GrazeBook" "herdCount" "I", Cond.fieldLink RX8 40 "GrazeBook" "herds" "[LGrazeBook$Drove;", Cond.fieldLink RX8 163 "GrazeBook$Drove" "piece" "I", Cond.fieldLink RX8 11 "GrazeBook" "pieces" "[LGrazeBook$Ground;", Cond.fieldLink RX8 210 "GrazeBook$Ground" "grass" "I", Cond.fieldLink RX8 47 "GrazeBook" "year" "LGrazeBook$Year;", Cond.fieldLink RX8 250 "GrazeBook$Ground" "eaten" "I"]
def wsX8_pass_r2 : List Cond := [Cond.fieldLink RX8 341 "GrazeBook$Grazing" "eaten" "I", Cond.fieldLink RX8 278 "GrazeBook$Drove" "hunger" "I", Cond.methodLink RX8 327 yX3_clear, Cond.instanceMethod yX3_clear, Cond.selects RX3 yX3_clear yX3_clear, Cond.initialized RX3, Cond.code yX3_clear cX3_clear 1 none, Cond.fieldLink RX3 24 "GrazeBook$Grazing" "size" "I", Cond.fieldLink RX3 28 "GrazeBook$Grazing" "all" "I", Cond.fieldLink RX3 31 "GrazeBook$Grazing" "eaten" "I", Cond.methodLink RX8 185 yX2_parts, Cond.instanceMethod yX2_parts, Cond.selects RX2 yX2_parts yX2_parts, Cond.initialized RX2, Cond.code yX2_parts cX2_parts 1 (some .int), Cond.fieldLink RX2 30 "GrazeBook$Drove" "sort" "I", Cond.fieldLink RX2 33 "GrazeBook$Drove" "beasts" "I", Cond.methodLink RX8 328 yX3_add, Cond.instanceMethod yX3_add, Cond.selects RX3 yX3_add yX3_add, Cond.code yX3_add cX3_add 3 none, Cond.fieldLink RX3 9 "GrazeBook$Grazing" "numbers" "[I", Cond.fieldLink RX3 15 "GrazeBook$Grazing" "partsOf" "[I", Cond.fieldLink RX3 18 "GrazeBook$Grazing" "hungers" "[I"]
def wsX8_pass_r3 : List Cond := [Cond.methodLink RX8 331 yX7_rainOn, Cond.instanceMethod yX7_rainOn, Cond.selects RX7 yX7_rainOn yX7_rainOn, Cond.initialized RX7, Cond.code yX7_rainOn cX7_rainOn 2 (some .int), Cond.fieldLink RX7 15 "GrazeBook$Year" "skies" "[I", Cond.methodLink RX8 334 yX7_rateOn, Cond.instanceMethod yX7_rateOn, Cond.selects RX7 yX7_rateOn yX7_rateOn, Cond.code yX7_rateOn cX7_rateOn 2 (some .int), Cond.fieldLink RX7 11 "GrazeBook$Year" "rates" "[I", Cond.methodLink RX8 337 yX3_passDay, Cond.instanceMethod yX3_passDay, Cond.selects RX3 yX3_passDay yX3_passDay, Cond.code yX3_passDay cX3_passDay 7 (some .int), Cond.fieldLink RX3 38 "GrazeBook$Ground" "full" "I", Cond.methodLink RX3 47 Lib.Math.min.name, Cond.static Lib.Math.min.name, Cond.initialized "java/lang/Math", Cond.code Lib.Math.min.name Lib.Math.min.code 2 (some .int), Cond.fieldLink RX3 56 "GrazeBook$Ground" "water" "Z", Cond.methodLink RX3 34 yX3_tread, Cond.instanceMethod yX3_tread, Cond.selects RX3 yX3_tread yX3_tread]
def wsX8_pass_r4 : List Cond := [Cond.code yX3_tread cX3_tread 3 (some .int), Cond.methodLink RX3 60 Lib.Math.max.name, Cond.static Lib.Math.max.name, Cond.code Lib.Math.max.name Lib.Math.max.code 2 (some .int), Cond.methodLink RX3 43 yX3_grow, Cond.static yX3_grow, Cond.code yX3_grow cX3_grow 3 (some .int), Cond.methodLink RX3 52 yX3_shareHunger, Cond.instanceMethod yX3_shareHunger, Cond.selects RX3 yX3_shareHunger yX3_shareHunger, Cond.code yX3_shareHunger cX3_shareHunger 5 none, Cond.fieldLink RX3 21 "GrazeBook$Grazing" "remainders" "[I", Cond.methodLink RX3 63 yX3_greatestRemainder, Cond.instanceMethod yX3_greatestRemainder, Cond.selects RX3 yX3_greatestRemainder yX3_greatestRemainder, Cond.code yX3_greatestRemainder cX3_greatestRemainder 3 (some .int), Cond.methodLink RX8 342 yX3_hungerOf, Cond.instanceMethod yX3_hungerOf, Cond.selects RX3 yX3_hungerOf yX3_hungerOf, Cond.code yX3_hungerOf cX3_hungerOf 3 (some .int), Cond.methodLink RX8 195 yX8_sellFromPound, Cond.instanceMethod yX8_sellFromPound, Cond.selects RX8 yX8_sellFromPound yX8_sellFromPound, Cond.code yX8_sellFromPound cX8_sellFromPound 5 none]
def wsX8_pass_r5 : List Cond := [Cond.fieldLink RX8 160 "GrazeBook$Drove" "state" "I", Cond.methodLink RX8 348 Lib.Math.min.name, Cond.fieldLink RX8 17 "GrazeBook" "owners" "[LGrazeBook$Purse;", Cond.fieldLink RX8 169 "GrazeBook$Drove" "owner" "I", Cond.fieldLink RX8 228 "GrazeBook$Purse" "coins" "I", Cond.fieldLink RX8 24 "GrazeBook" "reeve" "LGrazeBook$Purse;", Cond.methodLink RX8 345 yX2_daysInPound, Cond.instanceMethod yX2_daysInPound, Cond.selects RX2 yX2_daysInPound yX2_daysInPound, Cond.code yX2_daysInPound cX2_daysInPound 2 (some .int), Cond.fieldLink RX2 21 "GrazeBook$Drove" "state" "I", Cond.fieldLink RX2 24 "GrazeBook$Drove" "poundedOn" "I", Cond.methodLink RX8 225 yX2_fee, Cond.instanceMethod yX2_fee, Cond.selects RX2 yX2_fee yX2_fee, Cond.code yX2_fee cX2_fee 2 (some .int), Cond.methodLink RX2 40 yX2_daysInPound, Cond.methodLink RX8 198 yX8_findUsed, Cond.instanceMethod yX8_findUsed, Cond.selects RX8 yX8_findUsed yX8_findUsed, Cond.code yX8_findUsed cX8_findUsed 3 none, Cond.fieldLink RX8 85 "GrazeBook" "rightCount" "I", Cond.fieldLink RX8 34 "GrazeBook" "rights" "[LGrazeBook$Claim;", Cond.fieldLink RX8 269 "GrazeBook$Claim" "usedOn" "I"]
def wsX8_pass_r6 : List Cond := [Cond.fieldLink RX8 266 "GrazeBook$Claim" "source" "I", Cond.methodLink RX8 143 yX0_isInForce, Cond.instanceMethod yX0_isInForce, Cond.selects RX0 yX0_isInForce yX0_isInForce, Cond.initialized RX0, Cond.code yX0_isInForce cX0_isInForce 2 (some .boolean), Cond.fieldLink RX0 15 "GrazeBook$Claim" "gone" "Z", Cond.fieldLink RX0 28 "GrazeBook$Claim" "first" "I", Cond.fieldLink RX0 31 "GrazeBook$Claim" "last" "I", Cond.methodLink RX8 351 yX8_hasHerdFor, Cond.instanceMethod yX8_hasHerdFor, Cond.selects RX8 yX8_hasHerdFor yX8_hasHerdFor, Cond.code yX8_hasHerdFor cX8_hasHerdFor 4 (some .boolean), Cond.methodLink RX8 256 yX8_holder, Cond.instanceMethod yX8_holder, Cond.selects RX8 yX8_holder yX8_holder, Cond.code yX8_holder cX8_holder 2 (some .int), Cond.fieldLink RX8 140 "GrazeBook$Claim" "kind" "I", Cond.fieldLink RX8 152 "GrazeBook$Claim" "who" "I", Cond.fieldLink RX8 28 "GrazeBook" "houses" "[I", Cond.methodLink RX8 124 yX8_isHouse, Cond.instanceMethod yX8_isHouse, Cond.selects RX8 yX8_isHouse yX8_isHouse, Cond.code yX8_isHouse cX8_isHouse 2 (some .boolean)]
def wsX8_pass_r7 : List Cond := [Cond.fieldLink RX8 82 "GrazeBook" "houseCount" "I", Cond.methodLink RX8 355 yX0_fits, Cond.instanceMethod yX0_fits, Cond.selects RX0 yX0_fits yX0_fits, Cond.code yX0_fits cX0_fits 2 (some .boolean), Cond.fieldLink RX0 40 "GrazeBook$Drove" "piece" "I", Cond.fieldLink RX0 19 "GrazeBook$Claim" "kind" "I", Cond.fieldLink RX0 43 "GrazeBook$Drove" "sort" "I", Cond.fieldLink RX0 34 "GrazeBook$Claim" "piece" "I", Cond.methodLink RX8 146 yX8_countingParts, Cond.instanceMethod yX8_countingParts, Cond.selects RX8 yX8_countingParts yX8_countingParts, Cond.code yX8_countingParts cX8_countingParts 4 (some .int), Cond.fieldLink RX8 309 "GrazeBook$Claim" "parts" "I", Cond.methodLink RX8 253 yX8_isRight, Cond.instanceMethod yX8_isRight, Cond.selects RX8 yX8_isRight yX8_isRight, Cond.code yX8_isRight cX8_isRight 2 (some .boolean), Cond.methodLink RX8 201 yX8_lapse, Cond.instanceMethod yX8_lapse, Cond.selects RX8 yX8_lapse yX8_lapse, Cond.code yX8_lapse cX8_lapse 4 none, Cond.fieldLink RX8 259 "GrazeBook$Claim" "first" "I", Cond.fieldLink RX8 262 "GrazeBook$Claim" "gone" "Z"]
def wsX8_pass_r8 : List Cond := [Cond.fieldLink RX8 97 "GrazeBook" "lapses" "I"]
def wsX8_pass : List Cond := .code yX8_pass cX8_pass 4 (some .int) :: ((wsX8_pass_r1 ++ (wsX8_pass_r2 ++ (wsX8_pass_r3 ++ (wsX8_pass_r4 ++ (wsX8_pass_r5 ++ (wsX8_pass_r6 ++ (wsX8_pass_r7 ++ wsX8_pass_r8))))))) ++ wsX80 ++ wsX20 ++ wsX40 ++ wsX30 ++ wsX70 ++ wsX50 ++ wsX00)
def wsX8_rest : List Cond := .code yX8_rest cX8_rest 4 (some .int) :: ([.fieldLink RX8 91 "GrazeBook" "day" "I", .fieldLink RX8 11 "GrazeBook" "pieces" "[LGrazeBook$Ground;", .fieldLink RX8 204 "GrazeBook$Ground" "rest" "I", .methodLink RX8 127 yX8_isPiece, .instanceMethod yX8_isPiece, .selects RX8 yX8_isPiece yX8_isPiece, .initialized RX8, .code yX8_isPiece cX8_isPiece 2 (some .boolean), .fieldLink RX8 75 "GrazeBook" "pieceCount" "I", .methodLink RX8 100 yX8_refuse, .instanceMethod yX8_refuse, .selects RX8 yX8_refuse yX8_refuse, .code yX8_refuse cX8_refuse 2 (some .int), .fieldLink RX8 72 "GrazeBook" "refusals" "[I"] ++ wsX80 ++ wsX40)
def wsX8_herdsOn : List Cond := .code yX8_herdsOn cX8_herdsOn 4 (some .int) :: ([.fieldLink RX8 88 "GrazeBook" "herdCount" "I", .fieldLink RX8 40 "GrazeBook" "herds" "[LGrazeBook$Drove;", .fieldLink RX8 163 "GrazeBook$Drove" "piece" "I"] ++ wsX80 ++ wsX20)
def wsX8_shareHay_r1 : List Cond := [Cond.fieldLink RX8 79 "GrazeBook" "ownerCount" "I", Cond.fieldLink RX8 17 "GrazeBook" "owners" "[LGrazeBook$Purse;", Cond.fieldLink RX8 281 "GrazeBook$Purse" "hay" "I", Cond.fieldLink RX8 24 "GrazeBook" "reeve" "LGrazeBook$Purse;", Cond.methodLink RX8 284 yX8_coverOf, Cond.instanceMethod yX8_coverOf, Cond.selects RX8 yX8_coverOf yX8_coverOf, Cond.initialized RX8, Cond.code yX8_coverOf cX8_coverOf 3 (some (.object "GrazeBook$Cover")), Cond.fieldLink RX8 54 "GrazeBook" "cover" "LGrazeBook$Cover;", Cond.fieldLink RX8 88 "GrazeBook" "herdCount" "I", Cond.fieldLink RX8 40 "GrazeBook" "herds" "[LGrazeBook$Drove;", Cond.fieldLink RX8 169 "GrazeBook$Drove" "owner" "I", Cond.fieldLink RX8 85 "GrazeBook" "rightCount" "I", Cond.fieldLink RX8 34 "GrazeBook" "rights" "[LGrazeBook$Claim;", Cond.methodLink RX8 311 yX1_clear, Cond.instanceMethod yX1_clear, Cond.selects RX1 yX1_clear yX1_clear, Cond.initialized RX1, Cond.code yX1_clear cX1_clear 2 none, Cond.fieldLink RX1 9 "GrazeBook$Cover" "sheepOn" "[I", Cond.fieldLink RX1 15 "GrazeBook$Cover" "othersOn" "[I", Cond.fieldLink RX1 18 "GrazeBook$Cover" "leazesFor" "[I", Cond.fieldLink RX1 21 "GrazeBook$Cover" "walks" "I"]
def wsX8_shareHay_r2 : List Cond := [Cond.fieldLink RX1 25 "GrazeBook$Cover" "forAny" "I", Cond.methodLink RX8 314 yX1_addHerd, Cond.instanceMethod yX1_addHerd, Cond.selects RX1 yX1_addHerd yX1_addHerd, Cond.code yX1_addHerd cX1_addHerd 2 none, Cond.fieldLink RX1 28 "GrazeBook$Drove" "piece" "I", Cond.fieldLink RX1 33 "GrazeBook$Drove" "sort" "I", Cond.methodLink RX1 36 yX2_parts, Cond.instanceMethod yX2_parts, Cond.selects RX2 yX2_parts yX2_parts, Cond.initialized RX2, Cond.code yX2_parts cX2_parts 1 (some .int), Cond.fieldLink RX2 30 "GrazeBook$Drove" "sort" "I", Cond.fieldLink RX2 33 "GrazeBook$Drove" "beasts" "I", Cond.methodLink RX8 256 yX8_holder, Cond.instanceMethod yX8_holder, Cond.selects RX8 yX8_holder yX8_holder, Cond.code yX8_holder cX8_holder 2 (some .int), Cond.fieldLink RX8 140 "GrazeBook$Claim" "kind" "I", Cond.fieldLink RX8 152 "GrazeBook$Claim" "who" "I", Cond.fieldLink RX8 28 "GrazeBook" "houses" "[I", Cond.methodLink RX8 124 yX8_isHouse, Cond.instanceMethod yX8_isHouse, Cond.selects RX8 yX8_isHouse yX8_isHouse]
def wsX8_shareHay_r3 : List Cond := [Cond.code yX8_isHouse cX8_isHouse 2 (some .boolean), Cond.fieldLink RX8 82 "GrazeBook" "houseCount" "I", Cond.methodLink RX8 146 yX8_countingParts, Cond.instanceMethod yX8_countingParts, Cond.selects RX8 yX8_countingParts yX8_countingParts, Cond.code yX8_countingParts cX8_countingParts 4 (some .int), Cond.fieldLink RX8 91 "GrazeBook" "day" "I", Cond.fieldLink RX8 309 "GrazeBook$Claim" "parts" "I", Cond.fieldLink RX8 266 "GrazeBook$Claim" "source" "I", Cond.methodLink RX8 143 yX0_isInForce, Cond.instanceMethod yX0_isInForce, Cond.selects RX0 yX0_isInForce yX0_isInForce, Cond.initialized RX0, Cond.code yX0_isInForce cX0_isInForce 2 (some .boolean), Cond.fieldLink RX0 15 "GrazeBook$Claim" "gone" "Z", Cond.fieldLink RX0 28 "GrazeBook$Claim" "first" "I", Cond.fieldLink RX0 31 "GrazeBook$Claim" "last" "I", Cond.methodLink RX8 318 yX1_addRight, Cond.instanceMethod yX1_addRight, Cond.selects RX1 yX1_addRight yX1_addRight, Cond.code yX1_addRight cX1_addRight 3 none, Cond.fieldLink RX1 40 "GrazeBook$Claim" "kind" "I", Cond.fieldLink RX1 45 "GrazeBook$Claim" "piece" "I", Cond.methodLink RX8 359 yX1_partsForHay]
def wsX8_shareHay_r4 : List Cond := [Cond.instanceMethod yX1_partsForHay, Cond.selects RX1 yX1_partsForHay yX1_partsForHay, Cond.code yX1_partsForHay cX1_partsForHay 2 (some .int)]
def wsX8_shareHay : List Cond := .code yX8_shareHay cX8_shareHay 7 none :: ((wsX8_shareHay_r1 ++ (wsX8_shareHay_r2 ++ (wsX8_shareHay_r3 ++ wsX8_shareHay_r4))) ++ wsX80 ++ wsX50 ++ wsX20 ++ wsX10 ++ wsX00)
def wsX8_cut_r1 : List Cond := [Cond.fieldLink RX8 11 "GrazeBook" "pieces" "[LGrazeBook$Ground;", Cond.fieldLink RX8 91 "GrazeBook" "day" "I", Cond.fieldLink RX8 210 "GrazeBook$Ground" "grass" "I", Cond.methodLink RX8 213 Lib.Math.max.name, Cond.static Lib.Math.max.name, Cond.initialized "java/lang/Math", Cond.code Lib.Math.max.name Lib.Math.max.code 2 (some .int), Cond.fieldLink RX8 204 "GrazeBook$Ground" "rest" "I", Cond.methodLink RX8 127 yX8_isPiece, Cond.instanceMethod yX8_isPiece, Cond.selects RX8 yX8_isPiece yX8_isPiece, Cond.initialized RX8, Cond.code yX8_isPiece cX8_isPiece 2 (some .boolean), Cond.fieldLink RX8 75 "GrazeBook" "pieceCount" "I", Cond.methodLink RX8 100 yX8_refuse, Cond.instanceMethod yX8_refuse, Cond.selects RX8 yX8_refuse yX8_refuse, Cond.code yX8_refuse cX8_refuse 2 (some .int), Cond.fieldLink RX8 72 "GrazeBook" "refusals" "[I", Cond.methodLink RX8 166 yX4_restsOn, Cond.instanceMethod yX4_restsOn, Cond.selects RX4 yX4_restsOn yX4_restsOn, Cond.initialized RX4, Cond.code yX4_restsOn cX4_restsOn 2 (some .boolean)]
def wsX8_cut_r2 : List Cond := [Cond.fieldLink RX4 7 "GrazeBook$Ground" "rest" "I", Cond.methodLink RX8 207 yX8_herdsOn, Cond.instanceMethod yX8_herdsOn, Cond.selects RX8 yX8_herdsOn yX8_herdsOn, Cond.code yX8_herdsOn cX8_herdsOn 4 (some .int), Cond.fieldLink RX8 88 "GrazeBook" "herdCount" "I", Cond.fieldLink RX8 40 "GrazeBook" "herds" "[LGrazeBook$Drove;", Cond.fieldLink RX8 163 "GrazeBook$Drove" "piece" "I", Cond.methodLink RX8 218 yX8_shareHay, Cond.instanceMethod yX8_shareHay, Cond.selects RX8 yX8_shareHay yX8_shareHay, Cond.code yX8_shareHay cX8_shareHay 7 none, Cond.fieldLink RX8 79 "GrazeBook" "ownerCount" "I", Cond.fieldLink RX8 17 "GrazeBook" "owners" "[LGrazeBook$Purse;", Cond.fieldLink RX8 281 "GrazeBook$Purse" "hay" "I", Cond.fieldLink RX8 24 "GrazeBook" "reeve" "LGrazeBook$Purse;", Cond.methodLink RX8 284 yX8_coverOf, Cond.instanceMethod yX8_coverOf, Cond.selects RX8 yX8_coverOf yX8_coverOf, Cond.code yX8_coverOf cX8_coverOf 3 (some (.object "GrazeBook$Cover")), Cond.fieldLink RX8 54 "GrazeBook" "cover" "LGrazeBook$Cover;", Cond.fieldLink RX8 169 "GrazeBook$Drove" "owner" "I", Cond.fieldLink RX8 85 "GrazeBook" "rightCount" "I", Cond.fieldLink RX8 34 "GrazeBook" "rights" "[LGrazeBook$Claim;"]
def wsX8_cut_r3 : List Cond := [Cond.methodLink RX8 311 yX1_clear, Cond.instanceMethod yX1_clear, Cond.selects RX1 yX1_clear yX1_clear, Cond.initialized RX1, Cond.code yX1_clear cX1_clear 2 none, Cond.fieldLink RX1 9 "GrazeBook$Cover" "sheepOn" "[I", Cond.fieldLink RX1 15 "GrazeBook$Cover" "othersOn" "[I", Cond.fieldLink RX1 18 "GrazeBook$Cover" "leazesFor" "[I", Cond.fieldLink RX1 21 "GrazeBook$Cover" "walks" "I", Cond.fieldLink RX1 25 "GrazeBook$Cover" "forAny" "I", Cond.methodLink RX8 314 yX1_addHerd, Cond.instanceMethod yX1_addHerd, Cond.selects RX1 yX1_addHerd yX1_addHerd, Cond.code yX1_addHerd cX1_addHerd 2 none, Cond.fieldLink RX1 28 "GrazeBook$Drove" "piece" "I", Cond.fieldLink RX1 33 "GrazeBook$Drove" "sort" "I", Cond.methodLink RX1 36 yX2_parts, Cond.instanceMethod yX2_parts, Cond.selects RX2 yX2_parts yX2_parts, Cond.initialized RX2, Cond.code yX2_parts cX2_parts 1 (some .int), Cond.fieldLink RX2 30 "GrazeBook$Drove" "sort" "I", Cond.fieldLink RX2 33 "GrazeBook$Drove" "beasts" "I", Cond.methodLink RX8 256 yX8_holder]
def wsX8_cut_r4 : List Cond := [Cond.instanceMethod yX8_holder, Cond.selects RX8 yX8_holder yX8_holder, Cond.code yX8_holder cX8_holder 2 (some .int), Cond.fieldLink RX8 140 "GrazeBook$Claim" "kind" "I", Cond.fieldLink RX8 152 "GrazeBook$Claim" "who" "I", Cond.fieldLink RX8 28 "GrazeBook" "houses" "[I", Cond.methodLink RX8 124 yX8_isHouse, Cond.instanceMethod yX8_isHouse, Cond.selects RX8 yX8_isHouse yX8_isHouse, Cond.code yX8_isHouse cX8_isHouse 2 (some .boolean), Cond.fieldLink RX8 82 "GrazeBook" "houseCount" "I", Cond.methodLink RX8 146 yX8_countingParts, Cond.instanceMethod yX8_countingParts, Cond.selects RX8 yX8_countingParts yX8_countingParts, Cond.code yX8_countingParts cX8_countingParts 4 (some .int), Cond.fieldLink RX8 309 "GrazeBook$Claim" "parts" "I", Cond.fieldLink RX8 266 "GrazeBook$Claim" "source" "I", Cond.methodLink RX8 143 yX0_isInForce, Cond.instanceMethod yX0_isInForce, Cond.selects RX0 yX0_isInForce yX0_isInForce, Cond.initialized RX0, Cond.code yX0_isInForce cX0_isInForce 2 (some .boolean), Cond.fieldLink RX0 15 "GrazeBook$Claim" "gone" "Z", Cond.fieldLink RX0 28 "GrazeBook$Claim" "first" "I"]
def wsX8_cut_r5 : List Cond := [Cond.fieldLink RX0 31 "GrazeBook$Claim" "last" "I", Cond.methodLink RX8 318 yX1_addRight, Cond.instanceMethod yX1_addRight, Cond.selects RX1 yX1_addRight yX1_addRight, Cond.code yX1_addRight cX1_addRight 3 none, Cond.fieldLink RX1 40 "GrazeBook$Claim" "kind" "I", Cond.fieldLink RX1 45 "GrazeBook$Claim" "piece" "I", Cond.methodLink RX8 359 yX1_partsForHay, Cond.instanceMethod yX1_partsForHay, Cond.selects RX1 yX1_partsForHay yX1_partsForHay, Cond.code yX1_partsForHay cX1_partsForHay 2 (some .int)]
def wsX8_cut : List Cond := .code yX8_cut cX8_cut 4 (some .int) :: ((wsX8_cut_r1 ++ (wsX8_cut_r2 ++ (wsX8_cut_r3 ++ (wsX8_cut_r4 ++ wsX8_cut_r5)))) ++ wsX80 ++ wsX40 ++ wsX20 ++ wsX50 ++ wsX10 ++ wsX00)
def wsX8_pound_r1 : List Cond := [Cond.fieldLink RX8 40 "GrazeBook" "herds" "[LGrazeBook$Drove;", Cond.fieldLink RX8 163 "GrazeBook$Drove" "piece" "I", Cond.fieldLink RX8 169 "GrazeBook$Drove" "owner" "I", Cond.fieldLink RX8 160 "GrazeBook$Drove" "state" "I", Cond.fieldLink RX8 91 "GrazeBook" "day" "I", Cond.fieldLink RX8 222 "GrazeBook$Drove" "poundedOn" "I", Cond.methodLink RX8 157 yX8_isHerd, Cond.instanceMethod yX8_isHerd, Cond.selects RX8 yX8_isHerd yX8_isHerd, Cond.initialized RX8, Cond.code yX8_isHerd cX8_isHerd 2 (some .boolean), Cond.fieldLink RX8 88 "GrazeBook" "herdCount" "I", Cond.methodLink RX8 100 yX8_refuse, Cond.instanceMethod yX8_refuse, Cond.selects RX8 yX8_refuse yX8_refuse, Cond.code yX8_refuse cX8_refuse 2 (some .int), Cond.fieldLink RX8 72 "GrazeBook" "refusals" "[I", Cond.methodLink RX8 172 yX8_lackOf, Cond.instanceMethod yX8_lackOf, Cond.selects RX8 yX8_lackOf yX8_lackOf, Cond.code yX8_lackOf cX8_lackOf 2 (some .int), Cond.methodLink RX8 284 yX8_coverOf, Cond.instanceMethod yX8_coverOf, Cond.selects RX8 yX8_coverOf yX8_coverOf]
def wsX8_pound_r2 : List Cond := [Cond.code yX8_coverOf cX8_coverOf 3 (some (.object "GrazeBook$Cover")), Cond.fieldLink RX8 54 "GrazeBook" "cover" "LGrazeBook$Cover;", Cond.fieldLink RX8 85 "GrazeBook" "rightCount" "I", Cond.fieldLink RX8 34 "GrazeBook" "rights" "[LGrazeBook$Claim;", Cond.methodLink RX8 311 yX1_clear, Cond.instanceMethod yX1_clear, Cond.selects RX1 yX1_clear yX1_clear, Cond.initialized RX1, Cond.code yX1_clear cX1_clear 2 none, Cond.fieldLink RX1 9 "GrazeBook$Cover" "sheepOn" "[I", Cond.fieldLink RX1 15 "GrazeBook$Cover" "othersOn" "[I", Cond.fieldLink RX1 18 "GrazeBook$Cover" "leazesFor" "[I", Cond.fieldLink RX1 21 "GrazeBook$Cover" "walks" "I", Cond.fieldLink RX1 25 "GrazeBook$Cover" "forAny" "I", Cond.methodLink RX8 314 yX1_addHerd, Cond.instanceMethod yX1_addHerd, Cond.selects RX1 yX1_addHerd yX1_addHerd, Cond.code yX1_addHerd cX1_addHerd 2 none, Cond.fieldLink RX1 28 "GrazeBook$Drove" "piece" "I", Cond.fieldLink RX1 33 "GrazeBook$Drove" "sort" "I", Cond.methodLink RX1 36 yX2_parts, Cond.instanceMethod yX2_parts, Cond.selects RX2 yX2_parts yX2_parts, Cond.initialized RX2]
def wsX8_pound_r3 : List Cond := [Cond.code yX2_parts cX2_parts 1 (some .int), Cond.fieldLink RX2 30 "GrazeBook$Drove" "sort" "I", Cond.fieldLink RX2 33 "GrazeBook$Drove" "beasts" "I", Cond.methodLink RX8 256 yX8_holder, Cond.instanceMethod yX8_holder, Cond.selects RX8 yX8_holder yX8_holder, Cond.code yX8_holder cX8_holder 2 (some .int), Cond.fieldLink RX8 140 "GrazeBook$Claim" "kind" "I", Cond.fieldLink RX8 152 "GrazeBook$Claim" "who" "I", Cond.fieldLink RX8 28 "GrazeBook" "houses" "[I", Cond.methodLink RX8 124 yX8_isHouse, Cond.instanceMethod yX8_isHouse, Cond.selects RX8 yX8_isHouse yX8_isHouse, Cond.code yX8_isHouse cX8_isHouse 2 (some .boolean), Cond.fieldLink RX8 82 "GrazeBook" "houseCount" "I", Cond.methodLink RX8 146 yX8_countingParts, Cond.instanceMethod yX8_countingParts, Cond.selects RX8 yX8_countingParts yX8_countingParts, Cond.code yX8_countingParts cX8_countingParts 4 (some .int), Cond.fieldLink RX8 309 "GrazeBook$Claim" "parts" "I", Cond.fieldLink RX8 266 "GrazeBook$Claim" "source" "I", Cond.methodLink RX8 143 yX0_isInForce, Cond.instanceMethod yX0_isInForce, Cond.selects RX0 yX0_isInForce yX0_isInForce]
def wsX8_pound_r4 : List Cond := [Cond.initialized RX0, Cond.code yX0_isInForce cX0_isInForce 2 (some .boolean), Cond.fieldLink RX0 15 "GrazeBook$Claim" "gone" "Z", Cond.fieldLink RX0 28 "GrazeBook$Claim" "first" "I", Cond.fieldLink RX0 31 "GrazeBook$Claim" "last" "I", Cond.methodLink RX8 318 yX1_addRight, Cond.instanceMethod yX1_addRight, Cond.selects RX1 yX1_addRight yX1_addRight, Cond.code yX1_addRight cX1_addRight 3 none, Cond.fieldLink RX1 40 "GrazeBook$Claim" "kind" "I", Cond.fieldLink RX1 45 "GrazeBook$Claim" "piece" "I", Cond.methodLink RX8 321 yX1_lack, Cond.instanceMethod yX1_lack, Cond.selects RX1 yX1_lack yX1_lack, Cond.code yX1_lack cX1_lack 5 (some .int), Cond.methodLink RX1 46 Lib.Math.max.name, Cond.static Lib.Math.max.name, Cond.initialized "java/lang/Math", Cond.code Lib.Math.max.name Lib.Math.max.code 2 (some .int)]
def wsX8_pound : List Cond := .code yX8_pound cX8_pound 3 (some .int) :: ((wsX8_pound_r1 ++ (wsX8_pound_r2 ++ (wsX8_pound_r3 ++ wsX8_pound_r4))) ++ wsX80 ++ wsX20 ++ wsX10 ++ wsX00)
def wsX8_free_r1 : List Cond := [Cond.fieldLink RX8 40 "GrazeBook" "herds" "[LGrazeBook$Drove;", Cond.fieldLink RX8 160 "GrazeBook$Drove" "state" "I", Cond.fieldLink RX8 91 "GrazeBook" "day" "I", Cond.fieldLink RX8 17 "GrazeBook" "owners" "[LGrazeBook$Purse;", Cond.fieldLink RX8 169 "GrazeBook$Drove" "owner" "I", Cond.fieldLink RX8 228 "GrazeBook$Purse" "coins" "I", Cond.fieldLink RX8 24 "GrazeBook" "reeve" "LGrazeBook$Purse;", Cond.methodLink RX8 157 yX8_isHerd, Cond.instanceMethod yX8_isHerd, Cond.selects RX8 yX8_isHerd yX8_isHerd, Cond.initialized RX8, Cond.code yX8_isHerd cX8_isHerd 2 (some .boolean), Cond.fieldLink RX8 88 "GrazeBook" "herdCount" "I", Cond.methodLink RX8 100 yX8_refuse, Cond.instanceMethod yX8_refuse, Cond.selects RX8 yX8_refuse yX8_refuse, Cond.code yX8_refuse cX8_refuse 2 (some .int), Cond.fieldLink RX8 72 "GrazeBook" "refusals" "[I", Cond.methodLink RX8 225 yX2_fee, Cond.instanceMethod yX2_fee, Cond.selects RX2 yX2_fee yX2_fee, Cond.initialized RX2, Cond.code yX2_fee cX2_fee 2 (some .int), Cond.fieldLink RX2 33 "GrazeBook$Drove" "beasts" "I"]
def wsX8_free_r2 : List Cond := [Cond.methodLink RX2 40 yX2_daysInPound, Cond.instanceMethod yX2_daysInPound, Cond.selects RX2 yX2_daysInPound yX2_daysInPound, Cond.code yX2_daysInPound cX2_daysInPound 2 (some .int), Cond.fieldLink RX2 21 "GrazeBook$Drove" "state" "I", Cond.fieldLink RX2 24 "GrazeBook$Drove" "poundedOn" "I"]
def wsX8_free : List Cond := .code yX8_free cX8_free 5 (some .int) :: ((wsX8_free_r1 ++ wsX8_free_r2) ++ wsX80 ++ wsX20 ++ wsX50)
def wsX8_openPieces : List Cond := .code yX8_openPieces cX8_openPieces 4 (some .int) :: ([.fieldLink RX8 75 "GrazeBook" "pieceCount" "I", .fieldLink RX8 11 "GrazeBook" "pieces" "[LGrazeBook$Ground;", .methodLink RX8 166 yX4_restsOn, .instanceMethod yX4_restsOn, .selects RX4 yX4_restsOn yX4_restsOn, .initialized RX4, .code yX4_restsOn cX4_restsOn 2 (some .boolean), .fieldLink RX4 7 "GrazeBook$Ground" "rest" "I"] ++ wsX80 ++ wsX40)
def wsX8_gatherForStep_r1 : List Cond := [Cond.fieldLink RX8 61 "GrazeBook" "grazing" "LGrazeBook$Grazing;", Cond.fieldLink RX8 88 "GrazeBook" "herdCount" "I", Cond.fieldLink RX8 68 "GrazeBook" "turns" "LGrazeBook$Turns;", Cond.fieldLink RX8 40 "GrazeBook" "herds" "[LGrazeBook$Drove;", Cond.fieldLink RX8 163 "GrazeBook$Drove" "piece" "I", Cond.methodLink RX8 327 yX3_clear, Cond.instanceMethod yX3_clear, Cond.selects RX3 yX3_clear yX3_clear, Cond.initialized RX3, Cond.code yX3_clear cX3_clear 1 none, Cond.fieldLink RX3 24 "GrazeBook$Grazing" "size" "I", Cond.fieldLink RX3 28 "GrazeBook$Grazing" "all" "I", Cond.fieldLink RX3 31 "GrazeBook$Grazing" "eaten" "I", Cond.methodLink RX8 389 yX6_isTurning, Cond.instanceMethod yX6_isTurning, Cond.selects RX6 yX6_isTurning yX6_isTurning, Cond.initialized RX6, Cond.code yX6_isTurning cX6_isTurning 2 (some .boolean), Cond.fieldLink RX6 29 "GrazeBook$Turns" "firstHerd" "I", Cond.fieldLink RX6 33 "GrazeBook$Turns" "secondHerd" "I", Cond.methodLink RX8 392 yX6_visitsIn, Cond.instanceMethod yX6_visitsIn, Cond.selects RX6 yX6_visitsIn yX6_visitsIn, Cond.code yX6_visitsIn cX6_visitsIn 5 (some .boolean)]
def wsX8_gatherForStep_r2 : List Cond := [Cond.fieldLink RX6 36 "GrazeBook$Turns" "width" "I", Cond.methodLink RX8 185 yX2_parts, Cond.instanceMethod yX2_parts, Cond.selects RX2 yX2_parts yX2_parts, Cond.initialized RX2, Cond.code yX2_parts cX2_parts 1 (some .int), Cond.fieldLink RX2 30 "GrazeBook$Drove" "sort" "I", Cond.fieldLink RX2 33 "GrazeBook$Drove" "beasts" "I", Cond.methodLink RX8 328 yX3_add, Cond.instanceMethod yX3_add, Cond.selects RX3 yX3_add yX3_add, Cond.code yX3_add cX3_add 3 none, Cond.fieldLink RX3 9 "GrazeBook$Grazing" "numbers" "[I", Cond.fieldLink RX3 15 "GrazeBook$Grazing" "partsOf" "[I", Cond.fieldLink RX3 18 "GrazeBook$Grazing" "hungers" "[I"]
def wsX8_gatherForStep : List Cond := .code yX8_gatherForStep cX8_gatherForStep 6 none :: ((wsX8_gatherForStep_r1 ++ wsX8_gatherForStep_r2) ++ wsX80 ++ wsX20 ++ wsX30 ++ wsX60)
def wsX8_hungerOfVisits_r1 : List Cond := [Cond.fieldLink RX8 11 "GrazeBook" "pieces" "[LGrazeBook$Ground;", Cond.fieldLink RX8 210 "GrazeBook$Ground" "grass" "I", Cond.fieldLink RX8 91 "GrazeBook" "day" "I", Cond.fieldLink RX8 68 "GrazeBook" "turns" "LGrazeBook$Turns;", Cond.fieldLink RX8 362 "GrazeBook$Turns" "steps" "I", Cond.fieldLink RX8 368 "GrazeBook$Turns" "days" "I", Cond.fieldLink RX8 61 "GrazeBook" "grazing" "LGrazeBook$Grazing;", Cond.fieldLink RX8 47 "GrazeBook" "year" "LGrazeBook$Year;", Cond.fieldLink RX8 383 "GrazeBook$Turns" "firstHerd" "I", Cond.fieldLink RX8 386 "GrazeBook$Turns" "secondHerd" "I", Cond.methodLink RX8 380 yX8_gatherForStep, Cond.instanceMethod yX8_gatherForStep, Cond.selects RX8 yX8_gatherForStep yX8_gatherForStep, Cond.initialized RX8, Cond.code yX8_gatherForStep cX8_gatherForStep 6 none, Cond.fieldLink RX8 88 "GrazeBook" "herdCount" "I", Cond.fieldLink RX8 40 "GrazeBook" "herds" "[LGrazeBook$Drove;", Cond.fieldLink RX8 163 "GrazeBook$Drove" "piece" "I", Cond.methodLink RX8 327 yX3_clear, Cond.instanceMethod yX3_clear, Cond.selects RX3 yX3_clear yX3_clear, Cond.initialized RX3, Cond.code yX3_clear cX3_clear 1 none, Cond.fieldLink RX3 24 "GrazeBook$Grazing" "size" "I"]
def wsX8_hungerOfVisits_r2 : List Cond := [Cond.fieldLink RX3 28 "GrazeBook$Grazing" "all" "I", Cond.fieldLink RX3 31 "GrazeBook$Grazing" "eaten" "I", Cond.methodLink RX8 389 yX6_isTurning, Cond.instanceMethod yX6_isTurning, Cond.selects RX6 yX6_isTurning yX6_isTurning, Cond.initialized RX6, Cond.code yX6_isTurning cX6_isTurning 2 (some .boolean), Cond.fieldLink RX6 29 "GrazeBook$Turns" "firstHerd" "I", Cond.fieldLink RX6 33 "GrazeBook$Turns" "secondHerd" "I", Cond.methodLink RX8 392 yX6_visitsIn, Cond.instanceMethod yX6_visitsIn, Cond.selects RX6 yX6_visitsIn yX6_visitsIn, Cond.code yX6_visitsIn cX6_visitsIn 5 (some .boolean), Cond.fieldLink RX6 36 "GrazeBook$Turns" "width" "I", Cond.methodLink RX8 185 yX2_parts, Cond.instanceMethod yX2_parts, Cond.selects RX2 yX2_parts yX2_parts, Cond.initialized RX2, Cond.code yX2_parts cX2_parts 1 (some .int), Cond.fieldLink RX2 30 "GrazeBook$Drove" "sort" "I", Cond.fieldLink RX2 33 "GrazeBook$Drove" "beasts" "I", Cond.methodLink RX8 328 yX3_add, Cond.instanceMethod yX3_add, Cond.selects RX3 yX3_add yX3_add]
def wsX8_hungerOfVisits_r3 : List Cond := [Cond.code yX3_add cX3_add 3 none, Cond.fieldLink RX3 9 "GrazeBook$Grazing" "numbers" "[I", Cond.fieldLink RX3 15 "GrazeBook$Grazing" "partsOf" "[I", Cond.fieldLink RX3 18 "GrazeBook$Grazing" "hungers" "[I", Cond.methodLink RX8 331 yX7_rainOn, Cond.instanceMethod yX7_rainOn, Cond.selects RX7 yX7_rainOn yX7_rainOn, Cond.initialized RX7, Cond.code yX7_rainOn cX7_rainOn 2 (some .int), Cond.fieldLink RX7 15 "GrazeBook$Year" "skies" "[I", Cond.methodLink RX8 334 yX7_rateOn, Cond.instanceMethod yX7_rateOn, Cond.selects RX7 yX7_rateOn yX7_rateOn, Cond.code yX7_rateOn cX7_rateOn 2 (some .int), Cond.fieldLink RX7 11 "GrazeBook$Year" "rates" "[I", Cond.methodLink RX8 337 yX3_passDay, Cond.instanceMethod yX3_passDay, Cond.selects RX3 yX3_passDay yX3_passDay, Cond.code yX3_passDay cX3_passDay 7 (some .int), Cond.fieldLink RX3 38 "GrazeBook$Ground" "full" "I", Cond.methodLink RX3 47 Lib.Math.min.name, Cond.static Lib.Math.min.name, Cond.initialized "java/lang/Math", Cond.code Lib.Math.min.name Lib.Math.min.code 2 (some .int)]
def wsX8_hungerOfVisits_r4 : List Cond := [Cond.fieldLink RX3 56 "GrazeBook$Ground" "water" "Z", Cond.methodLink RX3 34 yX3_tread, Cond.instanceMethod yX3_tread, Cond.selects RX3 yX3_tread yX3_tread, Cond.code yX3_tread cX3_tread 3 (some .int), Cond.methodLink RX3 60 Lib.Math.max.name, Cond.static Lib.Math.max.name, Cond.code Lib.Math.max.name Lib.Math.max.code 2 (some .int), Cond.methodLink RX3 43 yX3_grow, Cond.static yX3_grow, Cond.code yX3_grow cX3_grow 3 (some .int), Cond.methodLink RX3 52 yX3_shareHunger, Cond.instanceMethod yX3_shareHunger, Cond.selects RX3 yX3_shareHunger yX3_shareHunger, Cond.code yX3_shareHunger cX3_shareHunger 5 none, Cond.fieldLink RX3 21 "GrazeBook$Grazing" "remainders" "[I", Cond.methodLink RX3 63 yX3_greatestRemainder, Cond.instanceMethod yX3_greatestRemainder, Cond.selects RX3 yX3_greatestRemainder yX3_greatestRemainder, Cond.code yX3_greatestRemainder cX3_greatestRemainder 3 (some .int), Cond.methodLink RX8 342 yX3_hungerOf, Cond.instanceMethod yX3_hungerOf, Cond.selects RX3 yX3_hungerOf yX3_hungerOf, Cond.code yX3_hungerOf cX3_hungerOf 3 (some .int)]
def wsX8_hungerOfVisits : List Cond := .code yX8_hungerOfVisits cX8_hungerOfVisits 9 (some .int) :: ((wsX8_hungerOfVisits_r1 ++ (wsX8_hungerOfVisits_r2 ++ (wsX8_hungerOfVisits_r3 ++ wsX8_hungerOfVisits_r4))) ++ wsX80 ++ wsX40 ++ wsX60 ++ wsX20 ++ wsX30 ++ wsX70)
def wsX8_reckonTurns_r1 : List Cond := [Cond.fieldLink RX8 68 "GrazeBook" "turns" "LGrazeBook$Turns;", Cond.fieldLink RX8 362 "GrazeBook$Turns" "steps" "I", Cond.fieldLink RX8 365 "GrazeBook$Turns" "open" "[I", Cond.fieldLink RX8 91 "GrazeBook" "day" "I", Cond.fieldLink RX8 368 "GrazeBook$Turns" "days" "I", Cond.fieldLink RX8 75 "GrazeBook" "pieceCount" "I", Cond.fieldLink RX8 374 "GrazeBook$Turns" "hunger" "[[I", Cond.methodLink RX8 231 yX8_openPieces, Cond.instanceMethod yX8_openPieces, Cond.selects RX8 yX8_openPieces yX8_openPieces, Cond.initialized RX8, Cond.code yX8_openPieces cX8_openPieces 4 (some .int), Cond.fieldLink RX8 11 "GrazeBook" "pieces" "[LGrazeBook$Ground;", Cond.methodLink RX8 166 yX4_restsOn, Cond.instanceMethod yX4_restsOn, Cond.selects RX4 yX4_restsOn yX4_restsOn, Cond.initialized RX4, Cond.code yX4_restsOn cX4_restsOn 2 (some .boolean), Cond.fieldLink RX4 7 "GrazeBook$Ground" "rest" "I", Cond.methodLink RX8 371 yX6_waysToVisit, Cond.instanceMethod yX6_waysToVisit, Cond.selects RX6 yX6_waysToVisit yX6_waysToVisit, Cond.initialized RX6, Cond.code yX6_waysToVisit cX6_waysToVisit 1 (some .int)]
def wsX8_reckonTurns_r2 : List Cond := [Cond.methodLink RX6 51 yX6_slots, Cond.instanceMethod yX6_slots, Cond.selects RX6 yX6_slots yX6_slots, Cond.code yX6_slots cX6_slots 1 (some .int), Cond.fieldLink RX6 36 "GrazeBook$Turns" "width" "I", Cond.fieldLink RX6 39 "GrazeBook$Turns" "steps" "I", Cond.methodLink RX6 45 Lib.Math.min.name, Cond.static Lib.Math.min.name, Cond.initialized "java/lang/Math", Cond.code Lib.Math.min.name Lib.Math.min.code 2 (some .int), Cond.methodLink RX8 377 yX8_hungerOfVisits, Cond.instanceMethod yX8_hungerOfVisits, Cond.selects RX8 yX8_hungerOfVisits yX8_hungerOfVisits, Cond.code yX8_hungerOfVisits cX8_hungerOfVisits 9 (some .int), Cond.fieldLink RX8 210 "GrazeBook$Ground" "grass" "I", Cond.fieldLink RX8 61 "GrazeBook" "grazing" "LGrazeBook$Grazing;", Cond.fieldLink RX8 47 "GrazeBook" "year" "LGrazeBook$Year;", Cond.fieldLink RX8 383 "GrazeBook$Turns" "firstHerd" "I", Cond.fieldLink RX8 386 "GrazeBook$Turns" "secondHerd" "I", Cond.methodLink RX8 380 yX8_gatherForStep, Cond.instanceMethod yX8_gatherForStep, Cond.selects RX8 yX8_gatherForStep yX8_gatherForStep, Cond.code yX8_gatherForStep cX8_gatherForStep 6 none, Cond.fieldLink RX8 88 "GrazeBook" "herdCount" "I"]
def wsX8_reckonTurns_r3 : List Cond := [Cond.fieldLink RX8 40 "GrazeBook" "herds" "[LGrazeBook$Drove;", Cond.fieldLink RX8 163 "GrazeBook$Drove" "piece" "I", Cond.methodLink RX8 327 yX3_clear, Cond.instanceMethod yX3_clear, Cond.selects RX3 yX3_clear yX3_clear, Cond.initialized RX3, Cond.code yX3_clear cX3_clear 1 none, Cond.fieldLink RX3 24 "GrazeBook$Grazing" "size" "I", Cond.fieldLink RX3 28 "GrazeBook$Grazing" "all" "I", Cond.fieldLink RX3 31 "GrazeBook$Grazing" "eaten" "I", Cond.methodLink RX8 389 yX6_isTurning, Cond.instanceMethod yX6_isTurning, Cond.selects RX6 yX6_isTurning yX6_isTurning, Cond.code yX6_isTurning cX6_isTurning 2 (some .boolean), Cond.fieldLink RX6 29 "GrazeBook$Turns" "firstHerd" "I", Cond.fieldLink RX6 33 "GrazeBook$Turns" "secondHerd" "I", Cond.methodLink RX8 392 yX6_visitsIn, Cond.instanceMethod yX6_visitsIn, Cond.selects RX6 yX6_visitsIn yX6_visitsIn, Cond.code yX6_visitsIn cX6_visitsIn 5 (some .boolean), Cond.methodLink RX8 185 yX2_parts, Cond.instanceMethod yX2_parts, Cond.selects RX2 yX2_parts yX2_parts, Cond.initialized RX2]
def wsX8_reckonTurns_r4 : List Cond := [Cond.code yX2_parts cX2_parts 1 (some .int), Cond.fieldLink RX2 30 "GrazeBook$Drove" "sort" "I", Cond.fieldLink RX2 33 "GrazeBook$Drove" "beasts" "I", Cond.methodLink RX8 328 yX3_add, Cond.instanceMethod yX3_add, Cond.selects RX3 yX3_add yX3_add, Cond.code yX3_add cX3_add 3 none, Cond.fieldLink RX3 9 "GrazeBook$Grazing" "numbers" "[I", Cond.fieldLink RX3 15 "GrazeBook$Grazing" "partsOf" "[I", Cond.fieldLink RX3 18 "GrazeBook$Grazing" "hungers" "[I", Cond.methodLink RX8 331 yX7_rainOn, Cond.instanceMethod yX7_rainOn, Cond.selects RX7 yX7_rainOn yX7_rainOn, Cond.initialized RX7, Cond.code yX7_rainOn cX7_rainOn 2 (some .int), Cond.fieldLink RX7 15 "GrazeBook$Year" "skies" "[I", Cond.methodLink RX8 334 yX7_rateOn, Cond.instanceMethod yX7_rateOn, Cond.selects RX7 yX7_rateOn yX7_rateOn, Cond.code yX7_rateOn cX7_rateOn 2 (some .int), Cond.fieldLink RX7 11 "GrazeBook$Year" "rates" "[I", Cond.methodLink RX8 337 yX3_passDay, Cond.instanceMethod yX3_passDay, Cond.selects RX3 yX3_passDay yX3_passDay]
def wsX8_reckonTurns_r5 : List Cond := [Cond.code yX3_passDay cX3_passDay 7 (some .int), Cond.fieldLink RX3 38 "GrazeBook$Ground" "full" "I", Cond.methodLink RX3 47 Lib.Math.min.name, Cond.fieldLink RX3 56 "GrazeBook$Ground" "water" "Z", Cond.methodLink RX3 34 yX3_tread, Cond.instanceMethod yX3_tread, Cond.selects RX3 yX3_tread yX3_tread, Cond.code yX3_tread cX3_tread 3 (some .int), Cond.methodLink RX3 60 Lib.Math.max.name, Cond.static Lib.Math.max.name, Cond.code Lib.Math.max.name Lib.Math.max.code 2 (some .int), Cond.methodLink RX3 43 yX3_grow, Cond.static yX3_grow, Cond.code yX3_grow cX3_grow 3 (some .int), Cond.methodLink RX3 52 yX3_shareHunger, Cond.instanceMethod yX3_shareHunger, Cond.selects RX3 yX3_shareHunger yX3_shareHunger, Cond.code yX3_shareHunger cX3_shareHunger 5 none, Cond.fieldLink RX3 21 "GrazeBook$Grazing" "remainders" "[I", Cond.methodLink RX3 63 yX3_greatestRemainder, Cond.instanceMethod yX3_greatestRemainder, Cond.selects RX3 yX3_greatestRemainder yX3_greatestRemainder, Cond.code yX3_greatestRemainder cX3_greatestRemainder 3 (some .int), Cond.methodLink RX8 342 yX3_hungerOf]
def wsX8_reckonTurns_r6 : List Cond := [Cond.instanceMethod yX3_hungerOf, Cond.selects RX3 yX3_hungerOf yX3_hungerOf, Cond.code yX3_hungerOf cX3_hungerOf 3 (some .int)]
def wsX8_reckonTurns : List Cond := .code yX8_reckonTurns cX8_reckonTurns 3 none :: ((wsX8_reckonTurns_r1 ++ (wsX8_reckonTurns_r2 ++ (wsX8_reckonTurns_r3 ++ (wsX8_reckonTurns_r4 ++ (wsX8_reckonTurns_r5 ++ wsX8_reckonTurns_r6))))) ++ wsX80 ++ wsX60 ++ wsX40 ++ wsX20 ++ wsX30 ++ wsX70)
def wsX8_plan_r1 : List Cond := [Cond.fieldLink RX8 40 "GrazeBook" "herds" "[LGrazeBook$Drove;", Cond.fieldLink RX8 160 "GrazeBook$Drove" "state" "I", Cond.fieldLink RX8 91 "GrazeBook" "day" "I", Cond.fieldLink RX8 68 "GrazeBook" "turns" "LGrazeBook$Turns;", Cond.fieldLink RX8 75 "GrazeBook" "pieceCount" "I", Cond.methodLink RX8 157 yX8_isHerd, Cond.instanceMethod yX8_isHerd, Cond.selects RX8 yX8_isHerd yX8_isHerd, Cond.initialized RX8, Cond.code yX8_isHerd cX8_isHerd 2 (some .boolean), Cond.fieldLink RX8 88 "GrazeBook" "herdCount" "I", Cond.methodLink RX8 100 yX8_refuse, Cond.instanceMethod yX8_refuse, Cond.selects RX8 yX8_refuse yX8_refuse, Cond.code yX8_refuse cX8_refuse 2 (some .int), Cond.fieldLink RX8 72 "GrazeBook" "refusals" "[I", Cond.methodLink RX8 231 yX8_openPieces, Cond.instanceMethod yX8_openPieces, Cond.selects RX8 yX8_openPieces yX8_openPieces, Cond.code yX8_openPieces cX8_openPieces 4 (some .int), Cond.fieldLink RX8 11 "GrazeBook" "pieces" "[LGrazeBook$Ground;", Cond.methodLink RX8 166 yX4_restsOn, Cond.instanceMethod yX4_restsOn, Cond.selects RX4 yX4_restsOn yX4_restsOn]
def wsX8_plan_r2 : List Cond := [Cond.initialized RX4, Cond.code yX4_restsOn cX4_restsOn 2 (some .boolean), Cond.fieldLink RX4 7 "GrazeBook$Ground" "rest" "I", Cond.methodLink RX8 234 yX6_begin, Cond.instanceMethod yX6_begin, Cond.selects RX6 yX6_begin yX6_begin, Cond.initialized RX6, Cond.code yX6_begin cX6_begin 5 none, Cond.fieldLink RX6 29 "GrazeBook$Turns" "firstHerd" "I", Cond.fieldLink RX6 33 "GrazeBook$Turns" "secondHerd" "I", Cond.fieldLink RX6 36 "GrazeBook$Turns" "width" "I", Cond.fieldLink RX6 39 "GrazeBook$Turns" "steps" "I", Cond.fieldLink RX6 42 "GrazeBook$Turns" "days" "I", Cond.methodLink RX8 238 yX8_reckonTurns, Cond.instanceMethod yX8_reckonTurns, Cond.selects RX8 yX8_reckonTurns yX8_reckonTurns, Cond.code yX8_reckonTurns cX8_reckonTurns 3 none, Cond.fieldLink RX8 362 "GrazeBook$Turns" "steps" "I", Cond.fieldLink RX8 365 "GrazeBook$Turns" "open" "[I", Cond.fieldLink RX8 368 "GrazeBook$Turns" "days" "I", Cond.fieldLink RX8 374 "GrazeBook$Turns" "hunger" "[[I", Cond.methodLink RX8 371 yX6_waysToVisit, Cond.instanceMethod yX6_waysToVisit, Cond.selects RX6 yX6_waysToVisit yX6_waysToVisit]
def wsX8_plan_r3 : List Cond := [Cond.code yX6_waysToVisit cX6_waysToVisit 1 (some .int), Cond.methodLink RX6 51 yX6_slots, Cond.instanceMethod yX6_slots, Cond.selects RX6 yX6_slots yX6_slots, Cond.code yX6_slots cX6_slots 1 (some .int), Cond.methodLink RX6 45 Lib.Math.min.name, Cond.static Lib.Math.min.name, Cond.initialized "java/lang/Math", Cond.code Lib.Math.min.name Lib.Math.min.code 2 (some .int), Cond.methodLink RX8 377 yX8_hungerOfVisits, Cond.instanceMethod yX8_hungerOfVisits, Cond.selects RX8 yX8_hungerOfVisits yX8_hungerOfVisits, Cond.code yX8_hungerOfVisits cX8_hungerOfVisits 9 (some .int), Cond.fieldLink RX8 210 "GrazeBook$Ground" "grass" "I", Cond.fieldLink RX8 61 "GrazeBook" "grazing" "LGrazeBook$Grazing;", Cond.fieldLink RX8 47 "GrazeBook" "year" "LGrazeBook$Year;", Cond.fieldLink RX8 383 "GrazeBook$Turns" "firstHerd" "I", Cond.fieldLink RX8 386 "GrazeBook$Turns" "secondHerd" "I", Cond.methodLink RX8 380 yX8_gatherForStep, Cond.instanceMethod yX8_gatherForStep, Cond.selects RX8 yX8_gatherForStep yX8_gatherForStep, Cond.code yX8_gatherForStep cX8_gatherForStep 6 none, Cond.fieldLink RX8 163 "GrazeBook$Drove" "piece" "I", Cond.methodLink RX8 327 yX3_clear]
def wsX8_plan_r4 : List Cond := [Cond.instanceMethod yX3_clear, Cond.selects RX3 yX3_clear yX3_clear, Cond.initialized RX3, Cond.code yX3_clear cX3_clear 1 none, Cond.fieldLink RX3 24 "GrazeBook$Grazing" "size" "I", Cond.fieldLink RX3 28 "GrazeBook$Grazing" "all" "I", Cond.fieldLink RX3 31 "GrazeBook$Grazing" "eaten" "I", Cond.methodLink RX8 389 yX6_isTurning, Cond.instanceMethod yX6_isTurning, Cond.selects RX6 yX6_isTurning yX6_isTurning, Cond.code yX6_isTurning cX6_isTurning 2 (some .boolean), Cond.methodLink RX8 392 yX6_visitsIn, Cond.instanceMethod yX6_visitsIn, Cond.selects RX6 yX6_visitsIn yX6_visitsIn, Cond.code yX6_visitsIn cX6_visitsIn 5 (some .boolean), Cond.methodLink RX8 185 yX2_parts, Cond.instanceMethod yX2_parts, Cond.selects RX2 yX2_parts yX2_parts, Cond.initialized RX2, Cond.code yX2_parts cX2_parts 1 (some .int), Cond.fieldLink RX2 30 "GrazeBook$Drove" "sort" "I", Cond.fieldLink RX2 33 "GrazeBook$Drove" "beasts" "I", Cond.methodLink RX8 328 yX3_add, Cond.instanceMethod yX3_add]
def wsX8_plan_r5 : List Cond := [Cond.selects RX3 yX3_add yX3_add, Cond.code yX3_add cX3_add 3 none, Cond.fieldLink RX3 9 "GrazeBook$Grazing" "numbers" "[I", Cond.fieldLink RX3 15 "GrazeBook$Grazing" "partsOf" "[I", Cond.fieldLink RX3 18 "GrazeBook$Grazing" "hungers" "[I", Cond.methodLink RX8 331 yX7_rainOn, Cond.instanceMethod yX7_rainOn, Cond.selects RX7 yX7_rainOn yX7_rainOn, Cond.initialized RX7, Cond.code yX7_rainOn cX7_rainOn 2 (some .int), Cond.fieldLink RX7 15 "GrazeBook$Year" "skies" "[I", Cond.methodLink RX8 334 yX7_rateOn, Cond.instanceMethod yX7_rateOn, Cond.selects RX7 yX7_rateOn yX7_rateOn, Cond.code yX7_rateOn cX7_rateOn 2 (some .int), Cond.fieldLink RX7 11 "GrazeBook$Year" "rates" "[I", Cond.methodLink RX8 337 yX3_passDay, Cond.instanceMethod yX3_passDay, Cond.selects RX3 yX3_passDay yX3_passDay, Cond.code yX3_passDay cX3_passDay 7 (some .int), Cond.fieldLink RX3 38 "GrazeBook$Ground" "full" "I", Cond.methodLink RX3 47 Lib.Math.min.name, Cond.fieldLink RX3 56 "GrazeBook$Ground" "water" "Z", Cond.methodLink RX3 34 yX3_tread]
def wsX8_plan_r6 : List Cond := [Cond.instanceMethod yX3_tread, Cond.selects RX3 yX3_tread yX3_tread, Cond.code yX3_tread cX3_tread 3 (some .int), Cond.methodLink RX3 60 Lib.Math.max.name, Cond.static Lib.Math.max.name, Cond.code Lib.Math.max.name Lib.Math.max.code 2 (some .int), Cond.methodLink RX3 43 yX3_grow, Cond.static yX3_grow, Cond.code yX3_grow cX3_grow 3 (some .int), Cond.methodLink RX3 52 yX3_shareHunger, Cond.instanceMethod yX3_shareHunger, Cond.selects RX3 yX3_shareHunger yX3_shareHunger, Cond.code yX3_shareHunger cX3_shareHunger 5 none, Cond.fieldLink RX3 21 "GrazeBook$Grazing" "remainders" "[I", Cond.methodLink RX3 63 yX3_greatestRemainder, Cond.instanceMethod yX3_greatestRemainder, Cond.selects RX3 yX3_greatestRemainder yX3_greatestRemainder, Cond.code yX3_greatestRemainder cX3_greatestRemainder 3 (some .int), Cond.methodLink RX8 342 yX3_hungerOf, Cond.instanceMethod yX3_hungerOf, Cond.selects RX3 yX3_hungerOf yX3_hungerOf, Cond.code yX3_hungerOf cX3_hungerOf 3 (some .int), Cond.methodLink RX8 241 yX6_choose, Cond.instanceMethod yX6_choose]
def wsX8_plan_r7 : List Cond := [Cond.selects RX6 yX6_choose yX6_choose, Cond.code yX6_choose cX6_choose 6 (some .int), Cond.fieldLink RX6 20 "GrazeBook$Turns" "trial" "[I", Cond.fieldLink RX6 23 "GrazeBook$Turns" "best" "[I", Cond.methodLink RX6 62 arraycopyName, Cond.native arraycopyName, Cond.static arraycopyName, Cond.initialized "java/lang/System", Cond.methodLink RX6 55 yX6_isOpen, Cond.instanceMethod yX6_isOpen, Cond.selects RX6 yX6_isOpen yX6_isOpen, Cond.code yX6_isOpen cX6_isOpen 3 (some .boolean), Cond.fieldLink RX6 16 "GrazeBook$Turns" "open" "[I", Cond.methodLink RX6 59 yX6_hungerOfTrial, Cond.instanceMethod yX6_hungerOfTrial, Cond.selects RX6 yX6_hungerOfTrial yX6_hungerOfTrial, Cond.code yX6_hungerOfTrial cX6_hungerOfTrial 3 (some .int), Cond.fieldLink RX6 26 "GrazeBook$Turns" "visitsOf" "[I", Cond.fieldLink RX6 11 "GrazeBook$Turns" "hunger" "[[I", Cond.methodLink RX6 68 yX6_nextTrial, Cond.instanceMethod yX6_nextTrial, Cond.selects RX6 yX6_nextTrial yX6_nextTrial, Cond.code yX6_nextTrial cX6_nextTrial 3 none]
def wsX8_plan : List Cond := .code yX8_plan cX8_plan 7 (some .int) :: ((wsX8_plan_r1 ++ (wsX8_plan_r2 ++ (wsX8_plan_r3 ++ (wsX8_plan_r4 ++ (wsX8_plan_r5 ++ (wsX8_plan_r6 ++ wsX8_plan_r7)))))) ++ wsX80 ++ wsX20 ++ wsX40 ++ wsX60 ++ wsX30 ++ wsX70)
def wsX8_planned : List Cond := .code yX8_planned cX8_planned 3 (some .int) :: ([.fieldLink RX8 68 "GrazeBook" "turns" "LGrazeBook$Turns;", .methodLink RX8 244 yX6_pieceOfStep, .instanceMethod yX6_pieceOfStep, .selects RX6 yX6_pieceOfStep yX6_pieceOfStep, .initialized RX6, .code yX6_pieceOfStep cX6_pieceOfStep 3 (some .int), .fieldLink RX6 39 "GrazeBook$Turns" "steps" "I", .fieldLink RX6 36 "GrazeBook$Turns" "width" "I", .fieldLink RX6 23 "GrazeBook$Turns" "best" "[I"] ++ wsX80 ++ wsX60)
def wsX8_pieceOf_r1 : List Cond := [Cond.fieldLink RX8 11 "GrazeBook" "pieces" "[LGrazeBook$Ground;", Cond.fieldLink RX8 210 "GrazeBook$Ground" "grass" "I", Cond.fieldLink RX8 247 "GrazeBook$Ground" "full" "I", Cond.fieldLink RX8 189 "GrazeBook$Ground" "bears" "I", Cond.fieldLink RX8 204 "GrazeBook$Ground" "rest" "I", Cond.fieldLink RX8 250 "GrazeBook$Ground" "eaten" "I", Cond.methodLink RX8 127 yX8_isPiece, Cond.instanceMethod yX8_isPiece, Cond.selects RX8 yX8_isPiece yX8_isPiece, Cond.initialized RX8, Cond.code yX8_isPiece cX8_isPiece 2 (some .boolean), Cond.fieldLink RX8 75 "GrazeBook" "pieceCount" "I", Cond.methodLink RX8 100 yX8_refuse, Cond.instanceMethod yX8_refuse, Cond.selects RX8 yX8_refuse yX8_refuse, Cond.code yX8_refuse cX8_refuse 2 (some .int), Cond.fieldLink RX8 72 "GrazeBook" "refusals" "[I", Cond.methodLink RX8 178 yX8_partsOn, Cond.instanceMethod yX8_partsOn, Cond.selects RX8 yX8_partsOn yX8_partsOn, Cond.code yX8_partsOn cX8_partsOn 4 (some .int), Cond.fieldLink RX8 88 "GrazeBook" "herdCount" "I", Cond.fieldLink RX8 40 "GrazeBook" "herds" "[LGrazeBook$Drove;", Cond.fieldLink RX8 163 "GrazeBook$Drove" "piece" "I"]
def wsX8_pieceOf_r2 : List Cond := [Cond.methodLink RX8 185 yX2_parts, Cond.instanceMethod yX2_parts, Cond.selects RX2 yX2_parts yX2_parts, Cond.initialized RX2, Cond.code yX2_parts cX2_parts 1 (some .int), Cond.fieldLink RX2 30 "GrazeBook$Drove" "sort" "I", Cond.fieldLink RX2 33 "GrazeBook$Drove" "beasts" "I", Cond.methodLink RX8 207 yX8_herdsOn, Cond.instanceMethod yX8_herdsOn, Cond.selects RX8 yX8_herdsOn yX8_herdsOn, Cond.code yX8_herdsOn cX8_herdsOn 4 (some .int)]
def wsX8_pieceOf : List Cond := .code yX8_pieceOf cX8_pieceOf 4 (some .int) :: ((wsX8_pieceOf_r1 ++ wsX8_pieceOf_r2) ++ wsX80 ++ wsX40 ++ wsX20)
def wsX8_rightOf_r1 : List Cond := [Cond.fieldLink RX8 34 "GrazeBook" "rights" "[LGrazeBook$Claim;", Cond.fieldLink RX8 140 "GrazeBook$Claim" "kind" "I", Cond.fieldLink RX8 259 "GrazeBook$Claim" "first" "I", Cond.fieldLink RX8 149 "GrazeBook$Claim" "last" "I", Cond.fieldLink RX8 262 "GrazeBook$Claim" "gone" "Z", Cond.fieldLink RX8 91 "GrazeBook" "day" "I", Cond.fieldLink RX8 266 "GrazeBook$Claim" "source" "I", Cond.fieldLink RX8 269 "GrazeBook$Claim" "usedOn" "I", Cond.methodLink RX8 253 yX8_isRight, Cond.instanceMethod yX8_isRight, Cond.selects RX8 yX8_isRight yX8_isRight, Cond.initialized RX8, Cond.code yX8_isRight cX8_isRight 2 (some .boolean), Cond.fieldLink RX8 85 "GrazeBook" "rightCount" "I", Cond.methodLink RX8 100 yX8_refuse, Cond.instanceMethod yX8_refuse, Cond.selects RX8 yX8_refuse yX8_refuse, Cond.code yX8_refuse cX8_refuse 2 (some .int), Cond.fieldLink RX8 72 "GrazeBook" "refusals" "[I", Cond.methodLink RX8 256 yX8_holder, Cond.instanceMethod yX8_holder, Cond.selects RX8 yX8_holder yX8_holder, Cond.code yX8_holder cX8_holder 2 (some .int), Cond.fieldLink RX8 152 "GrazeBook$Claim" "who" "I"]
def wsX8_rightOf_r2 : List Cond := [Cond.fieldLink RX8 28 "GrazeBook" "houses" "[I", Cond.methodLink RX8 124 yX8_isHouse, Cond.instanceMethod yX8_isHouse, Cond.selects RX8 yX8_isHouse yX8_isHouse, Cond.code yX8_isHouse cX8_isHouse 2 (some .boolean), Cond.fieldLink RX8 82 "GrazeBook" "houseCount" "I", Cond.methodLink RX8 146 yX8_countingParts, Cond.instanceMethod yX8_countingParts, Cond.selects RX8 yX8_countingParts yX8_countingParts, Cond.code yX8_countingParts cX8_countingParts 4 (some .int), Cond.fieldLink RX8 309 "GrazeBook$Claim" "parts" "I", Cond.methodLink RX8 143 yX0_isInForce, Cond.instanceMethod yX0_isInForce, Cond.selects RX0 yX0_isInForce yX0_isInForce, Cond.initialized RX0, Cond.code yX0_isInForce cX0_isInForce 2 (some .boolean), Cond.fieldLink RX0 15 "GrazeBook$Claim" "gone" "Z", Cond.fieldLink RX0 28 "GrazeBook$Claim" "first" "I", Cond.fieldLink RX0 31 "GrazeBook$Claim" "last" "I"]
def wsX8_rightOf : List Cond := .code yX8_rightOf cX8_rightOf 4 (some .int) :: ((wsX8_rightOf_r1 ++ wsX8_rightOf_r2) ++ wsX80 ++ wsX00)
def wsX8_herdOf_r1 : List Cond := [Cond.fieldLink RX8 40 "GrazeBook" "herds" "[LGrazeBook$Drove;", Cond.fieldLink RX8 169 "GrazeBook$Drove" "owner" "I", Cond.fieldLink RX8 272 "GrazeBook$Drove" "sort" "I", Cond.fieldLink RX8 275 "GrazeBook$Drove" "beasts" "I", Cond.fieldLink RX8 163 "GrazeBook$Drove" "piece" "I", Cond.fieldLink RX8 278 "GrazeBook$Drove" "hunger" "I", Cond.fieldLink RX8 160 "GrazeBook$Drove" "state" "I", Cond.fieldLink RX8 91 "GrazeBook" "day" "I", Cond.methodLink RX8 157 yX8_isHerd, Cond.instanceMethod yX8_isHerd, Cond.selects RX8 yX8_isHerd yX8_isHerd, Cond.initialized RX8, Cond.code yX8_isHerd cX8_isHerd 2 (some .boolean), Cond.fieldLink RX8 88 "GrazeBook" "herdCount" "I", Cond.methodLink RX8 100 yX8_refuse, Cond.instanceMethod yX8_refuse, Cond.selects RX8 yX8_refuse yX8_refuse, Cond.code yX8_refuse cX8_refuse 2 (some .int), Cond.fieldLink RX8 72 "GrazeBook" "refusals" "[I", Cond.methodLink RX8 225 yX2_fee, Cond.instanceMethod yX2_fee, Cond.selects RX2 yX2_fee yX2_fee, Cond.initialized RX2, Cond.code yX2_fee cX2_fee 2 (some .int)]
def wsX8_herdOf_r2 : List Cond := [Cond.fieldLink RX2 33 "GrazeBook$Drove" "beasts" "I", Cond.methodLink RX2 40 yX2_daysInPound, Cond.instanceMethod yX2_daysInPound, Cond.selects RX2 yX2_daysInPound yX2_daysInPound, Cond.code yX2_daysInPound cX2_daysInPound 2 (some .int), Cond.fieldLink RX2 21 "GrazeBook$Drove" "state" "I", Cond.fieldLink RX2 24 "GrazeBook$Drove" "poundedOn" "I"]
def wsX8_herdOf : List Cond := .code yX8_herdOf cX8_herdOf 4 (some .int) :: ((wsX8_herdOf_r1 ++ wsX8_herdOf_r2) ++ wsX80 ++ wsX20)
def wsX8_ownerOf_r1 : List Cond := [Cond.fieldLink RX8 24 "GrazeBook" "reeve" "LGrazeBook$Purse;", Cond.fieldLink RX8 17 "GrazeBook" "owners" "[LGrazeBook$Purse;", Cond.fieldLink RX8 228 "GrazeBook$Purse" "coins" "I", Cond.fieldLink RX8 281 "GrazeBook$Purse" "hay" "I", Cond.methodLink RX8 108 yX8_isOwner, Cond.instanceMethod yX8_isOwner, Cond.selects RX8 yX8_isOwner yX8_isOwner, Cond.initialized RX8, Cond.code yX8_isOwner cX8_isOwner 2 (some .boolean), Cond.fieldLink RX8 79 "GrazeBook" "ownerCount" "I", Cond.methodLink RX8 100 yX8_refuse, Cond.instanceMethod yX8_refuse, Cond.selects RX8 yX8_refuse yX8_refuse, Cond.code yX8_refuse cX8_refuse 2 (some .int), Cond.fieldLink RX8 72 "GrazeBook" "refusals" "[I", Cond.methodLink RX8 284 yX8_coverOf, Cond.instanceMethod yX8_coverOf, Cond.selects RX8 yX8_coverOf yX8_coverOf, Cond.code yX8_coverOf cX8_coverOf 3 (some (.object "GrazeBook$Cover")), Cond.fieldLink RX8 54 "GrazeBook" "cover" "LGrazeBook$Cover;", Cond.fieldLink RX8 88 "GrazeBook" "herdCount" "I", Cond.fieldLink RX8 40 "GrazeBook" "herds" "[LGrazeBook$Drove;", Cond.fieldLink RX8 169 "GrazeBook$Drove" "owner" "I", Cond.fieldLink RX8 85 "GrazeBook" "rightCount" "I"]
def wsX8_ownerOf_r2 : List Cond := [Cond.fieldLink RX8 34 "GrazeBook" "rights" "[LGrazeBook$Claim;", Cond.methodLink RX8 311 yX1_clear, Cond.instanceMethod yX1_clear, Cond.selects RX1 yX1_clear yX1_clear, Cond.initialized RX1, Cond.code yX1_clear cX1_clear 2 none, Cond.fieldLink RX1 9 "GrazeBook$Cover" "sheepOn" "[I", Cond.fieldLink RX1 15 "GrazeBook$Cover" "othersOn" "[I", Cond.fieldLink RX1 18 "GrazeBook$Cover" "leazesFor" "[I", Cond.fieldLink RX1 21 "GrazeBook$Cover" "walks" "I", Cond.fieldLink RX1 25 "GrazeBook$Cover" "forAny" "I", Cond.methodLink RX8 314 yX1_addHerd, Cond.instanceMethod yX1_addHerd, Cond.selects RX1 yX1_addHerd yX1_addHerd, Cond.code yX1_addHerd cX1_addHerd 2 none, Cond.fieldLink RX1 28 "GrazeBook$Drove" "piece" "I", Cond.fieldLink RX1 33 "GrazeBook$Drove" "sort" "I", Cond.methodLink RX1 36 yX2_parts, Cond.instanceMethod yX2_parts, Cond.selects RX2 yX2_parts yX2_parts, Cond.initialized RX2, Cond.code yX2_parts cX2_parts 1 (some .int), Cond.fieldLink RX2 30 "GrazeBook$Drove" "sort" "I", Cond.fieldLink RX2 33 "GrazeBook$Drove" "beasts" "I"]
def wsX8_ownerOf_r3 : List Cond := [Cond.methodLink RX8 256 yX8_holder, Cond.instanceMethod yX8_holder, Cond.selects RX8 yX8_holder yX8_holder, Cond.code yX8_holder cX8_holder 2 (some .int), Cond.fieldLink RX8 140 "GrazeBook$Claim" "kind" "I", Cond.fieldLink RX8 152 "GrazeBook$Claim" "who" "I", Cond.fieldLink RX8 28 "GrazeBook" "houses" "[I", Cond.methodLink RX8 124 yX8_isHouse, Cond.instanceMethod yX8_isHouse, Cond.selects RX8 yX8_isHouse yX8_isHouse, Cond.code yX8_isHouse cX8_isHouse 2 (some .boolean), Cond.fieldLink RX8 82 "GrazeBook" "houseCount" "I", Cond.methodLink RX8 146 yX8_countingParts, Cond.instanceMethod yX8_countingParts, Cond.selects RX8 yX8_countingParts yX8_countingParts, Cond.code yX8_countingParts cX8_countingParts 4 (some .int), Cond.fieldLink RX8 91 "GrazeBook" "day" "I", Cond.fieldLink RX8 309 "GrazeBook$Claim" "parts" "I", Cond.fieldLink RX8 266 "GrazeBook$Claim" "source" "I", Cond.methodLink RX8 143 yX0_isInForce, Cond.instanceMethod yX0_isInForce, Cond.selects RX0 yX0_isInForce yX0_isInForce, Cond.initialized RX0, Cond.code yX0_isInForce cX0_isInForce 2 (some .boolean)]
def wsX8_ownerOf_r4 : List Cond := [Cond.fieldLink RX0 15 "GrazeBook$Claim" "gone" "Z", Cond.fieldLink RX0 28 "GrazeBook$Claim" "first" "I", Cond.fieldLink RX0 31 "GrazeBook$Claim" "last" "I", Cond.methodLink RX8 318 yX1_addRight, Cond.instanceMethod yX1_addRight, Cond.selects RX1 yX1_addRight yX1_addRight, Cond.code yX1_addRight cX1_addRight 3 none, Cond.fieldLink RX1 40 "GrazeBook$Claim" "kind" "I", Cond.fieldLink RX1 45 "GrazeBook$Claim" "piece" "I", Cond.methodLink RX8 288 yX1_partsOut, Cond.instanceMethod yX1_partsOut, Cond.selects RX1 yX1_partsOut yX1_partsOut, Cond.code yX1_partsOut cX1_partsOut 3 (some .int), Cond.methodLink RX8 291 yX1_partsHeld, Cond.instanceMethod yX1_partsHeld, Cond.selects RX1 yX1_partsHeld yX1_partsHeld, Cond.code yX1_partsHeld cX1_partsHeld 3 (some .int)]
def wsX8_ownerOf : List Cond := .code yX8_ownerOf cX8_ownerOf 5 (some .int) :: ((wsX8_ownerOf_r1 ++ (wsX8_ownerOf_r2 ++ (wsX8_ownerOf_r3 ++ wsX8_ownerOf_r4))) ++ wsX80 ++ wsX50 ++ wsX20 ++ wsX10 ++ wsX00)
def wsX8_rightsInForce : List Cond := .code yX8_rightsInForce cX8_rightsInForce 3 (some .int) :: ([.fieldLink RX8 85 "GrazeBook" "rightCount" "I", .fieldLink RX8 34 "GrazeBook" "rights" "[LGrazeBook$Claim;", .fieldLink RX8 91 "GrazeBook" "day" "I", .methodLink RX8 143 yX0_isInForce, .instanceMethod yX0_isInForce, .selects RX0 yX0_isInForce yX0_isInForce, .initialized RX0, .code yX0_isInForce cX0_isInForce 2 (some .boolean), .fieldLink RX0 15 "GrazeBook$Claim" "gone" "Z", .fieldLink RX0 28 "GrazeBook$Claim" "first" "I", .fieldLink RX0 31 "GrazeBook$Claim" "last" "I"] ++ wsX80 ++ wsX00)
def wsX8_herdsNotLost : List Cond := .code yX8_herdsNotLost cX8_herdsNotLost 3 (some .int) :: ([.fieldLink RX8 88 "GrazeBook" "herdCount" "I", .fieldLink RX8 40 "GrazeBook" "herds" "[LGrazeBook$Drove;", .fieldLink RX8 160 "GrazeBook$Drove" "state" "I"] ++ wsX80 ++ wsX20)
def wsX8_allGrass : List Cond := .code yX8_allGrass cX8_allGrass 3 (some .int) :: ([.fieldLink RX8 75 "GrazeBook" "pieceCount" "I", .fieldLink RX8 11 "GrazeBook" "pieces" "[LGrazeBook$Ground;", .fieldLink RX8 210 "GrazeBook$Ground" "grass" "I"] ++ wsX80 ++ wsX40)
def wsX8_allHunger : List Cond := .code yX8_allHunger cX8_allHunger 3 (some .int) :: ([.fieldLink RX8 88 "GrazeBook" "herdCount" "I", .fieldLink RX8 40 "GrazeBook" "herds" "[LGrazeBook$Drove;", .fieldLink RX8 278 "GrazeBook$Drove" "hunger" "I"] ++ wsX80 ++ wsX20)
def wsX8_allEaten : List Cond := .code yX8_allEaten cX8_allEaten 3 (some .int) :: ([.fieldLink RX8 75 "GrazeBook" "pieceCount" "I", .fieldLink RX8 11 "GrazeBook" "pieces" "[LGrazeBook$Ground;", .fieldLink RX8 250 "GrazeBook$Ground" "eaten" "I"] ++ wsX80 ++ wsX40)
def wsX8_count_r1 : List Cond := [Cond.fieldLink RX8 91 "GrazeBook" "day" "I", Cond.fieldLink RX8 75 "GrazeBook" "pieceCount" "I", Cond.fieldLink RX8 79 "GrazeBook" "ownerCount" "I", Cond.fieldLink RX8 82 "GrazeBook" "houseCount" "I", Cond.fieldLink RX8 97 "GrazeBook" "lapses" "I", Cond.fieldLink RX8 72 "GrazeBook" "refusals" "[I", Cond.methodLink RX8 294 yX8_rightsInForce, Cond.instanceMethod yX8_rightsInForce, Cond.selects RX8 yX8_rightsInForce yX8_rightsInForce, Cond.initialized RX8, Cond.code yX8_rightsInForce cX8_rightsInForce 3 (some .int), Cond.fieldLink RX8 85 "GrazeBook" "rightCount" "I", Cond.fieldLink RX8 34 "GrazeBook" "rights" "[LGrazeBook$Claim;", Cond.methodLink RX8 143 yX0_isInForce, Cond.instanceMethod yX0_isInForce, Cond.selects RX0 yX0_isInForce yX0_isInForce, Cond.initialized RX0, Cond.code yX0_isInForce cX0_isInForce 2 (some .boolean), Cond.fieldLink RX0 15 "GrazeBook$Claim" "gone" "Z", Cond.fieldLink RX0 28 "GrazeBook$Claim" "first" "I", Cond.fieldLink RX0 31 "GrazeBook$Claim" "last" "I", Cond.methodLink RX8 297 yX8_herdsNotLost, Cond.instanceMethod yX8_herdsNotLost, Cond.selects RX8 yX8_herdsNotLost yX8_herdsNotLost]
def wsX8_count_r2 : List Cond := [Cond.code yX8_herdsNotLost cX8_herdsNotLost 3 (some .int), Cond.fieldLink RX8 88 "GrazeBook" "herdCount" "I", Cond.fieldLink RX8 40 "GrazeBook" "herds" "[LGrazeBook$Drove;", Cond.fieldLink RX8 160 "GrazeBook$Drove" "state" "I", Cond.methodLink RX8 300 yX8_allGrass, Cond.instanceMethod yX8_allGrass, Cond.selects RX8 yX8_allGrass yX8_allGrass, Cond.code yX8_allGrass cX8_allGrass 3 (some .int), Cond.fieldLink RX8 11 "GrazeBook" "pieces" "[LGrazeBook$Ground;", Cond.fieldLink RX8 210 "GrazeBook$Ground" "grass" "I", Cond.methodLink RX8 303 yX8_allHunger, Cond.instanceMethod yX8_allHunger, Cond.selects RX8 yX8_allHunger yX8_allHunger, Cond.code yX8_allHunger cX8_allHunger 3 (some .int), Cond.fieldLink RX8 278 "GrazeBook$Drove" "hunger" "I", Cond.methodLink RX8 306 yX8_allEaten, Cond.instanceMethod yX8_allEaten, Cond.selects RX8 yX8_allEaten yX8_allEaten, Cond.code yX8_allEaten cX8_allEaten 3 (some .int), Cond.fieldLink RX8 250 "GrazeBook$Ground" "eaten" "I"]
def wsX8_count : List Cond := .code yX8_count cX8_count 2 (some .int) :: ((wsX8_count_r1 ++ wsX8_count_r2) ++ wsX80 ++ wsX00 ++ wsX20 ++ wsX40)
def wsX9_init_r1 : List Cond := [Cond.methodLink RX9 1 objectInit, Cond.instanceMethod objectInit, Cond.code objectInit ⟨#[0xb1]⟩ 1 none, Cond.arrayClass .int, Cond.fieldLink RX9 7 "GrazeBookModel" "refusals" "[I", Cond.fieldLink RX9 13 "GrazeBookModel" "grass" "[I", Cond.fieldLink RX9 16 "GrazeBookModel" "full" "[I", Cond.fieldLink RX9 19 "GrazeBookModel" "bears" "[I", Cond.fieldLink RX9 22 "GrazeBookModel" "rest" "[I", Cond.fieldLink RX9 25 "GrazeBookModel" "eaten" "[I", Cond.arrayClass .boolean, Cond.fieldLink RX9 28 "GrazeBookModel" "water" "[Z", Cond.fieldLink RX9 32 "GrazeBookModel" "coins" "[I", Cond.fieldLink RX9 35 "GrazeBookModel" "hay" "[I", Cond.fieldLink RX9 38 "GrazeBookModel" "houseOf" "[I", Cond.fieldLink RX9 41 "GrazeBookModel" "rates" "[I", Cond.fieldLink RX9 44 "GrazeBookModel" "rains" "[I", Cond.fieldLink RX9 47 "GrazeBookModel" "warmths" "[I", Cond.fieldLink RX9 50 "GrazeBookModel" "rKind" "[I", Cond.fieldLink RX9 53 "GrazeBookModel" "rWho" "[I", Cond.fieldLink RX9 56 "GrazeBookModel" "rParts" "[I", Cond.fieldLink RX9 59 "GrazeBookModel" "rFrom" "[I", Cond.fieldLink RX9 62 "GrazeBookModel" "rTo" "[I", Cond.fieldLink RX9 65 "GrazeBookModel" "rPiece" "[I"]
def wsX9_init_r2 : List Cond := [Cond.fieldLink RX9 68 "GrazeBookModel" "rOf" "[I", Cond.fieldLink RX9 71 "GrazeBookModel" "rUsed" "[I", Cond.fieldLink RX9 74 "GrazeBookModel" "rGone" "[Z", Cond.fieldLink RX9 77 "GrazeBookModel" "uses" "[Z", Cond.fieldLink RX9 80 "GrazeBookModel" "hOwner" "[I", Cond.fieldLink RX9 83 "GrazeBookModel" "hSort" "[I", Cond.fieldLink RX9 86 "GrazeBookModel" "hMany" "[I", Cond.fieldLink RX9 89 "GrazeBookModel" "hPiece" "[I", Cond.fieldLink RX9 92 "GrazeBookModel" "hOrder" "[I", Cond.fieldLink RX9 95 "GrazeBookModel" "hHunger" "[I", Cond.fieldLink RX9 98 "GrazeBookModel" "hState" "[I", Cond.fieldLink RX9 101 "GrazeBookModel" "hSince" "[I", Cond.fieldLink RX9 104 "GrazeBookModel" "hunger" "[I", Cond.fieldLink RX9 107 "GrazeBookModel" "tryGrass" "[I", Cond.fieldLink RX9 110 "GrazeBookModel" "tryPiece" "[I", Cond.fieldLink RX9 113 "GrazeBookModel" "eatenNow" "[I", Cond.fieldLink RX9 116 "GrazeBookModel" "trial" "[I", Cond.fieldLink RX9 119 "GrazeBookModel" "best" "[I"]
def wsX9_init : List Cond := .code yX9_init cX9_init 1 none :: ((wsX9_init_r1 ++ wsX9_init_r2) ++ wsX90)
def wsX9_refuse : List Cond := .code yX9_refuse cX9_refuse 2 (some .int) :: ([.fieldLink RX9 7 "GrazeBookModel" "refusals" "[I"] ++ wsX90)
def wsX9_isIn : List Cond := .code yX9_isIn cX9_isIn 2 (some .boolean) :: ([])
def wsX9_piece : List Cond := .code yX9_piece cX9_piece 5 (some .int) :: ([.constant RX9 126 (100000), .fieldLink RX9 127 "GrazeBookModel" "pieces" "I", .fieldLink RX9 13 "GrazeBookModel" "grass" "[I", .fieldLink RX9 16 "GrazeBookModel" "full" "[I", .fieldLink RX9 19 "GrazeBookModel" "bears" "[I", .fieldLink RX9 28 "GrazeBookModel" "water" "[Z", .fieldLink RX9 22 "GrazeBookModel" "rest" "[I", .methodLink RX9 122 yX9_refuse, .instanceMethod yX9_refuse, .selects RX9 yX9_refuse yX9_refuse, .initialized RX9, .code yX9_refuse cX9_refuse 2 (some .int), .fieldLink RX9 7 "GrazeBookModel" "refusals" "[I"] ++ wsX90)
def wsX9_owner : List Cond := .code yX9_owner cX9_owner 2 (some .int) :: ([.constant RX9 126 (100000), .fieldLink RX9 131 "GrazeBookModel" "owners" "I", .fieldLink RX9 32 "GrazeBookModel" "coins" "[I", .methodLink RX9 122 yX9_refuse, .instanceMethod yX9_refuse, .selects RX9 yX9_refuse yX9_refuse, .initialized RX9, .code yX9_refuse cX9_refuse 2 (some .int), .fieldLink RX9 7 "GrazeBookModel" "refusals" "[I"] ++ wsX90)
def wsX9_house : List Cond := .code yX9_house cX9_house 2 (some .int) :: ([.fieldLink RX9 131 "GrazeBookModel" "owners" "I", .fieldLink RX9 138 "GrazeBookModel" "houses" "I", .fieldLink RX9 38 "GrazeBookModel" "houseOf" "[I", .methodLink RX9 134 yX9_isIn, .static yX9_isIn, .initialized RX9, .code yX9_isIn cX9_isIn 2 (some .boolean), .methodLink RX9 122 yX9_refuse, .instanceMethod yX9_refuse, .selects RX9 yX9_refuse yX9_refuse, .code yX9_refuse cX9_refuse 2 (some .int), .fieldLink RX9 7 "GrazeBookModel" "refusals" "[I"] ++ wsX90)
def wsX9_rate : List Cond := .code yX9_rate cX9_rate 5 (some .int) :: ([.fieldLink RX9 41 "GrazeBookModel" "rates" "[I", .methodLink RX9 134 yX9_isIn, .static yX9_isIn, .initialized RX9, .code yX9_isIn cX9_isIn 2 (some .boolean), .methodLink RX9 122 yX9_refuse, .instanceMethod yX9_refuse, .selects RX9 yX9_refuse yX9_refuse, .code yX9_refuse cX9_refuse 2 (some .int), .fieldLink RX9 7 "GrazeBookModel" "refusals" "[I"] ++ wsX90)
def wsX9_weather : List Cond := .code yX9_weather cX9_weather 4 (some .int) :: ([.fieldLink RX9 44 "GrazeBookModel" "rains" "[I", .fieldLink RX9 47 "GrazeBookModel" "warmths" "[I", .methodLink RX9 134 yX9_isIn, .static yX9_isIn, .initialized RX9, .code yX9_isIn cX9_isIn 2 (some .boolean), .methodLink RX9 122 yX9_refuse, .instanceMethod yX9_refuse, .selects RX9 yX9_refuse yX9_refuse, .code yX9_refuse cX9_refuse 2 (some .int), .fieldLink RX9 7 "GrazeBookModel" "refusals" "[I"] ++ wsX90)
def wsX9_ownerOfRight : List Cond := .code yX9_ownerOfRight cX9_ownerOfRight 2 (some .int) :: ([.fieldLink RX9 50 "GrazeBookModel" "rKind" "[I", .fieldLink RX9 38 "GrazeBookModel" "houseOf" "[I", .fieldLink RX9 53 "GrazeBookModel" "rWho" "[I"] ++ wsX90)
def wsX9_isInForce : List Cond := .code yX9_isInForce cX9_isInForce 2 (some .boolean) :: ([.fieldLink RX9 74 "GrazeBookModel" "rGone" "[Z", .fieldLink RX9 59 "GrazeBookModel" "rFrom" "[I", .fieldLink RX9 141 "GrazeBookModel" "day" "I", .fieldLink RX9 62 "GrazeBookModel" "rTo" "[I"] ++ wsX90)
def wsX9_partsOf : List Cond := .code yX9_partsOf cX9_partsOf 4 (some .int) :: ([.fieldLink RX9 56 "GrazeBookModel" "rParts" "[I", .fieldLink RX9 148 "GrazeBookModel" "rights" "I", .fieldLink RX9 68 "GrazeBookModel" "rOf" "[I", .methodLink RX9 144 yX9_isInForce, .instanceMethod yX9_isInForce, .selects RX9 yX9_isInForce yX9_isInForce, .initialized RX9, .code yX9_isInForce cX9_isInForce 2 (some .boolean), .fieldLink RX9 74 "GrazeBookModel" "rGone" "[Z", .fieldLink RX9 59 "GrazeBookModel" "rFrom" "[I", .fieldLink RX9 141 "GrazeBookModel" "day" "I", .fieldLink RX9 62 "GrazeBookModel" "rTo" "[I"] ++ wsX90)
def wsX9_adds : List Cond := .code yX9_adds cX9_adds 7 (some .int) :: ([.fieldLink RX9 50 "GrazeBookModel" "rKind" "[I", .fieldLink RX9 148 "GrazeBookModel" "rights" "I", .fieldLink RX9 53 "GrazeBookModel" "rWho" "[I", .fieldLink RX9 56 "GrazeBookModel" "rParts" "[I", .fieldLink RX9 59 "GrazeBookModel" "rFrom" "[I", .fieldLink RX9 141 "GrazeBookModel" "day" "I", .fieldLink RX9 62 "GrazeBookModel" "rTo" "[I", .fieldLink RX9 65 "GrazeBookModel" "rPiece" "[I", .fieldLink RX9 68 "GrazeBookModel" "rOf" "[I", .fieldLink RX9 71 "GrazeBookModel" "rUsed" "[I"] ++ wsX90)
def wsX9_right_r1 : List Cond := [Cond.fieldLink RX9 138 "GrazeBookModel" "houses" "I", Cond.fieldLink RX9 131 "GrazeBookModel" "owners" "I", Cond.fieldLink RX9 127 "GrazeBookModel" "pieces" "I", Cond.fieldLink RX9 141 "GrazeBookModel" "day" "I", Cond.fieldLink RX9 148 "GrazeBookModel" "rights" "I", Cond.methodLink RX9 134 yX9_isIn, Cond.static yX9_isIn, Cond.initialized RX9, Cond.code yX9_isIn cX9_isIn 2 (some .boolean), Cond.methodLink RX9 122 yX9_refuse, Cond.instanceMethod yX9_refuse, Cond.selects RX9 yX9_refuse yX9_refuse, Cond.code yX9_refuse cX9_refuse 2 (some .int), Cond.fieldLink RX9 7 "GrazeBookModel" "refusals" "[I", Cond.methodLink RX9 151 yX9_adds, Cond.instanceMethod yX9_adds, Cond.selects RX9 yX9_adds yX9_adds, Cond.code yX9_adds cX9_adds 7 (some .int), Cond.fieldLink RX9 50 "GrazeBookModel" "rKind" "[I", Cond.fieldLink RX9 53 "GrazeBookModel" "rWho" "[I", Cond.fieldLink RX9 56 "GrazeBookModel" "rParts" "[I", Cond.fieldLink RX9 59 "GrazeBookModel" "rFrom" "[I", Cond.fieldLink RX9 62 "GrazeBookModel" "rTo" "[I", Cond.fieldLink RX9 65 "GrazeBookModel" "rPiece" "[I"]
def wsX9_right_r2 : List Cond := [Cond.fieldLink RX9 68 "GrazeBookModel" "rOf" "[I", Cond.fieldLink RX9 71 "GrazeBookModel" "rUsed" "[I"]
def wsX9_right : List Cond := .code yX9_right cX9_right 6 (some .int) :: ((wsX9_right_r1 ++ wsX9_right_r2) ++ wsX90)
def wsX9_lend_r1 : List Cond := [Cond.fieldLink RX9 148 "GrazeBookModel" "rights" "I", Cond.fieldLink RX9 131 "GrazeBookModel" "owners" "I", Cond.fieldLink RX9 50 "GrazeBookModel" "rKind" "[I", Cond.fieldLink RX9 141 "GrazeBookModel" "day" "I", Cond.fieldLink RX9 62 "GrazeBookModel" "rTo" "[I", Cond.methodLink RX9 134 yX9_isIn, Cond.static yX9_isIn, Cond.initialized RX9, Cond.code yX9_isIn cX9_isIn 2 (some .boolean), Cond.methodLink RX9 155 yX9_ownerOfRight, Cond.instanceMethod yX9_ownerOfRight, Cond.selects RX9 yX9_ownerOfRight yX9_ownerOfRight, Cond.code yX9_ownerOfRight cX9_ownerOfRight 2 (some .int), Cond.fieldLink RX9 38 "GrazeBookModel" "houseOf" "[I", Cond.fieldLink RX9 53 "GrazeBookModel" "rWho" "[I", Cond.methodLink RX9 122 yX9_refuse, Cond.instanceMethod yX9_refuse, Cond.selects RX9 yX9_refuse yX9_refuse, Cond.code yX9_refuse cX9_refuse 2 (some .int), Cond.fieldLink RX9 7 "GrazeBookModel" "refusals" "[I", Cond.methodLink RX9 144 yX9_isInForce, Cond.instanceMethod yX9_isInForce, Cond.selects RX9 yX9_isInForce yX9_isInForce, Cond.code yX9_isInForce cX9_isInForce 2 (some .boolean)]
def wsX9_lend_r2 : List Cond := [Cond.fieldLink RX9 74 "GrazeBookModel" "rGone" "[Z", Cond.fieldLink RX9 59 "GrazeBookModel" "rFrom" "[I", Cond.methodLink RX9 158 yX9_partsOf, Cond.instanceMethod yX9_partsOf, Cond.selects RX9 yX9_partsOf yX9_partsOf, Cond.code yX9_partsOf cX9_partsOf 4 (some .int), Cond.fieldLink RX9 56 "GrazeBookModel" "rParts" "[I", Cond.fieldLink RX9 68 "GrazeBookModel" "rOf" "[I", Cond.methodLink RX9 151 yX9_adds, Cond.instanceMethod yX9_adds, Cond.selects RX9 yX9_adds yX9_adds, Cond.code yX9_adds cX9_adds 7 (some .int), Cond.fieldLink RX9 65 "GrazeBookModel" "rPiece" "[I", Cond.fieldLink RX9 71 "GrazeBookModel" "rUsed" "[I"]
def wsX9_lend : List Cond := .code yX9_lend cX9_lend 5 (some .int) :: ((wsX9_lend_r1 ++ wsX9_lend_r2) ++ wsX90)
def wsX9_sell_r1 : List Cond := [Cond.fieldLink RX9 148 "GrazeBookModel" "rights" "I", Cond.fieldLink RX9 131 "GrazeBookModel" "owners" "I", Cond.fieldLink RX9 50 "GrazeBookModel" "rKind" "[I", Cond.fieldLink RX9 53 "GrazeBookModel" "rWho" "[I", Cond.methodLink RX9 134 yX9_isIn, Cond.static yX9_isIn, Cond.initialized RX9, Cond.code yX9_isIn cX9_isIn 2 (some .boolean), Cond.methodLink RX9 155 yX9_ownerOfRight, Cond.instanceMethod yX9_ownerOfRight, Cond.selects RX9 yX9_ownerOfRight yX9_ownerOfRight, Cond.code yX9_ownerOfRight cX9_ownerOfRight 2 (some .int), Cond.fieldLink RX9 38 "GrazeBookModel" "houseOf" "[I", Cond.methodLink RX9 122 yX9_refuse, Cond.instanceMethod yX9_refuse, Cond.selects RX9 yX9_refuse yX9_refuse, Cond.code yX9_refuse cX9_refuse 2 (some .int), Cond.fieldLink RX9 7 "GrazeBookModel" "refusals" "[I", Cond.methodLink RX9 144 yX9_isInForce, Cond.instanceMethod yX9_isInForce, Cond.selects RX9 yX9_isInForce yX9_isInForce, Cond.code yX9_isInForce cX9_isInForce 2 (some .boolean), Cond.fieldLink RX9 74 "GrazeBookModel" "rGone" "[Z", Cond.fieldLink RX9 59 "GrazeBookModel" "rFrom" "[I"]
def wsX9_sell_r2 : List Cond := [Cond.fieldLink RX9 141 "GrazeBookModel" "day" "I", Cond.fieldLink RX9 62 "GrazeBookModel" "rTo" "[I"]
def wsX9_sell : List Cond := .code yX9_sell cX9_sell 3 (some .int) :: ((wsX9_sell_r1 ++ wsX9_sell_r2) ++ wsX90)
def wsX9_move : List Cond := .code yX9_move cX9_move 3 (some .int) :: ([.fieldLink RX9 138 "GrazeBookModel" "houses" "I", .fieldLink RX9 131 "GrazeBookModel" "owners" "I", .fieldLink RX9 38 "GrazeBookModel" "houseOf" "[I", .methodLink RX9 134 yX9_isIn, .static yX9_isIn, .initialized RX9, .code yX9_isIn cX9_isIn 2 (some .boolean), .methodLink RX9 122 yX9_refuse, .instanceMethod yX9_refuse, .selects RX9 yX9_refuse yX9_refuse, .code yX9_refuse cX9_refuse 2 (some .int), .fieldLink RX9 7 "GrazeBookModel" "refusals" "[I"] ++ wsX90)
def wsX9_partsOfSort : List Cond := .code yX9_partsOfSort cX9_partsOfSort 1 (some .int) :: ([])
def wsX9_partsOfHerd : List Cond := .code yX9_partsOfHerd cX9_partsOfHerd 2 (some .int) :: ([.fieldLink RX9 86 "GrazeBookModel" "hMany" "[I", .fieldLink RX9 83 "GrazeBookModel" "hSort" "[I", .methodLink RX9 161 yX9_partsOfSort, .static yX9_partsOfSort, .initialized RX9, .code yX9_partsOfSort cX9_partsOfSort 1 (some .int)] ++ wsX90)
def wsX9_isOut : List Cond := .code yX9_isOut cX9_isOut 2 (some .boolean) :: ([.fieldLink RX9 98 "GrazeBookModel" "hState" "[I", .fieldLink RX9 89 "GrazeBookModel" "hPiece" "[I"] ++ wsX90)
def wsX9_herd : List Cond := .code yX9_herd cX9_herd 4 (some .int) :: ([.fieldLink RX9 131 "GrazeBookModel" "owners" "I", .fieldLink RX9 164 "GrazeBookModel" "herds" "I", .fieldLink RX9 80 "GrazeBookModel" "hOwner" "[I", .fieldLink RX9 83 "GrazeBookModel" "hSort" "[I", .fieldLink RX9 86 "GrazeBookModel" "hMany" "[I", .fieldLink RX9 89 "GrazeBookModel" "hPiece" "[I", .methodLink RX9 134 yX9_isIn, .static yX9_isIn, .initialized RX9, .code yX9_isIn cX9_isIn 2 (some .boolean), .methodLink RX9 122 yX9_refuse, .instanceMethod yX9_refuse, .selects RX9 yX9_refuse yX9_refuse, .code yX9_refuse cX9_refuse 2 (some .int), .fieldLink RX9 7 "GrazeBookModel" "refusals" "[I"] ++ wsX90)
def wsX9_lacksOf_r1 : List Cond := [Cond.fieldLink RX9 127 "GrazeBookModel" "pieces" "I", Cond.fieldLink RX9 148 "GrazeBookModel" "rights" "I", Cond.fieldLink RX9 50 "GrazeBookModel" "rKind" "[I", Cond.fieldLink RX9 65 "GrazeBookModel" "rPiece" "[I", Cond.fieldLink RX9 164 "GrazeBookModel" "herds" "I", Cond.fieldLink RX9 80 "GrazeBookModel" "hOwner" "[I", Cond.fieldLink RX9 89 "GrazeBookModel" "hPiece" "[I", Cond.fieldLink RX9 83 "GrazeBookModel" "hSort" "[I", Cond.methodLink RX9 173 Lib.Math.min.name, Cond.static Lib.Math.min.name, Cond.initialized "java/lang/Math", Cond.code Lib.Math.min.name Lib.Math.min.code 2 (some .int), Cond.methodLink RX9 179 Lib.Math.max.name, Cond.static Lib.Math.max.name, Cond.code Lib.Math.max.name Lib.Math.max.code 2 (some .int), Cond.methodLink RX9 155 yX9_ownerOfRight, Cond.instanceMethod yX9_ownerOfRight, Cond.selects RX9 yX9_ownerOfRight yX9_ownerOfRight, Cond.initialized RX9, Cond.code yX9_ownerOfRight cX9_ownerOfRight 2 (some .int), Cond.fieldLink RX9 38 "GrazeBookModel" "houseOf" "[I", Cond.fieldLink RX9 53 "GrazeBookModel" "rWho" "[I", Cond.methodLink RX9 158 yX9_partsOf, Cond.instanceMethod yX9_partsOf]
def wsX9_lacksOf_r2 : List Cond := [Cond.selects RX9 yX9_partsOf yX9_partsOf, Cond.code yX9_partsOf cX9_partsOf 4 (some .int), Cond.fieldLink RX9 56 "GrazeBookModel" "rParts" "[I", Cond.fieldLink RX9 68 "GrazeBookModel" "rOf" "[I", Cond.methodLink RX9 144 yX9_isInForce, Cond.instanceMethod yX9_isInForce, Cond.selects RX9 yX9_isInForce yX9_isInForce, Cond.code yX9_isInForce cX9_isInForce 2 (some .boolean), Cond.fieldLink RX9 74 "GrazeBookModel" "rGone" "[Z", Cond.fieldLink RX9 59 "GrazeBookModel" "rFrom" "[I", Cond.fieldLink RX9 141 "GrazeBookModel" "day" "I", Cond.fieldLink RX9 62 "GrazeBookModel" "rTo" "[I", Cond.methodLink RX9 167 yX9_isOut, Cond.instanceMethod yX9_isOut, Cond.selects RX9 yX9_isOut yX9_isOut, Cond.code yX9_isOut cX9_isOut 2 (some .boolean), Cond.fieldLink RX9 98 "GrazeBookModel" "hState" "[I", Cond.methodLink RX9 170 yX9_partsOfHerd, Cond.instanceMethod yX9_partsOfHerd, Cond.selects RX9 yX9_partsOfHerd yX9_partsOfHerd, Cond.code yX9_partsOfHerd cX9_partsOfHerd 2 (some .int), Cond.fieldLink RX9 86 "GrazeBookModel" "hMany" "[I", Cond.methodLink RX9 161 yX9_partsOfSort, Cond.static yX9_partsOfSort]
def wsX9_lacksOf_r3 : List Cond := [Cond.code yX9_partsOfSort cX9_partsOfSort 1 (some .int)]
def wsX9_lacksOf : List Cond := .code yX9_lacksOf cX9_lacksOf 11 (some .int) :: ((wsX9_lacksOf_r1 ++ (wsX9_lacksOf_r2 ++ wsX9_lacksOf_r3)) ++ wsX90)
def wsX9_rests : List Cond := .code yX9_rests cX9_rests 2 (some .boolean) :: ([.fieldLink RX9 141 "GrazeBookModel" "day" "I", .fieldLink RX9 22 "GrazeBookModel" "rest" "[I"] ++ wsX90)
def wsX9_put_r1 : List Cond := [Cond.fieldLink RX9 164 "GrazeBookModel" "herds" "I", Cond.fieldLink RX9 127 "GrazeBookModel" "pieces" "I", Cond.fieldLink RX9 98 "GrazeBookModel" "hState" "[I", Cond.fieldLink RX9 89 "GrazeBookModel" "hPiece" "[I", Cond.fieldLink RX9 80 "GrazeBookModel" "hOwner" "[I", Cond.fieldLink RX9 92 "GrazeBookModel" "hOrder" "[I", Cond.fieldLink RX9 188 "GrazeBookModel" "orders" "I", Cond.methodLink RX9 134 yX9_isIn, Cond.static yX9_isIn, Cond.initialized RX9, Cond.code yX9_isIn cX9_isIn 2 (some .boolean), Cond.methodLink RX9 122 yX9_refuse, Cond.instanceMethod yX9_refuse, Cond.selects RX9 yX9_refuse yX9_refuse, Cond.code yX9_refuse cX9_refuse 2 (some .int), Cond.fieldLink RX9 7 "GrazeBookModel" "refusals" "[I", Cond.methodLink RX9 182 yX9_rests, Cond.instanceMethod yX9_rests, Cond.selects RX9 yX9_rests yX9_rests, Cond.code yX9_rests cX9_rests 2 (some .boolean), Cond.fieldLink RX9 141 "GrazeBookModel" "day" "I", Cond.fieldLink RX9 22 "GrazeBookModel" "rest" "[I", Cond.methodLink RX9 185 yX9_lacksOf, Cond.instanceMethod yX9_lacksOf]
def wsX9_put_r2 : List Cond := [Cond.selects RX9 yX9_lacksOf yX9_lacksOf, Cond.code yX9_lacksOf cX9_lacksOf 11 (some .int), Cond.fieldLink RX9 148 "GrazeBookModel" "rights" "I", Cond.fieldLink RX9 50 "GrazeBookModel" "rKind" "[I", Cond.fieldLink RX9 65 "GrazeBookModel" "rPiece" "[I", Cond.fieldLink RX9 83 "GrazeBookModel" "hSort" "[I", Cond.methodLink RX9 173 Lib.Math.min.name, Cond.static Lib.Math.min.name, Cond.initialized "java/lang/Math", Cond.code Lib.Math.min.name Lib.Math.min.code 2 (some .int), Cond.methodLink RX9 179 Lib.Math.max.name, Cond.static Lib.Math.max.name, Cond.code Lib.Math.max.name Lib.Math.max.code 2 (some .int), Cond.methodLink RX9 155 yX9_ownerOfRight, Cond.instanceMethod yX9_ownerOfRight, Cond.selects RX9 yX9_ownerOfRight yX9_ownerOfRight, Cond.code yX9_ownerOfRight cX9_ownerOfRight 2 (some .int), Cond.fieldLink RX9 38 "GrazeBookModel" "houseOf" "[I", Cond.fieldLink RX9 53 "GrazeBookModel" "rWho" "[I", Cond.methodLink RX9 158 yX9_partsOf, Cond.instanceMethod yX9_partsOf, Cond.selects RX9 yX9_partsOf yX9_partsOf, Cond.code yX9_partsOf cX9_partsOf 4 (some .int), Cond.fieldLink RX9 56 "GrazeBookModel" "rParts" "[I"]
def wsX9_put_r3 : List Cond := [Cond.fieldLink RX9 68 "GrazeBookModel" "rOf" "[I", Cond.methodLink RX9 144 yX9_isInForce, Cond.instanceMethod yX9_isInForce, Cond.selects RX9 yX9_isInForce yX9_isInForce, Cond.code yX9_isInForce cX9_isInForce 2 (some .boolean), Cond.fieldLink RX9 74 "GrazeBookModel" "rGone" "[Z", Cond.fieldLink RX9 59 "GrazeBookModel" "rFrom" "[I", Cond.fieldLink RX9 62 "GrazeBookModel" "rTo" "[I", Cond.methodLink RX9 167 yX9_isOut, Cond.instanceMethod yX9_isOut, Cond.selects RX9 yX9_isOut yX9_isOut, Cond.code yX9_isOut cX9_isOut 2 (some .boolean), Cond.methodLink RX9 170 yX9_partsOfHerd, Cond.instanceMethod yX9_partsOfHerd, Cond.selects RX9 yX9_partsOfHerd yX9_partsOfHerd, Cond.code yX9_partsOfHerd cX9_partsOfHerd 2 (some .int), Cond.fieldLink RX9 86 "GrazeBookModel" "hMany" "[I", Cond.methodLink RX9 161 yX9_partsOfSort, Cond.static yX9_partsOfSort, Cond.code yX9_partsOfSort cX9_partsOfSort 1 (some .int)]
def wsX9_put : List Cond := .code yX9_put cX9_put 3 (some .int) :: ((wsX9_put_r1 ++ (wsX9_put_r2 ++ wsX9_put_r3)) ++ wsX90)
def wsX9_drive : List Cond := .code yX9_drive cX9_drive 4 (some .int) :: ([.fieldLink RX9 164 "GrazeBookModel" "herds" "I", .fieldLink RX9 127 "GrazeBookModel" "pieces" "I", .fieldLink RX9 98 "GrazeBookModel" "hState" "[I", .fieldLink RX9 89 "GrazeBookModel" "hPiece" "[I", .fieldLink RX9 92 "GrazeBookModel" "hOrder" "[I", .fieldLink RX9 188 "GrazeBookModel" "orders" "I", .methodLink RX9 134 yX9_isIn, .static yX9_isIn, .initialized RX9, .code yX9_isIn cX9_isIn 2 (some .boolean), .methodLink RX9 122 yX9_refuse, .instanceMethod yX9_refuse, .selects RX9 yX9_refuse yX9_refuse, .code yX9_refuse cX9_refuse 2 (some .int), .fieldLink RX9 7 "GrazeBookModel" "refusals" "[I", .methodLink RX9 182 yX9_rests, .instanceMethod yX9_rests, .selects RX9 yX9_rests yX9_rests, .code yX9_rests cX9_rests 2 (some .boolean), .fieldLink RX9 141 "GrazeBookModel" "day" "I", .fieldLink RX9 22 "GrazeBookModel" "rest" "[I"] ++ wsX90)
def wsX9_covered_r1 : List Cond := [Cond.fieldLink RX9 131 "GrazeBookModel" "owners" "I", Cond.methodLink RX9 134 yX9_isIn, Cond.static yX9_isIn, Cond.initialized RX9, Cond.code yX9_isIn cX9_isIn 2 (some .boolean), Cond.methodLink RX9 185 yX9_lacksOf, Cond.instanceMethod yX9_lacksOf, Cond.selects RX9 yX9_lacksOf yX9_lacksOf, Cond.code yX9_lacksOf cX9_lacksOf 11 (some .int), Cond.fieldLink RX9 127 "GrazeBookModel" "pieces" "I", Cond.fieldLink RX9 148 "GrazeBookModel" "rights" "I", Cond.fieldLink RX9 50 "GrazeBookModel" "rKind" "[I", Cond.fieldLink RX9 65 "GrazeBookModel" "rPiece" "[I", Cond.fieldLink RX9 164 "GrazeBookModel" "herds" "I", Cond.fieldLink RX9 80 "GrazeBookModel" "hOwner" "[I", Cond.fieldLink RX9 89 "GrazeBookModel" "hPiece" "[I", Cond.fieldLink RX9 83 "GrazeBookModel" "hSort" "[I", Cond.methodLink RX9 173 Lib.Math.min.name, Cond.static Lib.Math.min.name, Cond.initialized "java/lang/Math", Cond.code Lib.Math.min.name Lib.Math.min.code 2 (some .int), Cond.methodLink RX9 179 Lib.Math.max.name, Cond.static Lib.Math.max.name, Cond.code Lib.Math.max.name Lib.Math.max.code 2 (some .int)]
def wsX9_covered_r2 : List Cond := [Cond.methodLink RX9 155 yX9_ownerOfRight, Cond.instanceMethod yX9_ownerOfRight, Cond.selects RX9 yX9_ownerOfRight yX9_ownerOfRight, Cond.code yX9_ownerOfRight cX9_ownerOfRight 2 (some .int), Cond.fieldLink RX9 38 "GrazeBookModel" "houseOf" "[I", Cond.fieldLink RX9 53 "GrazeBookModel" "rWho" "[I", Cond.methodLink RX9 158 yX9_partsOf, Cond.instanceMethod yX9_partsOf, Cond.selects RX9 yX9_partsOf yX9_partsOf, Cond.code yX9_partsOf cX9_partsOf 4 (some .int), Cond.fieldLink RX9 56 "GrazeBookModel" "rParts" "[I", Cond.fieldLink RX9 68 "GrazeBookModel" "rOf" "[I", Cond.methodLink RX9 144 yX9_isInForce, Cond.instanceMethod yX9_isInForce, Cond.selects RX9 yX9_isInForce yX9_isInForce, Cond.code yX9_isInForce cX9_isInForce 2 (some .boolean), Cond.fieldLink RX9 74 "GrazeBookModel" "rGone" "[Z", Cond.fieldLink RX9 59 "GrazeBookModel" "rFrom" "[I", Cond.fieldLink RX9 141 "GrazeBookModel" "day" "I", Cond.fieldLink RX9 62 "GrazeBookModel" "rTo" "[I", Cond.methodLink RX9 167 yX9_isOut, Cond.instanceMethod yX9_isOut, Cond.selects RX9 yX9_isOut yX9_isOut, Cond.code yX9_isOut cX9_isOut 2 (some .boolean)]
def wsX9_covered_r3 : List Cond := [Cond.fieldLink RX9 98 "GrazeBookModel" "hState" "[I", Cond.methodLink RX9 170 yX9_partsOfHerd, Cond.instanceMethod yX9_partsOfHerd, Cond.selects RX9 yX9_partsOfHerd yX9_partsOfHerd, Cond.code yX9_partsOfHerd cX9_partsOfHerd 2 (some .int), Cond.fieldLink RX9 86 "GrazeBookModel" "hMany" "[I", Cond.methodLink RX9 161 yX9_partsOfSort, Cond.static yX9_partsOfSort, Cond.code yX9_partsOfSort cX9_partsOfSort 1 (some .int), Cond.methodLink RX9 122 yX9_refuse, Cond.instanceMethod yX9_refuse, Cond.selects RX9 yX9_refuse yX9_refuse, Cond.code yX9_refuse cX9_refuse 2 (some .int), Cond.fieldLink RX9 7 "GrazeBookModel" "refusals" "[I"]
def wsX9_covered : List Cond := .code yX9_covered cX9_covered 2 (some .int) :: ((wsX9_covered_r1 ++ (wsX9_covered_r2 ++ wsX9_covered_r3)) ++ wsX90)
def wsX9_lacks_r1 : List Cond := [Cond.fieldLink RX9 131 "GrazeBookModel" "owners" "I", Cond.methodLink RX9 134 yX9_isIn, Cond.static yX9_isIn, Cond.initialized RX9, Cond.code yX9_isIn cX9_isIn 2 (some .boolean), Cond.methodLink RX9 185 yX9_lacksOf, Cond.instanceMethod yX9_lacksOf, Cond.selects RX9 yX9_lacksOf yX9_lacksOf, Cond.code yX9_lacksOf cX9_lacksOf 11 (some .int), Cond.fieldLink RX9 127 "GrazeBookModel" "pieces" "I", Cond.fieldLink RX9 148 "GrazeBookModel" "rights" "I", Cond.fieldLink RX9 50 "GrazeBookModel" "rKind" "[I", Cond.fieldLink RX9 65 "GrazeBookModel" "rPiece" "[I", Cond.fieldLink RX9 164 "GrazeBookModel" "herds" "I", Cond.fieldLink RX9 80 "GrazeBookModel" "hOwner" "[I", Cond.fieldLink RX9 89 "GrazeBookModel" "hPiece" "[I", Cond.fieldLink RX9 83 "GrazeBookModel" "hSort" "[I", Cond.methodLink RX9 173 Lib.Math.min.name, Cond.static Lib.Math.min.name, Cond.initialized "java/lang/Math", Cond.code Lib.Math.min.name Lib.Math.min.code 2 (some .int), Cond.methodLink RX9 179 Lib.Math.max.name, Cond.static Lib.Math.max.name, Cond.code Lib.Math.max.name Lib.Math.max.code 2 (some .int)]
def wsX9_lacks_r2 : List Cond := [Cond.methodLink RX9 155 yX9_ownerOfRight, Cond.instanceMethod yX9_ownerOfRight, Cond.selects RX9 yX9_ownerOfRight yX9_ownerOfRight, Cond.code yX9_ownerOfRight cX9_ownerOfRight 2 (some .int), Cond.fieldLink RX9 38 "GrazeBookModel" "houseOf" "[I", Cond.fieldLink RX9 53 "GrazeBookModel" "rWho" "[I", Cond.methodLink RX9 158 yX9_partsOf, Cond.instanceMethod yX9_partsOf, Cond.selects RX9 yX9_partsOf yX9_partsOf, Cond.code yX9_partsOf cX9_partsOf 4 (some .int), Cond.fieldLink RX9 56 "GrazeBookModel" "rParts" "[I", Cond.fieldLink RX9 68 "GrazeBookModel" "rOf" "[I", Cond.methodLink RX9 144 yX9_isInForce, Cond.instanceMethod yX9_isInForce, Cond.selects RX9 yX9_isInForce yX9_isInForce, Cond.code yX9_isInForce cX9_isInForce 2 (some .boolean), Cond.fieldLink RX9 74 "GrazeBookModel" "rGone" "[Z", Cond.fieldLink RX9 59 "GrazeBookModel" "rFrom" "[I", Cond.fieldLink RX9 141 "GrazeBookModel" "day" "I", Cond.fieldLink RX9 62 "GrazeBookModel" "rTo" "[I", Cond.methodLink RX9 167 yX9_isOut, Cond.instanceMethod yX9_isOut, Cond.selects RX9 yX9_isOut yX9_isOut, Cond.code yX9_isOut cX9_isOut 2 (some .boolean)]
def wsX9_lacks_r3 : List Cond := [Cond.fieldLink RX9 98 "GrazeBookModel" "hState" "[I", Cond.methodLink RX9 170 yX9_partsOfHerd, Cond.instanceMethod yX9_partsOfHerd, Cond.selects RX9 yX9_partsOfHerd yX9_partsOfHerd, Cond.code yX9_partsOfHerd cX9_partsOfHerd 2 (some .int), Cond.fieldLink RX9 86 "GrazeBookModel" "hMany" "[I", Cond.methodLink RX9 161 yX9_partsOfSort, Cond.static yX9_partsOfSort, Cond.code yX9_partsOfSort cX9_partsOfSort 1 (some .int), Cond.methodLink RX9 122 yX9_refuse, Cond.instanceMethod yX9_refuse, Cond.selects RX9 yX9_refuse yX9_refuse, Cond.code yX9_refuse cX9_refuse 2 (some .int), Cond.fieldLink RX9 7 "GrazeBookModel" "refusals" "[I"]
def wsX9_lacks : List Cond := .code yX9_lacks cX9_lacks 2 (some .int) :: ((wsX9_lacks_r1 ++ (wsX9_lacks_r2 ++ wsX9_lacks_r3)) ++ wsX90)
def wsX9_partsOn : List Cond := .code yX9_partsOn cX9_partsOn 4 (some .int) :: ([.fieldLink RX9 164 "GrazeBookModel" "herds" "I", .fieldLink RX9 89 "GrazeBookModel" "hPiece" "[I", .methodLink RX9 167 yX9_isOut, .instanceMethod yX9_isOut, .selects RX9 yX9_isOut yX9_isOut, .initialized RX9, .code yX9_isOut cX9_isOut 2 (some .boolean), .fieldLink RX9 98 "GrazeBookModel" "hState" "[I", .methodLink RX9 170 yX9_partsOfHerd, .instanceMethod yX9_partsOfHerd, .selects RX9 yX9_partsOfHerd yX9_partsOfHerd, .code yX9_partsOfHerd cX9_partsOfHerd 2 (some .int), .fieldLink RX9 86 "GrazeBookModel" "hMany" "[I", .fieldLink RX9 83 "GrazeBookModel" "hSort" "[I", .methodLink RX9 161 yX9_partsOfSort, .static yX9_partsOfSort, .code yX9_partsOfSort cX9_partsOfSort 1 (some .int)] ++ wsX90)
def wsX9_over_r1 : List Cond := [Cond.fieldLink RX9 127 "GrazeBookModel" "pieces" "I", Cond.fieldLink RX9 188 "GrazeBookModel" "orders" "I", Cond.fieldLink RX9 19 "GrazeBookModel" "bears" "[I", Cond.fieldLink RX9 164 "GrazeBookModel" "herds" "I", Cond.fieldLink RX9 89 "GrazeBookModel" "hPiece" "[I", Cond.fieldLink RX9 92 "GrazeBookModel" "hOrder" "[I", Cond.methodLink RX9 134 yX9_isIn, Cond.static yX9_isIn, Cond.initialized RX9, Cond.code yX9_isIn cX9_isIn 2 (some .boolean), Cond.methodLink RX9 122 yX9_refuse, Cond.instanceMethod yX9_refuse, Cond.selects RX9 yX9_refuse yX9_refuse, Cond.code yX9_refuse cX9_refuse 2 (some .int), Cond.fieldLink RX9 7 "GrazeBookModel" "refusals" "[I", Cond.methodLink RX9 191 yX9_partsOn, Cond.instanceMethod yX9_partsOn, Cond.selects RX9 yX9_partsOn yX9_partsOn, Cond.code yX9_partsOn cX9_partsOn 4 (some .int), Cond.methodLink RX9 167 yX9_isOut, Cond.instanceMethod yX9_isOut, Cond.selects RX9 yX9_isOut yX9_isOut, Cond.code yX9_isOut cX9_isOut 2 (some .boolean), Cond.fieldLink RX9 98 "GrazeBookModel" "hState" "[I"]
def wsX9_over_r2 : List Cond := [Cond.methodLink RX9 170 yX9_partsOfHerd, Cond.instanceMethod yX9_partsOfHerd, Cond.selects RX9 yX9_partsOfHerd yX9_partsOfHerd, Cond.code yX9_partsOfHerd cX9_partsOfHerd 2 (some .int), Cond.fieldLink RX9 86 "GrazeBookModel" "hMany" "[I", Cond.fieldLink RX9 83 "GrazeBookModel" "hSort" "[I", Cond.methodLink RX9 161 yX9_partsOfSort, Cond.static yX9_partsOfSort, Cond.code yX9_partsOfSort cX9_partsOfSort 1 (some .int)]
def wsX9_over : List Cond := .code yX9_over cX9_over 8 (some .int) :: ((wsX9_over_r1 ++ wsX9_over_r2) ++ wsX90)
def wsX9_shares : List Cond := .code yX9_shares cX9_shares 13 none :: ([.fieldLink RX9 164 "GrazeBookModel" "herds" "I", .fieldLink RX9 104 "GrazeBookModel" "hunger" "[I", .methodLink RX9 170 yX9_partsOfHerd, .instanceMethod yX9_partsOfHerd, .selects RX9 yX9_partsOfHerd yX9_partsOfHerd, .initialized RX9, .code yX9_partsOfHerd cX9_partsOfHerd 2 (some .int), .fieldLink RX9 86 "GrazeBookModel" "hMany" "[I", .fieldLink RX9 83 "GrazeBookModel" "hSort" "[I", .methodLink RX9 161 yX9_partsOfSort, .static yX9_partsOfSort, .code yX9_partsOfSort cX9_partsOfSort 1 (some .int)] ++ wsX90)
def wsX9_goes_r1 : List Cond := [Cond.fieldLink RX9 164 "GrazeBookModel" "herds" "I", Cond.fieldLink RX9 104 "GrazeBookModel" "hunger" "[I", Cond.fieldLink RX9 44 "GrazeBookModel" "rains" "[I", Cond.fieldLink RX9 41 "GrazeBookModel" "rates" "[I", Cond.fieldLink RX9 47 "GrazeBookModel" "warmths" "[I", Cond.fieldLink RX9 127 "GrazeBookModel" "pieces" "I", Cond.methodLink RX9 179 Lib.Math.max.name, Cond.static Lib.Math.max.name, Cond.initialized "java/lang/Math", Cond.code Lib.Math.max.name Lib.Math.max.code 2 (some .int), Cond.fieldLink RX9 16 "GrazeBookModel" "full" "[I", Cond.constantLong RX9 194 (1000), Cond.methodLink RX9 196 Lib.MathLoose.max_long.x, Cond.static Lib.MathLoose.max_long.x, Cond.code Lib.MathLoose.max_long.x Lib.MathLoose.max_long.code 4 (some .long), Cond.methodLink RX9 199 Lib.MathLoose.min_long.x, Cond.static Lib.MathLoose.min_long.x, Cond.code Lib.MathLoose.min_long.x Lib.MathLoose.min_long.code 4 (some .long), Cond.methodLink RX9 173 Lib.Math.min.name, Cond.static Lib.Math.min.name, Cond.code Lib.Math.min.name Lib.Math.min.code 2 (some .int), Cond.fieldLink RX9 28 "GrazeBookModel" "water" "[Z", Cond.methodLink RX9 170 yX9_partsOfHerd, Cond.instanceMethod yX9_partsOfHerd]
def wsX9_goes_r2 : List Cond := [Cond.selects RX9 yX9_partsOfHerd yX9_partsOfHerd, Cond.initialized RX9, Cond.code yX9_partsOfHerd cX9_partsOfHerd 2 (some .int), Cond.fieldLink RX9 86 "GrazeBookModel" "hMany" "[I", Cond.fieldLink RX9 83 "GrazeBookModel" "hSort" "[I", Cond.methodLink RX9 161 yX9_partsOfSort, Cond.static yX9_partsOfSort, Cond.code yX9_partsOfSort cX9_partsOfSort 1 (some .int), Cond.methodLink RX9 201 yX9_shares, Cond.instanceMethod yX9_shares, Cond.selects RX9 yX9_shares yX9_shares, Cond.code yX9_shares cX9_shares 13 none]
def wsX9_goes : List Cond := .code yX9_goes cX9_goes 11 none :: ((wsX9_goes_r1 ++ wsX9_goes_r2) ++ wsX90)
def wsX9_places : List Cond := .code yX9_places cX9_places 2 none :: ([.fieldLink RX9 110 "GrazeBookModel" "tryPiece" "[I", .fieldLink RX9 164 "GrazeBookModel" "herds" "I", .fieldLink RX9 89 "GrazeBookModel" "hPiece" "[I", .methodLink RX9 167 yX9_isOut, .instanceMethod yX9_isOut, .selects RX9 yX9_isOut yX9_isOut, .initialized RX9, .code yX9_isOut cX9_isOut 2 (some .boolean), .fieldLink RX9 98 "GrazeBookModel" "hState" "[I"] ++ wsX90)
def wsX9_sells : List Cond := .code yX9_sells cX9_sells 4 none :: ([.fieldLink RX9 164 "GrazeBookModel" "herds" "I", .fieldLink RX9 98 "GrazeBookModel" "hState" "[I", .fieldLink RX9 141 "GrazeBookModel" "day" "I", .fieldLink RX9 101 "GrazeBookModel" "hSince" "[I", .fieldLink RX9 86 "GrazeBookModel" "hMany" "[I", .methodLink RX9 173 Lib.Math.min.name, .static Lib.Math.min.name, .initialized "java/lang/Math", .code Lib.Math.min.name Lib.Math.min.code 2 (some .int), .fieldLink RX9 205 "GrazeBookModel" "reeveCoins" "I", .fieldLink RX9 32 "GrazeBookModel" "coins" "[I", .fieldLink RX9 80 "GrazeBookModel" "hOwner" "[I", .methodLink RX9 170 yX9_partsOfHerd, .instanceMethod yX9_partsOfHerd, .selects RX9 yX9_partsOfHerd yX9_partsOfHerd, .initialized RX9, .code yX9_partsOfHerd cX9_partsOfHerd 2 (some .int), .fieldLink RX9 83 "GrazeBookModel" "hSort" "[I", .methodLink RX9 161 yX9_partsOfSort, .static yX9_partsOfSort, .code yX9_partsOfSort cX9_partsOfSort 1 (some .int)] ++ wsX90)
def wsX9_isAsked : List Cond := .code yX9_isAsked cX9_isAsked 5 (some .boolean) :: ([.fieldLink RX9 164 "GrazeBookModel" "herds" "I", .fieldLink RX9 80 "GrazeBookModel" "hOwner" "[I", .fieldLink RX9 50 "GrazeBookModel" "rKind" "[I", .fieldLink RX9 83 "GrazeBookModel" "hSort" "[I", .fieldLink RX9 89 "GrazeBookModel" "hPiece" "[I", .fieldLink RX9 65 "GrazeBookModel" "rPiece" "[I", .methodLink RX9 155 yX9_ownerOfRight, .instanceMethod yX9_ownerOfRight, .selects RX9 yX9_ownerOfRight yX9_ownerOfRight, .initialized RX9, .code yX9_ownerOfRight cX9_ownerOfRight 2 (some .int), .fieldLink RX9 38 "GrazeBookModel" "houseOf" "[I", .fieldLink RX9 53 "GrazeBookModel" "rWho" "[I", .methodLink RX9 167 yX9_isOut, .instanceMethod yX9_isOut, .selects RX9 yX9_isOut yX9_isOut, .code yX9_isOut cX9_isOut 2 (some .boolean), .fieldLink RX9 98 "GrazeBookModel" "hState" "[I"] ++ wsX90)
def wsX9_lapses_r1 : List Cond := [Cond.fieldLink RX9 148 "GrazeBookModel" "rights" "I", Cond.fieldLink RX9 77 "GrazeBookModel" "uses" "[Z", Cond.fieldLink RX9 68 "GrazeBookModel" "rOf" "[I", Cond.fieldLink RX9 71 "GrazeBookModel" "rUsed" "[I", Cond.fieldLink RX9 141 "GrazeBookModel" "day" "I", Cond.fieldLink RX9 59 "GrazeBookModel" "rFrom" "[I", Cond.fieldLink RX9 74 "GrazeBookModel" "rGone" "[Z", Cond.fieldLink RX9 211 "GrazeBookModel" "lapsed" "I", Cond.methodLink RX9 158 yX9_partsOf, Cond.instanceMethod yX9_partsOf, Cond.selects RX9 yX9_partsOf yX9_partsOf, Cond.initialized RX9, Cond.code yX9_partsOf cX9_partsOf 4 (some .int), Cond.fieldLink RX9 56 "GrazeBookModel" "rParts" "[I", Cond.methodLink RX9 144 yX9_isInForce, Cond.instanceMethod yX9_isInForce, Cond.selects RX9 yX9_isInForce yX9_isInForce, Cond.code yX9_isInForce cX9_isInForce 2 (some .boolean), Cond.fieldLink RX9 62 "GrazeBookModel" "rTo" "[I", Cond.methodLink RX9 208 yX9_isAsked, Cond.instanceMethod yX9_isAsked, Cond.selects RX9 yX9_isAsked yX9_isAsked, Cond.code yX9_isAsked cX9_isAsked 5 (some .boolean), Cond.fieldLink RX9 164 "GrazeBookModel" "herds" "I"]
def wsX9_lapses_r2 : List Cond := [Cond.fieldLink RX9 80 "GrazeBookModel" "hOwner" "[I", Cond.fieldLink RX9 50 "GrazeBookModel" "rKind" "[I", Cond.fieldLink RX9 83 "GrazeBookModel" "hSort" "[I", Cond.fieldLink RX9 89 "GrazeBookModel" "hPiece" "[I", Cond.fieldLink RX9 65 "GrazeBookModel" "rPiece" "[I", Cond.methodLink RX9 155 yX9_ownerOfRight, Cond.instanceMethod yX9_ownerOfRight, Cond.selects RX9 yX9_ownerOfRight yX9_ownerOfRight, Cond.code yX9_ownerOfRight cX9_ownerOfRight 2 (some .int), Cond.fieldLink RX9 38 "GrazeBookModel" "houseOf" "[I", Cond.fieldLink RX9 53 "GrazeBookModel" "rWho" "[I", Cond.methodLink RX9 167 yX9_isOut, Cond.instanceMethod yX9_isOut, Cond.selects RX9 yX9_isOut yX9_isOut, Cond.code yX9_isOut cX9_isOut 2 (some .boolean), Cond.fieldLink RX9 98 "GrazeBookModel" "hState" "[I"]
def wsX9_lapses : List Cond := .code yX9_lapses cX9_lapses 3 none :: ((wsX9_lapses_r1 ++ wsX9_lapses_r2) ++ wsX90)
def wsX9_pass_r1 : List Cond := [Cond.fieldLink RX9 141 "GrazeBookModel" "day" "I", Cond.fieldLink RX9 113 "GrazeBookModel" "eatenNow" "[I", Cond.fieldLink RX9 13 "GrazeBookModel" "grass" "[I", Cond.fieldLink RX9 110 "GrazeBookModel" "tryPiece" "[I", Cond.fieldLink RX9 127 "GrazeBookModel" "pieces" "I", Cond.fieldLink RX9 25 "GrazeBookModel" "eaten" "[I", Cond.fieldLink RX9 221 "GrazeBookModel" "eats" "I", Cond.fieldLink RX9 164 "GrazeBookModel" "herds" "I", Cond.fieldLink RX9 95 "GrazeBookModel" "hHunger" "[I", Cond.fieldLink RX9 104 "GrazeBookModel" "hunger" "[I", Cond.fieldLink RX9 230 "GrazeBookModel" "hungers" "I", Cond.methodLink RX9 122 yX9_refuse, Cond.instanceMethod yX9_refuse, Cond.selects RX9 yX9_refuse yX9_refuse, Cond.initialized RX9, Cond.code yX9_refuse cX9_refuse 2 (some .int), Cond.fieldLink RX9 7 "GrazeBookModel" "refusals" "[I", Cond.methodLink RX9 214 yX9_places, Cond.instanceMethod yX9_places, Cond.selects RX9 yX9_places yX9_places, Cond.code yX9_places cX9_places 2 none, Cond.fieldLink RX9 89 "GrazeBookModel" "hPiece" "[I", Cond.methodLink RX9 167 yX9_isOut, Cond.instanceMethod yX9_isOut]
def wsX9_pass_r2 : List Cond := [Cond.selects RX9 yX9_isOut yX9_isOut, Cond.code yX9_isOut cX9_isOut 2 (some .boolean), Cond.fieldLink RX9 98 "GrazeBookModel" "hState" "[I", Cond.methodLink RX9 217 yX9_goes, Cond.instanceMethod yX9_goes, Cond.selects RX9 yX9_goes yX9_goes, Cond.code yX9_goes cX9_goes 11 none, Cond.fieldLink RX9 44 "GrazeBookModel" "rains" "[I", Cond.fieldLink RX9 41 "GrazeBookModel" "rates" "[I", Cond.fieldLink RX9 47 "GrazeBookModel" "warmths" "[I", Cond.methodLink RX9 179 Lib.Math.max.name, Cond.static Lib.Math.max.name, Cond.initialized "java/lang/Math", Cond.code Lib.Math.max.name Lib.Math.max.code 2 (some .int), Cond.fieldLink RX9 16 "GrazeBookModel" "full" "[I", Cond.constantLong RX9 194 (1000), Cond.methodLink RX9 196 Lib.MathLoose.max_long.x, Cond.static Lib.MathLoose.max_long.x, Cond.code Lib.MathLoose.max_long.x Lib.MathLoose.max_long.code 4 (some .long), Cond.methodLink RX9 199 Lib.MathLoose.min_long.x, Cond.static Lib.MathLoose.min_long.x, Cond.code Lib.MathLoose.min_long.x Lib.MathLoose.min_long.code 4 (some .long), Cond.methodLink RX9 173 Lib.Math.min.name, Cond.static Lib.Math.min.name]
def wsX9_pass_r3 : List Cond := [Cond.code Lib.Math.min.name Lib.Math.min.code 2 (some .int), Cond.fieldLink RX9 28 "GrazeBookModel" "water" "[Z", Cond.methodLink RX9 170 yX9_partsOfHerd, Cond.instanceMethod yX9_partsOfHerd, Cond.selects RX9 yX9_partsOfHerd yX9_partsOfHerd, Cond.code yX9_partsOfHerd cX9_partsOfHerd 2 (some .int), Cond.fieldLink RX9 86 "GrazeBookModel" "hMany" "[I", Cond.fieldLink RX9 83 "GrazeBookModel" "hSort" "[I", Cond.methodLink RX9 161 yX9_partsOfSort, Cond.static yX9_partsOfSort, Cond.code yX9_partsOfSort cX9_partsOfSort 1 (some .int), Cond.methodLink RX9 201 yX9_shares, Cond.instanceMethod yX9_shares, Cond.selects RX9 yX9_shares yX9_shares, Cond.code yX9_shares cX9_shares 13 none, Cond.methodLink RX9 224 yX9_sells, Cond.instanceMethod yX9_sells, Cond.selects RX9 yX9_sells yX9_sells, Cond.code yX9_sells cX9_sells 4 none, Cond.fieldLink RX9 101 "GrazeBookModel" "hSince" "[I", Cond.fieldLink RX9 205 "GrazeBookModel" "reeveCoins" "I", Cond.fieldLink RX9 32 "GrazeBookModel" "coins" "[I", Cond.fieldLink RX9 80 "GrazeBookModel" "hOwner" "[I", Cond.methodLink RX9 227 yX9_lapses]
def wsX9_pass_r4 : List Cond := [Cond.instanceMethod yX9_lapses, Cond.selects RX9 yX9_lapses yX9_lapses, Cond.code yX9_lapses cX9_lapses 3 none, Cond.fieldLink RX9 148 "GrazeBookModel" "rights" "I", Cond.fieldLink RX9 77 "GrazeBookModel" "uses" "[Z", Cond.fieldLink RX9 68 "GrazeBookModel" "rOf" "[I", Cond.fieldLink RX9 71 "GrazeBookModel" "rUsed" "[I", Cond.fieldLink RX9 59 "GrazeBookModel" "rFrom" "[I", Cond.fieldLink RX9 74 "GrazeBookModel" "rGone" "[Z", Cond.fieldLink RX9 211 "GrazeBookModel" "lapsed" "I", Cond.methodLink RX9 158 yX9_partsOf, Cond.instanceMethod yX9_partsOf, Cond.selects RX9 yX9_partsOf yX9_partsOf, Cond.code yX9_partsOf cX9_partsOf 4 (some .int), Cond.fieldLink RX9 56 "GrazeBookModel" "rParts" "[I", Cond.methodLink RX9 144 yX9_isInForce, Cond.instanceMethod yX9_isInForce, Cond.selects RX9 yX9_isInForce yX9_isInForce, Cond.code yX9_isInForce cX9_isInForce 2 (some .boolean), Cond.fieldLink RX9 62 "GrazeBookModel" "rTo" "[I", Cond.methodLink RX9 208 yX9_isAsked, Cond.instanceMethod yX9_isAsked, Cond.selects RX9 yX9_isAsked yX9_isAsked, Cond.code yX9_isAsked cX9_isAsked 5 (some .boolean)]
def wsX9_pass_r5 : List Cond := [Cond.fieldLink RX9 50 "GrazeBookModel" "rKind" "[I", Cond.fieldLink RX9 65 "GrazeBookModel" "rPiece" "[I", Cond.methodLink RX9 155 yX9_ownerOfRight, Cond.instanceMethod yX9_ownerOfRight, Cond.selects RX9 yX9_ownerOfRight yX9_ownerOfRight, Cond.code yX9_ownerOfRight cX9_ownerOfRight 2 (some .int), Cond.fieldLink RX9 38 "GrazeBookModel" "houseOf" "[I", Cond.fieldLink RX9 53 "GrazeBookModel" "rWho" "[I"]
def wsX9_pass : List Cond := .code yX9_pass cX9_pass 5 (some .int) :: ((wsX9_pass_r1 ++ (wsX9_pass_r2 ++ (wsX9_pass_r3 ++ (wsX9_pass_r4 ++ wsX9_pass_r5)))) ++ wsX90)
def wsX9_rest : List Cond := .code yX9_rest cX9_rest 4 (some .int) :: ([.fieldLink RX9 127 "GrazeBookModel" "pieces" "I", .fieldLink RX9 141 "GrazeBookModel" "day" "I", .fieldLink RX9 22 "GrazeBookModel" "rest" "[I", .methodLink RX9 134 yX9_isIn, .static yX9_isIn, .initialized RX9, .code yX9_isIn cX9_isIn 2 (some .boolean), .methodLink RX9 122 yX9_refuse, .instanceMethod yX9_refuse, .selects RX9 yX9_refuse yX9_refuse, .code yX9_refuse cX9_refuse 2 (some .int), .fieldLink RX9 7 "GrazeBookModel" "refusals" "[I"] ++ wsX90)
def wsX9_counts : List Cond := .code yX9_counts cX9_counts 3 (some .int) :: ([.fieldLink RX9 50 "GrazeBookModel" "rKind" "[I", .fieldLink RX9 65 "GrazeBookModel" "rPiece" "[I", .methodLink RX9 158 yX9_partsOf, .instanceMethod yX9_partsOf, .selects RX9 yX9_partsOf yX9_partsOf, .initialized RX9, .code yX9_partsOf cX9_partsOf 4 (some .int), .fieldLink RX9 56 "GrazeBookModel" "rParts" "[I", .fieldLink RX9 148 "GrazeBookModel" "rights" "I", .fieldLink RX9 68 "GrazeBookModel" "rOf" "[I", .methodLink RX9 144 yX9_isInForce, .instanceMethod yX9_isInForce, .selects RX9 yX9_isInForce yX9_isInForce, .code yX9_isInForce cX9_isInForce 2 (some .boolean), .fieldLink RX9 74 "GrazeBookModel" "rGone" "[Z", .fieldLink RX9 59 "GrazeBookModel" "rFrom" "[I", .fieldLink RX9 141 "GrazeBookModel" "day" "I", .fieldLink RX9 62 "GrazeBookModel" "rTo" "[I"] ++ wsX90)
def wsX9_cut_r1 : List Cond := [Cond.fieldLink RX9 127 "GrazeBookModel" "pieces" "I", Cond.fieldLink RX9 164 "GrazeBookModel" "herds" "I", Cond.fieldLink RX9 89 "GrazeBookModel" "hPiece" "[I", Cond.fieldLink RX9 13 "GrazeBookModel" "grass" "[I", Cond.methodLink RX9 179 Lib.Math.max.name, Cond.static Lib.Math.max.name, Cond.initialized "java/lang/Math", Cond.code Lib.Math.max.name Lib.Math.max.code 2 (some .int), Cond.fieldLink RX9 22 "GrazeBookModel" "rest" "[I", Cond.fieldLink RX9 141 "GrazeBookModel" "day" "I", Cond.fieldLink RX9 148 "GrazeBookModel" "rights" "I", Cond.fieldLink RX9 131 "GrazeBookModel" "owners" "I", Cond.fieldLink RX9 35 "GrazeBookModel" "hay" "[I", Cond.fieldLink RX9 236 "GrazeBookModel" "reeveHay" "I", Cond.methodLink RX9 134 yX9_isIn, Cond.static yX9_isIn, Cond.initialized RX9, Cond.code yX9_isIn cX9_isIn 2 (some .boolean), Cond.methodLink RX9 122 yX9_refuse, Cond.instanceMethod yX9_refuse, Cond.selects RX9 yX9_refuse yX9_refuse, Cond.code yX9_refuse cX9_refuse 2 (some .int), Cond.fieldLink RX9 7 "GrazeBookModel" "refusals" "[I", Cond.methodLink RX9 167 yX9_isOut]
def wsX9_cut_r2 : List Cond := [Cond.instanceMethod yX9_isOut, Cond.selects RX9 yX9_isOut yX9_isOut, Cond.code yX9_isOut cX9_isOut 2 (some .boolean), Cond.fieldLink RX9 98 "GrazeBookModel" "hState" "[I", Cond.methodLink RX9 182 yX9_rests, Cond.instanceMethod yX9_rests, Cond.selects RX9 yX9_rests yX9_rests, Cond.code yX9_rests cX9_rests 2 (some .boolean), Cond.methodLink RX9 233 yX9_counts, Cond.instanceMethod yX9_counts, Cond.selects RX9 yX9_counts yX9_counts, Cond.code yX9_counts cX9_counts 3 (some .int), Cond.fieldLink RX9 50 "GrazeBookModel" "rKind" "[I", Cond.fieldLink RX9 65 "GrazeBookModel" "rPiece" "[I", Cond.methodLink RX9 158 yX9_partsOf, Cond.instanceMethod yX9_partsOf, Cond.selects RX9 yX9_partsOf yX9_partsOf, Cond.code yX9_partsOf cX9_partsOf 4 (some .int), Cond.fieldLink RX9 56 "GrazeBookModel" "rParts" "[I", Cond.fieldLink RX9 68 "GrazeBookModel" "rOf" "[I", Cond.methodLink RX9 144 yX9_isInForce, Cond.instanceMethod yX9_isInForce, Cond.selects RX9 yX9_isInForce yX9_isInForce, Cond.code yX9_isInForce cX9_isInForce 2 (some .boolean)]
def wsX9_cut_r3 : List Cond := [Cond.fieldLink RX9 74 "GrazeBookModel" "rGone" "[Z", Cond.fieldLink RX9 59 "GrazeBookModel" "rFrom" "[I", Cond.fieldLink RX9 62 "GrazeBookModel" "rTo" "[I", Cond.methodLink RX9 155 yX9_ownerOfRight, Cond.instanceMethod yX9_ownerOfRight, Cond.selects RX9 yX9_ownerOfRight yX9_ownerOfRight, Cond.code yX9_ownerOfRight cX9_ownerOfRight 2 (some .int), Cond.fieldLink RX9 38 "GrazeBookModel" "houseOf" "[I", Cond.fieldLink RX9 53 "GrazeBookModel" "rWho" "[I"]
def wsX9_cut : List Cond := .code yX9_cut cX9_cut 11 (some .int) :: ((wsX9_cut_r1 ++ (wsX9_cut_r2 ++ wsX9_cut_r3)) ++ wsX90)
def wsX9_pound_r1 : List Cond := [Cond.fieldLink RX9 164 "GrazeBookModel" "herds" "I", Cond.fieldLink RX9 80 "GrazeBookModel" "hOwner" "[I", Cond.fieldLink RX9 89 "GrazeBookModel" "hPiece" "[I", Cond.fieldLink RX9 98 "GrazeBookModel" "hState" "[I", Cond.fieldLink RX9 101 "GrazeBookModel" "hSince" "[I", Cond.fieldLink RX9 141 "GrazeBookModel" "day" "I", Cond.methodLink RX9 134 yX9_isIn, Cond.static yX9_isIn, Cond.initialized RX9, Cond.code yX9_isIn cX9_isIn 2 (some .boolean), Cond.methodLink RX9 122 yX9_refuse, Cond.instanceMethod yX9_refuse, Cond.selects RX9 yX9_refuse yX9_refuse, Cond.code yX9_refuse cX9_refuse 2 (some .int), Cond.fieldLink RX9 7 "GrazeBookModel" "refusals" "[I", Cond.methodLink RX9 167 yX9_isOut, Cond.instanceMethod yX9_isOut, Cond.selects RX9 yX9_isOut yX9_isOut, Cond.code yX9_isOut cX9_isOut 2 (some .boolean), Cond.methodLink RX9 185 yX9_lacksOf, Cond.instanceMethod yX9_lacksOf, Cond.selects RX9 yX9_lacksOf yX9_lacksOf, Cond.code yX9_lacksOf cX9_lacksOf 11 (some .int), Cond.fieldLink RX9 127 "GrazeBookModel" "pieces" "I"]
def wsX9_pound_r2 : List Cond := [Cond.fieldLink RX9 148 "GrazeBookModel" "rights" "I", Cond.fieldLink RX9 50 "GrazeBookModel" "rKind" "[I", Cond.fieldLink RX9 65 "GrazeBookModel" "rPiece" "[I", Cond.fieldLink RX9 83 "GrazeBookModel" "hSort" "[I", Cond.methodLink RX9 173 Lib.Math.min.name, Cond.static Lib.Math.min.name, Cond.initialized "java/lang/Math", Cond.code Lib.Math.min.name Lib.Math.min.code 2 (some .int), Cond.methodLink RX9 179 Lib.Math.max.name, Cond.static Lib.Math.max.name, Cond.code Lib.Math.max.name Lib.Math.max.code 2 (some .int), Cond.methodLink RX9 155 yX9_ownerOfRight, Cond.instanceMethod yX9_ownerOfRight, Cond.selects RX9 yX9_ownerOfRight yX9_ownerOfRight, Cond.code yX9_ownerOfRight cX9_ownerOfRight 2 (some .int), Cond.fieldLink RX9 38 "GrazeBookModel" "houseOf" "[I", Cond.fieldLink RX9 53 "GrazeBookModel" "rWho" "[I", Cond.methodLink RX9 158 yX9_partsOf, Cond.instanceMethod yX9_partsOf, Cond.selects RX9 yX9_partsOf yX9_partsOf, Cond.code yX9_partsOf cX9_partsOf 4 (some .int), Cond.fieldLink RX9 56 "GrazeBookModel" "rParts" "[I", Cond.fieldLink RX9 68 "GrazeBookModel" "rOf" "[I", Cond.methodLink RX9 144 yX9_isInForce]
def wsX9_pound_r3 : List Cond := [Cond.instanceMethod yX9_isInForce, Cond.selects RX9 yX9_isInForce yX9_isInForce, Cond.code yX9_isInForce cX9_isInForce 2 (some .boolean), Cond.fieldLink RX9 74 "GrazeBookModel" "rGone" "[Z", Cond.fieldLink RX9 59 "GrazeBookModel" "rFrom" "[I", Cond.fieldLink RX9 62 "GrazeBookModel" "rTo" "[I", Cond.methodLink RX9 170 yX9_partsOfHerd, Cond.instanceMethod yX9_partsOfHerd, Cond.selects RX9 yX9_partsOfHerd yX9_partsOfHerd, Cond.code yX9_partsOfHerd cX9_partsOfHerd 2 (some .int), Cond.fieldLink RX9 86 "GrazeBookModel" "hMany" "[I", Cond.methodLink RX9 161 yX9_partsOfSort, Cond.static yX9_partsOfSort, Cond.code yX9_partsOfSort cX9_partsOfSort 1 (some .int)]
def wsX9_pound : List Cond := .code yX9_pound cX9_pound 2 (some .int) :: ((wsX9_pound_r1 ++ (wsX9_pound_r2 ++ wsX9_pound_r3)) ++ wsX90)
def wsX9_feeOf : List Cond := .code yX9_feeOf cX9_feeOf 2 (some .int) :: ([.fieldLink RX9 98 "GrazeBookModel" "hState" "[I", .fieldLink RX9 141 "GrazeBookModel" "day" "I", .fieldLink RX9 101 "GrazeBookModel" "hSince" "[I", .fieldLink RX9 86 "GrazeBookModel" "hMany" "[I"] ++ wsX90)
def wsX9_free : List Cond := .code yX9_free cX9_free 3 (some .int) :: ([.fieldLink RX9 164 "GrazeBookModel" "herds" "I", .fieldLink RX9 98 "GrazeBookModel" "hState" "[I", .fieldLink RX9 32 "GrazeBookModel" "coins" "[I", .fieldLink RX9 80 "GrazeBookModel" "hOwner" "[I", .fieldLink RX9 205 "GrazeBookModel" "reeveCoins" "I", .methodLink RX9 134 yX9_isIn, .static yX9_isIn, .initialized RX9, .code yX9_isIn cX9_isIn 2 (some .boolean), .methodLink RX9 122 yX9_refuse, .instanceMethod yX9_refuse, .selects RX9 yX9_refuse yX9_refuse, .code yX9_refuse cX9_refuse 2 (some .int), .fieldLink RX9 7 "GrazeBookModel" "refusals" "[I", .methodLink RX9 239 yX9_feeOf, .instanceMethod yX9_feeOf, .selects RX9 yX9_feeOf yX9_feeOf, .code yX9_feeOf cX9_feeOf 2 (some .int), .fieldLink RX9 141 "GrazeBookModel" "day" "I", .fieldLink RX9 101 "GrazeBookModel" "hSince" "[I", .fieldLink RX9 86 "GrazeBookModel" "hMany" "[I"] ++ wsX90)
def wsX9_mayTake : List Cond := .code yX9_mayTake cX9_mayTake 4 (some .boolean) :: ([.fieldLink RX9 141 "GrazeBookModel" "day" "I", .fieldLink RX9 22 "GrazeBookModel" "rest" "[I"] ++ wsX90)
def wsX9_tries_r1 : List Cond := [Cond.fieldLink RX9 127 "GrazeBookModel" "pieces" "I", Cond.fieldLink RX9 107 "GrazeBookModel" "tryGrass" "[I", Cond.fieldLink RX9 13 "GrazeBookModel" "grass" "[I", Cond.fieldLink RX9 110 "GrazeBookModel" "tryPiece" "[I", Cond.fieldLink RX9 116 "GrazeBookModel" "trial" "[I", Cond.fieldLink RX9 141 "GrazeBookModel" "day" "I", Cond.fieldLink RX9 113 "GrazeBookModel" "eatenNow" "[I", Cond.fieldLink RX9 104 "GrazeBookModel" "hunger" "[I", Cond.methodLink RX9 214 yX9_places, Cond.instanceMethod yX9_places, Cond.selects RX9 yX9_places yX9_places, Cond.initialized RX9, Cond.code yX9_places cX9_places 2 none, Cond.fieldLink RX9 164 "GrazeBookModel" "herds" "I", Cond.fieldLink RX9 89 "GrazeBookModel" "hPiece" "[I", Cond.methodLink RX9 167 yX9_isOut, Cond.instanceMethod yX9_isOut, Cond.selects RX9 yX9_isOut yX9_isOut, Cond.code yX9_isOut cX9_isOut 2 (some .boolean), Cond.fieldLink RX9 98 "GrazeBookModel" "hState" "[I", Cond.methodLink RX9 217 yX9_goes, Cond.instanceMethod yX9_goes, Cond.selects RX9 yX9_goes yX9_goes, Cond.code yX9_goes cX9_goes 11 none]
def wsX9_tries_r2 : List Cond := [Cond.fieldLink RX9 44 "GrazeBookModel" "rains" "[I", Cond.fieldLink RX9 41 "GrazeBookModel" "rates" "[I", Cond.fieldLink RX9 47 "GrazeBookModel" "warmths" "[I", Cond.methodLink RX9 179 Lib.Math.max.name, Cond.static Lib.Math.max.name, Cond.initialized "java/lang/Math", Cond.code Lib.Math.max.name Lib.Math.max.code 2 (some .int), Cond.fieldLink RX9 16 "GrazeBookModel" "full" "[I", Cond.constantLong RX9 194 (1000), Cond.methodLink RX9 196 Lib.MathLoose.max_long.x, Cond.static Lib.MathLoose.max_long.x, Cond.code Lib.MathLoose.max_long.x Lib.MathLoose.max_long.code 4 (some .long), Cond.methodLink RX9 199 Lib.MathLoose.min_long.x, Cond.static Lib.MathLoose.min_long.x, Cond.code Lib.MathLoose.min_long.x Lib.MathLoose.min_long.code 4 (some .long), Cond.methodLink RX9 173 Lib.Math.min.name, Cond.static Lib.Math.min.name, Cond.code Lib.Math.min.name Lib.Math.min.code 2 (some .int), Cond.fieldLink RX9 28 "GrazeBookModel" "water" "[Z", Cond.methodLink RX9 170 yX9_partsOfHerd, Cond.instanceMethod yX9_partsOfHerd, Cond.selects RX9 yX9_partsOfHerd yX9_partsOfHerd, Cond.code yX9_partsOfHerd cX9_partsOfHerd 2 (some .int), Cond.fieldLink RX9 86 "GrazeBookModel" "hMany" "[I"]
def wsX9_tries_r3 : List Cond := [Cond.fieldLink RX9 83 "GrazeBookModel" "hSort" "[I", Cond.methodLink RX9 161 yX9_partsOfSort, Cond.static yX9_partsOfSort, Cond.code yX9_partsOfSort cX9_partsOfSort 1 (some .int), Cond.methodLink RX9 201 yX9_shares, Cond.instanceMethod yX9_shares, Cond.selects RX9 yX9_shares yX9_shares, Cond.code yX9_shares cX9_shares 13 none]
def wsX9_tries : List Cond := .code yX9_tries cX9_tries 9 (some .int) :: ((wsX9_tries_r1 ++ (wsX9_tries_r2 ++ wsX9_tries_r3)) ++ wsX90)
def wsX9_plan_r1 : List Cond := [Cond.fieldLink RX9 164 "GrazeBookModel" "herds" "I", Cond.fieldLink RX9 98 "GrazeBookModel" "hState" "[I", Cond.fieldLink RX9 127 "GrazeBookModel" "pieces" "I", Cond.fieldLink RX9 141 "GrazeBookModel" "day" "I", Cond.fieldLink RX9 116 "GrazeBookModel" "trial" "[I", Cond.fieldLink RX9 119 "GrazeBookModel" "best" "[I", Cond.fieldLink RX9 250 "GrazeBookModel" "planSteps" "I", Cond.fieldLink RX9 253 "GrazeBookModel" "planHerds" "I", Cond.methodLink RX9 134 yX9_isIn, Cond.static yX9_isIn, Cond.initialized RX9, Cond.code yX9_isIn cX9_isIn 2 (some .boolean), Cond.methodLink RX9 122 yX9_refuse, Cond.instanceMethod yX9_refuse, Cond.selects RX9 yX9_refuse yX9_refuse, Cond.code yX9_refuse cX9_refuse 2 (some .int), Cond.fieldLink RX9 7 "GrazeBookModel" "refusals" "[I", Cond.methodLink RX9 242 yX9_mayTake, Cond.instanceMethod yX9_mayTake, Cond.selects RX9 yX9_mayTake yX9_mayTake, Cond.code yX9_mayTake cX9_mayTake 4 (some .boolean), Cond.fieldLink RX9 22 "GrazeBookModel" "rest" "[I", Cond.methodLink RX9 246 yX9_tries, Cond.instanceMethod yX9_tries]
def wsX9_plan_r2 : List Cond := [Cond.selects RX9 yX9_tries yX9_tries, Cond.code yX9_tries cX9_tries 9 (some .int), Cond.fieldLink RX9 107 "GrazeBookModel" "tryGrass" "[I", Cond.fieldLink RX9 13 "GrazeBookModel" "grass" "[I", Cond.fieldLink RX9 110 "GrazeBookModel" "tryPiece" "[I", Cond.fieldLink RX9 113 "GrazeBookModel" "eatenNow" "[I", Cond.fieldLink RX9 104 "GrazeBookModel" "hunger" "[I", Cond.methodLink RX9 214 yX9_places, Cond.instanceMethod yX9_places, Cond.selects RX9 yX9_places yX9_places, Cond.code yX9_places cX9_places 2 none, Cond.fieldLink RX9 89 "GrazeBookModel" "hPiece" "[I", Cond.methodLink RX9 167 yX9_isOut, Cond.instanceMethod yX9_isOut, Cond.selects RX9 yX9_isOut yX9_isOut, Cond.code yX9_isOut cX9_isOut 2 (some .boolean), Cond.methodLink RX9 217 yX9_goes, Cond.instanceMethod yX9_goes, Cond.selects RX9 yX9_goes yX9_goes, Cond.code yX9_goes cX9_goes 11 none, Cond.fieldLink RX9 44 "GrazeBookModel" "rains" "[I", Cond.fieldLink RX9 41 "GrazeBookModel" "rates" "[I", Cond.fieldLink RX9 47 "GrazeBookModel" "warmths" "[I", Cond.methodLink RX9 179 Lib.Math.max.name]
def wsX9_plan_r3 : List Cond := [Cond.static Lib.Math.max.name, Cond.initialized "java/lang/Math", Cond.code Lib.Math.max.name Lib.Math.max.code 2 (some .int), Cond.fieldLink RX9 16 "GrazeBookModel" "full" "[I", Cond.constantLong RX9 194 (1000), Cond.methodLink RX9 196 Lib.MathLoose.max_long.x, Cond.static Lib.MathLoose.max_long.x, Cond.code Lib.MathLoose.max_long.x Lib.MathLoose.max_long.code 4 (some .long), Cond.methodLink RX9 199 Lib.MathLoose.min_long.x, Cond.static Lib.MathLoose.min_long.x, Cond.code Lib.MathLoose.min_long.x Lib.MathLoose.min_long.code 4 (some .long), Cond.methodLink RX9 173 Lib.Math.min.name, Cond.static Lib.Math.min.name, Cond.code Lib.Math.min.name Lib.Math.min.code 2 (some .int), Cond.fieldLink RX9 28 "GrazeBookModel" "water" "[Z", Cond.methodLink RX9 170 yX9_partsOfHerd, Cond.instanceMethod yX9_partsOfHerd, Cond.selects RX9 yX9_partsOfHerd yX9_partsOfHerd, Cond.code yX9_partsOfHerd cX9_partsOfHerd 2 (some .int), Cond.fieldLink RX9 86 "GrazeBookModel" "hMany" "[I", Cond.fieldLink RX9 83 "GrazeBookModel" "hSort" "[I", Cond.methodLink RX9 161 yX9_partsOfSort, Cond.static yX9_partsOfSort, Cond.code yX9_partsOfSort cX9_partsOfSort 1 (some .int)]
def wsX9_plan_r4 : List Cond := [Cond.methodLink RX9 201 yX9_shares, Cond.instanceMethod yX9_shares, Cond.selects RX9 yX9_shares yX9_shares, Cond.code yX9_shares cX9_shares 13 none]
def wsX9_plan : List Cond := .code yX9_plan cX9_plan 13 (some .int) :: ((wsX9_plan_r1 ++ (wsX9_plan_r2 ++ (wsX9_plan_r3 ++ wsX9_plan_r4))) ++ wsX90)
def wsX9_planned : List Cond := .code yX9_planned cX9_planned 3 (some .int) :: ([.fieldLink RX9 250 "GrazeBookModel" "planSteps" "I", .fieldLink RX9 253 "GrazeBookModel" "planHerds" "I", .fieldLink RX9 119 "GrazeBookModel" "best" "[I", .methodLink RX9 134 yX9_isIn, .static yX9_isIn, .initialized RX9, .code yX9_isIn cX9_isIn 2 (some .boolean)] ++ wsX90)
def wsX9_pieceOf_r1 : List Cond := [Cond.fieldLink RX9 127 "GrazeBookModel" "pieces" "I", Cond.fieldLink RX9 13 "GrazeBookModel" "grass" "[I", Cond.fieldLink RX9 16 "GrazeBookModel" "full" "[I", Cond.fieldLink RX9 19 "GrazeBookModel" "bears" "[I", Cond.fieldLink RX9 22 "GrazeBookModel" "rest" "[I", Cond.fieldLink RX9 164 "GrazeBookModel" "herds" "I", Cond.fieldLink RX9 89 "GrazeBookModel" "hPiece" "[I", Cond.fieldLink RX9 25 "GrazeBookModel" "eaten" "[I", Cond.methodLink RX9 134 yX9_isIn, Cond.static yX9_isIn, Cond.initialized RX9, Cond.code yX9_isIn cX9_isIn 2 (some .boolean), Cond.methodLink RX9 122 yX9_refuse, Cond.instanceMethod yX9_refuse, Cond.selects RX9 yX9_refuse yX9_refuse, Cond.code yX9_refuse cX9_refuse 2 (some .int), Cond.fieldLink RX9 7 "GrazeBookModel" "refusals" "[I", Cond.methodLink RX9 191 yX9_partsOn, Cond.instanceMethod yX9_partsOn, Cond.selects RX9 yX9_partsOn yX9_partsOn, Cond.code yX9_partsOn cX9_partsOn 4 (some .int), Cond.methodLink RX9 167 yX9_isOut, Cond.instanceMethod yX9_isOut, Cond.selects RX9 yX9_isOut yX9_isOut]
def wsX9_pieceOf_r2 : List Cond := [Cond.code yX9_isOut cX9_isOut 2 (some .boolean), Cond.fieldLink RX9 98 "GrazeBookModel" "hState" "[I", Cond.methodLink RX9 170 yX9_partsOfHerd, Cond.instanceMethod yX9_partsOfHerd, Cond.selects RX9 yX9_partsOfHerd yX9_partsOfHerd, Cond.code yX9_partsOfHerd cX9_partsOfHerd 2 (some .int), Cond.fieldLink RX9 86 "GrazeBookModel" "hMany" "[I", Cond.fieldLink RX9 83 "GrazeBookModel" "hSort" "[I", Cond.methodLink RX9 161 yX9_partsOfSort, Cond.static yX9_partsOfSort, Cond.code yX9_partsOfSort cX9_partsOfSort 1 (some .int)]
def wsX9_pieceOf : List Cond := .code yX9_pieceOf cX9_pieceOf 5 (some .int) :: ((wsX9_pieceOf_r1 ++ wsX9_pieceOf_r2) ++ wsX90)
def wsX9_rightOf_r1 : List Cond := [Cond.fieldLink RX9 148 "GrazeBookModel" "rights" "I", Cond.fieldLink RX9 50 "GrazeBookModel" "rKind" "[I", Cond.fieldLink RX9 59 "GrazeBookModel" "rFrom" "[I", Cond.fieldLink RX9 62 "GrazeBookModel" "rTo" "[I", Cond.fieldLink RX9 74 "GrazeBookModel" "rGone" "[Z", Cond.fieldLink RX9 68 "GrazeBookModel" "rOf" "[I", Cond.fieldLink RX9 71 "GrazeBookModel" "rUsed" "[I", Cond.methodLink RX9 134 yX9_isIn, Cond.static yX9_isIn, Cond.initialized RX9, Cond.code yX9_isIn cX9_isIn 2 (some .boolean), Cond.methodLink RX9 122 yX9_refuse, Cond.instanceMethod yX9_refuse, Cond.selects RX9 yX9_refuse yX9_refuse, Cond.code yX9_refuse cX9_refuse 2 (some .int), Cond.fieldLink RX9 7 "GrazeBookModel" "refusals" "[I", Cond.methodLink RX9 155 yX9_ownerOfRight, Cond.instanceMethod yX9_ownerOfRight, Cond.selects RX9 yX9_ownerOfRight yX9_ownerOfRight, Cond.code yX9_ownerOfRight cX9_ownerOfRight 2 (some .int), Cond.fieldLink RX9 38 "GrazeBookModel" "houseOf" "[I", Cond.fieldLink RX9 53 "GrazeBookModel" "rWho" "[I", Cond.methodLink RX9 158 yX9_partsOf, Cond.instanceMethod yX9_partsOf]
def wsX9_rightOf_r2 : List Cond := [Cond.selects RX9 yX9_partsOf yX9_partsOf, Cond.code yX9_partsOf cX9_partsOf 4 (some .int), Cond.fieldLink RX9 56 "GrazeBookModel" "rParts" "[I", Cond.methodLink RX9 144 yX9_isInForce, Cond.instanceMethod yX9_isInForce, Cond.selects RX9 yX9_isInForce yX9_isInForce, Cond.code yX9_isInForce cX9_isInForce 2 (some .boolean), Cond.fieldLink RX9 141 "GrazeBookModel" "day" "I"]
def wsX9_rightOf : List Cond := .code yX9_rightOf cX9_rightOf 3 (some .int) :: ((wsX9_rightOf_r1 ++ wsX9_rightOf_r2) ++ wsX90)
def wsX9_herdOf : List Cond := .code yX9_herdOf cX9_herdOf 3 (some .int) :: ([.fieldLink RX9 164 "GrazeBookModel" "herds" "I", .fieldLink RX9 80 "GrazeBookModel" "hOwner" "[I", .fieldLink RX9 83 "GrazeBookModel" "hSort" "[I", .fieldLink RX9 86 "GrazeBookModel" "hMany" "[I", .fieldLink RX9 89 "GrazeBookModel" "hPiece" "[I", .fieldLink RX9 95 "GrazeBookModel" "hHunger" "[I", .fieldLink RX9 98 "GrazeBookModel" "hState" "[I", .methodLink RX9 134 yX9_isIn, .static yX9_isIn, .initialized RX9, .code yX9_isIn cX9_isIn 2 (some .boolean), .methodLink RX9 122 yX9_refuse, .instanceMethod yX9_refuse, .selects RX9 yX9_refuse yX9_refuse, .code yX9_refuse cX9_refuse 2 (some .int), .fieldLink RX9 7 "GrazeBookModel" "refusals" "[I", .methodLink RX9 239 yX9_feeOf, .instanceMethod yX9_feeOf, .selects RX9 yX9_feeOf yX9_feeOf, .code yX9_feeOf cX9_feeOf 2 (some .int), .fieldLink RX9 141 "GrazeBookModel" "day" "I", .fieldLink RX9 101 "GrazeBookModel" "hSince" "[I"] ++ wsX90)
def wsX9_ownerOf_r1 : List Cond := [Cond.fieldLink RX9 131 "GrazeBookModel" "owners" "I", Cond.fieldLink RX9 205 "GrazeBookModel" "reeveCoins" "I", Cond.fieldLink RX9 32 "GrazeBookModel" "coins" "[I", Cond.fieldLink RX9 236 "GrazeBookModel" "reeveHay" "I", Cond.fieldLink RX9 35 "GrazeBookModel" "hay" "[I", Cond.fieldLink RX9 164 "GrazeBookModel" "herds" "I", Cond.fieldLink RX9 80 "GrazeBookModel" "hOwner" "[I", Cond.fieldLink RX9 148 "GrazeBookModel" "rights" "I", Cond.methodLink RX9 134 yX9_isIn, Cond.static yX9_isIn, Cond.initialized RX9, Cond.code yX9_isIn cX9_isIn 2 (some .boolean), Cond.methodLink RX9 122 yX9_refuse, Cond.instanceMethod yX9_refuse, Cond.selects RX9 yX9_refuse yX9_refuse, Cond.code yX9_refuse cX9_refuse 2 (some .int), Cond.fieldLink RX9 7 "GrazeBookModel" "refusals" "[I", Cond.methodLink RX9 167 yX9_isOut, Cond.instanceMethod yX9_isOut, Cond.selects RX9 yX9_isOut yX9_isOut, Cond.code yX9_isOut cX9_isOut 2 (some .boolean), Cond.fieldLink RX9 98 "GrazeBookModel" "hState" "[I", Cond.fieldLink RX9 89 "GrazeBookModel" "hPiece" "[I", Cond.methodLink RX9 170 yX9_partsOfHerd]
def wsX9_ownerOf_r2 : List Cond := [Cond.instanceMethod yX9_partsOfHerd, Cond.selects RX9 yX9_partsOfHerd yX9_partsOfHerd, Cond.code yX9_partsOfHerd cX9_partsOfHerd 2 (some .int), Cond.fieldLink RX9 86 "GrazeBookModel" "hMany" "[I", Cond.fieldLink RX9 83 "GrazeBookModel" "hSort" "[I", Cond.methodLink RX9 161 yX9_partsOfSort, Cond.static yX9_partsOfSort, Cond.code yX9_partsOfSort cX9_partsOfSort 1 (some .int), Cond.methodLink RX9 155 yX9_ownerOfRight, Cond.instanceMethod yX9_ownerOfRight, Cond.selects RX9 yX9_ownerOfRight yX9_ownerOfRight, Cond.code yX9_ownerOfRight cX9_ownerOfRight 2 (some .int), Cond.fieldLink RX9 50 "GrazeBookModel" "rKind" "[I", Cond.fieldLink RX9 38 "GrazeBookModel" "houseOf" "[I", Cond.fieldLink RX9 53 "GrazeBookModel" "rWho" "[I", Cond.methodLink RX9 158 yX9_partsOf, Cond.instanceMethod yX9_partsOf, Cond.selects RX9 yX9_partsOf yX9_partsOf, Cond.code yX9_partsOf cX9_partsOf 4 (some .int), Cond.fieldLink RX9 56 "GrazeBookModel" "rParts" "[I", Cond.fieldLink RX9 68 "GrazeBookModel" "rOf" "[I", Cond.methodLink RX9 144 yX9_isInForce, Cond.instanceMethod yX9_isInForce, Cond.selects RX9 yX9_isInForce yX9_isInForce]
def wsX9_ownerOf_r3 : List Cond := [Cond.code yX9_isInForce cX9_isInForce 2 (some .boolean), Cond.fieldLink RX9 74 "GrazeBookModel" "rGone" "[Z", Cond.fieldLink RX9 59 "GrazeBookModel" "rFrom" "[I", Cond.fieldLink RX9 141 "GrazeBookModel" "day" "I", Cond.fieldLink RX9 62 "GrazeBookModel" "rTo" "[I"]
def wsX9_ownerOf : List Cond := .code yX9_ownerOf cX9_ownerOf 5 (some .int) :: ((wsX9_ownerOf_r1 ++ (wsX9_ownerOf_r2 ++ wsX9_ownerOf_r3)) ++ wsX90)
def wsX9_count : List Cond := .code yX9_count cX9_count 4 (some .int) :: ([.fieldLink RX9 7 "GrazeBookModel" "refusals" "[I", .fieldLink RX9 141 "GrazeBookModel" "day" "I", .fieldLink RX9 127 "GrazeBookModel" "pieces" "I", .fieldLink RX9 131 "GrazeBookModel" "owners" "I", .fieldLink RX9 138 "GrazeBookModel" "houses" "I", .fieldLink RX9 148 "GrazeBookModel" "rights" "I", .fieldLink RX9 164 "GrazeBookModel" "herds" "I", .fieldLink RX9 98 "GrazeBookModel" "hState" "[I", .fieldLink RX9 13 "GrazeBookModel" "grass" "[I", .fieldLink RX9 230 "GrazeBookModel" "hungers" "I", .fieldLink RX9 221 "GrazeBookModel" "eats" "I", .fieldLink RX9 211 "GrazeBookModel" "lapsed" "I", .methodLink RX9 144 yX9_isInForce, .instanceMethod yX9_isInForce, .selects RX9 yX9_isInForce yX9_isInForce, .initialized RX9, .code yX9_isInForce cX9_isInForce 2 (some .boolean), .fieldLink RX9 74 "GrazeBookModel" "rGone" "[Z", .fieldLink RX9 59 "GrazeBookModel" "rFrom" "[I", .fieldLink RX9 62 "GrazeBookModel" "rTo" "[I"] ++ wsX90)
def wsJ9_max_7cf53 : List Cond := .code yJ9_max_7cf53 cJ9_max_7cf53 2 (some .int) :: ([])
def wsJ9_max_f86c9 : List Cond := .code yJ9_max_f86c9 cJ9_max_f86c9 4 (some .long) :: ([])
def wsJ9_min_7cf53 : List Cond := .code yJ9_min_7cf53 cJ9_min_7cf53 2 (some .int) :: ([])
def wsJ9_min_f86c9 : List Cond := .code yJ9_min_f86c9 cJ9_min_f86c9 4 (some .long) :: ([])
def wsL_law_r1 : List Cond := [Cond.classLink RL 7 RX8, Cond.instantiable RX8 19, Cond.initialized RX8, Cond.classLink RL 10 RX9, Cond.instantiable RX9 51, Cond.initialized RX9, Cond.methodLink RL 9 yX8_init, Cond.instanceMethod yX8_init, Cond.code yX8_init cX8_init 1 none, Cond.methodLink RX8 1 objectInit, Cond.instanceMethod objectInit, Cond.code objectInit ⟨#[0xb1]⟩ 1 none, Cond.classLink RX8 9 RX4, Cond.fieldLink RX8 11 "GrazeBook" "pieces" "[LGrazeBook$Ground;", Cond.classLink RX8 15 RX5, Cond.fieldLink RX8 17 "GrazeBook" "owners" "[LGrazeBook$Purse;", Cond.instantiable RX5 2, Cond.initialized RX5, Cond.fieldLink RX8 24 "GrazeBook" "reeve" "LGrazeBook$Purse;", Cond.arrayClass .int, Cond.fieldLink RX8 28 "GrazeBook" "houses" "[I", Cond.classLink RX8 32 RX0, Cond.fieldLink RX8 34 "GrazeBook" "rights" "[LGrazeBook$Claim;", Cond.classLink RX8 38 RX2]
def wsL_law_r2 : List Cond := [Cond.fieldLink RX8 40 "GrazeBook" "herds" "[LGrazeBook$Drove;", Cond.classLink RX8 44 RX7, Cond.instantiable RX7 2, Cond.initialized RX7, Cond.fieldLink RX8 47 "GrazeBook" "year" "LGrazeBook$Year;", Cond.classLink RX8 51 RX1, Cond.instantiable RX1 5, Cond.initialized RX1, Cond.fieldLink RX8 54 "GrazeBook" "cover" "LGrazeBook$Cover;", Cond.classLink RX8 58 RX3, Cond.instantiable RX3 7, Cond.initialized RX3, Cond.fieldLink RX8 61 "GrazeBook" "grazing" "LGrazeBook$Grazing;", Cond.classLink RX8 65 RX6, Cond.instantiable RX6 10, Cond.initialized RX6, Cond.fieldLink RX8 68 "GrazeBook" "turns" "LGrazeBook$Turns;", Cond.fieldLink RX8 72 "GrazeBook" "refusals" "[I", Cond.fieldLink RX8 75 "GrazeBook" "pieceCount" "I", Cond.fieldLink RX8 79 "GrazeBook" "ownerCount" "I", Cond.fieldLink RX8 82 "GrazeBook" "houseCount" "I", Cond.fieldLink RX8 85 "GrazeBook" "rightCount" "I", Cond.fieldLink RX8 88 "GrazeBook" "herdCount" "I", Cond.fieldLink RX8 91 "GrazeBook" "day" "I"]
def wsL_law_r3 : List Cond := [Cond.fieldLink RX8 94 "GrazeBook" "latestOrder" "I", Cond.fieldLink RX8 97 "GrazeBook" "lapses" "I", Cond.methodLink RX8 21 yX5_init, Cond.instanceMethod yX5_init, Cond.code yX5_init cX5_init 2 none, Cond.methodLink RX5 1 objectInit, Cond.fieldLink RX5 7 "GrazeBook$Purse" "hay" "I", Cond.fieldLink RX5 13 "GrazeBook$Purse" "coins" "I", Cond.instanceMethod yX7_init, Cond.code yX7_init cX7_init 1 none, Cond.methodLink RX7 3 objectInit, Cond.fieldLink RX7 11 "GrazeBook$Year" "rates" "[I", Cond.fieldLink RX7 15 "GrazeBook$Year" "skies" "[I", Cond.instanceMethod yX1_init, Cond.code yX1_init cX1_init 1 none, Cond.methodLink RX1 3 objectInit, Cond.fieldLink RX1 9 "GrazeBook$Cover" "sheepOn" "[I", Cond.fieldLink RX1 15 "GrazeBook$Cover" "othersOn" "[I", Cond.fieldLink RX1 18 "GrazeBook$Cover" "leazesFor" "[I", Cond.fieldLink RX1 21 "GrazeBook$Cover" "walks" "I", Cond.fieldLink RX1 25 "GrazeBook$Cover" "forAny" "I", Cond.instanceMethod yX3_init, Cond.code yX3_init cX3_init 1 none, Cond.methodLink RX3 3 objectInit]
def wsL_law_r4 : List Cond := [Cond.fieldLink RX3 9 "GrazeBook$Grazing" "numbers" "[I", Cond.fieldLink RX3 15 "GrazeBook$Grazing" "partsOf" "[I", Cond.fieldLink RX3 18 "GrazeBook$Grazing" "hungers" "[I", Cond.fieldLink RX3 21 "GrazeBook$Grazing" "remainders" "[I", Cond.fieldLink RX3 24 "GrazeBook$Grazing" "size" "I", Cond.fieldLink RX3 28 "GrazeBook$Grazing" "all" "I", Cond.fieldLink RX3 31 "GrazeBook$Grazing" "eaten" "I", Cond.instanceMethod yX6_init, Cond.code yX6_init cX6_init 1 none, Cond.methodLink RX6 3 objectInit, Cond.classLink RX6 9 "[[I", Cond.fieldLink RX6 11 "GrazeBook$Turns" "hunger" "[[I", Cond.fieldLink RX6 16 "GrazeBook$Turns" "open" "[I", Cond.fieldLink RX6 20 "GrazeBook$Turns" "trial" "[I", Cond.fieldLink RX6 23 "GrazeBook$Turns" "best" "[I", Cond.fieldLink RX6 26 "GrazeBook$Turns" "visitsOf" "[I", Cond.fieldLink RX6 29 "GrazeBook$Turns" "firstHerd" "I", Cond.fieldLink RX6 33 "GrazeBook$Turns" "secondHerd" "I", Cond.fieldLink RX6 36 "GrazeBook$Turns" "width" "I", Cond.fieldLink RX6 39 "GrazeBook$Turns" "steps" "I", Cond.fieldLink RX6 42 "GrazeBook$Turns" "days" "I", Cond.methodLink RL 12 yX9_init, Cond.instanceMethod yX9_init, Cond.code yX9_init cX9_init 1 none]
def wsL_law_r5 : List Cond := [Cond.methodLink RX9 1 objectInit, Cond.fieldLink RX9 7 "GrazeBookModel" "refusals" "[I", Cond.fieldLink RX9 13 "GrazeBookModel" "grass" "[I", Cond.fieldLink RX9 16 "GrazeBookModel" "full" "[I", Cond.fieldLink RX9 19 "GrazeBookModel" "bears" "[I", Cond.fieldLink RX9 22 "GrazeBookModel" "rest" "[I", Cond.fieldLink RX9 25 "GrazeBookModel" "eaten" "[I", Cond.arrayClass .boolean, Cond.fieldLink RX9 28 "GrazeBookModel" "water" "[Z", Cond.fieldLink RX9 32 "GrazeBookModel" "coins" "[I", Cond.fieldLink RX9 35 "GrazeBookModel" "hay" "[I", Cond.fieldLink RX9 38 "GrazeBookModel" "houseOf" "[I", Cond.fieldLink RX9 41 "GrazeBookModel" "rates" "[I", Cond.fieldLink RX9 44 "GrazeBookModel" "rains" "[I", Cond.fieldLink RX9 47 "GrazeBookModel" "warmths" "[I", Cond.fieldLink RX9 50 "GrazeBookModel" "rKind" "[I", Cond.fieldLink RX9 53 "GrazeBookModel" "rWho" "[I", Cond.fieldLink RX9 56 "GrazeBookModel" "rParts" "[I", Cond.fieldLink RX9 59 "GrazeBookModel" "rFrom" "[I", Cond.fieldLink RX9 62 "GrazeBookModel" "rTo" "[I", Cond.fieldLink RX9 65 "GrazeBookModel" "rPiece" "[I", Cond.fieldLink RX9 68 "GrazeBookModel" "rOf" "[I", Cond.fieldLink RX9 71 "GrazeBookModel" "rUsed" "[I", Cond.fieldLink RX9 74 "GrazeBookModel" "rGone" "[Z"]
def wsL_law_r6 : List Cond := [Cond.fieldLink RX9 77 "GrazeBookModel" "uses" "[Z", Cond.fieldLink RX9 80 "GrazeBookModel" "hOwner" "[I", Cond.fieldLink RX9 83 "GrazeBookModel" "hSort" "[I", Cond.fieldLink RX9 86 "GrazeBookModel" "hMany" "[I", Cond.fieldLink RX9 89 "GrazeBookModel" "hPiece" "[I", Cond.fieldLink RX9 92 "GrazeBookModel" "hOrder" "[I", Cond.fieldLink RX9 95 "GrazeBookModel" "hHunger" "[I", Cond.fieldLink RX9 98 "GrazeBookModel" "hState" "[I", Cond.fieldLink RX9 101 "GrazeBookModel" "hSince" "[I", Cond.fieldLink RX9 104 "GrazeBookModel" "hunger" "[I", Cond.fieldLink RX9 107 "GrazeBookModel" "tryGrass" "[I", Cond.fieldLink RX9 110 "GrazeBookModel" "tryPiece" "[I", Cond.fieldLink RX9 113 "GrazeBookModel" "eatenNow" "[I", Cond.fieldLink RX9 116 "GrazeBookModel" "trial" "[I", Cond.fieldLink RX9 119 "GrazeBookModel" "best" "[I", Cond.methodLink RL 13 yX8_piece, Cond.instanceMethod yX8_piece, Cond.selects RX8 yX8_piece yX8_piece, Cond.code yX8_piece cX8_piece 5 (some .int), Cond.constant RX8 104 (100000), Cond.instantiable RX4 6, Cond.initialized RX4, Cond.methodLink RX8 100 yX8_refuse, Cond.instanceMethod yX8_refuse]
def wsL_law_r7 : List Cond := [Cond.selects RX8 yX8_refuse yX8_refuse, Cond.code yX8_refuse cX8_refuse 2 (some .int), Cond.methodLink RX8 105 yX4_init, Cond.instanceMethod yX4_init, Cond.code yX4_init cX4_init 5 none, Cond.methodLink RX4 1 objectInit, Cond.fieldLink RX4 7 "GrazeBook$Ground" "rest" "I", Cond.fieldLink RX4 13 "GrazeBook$Ground" "eaten" "I", Cond.fieldLink RX4 16 "GrazeBook$Ground" "grass" "I", Cond.fieldLink RX4 19 "GrazeBook$Ground" "full" "I", Cond.fieldLink RX4 22 "GrazeBook$Ground" "bears" "I", Cond.fieldLink RX4 25 "GrazeBook$Ground" "water" "Z", Cond.methodLink RL 17 yX9_piece, Cond.instanceMethod yX9_piece, Cond.selects RX9 yX9_piece yX9_piece, Cond.code yX9_piece cX9_piece 5 (some .int), Cond.constant RX9 126 (100000), Cond.fieldLink RX9 127 "GrazeBookModel" "pieces" "I", Cond.methodLink RX9 122 yX9_refuse, Cond.instanceMethod yX9_refuse, Cond.selects RX9 yX9_refuse yX9_refuse, Cond.code yX9_refuse cX9_refuse 2 (some .int), Cond.methodLink RL 18 yX8_owner, Cond.instanceMethod yX8_owner]
def wsL_law_r8 : List Cond := [Cond.selects RX8 yX8_owner yX8_owner, Cond.code yX8_owner cX8_owner 2 (some .int), Cond.methodLink RL 22 yX9_owner, Cond.instanceMethod yX9_owner, Cond.selects RX9 yX9_owner yX9_owner, Cond.code yX9_owner cX9_owner 2 (some .int), Cond.fieldLink RX9 131 "GrazeBookModel" "owners" "I", Cond.methodLink RL 23 yX8_house, Cond.instanceMethod yX8_house, Cond.selects RX8 yX8_house yX8_house, Cond.code yX8_house cX8_house 2 (some .int), Cond.methodLink RX8 108 yX8_isOwner, Cond.instanceMethod yX8_isOwner, Cond.selects RX8 yX8_isOwner yX8_isOwner, Cond.code yX8_isOwner cX8_isOwner 2 (some .boolean), Cond.methodLink RL 26 yX9_house, Cond.instanceMethod yX9_house, Cond.selects RX9 yX9_house yX9_house, Cond.code yX9_house cX9_house 2 (some .int), Cond.fieldLink RX9 138 "GrazeBookModel" "houses" "I", Cond.methodLink RX9 134 yX9_isIn, Cond.static yX9_isIn, Cond.code yX9_isIn cX9_isIn 2 (some .boolean), Cond.methodLink RL 27 yX8_rate]
def wsL_law_r9 : List Cond := [Cond.instanceMethod yX8_rate, Cond.selects RX8 yX8_rate yX8_rate, Cond.code yX8_rate cX8_rate 4 (some .int), Cond.methodLink RX8 112 yX7_isWeather, Cond.static yX7_isWeather, Cond.code yX7_isWeather cX7_isWeather 2 (some .boolean), Cond.methodLink RX8 116 yX7_changeRate, Cond.instanceMethod yX7_changeRate, Cond.selects RX7 yX7_changeRate yX7_changeRate, Cond.code yX7_changeRate cX7_changeRate 5 (some .int), Cond.methodLink RX7 18 yX7_isWeather, Cond.methodLink RL 31 yX9_rate, Cond.instanceMethod yX9_rate, Cond.selects RX9 yX9_rate yX9_rate, Cond.code yX9_rate cX9_rate 5 (some .int), Cond.methodLink RL 32 yX8_weather, Cond.instanceMethod yX8_weather, Cond.selects RX8 yX8_weather yX8_weather, Cond.code yX8_weather cX8_weather 4 (some .int), Cond.methodLink RX8 120 yX7_changeWeather, Cond.instanceMethod yX7_changeWeather, Cond.selects RX7 yX7_changeWeather yX7_changeWeather, Cond.code yX7_changeWeather cX7_changeWeather 4 none, Cond.methodLink RL 35 yX9_weather]
def wsL_law_r10 : List Cond := [Cond.instanceMethod yX9_weather, Cond.selects RX9 yX9_weather yX9_weather, Cond.code yX9_weather cX9_weather 4 (some .int), Cond.methodLink RL 36 yX8_right, Cond.instanceMethod yX8_right, Cond.selects RX8 yX8_right yX8_right, Cond.code yX8_right cX8_right 6 (some .int), Cond.instantiable RX0 9, Cond.initialized RX0, Cond.methodLink RX8 124 yX8_isHouse, Cond.instanceMethod yX8_isHouse, Cond.selects RX8 yX8_isHouse yX8_isHouse, Cond.code yX8_isHouse cX8_isHouse 2 (some .boolean), Cond.methodLink RX8 127 yX8_isPiece, Cond.instanceMethod yX8_isPiece, Cond.selects RX8 yX8_isPiece yX8_isPiece, Cond.code yX8_isPiece cX8_isPiece 2 (some .boolean), Cond.methodLink RX8 130 yX0_init, Cond.instanceMethod yX0_init, Cond.code yX0_init cX0_init 8 none, Cond.methodLink RX0 3 objectInit, Cond.fieldLink RX0 9 "GrazeBook$Claim" "usedOn" "I", Cond.fieldLink RX0 15 "GrazeBook$Claim" "gone" "Z", Cond.fieldLink RX0 19 "GrazeBook$Claim" "kind" "I"]
def wsL_law_r11 : List Cond := [Cond.fieldLink RX0 22 "GrazeBook$Claim" "who" "I", Cond.fieldLink RX0 25 "GrazeBook$Claim" "parts" "I", Cond.fieldLink RX0 28 "GrazeBook$Claim" "first" "I", Cond.fieldLink RX0 31 "GrazeBook$Claim" "last" "I", Cond.fieldLink RX0 34 "GrazeBook$Claim" "piece" "I", Cond.fieldLink RX0 37 "GrazeBook$Claim" "source" "I", Cond.methodLink RX8 133 yX8_addRight, Cond.instanceMethod yX8_addRight, Cond.selects RX8 yX8_addRight yX8_addRight, Cond.code yX8_addRight cX8_addRight 2 (some .int), Cond.methodLink RL 40 yX9_right, Cond.instanceMethod yX9_right, Cond.selects RX9 yX9_right yX9_right, Cond.code yX9_right cX9_right 6 (some .int), Cond.fieldLink RX9 141 "GrazeBookModel" "day" "I", Cond.fieldLink RX9 148 "GrazeBookModel" "rights" "I", Cond.methodLink RX9 151 yX9_adds, Cond.instanceMethod yX9_adds, Cond.selects RX9 yX9_adds yX9_adds, Cond.code yX9_adds cX9_adds 7 (some .int), Cond.methodLink RL 41 yX8_lend, Cond.instanceMethod yX8_lend, Cond.selects RX8 yX8_lend yX8_lend, Cond.code yX8_lend cX8_lend 5 (some .int)]
def wsL_law_r12 : List Cond := [Cond.fieldLink RX8 140 "GrazeBook$Claim" "kind" "I", Cond.fieldLink RX8 149 "GrazeBook$Claim" "last" "I", Cond.methodLink RX8 137 yX8_canPass, Cond.instanceMethod yX8_canPass, Cond.selects RX8 yX8_canPass yX8_canPass, Cond.code yX8_canPass cX8_canPass 3 (some .boolean), Cond.methodLink RX8 253 yX8_isRight, Cond.instanceMethod yX8_isRight, Cond.selects RX8 yX8_isRight yX8_isRight, Cond.code yX8_isRight cX8_isRight 2 (some .boolean), Cond.methodLink RX8 256 yX8_holder, Cond.instanceMethod yX8_holder, Cond.selects RX8 yX8_holder yX8_holder, Cond.code yX8_holder cX8_holder 2 (some .int), Cond.fieldLink RX8 152 "GrazeBook$Claim" "who" "I", Cond.methodLink RX8 143 yX0_isInForce, Cond.instanceMethod yX0_isInForce, Cond.selects RX0 yX0_isInForce yX0_isInForce, Cond.code yX0_isInForce cX0_isInForce 2 (some .boolean), Cond.methodLink RX8 146 yX8_countingParts, Cond.instanceMethod yX8_countingParts, Cond.selects RX8 yX8_countingParts yX8_countingParts, Cond.code yX8_countingParts cX8_countingParts 4 (some .int), Cond.fieldLink RX8 309 "GrazeBook$Claim" "parts" "I"]
def wsL_law_r13 : List Cond := [Cond.fieldLink RX8 266 "GrazeBook$Claim" "source" "I", Cond.methodLink RL 45 yX9_lend, Cond.instanceMethod yX9_lend, Cond.selects RX9 yX9_lend yX9_lend, Cond.code yX9_lend cX9_lend 5 (some .int), Cond.methodLink RX9 155 yX9_ownerOfRight, Cond.instanceMethod yX9_ownerOfRight, Cond.selects RX9 yX9_ownerOfRight yX9_ownerOfRight, Cond.code yX9_ownerOfRight cX9_ownerOfRight 2 (some .int), Cond.methodLink RX9 144 yX9_isInForce, Cond.instanceMethod yX9_isInForce, Cond.selects RX9 yX9_isInForce yX9_isInForce, Cond.code yX9_isInForce cX9_isInForce 2 (some .boolean), Cond.methodLink RX9 158 yX9_partsOf, Cond.instanceMethod yX9_partsOf, Cond.selects RX9 yX9_partsOf yX9_partsOf, Cond.code yX9_partsOf cX9_partsOf 4 (some .int), Cond.methodLink RL 46 yX8_sell, Cond.instanceMethod yX8_sell, Cond.selects RX8 yX8_sell yX8_sell, Cond.code yX8_sell cX8_sell 3 (some .int), Cond.methodLink RL 50 yX9_sell, Cond.instanceMethod yX9_sell, Cond.selects RX9 yX9_sell yX9_sell]
def wsL_law_r14 : List Cond := [Cond.code yX9_sell cX9_sell 3 (some .int), Cond.methodLink RL 51 yX8_move, Cond.instanceMethod yX8_move, Cond.selects RX8 yX8_move yX8_move, Cond.code yX8_move cX8_move 3 (some .int), Cond.methodLink RL 54 yX9_move, Cond.instanceMethod yX9_move, Cond.selects RX9 yX9_move yX9_move, Cond.code yX9_move cX9_move 3 (some .int), Cond.methodLink RL 55 yX8_herd, Cond.instanceMethod yX8_herd, Cond.selects RX8 yX8_herd yX8_herd, Cond.code yX8_herd cX8_herd 4 (some .int), Cond.instantiable RX2 8, Cond.initialized RX2, Cond.methodLink RX8 155 yX2_init, Cond.instanceMethod yX2_init, Cond.code yX2_init cX2_init 4 none, Cond.methodLink RX2 3 objectInit, Cond.fieldLink RX2 9 "GrazeBook$Drove" "piece" "I", Cond.fieldLink RX2 15 "GrazeBook$Drove" "order" "I", Cond.fieldLink RX2 18 "GrazeBook$Drove" "hunger" "I", Cond.fieldLink RX2 21 "GrazeBook$Drove" "state" "I", Cond.fieldLink RX2 24 "GrazeBook$Drove" "poundedOn" "I"]
def wsL_law_r15 : List Cond := [Cond.fieldLink RX2 27 "GrazeBook$Drove" "owner" "I", Cond.fieldLink RX2 30 "GrazeBook$Drove" "sort" "I", Cond.fieldLink RX2 33 "GrazeBook$Drove" "beasts" "I", Cond.methodLink RL 58 yX9_herd, Cond.instanceMethod yX9_herd, Cond.selects RX9 yX9_herd yX9_herd, Cond.code yX9_herd cX9_herd 4 (some .int), Cond.fieldLink RX9 164 "GrazeBookModel" "herds" "I", Cond.methodLink RL 59 yX8_put, Cond.instanceMethod yX8_put, Cond.selects RX8 yX8_put yX8_put, Cond.code yX8_put cX8_put 4 (some .int), Cond.fieldLink RX8 160 "GrazeBook$Drove" "state" "I", Cond.fieldLink RX8 163 "GrazeBook$Drove" "piece" "I", Cond.fieldLink RX8 169 "GrazeBook$Drove" "owner" "I", Cond.fieldLink RX8 175 "GrazeBook$Drove" "order" "I", Cond.methodLink RX8 157 yX8_isHerd, Cond.instanceMethod yX8_isHerd, Cond.selects RX8 yX8_isHerd yX8_isHerd, Cond.code yX8_isHerd cX8_isHerd 2 (some .boolean), Cond.methodLink RX8 166 yX4_restsOn, Cond.instanceMethod yX4_restsOn, Cond.selects RX4 yX4_restsOn yX4_restsOn, Cond.code yX4_restsOn cX4_restsOn 2 (some .boolean)]
def wsL_law_r16 : List Cond := [Cond.methodLink RX8 172 yX8_lackOf, Cond.instanceMethod yX8_lackOf, Cond.selects RX8 yX8_lackOf yX8_lackOf, Cond.code yX8_lackOf cX8_lackOf 2 (some .int), Cond.methodLink RX8 284 yX8_coverOf, Cond.instanceMethod yX8_coverOf, Cond.selects RX8 yX8_coverOf yX8_coverOf, Cond.code yX8_coverOf cX8_coverOf 3 (some (.object "GrazeBook$Cover")), Cond.methodLink RX8 311 yX1_clear, Cond.instanceMethod yX1_clear, Cond.selects RX1 yX1_clear yX1_clear, Cond.code yX1_clear cX1_clear 2 none, Cond.methodLink RX8 314 yX1_addHerd, Cond.instanceMethod yX1_addHerd, Cond.selects RX1 yX1_addHerd yX1_addHerd, Cond.code yX1_addHerd cX1_addHerd 2 none, Cond.fieldLink RX1 28 "GrazeBook$Drove" "piece" "I", Cond.fieldLink RX1 33 "GrazeBook$Drove" "sort" "I", Cond.methodLink RX1 36 yX2_parts, Cond.instanceMethod yX2_parts, Cond.selects RX2 yX2_parts yX2_parts, Cond.code yX2_parts cX2_parts 1 (some .int), Cond.methodLink RX8 318 yX1_addRight, Cond.instanceMethod yX1_addRight]
def wsL_law_r17 : List Cond := [Cond.selects RX1 yX1_addRight yX1_addRight, Cond.code yX1_addRight cX1_addRight 3 none, Cond.fieldLink RX1 40 "GrazeBook$Claim" "kind" "I", Cond.fieldLink RX1 45 "GrazeBook$Claim" "piece" "I", Cond.methodLink RX8 321 yX1_lack, Cond.instanceMethod yX1_lack, Cond.selects RX1 yX1_lack yX1_lack, Cond.code yX1_lack cX1_lack 5 (some .int), Cond.methodLink RX1 46 Lib.Math.max.name, Cond.static Lib.Math.max.name, Cond.initialized "java/lang/Math", Cond.code Lib.Math.max.name Lib.Math.max.code 2 (some .int), Cond.methodLink RL 62 yX9_put, Cond.instanceMethod yX9_put, Cond.selects RX9 yX9_put yX9_put, Cond.code yX9_put cX9_put 3 (some .int), Cond.fieldLink RX9 188 "GrazeBookModel" "orders" "I", Cond.methodLink RX9 182 yX9_rests, Cond.instanceMethod yX9_rests, Cond.selects RX9 yX9_rests yX9_rests, Cond.code yX9_rests cX9_rests 2 (some .boolean), Cond.methodLink RX9 185 yX9_lacksOf, Cond.instanceMethod yX9_lacksOf, Cond.selects RX9 yX9_lacksOf yX9_lacksOf]
def wsL_law_r18 : List Cond := [Cond.code yX9_lacksOf cX9_lacksOf 11 (some .int), Cond.methodLink RX9 173 Lib.Math.min.name, Cond.static Lib.Math.min.name, Cond.code Lib.Math.min.name Lib.Math.min.code 2 (some .int), Cond.methodLink RX9 179 Lib.Math.max.name, Cond.methodLink RX9 167 yX9_isOut, Cond.instanceMethod yX9_isOut, Cond.selects RX9 yX9_isOut yX9_isOut, Cond.code yX9_isOut cX9_isOut 2 (some .boolean), Cond.methodLink RX9 170 yX9_partsOfHerd, Cond.instanceMethod yX9_partsOfHerd, Cond.selects RX9 yX9_partsOfHerd yX9_partsOfHerd, Cond.code yX9_partsOfHerd cX9_partsOfHerd 2 (some .int), Cond.methodLink RX9 161 yX9_partsOfSort, Cond.static yX9_partsOfSort, Cond.code yX9_partsOfSort cX9_partsOfSort 1 (some .int), Cond.methodLink RL 63 yX8_drive, Cond.instanceMethod yX8_drive, Cond.selects RX8 yX8_drive yX8_drive, Cond.code yX8_drive cX8_drive 5 (some .int), Cond.methodLink RL 66 yX9_drive, Cond.instanceMethod yX9_drive, Cond.selects RX9 yX9_drive yX9_drive, Cond.code yX9_drive cX9_drive 4 (some .int)]
def wsL_law_r19 : List Cond := [Cond.methodLink RL 67 yX8_covered, Cond.instanceMethod yX8_covered, Cond.selects RX8 yX8_covered yX8_covered, Cond.code yX8_covered cX8_covered 2 (some .int), Cond.methodLink RL 70 yX9_covered, Cond.instanceMethod yX9_covered, Cond.selects RX9 yX9_covered yX9_covered, Cond.code yX9_covered cX9_covered 2 (some .int), Cond.methodLink RL 71 yX8_lacks, Cond.instanceMethod yX8_lacks, Cond.selects RX8 yX8_lacks yX8_lacks, Cond.code yX8_lacks cX8_lacks 2 (some .int), Cond.methodLink RL 74 yX9_lacks, Cond.instanceMethod yX9_lacks, Cond.selects RX9 yX9_lacks yX9_lacks, Cond.code yX9_lacks cX9_lacks 2 (some .int), Cond.methodLink RL 75 yX8_over, Cond.instanceMethod yX8_over, Cond.selects RX8 yX8_over yX8_over, Cond.code yX8_over cX8_over 6 (some .int), Cond.fieldLink RX8 189 "GrazeBook$Ground" "bears" "I", Cond.methodLink RX8 178 yX8_partsOn, Cond.instanceMethod yX8_partsOn, Cond.selects RX8 yX8_partsOn yX8_partsOn]
def wsL_law_r20 : List Cond := [Cond.code yX8_partsOn cX8_partsOn 4 (some .int), Cond.methodLink RX8 185 yX2_parts, Cond.methodLink RX8 181 yX8_latestOn, Cond.instanceMethod yX8_latestOn, Cond.selects RX8 yX8_latestOn yX8_latestOn, Cond.code yX8_latestOn cX8_latestOn 6 (some .int), Cond.methodLink RL 78 yX9_over, Cond.instanceMethod yX9_over, Cond.selects RX9 yX9_over yX9_over, Cond.code yX9_over cX9_over 8 (some .int), Cond.methodLink RX9 191 yX9_partsOn, Cond.instanceMethod yX9_partsOn, Cond.selects RX9 yX9_partsOn yX9_partsOn, Cond.code yX9_partsOn cX9_partsOn 4 (some .int), Cond.methodLink RL 79 yX8_pass, Cond.instanceMethod yX8_pass, Cond.selects RX8 yX8_pass yX8_pass, Cond.code yX8_pass cX8_pass 4 (some .int), Cond.methodLink RX8 192 yX8_grazeAll, Cond.instanceMethod yX8_grazeAll, Cond.selects RX8 yX8_grazeAll yX8_grazeAll, Cond.code yX8_grazeAll cX8_grazeAll 3 (some .int), Cond.methodLink RX8 324 yX8_graze, Cond.instanceMethod yX8_graze]
def wsL_law_r21 : List Cond := [Cond.selects RX8 yX8_graze yX8_graze, Cond.code yX8_graze cX8_graze 6 (some .int), Cond.fieldLink RX8 210 "GrazeBook$Ground" "grass" "I", Cond.fieldLink RX8 250 "GrazeBook$Ground" "eaten" "I", Cond.fieldLink RX8 341 "GrazeBook$Grazing" "eaten" "I", Cond.fieldLink RX8 278 "GrazeBook$Drove" "hunger" "I", Cond.methodLink RX8 327 yX3_clear, Cond.instanceMethod yX3_clear, Cond.selects RX3 yX3_clear yX3_clear, Cond.code yX3_clear cX3_clear 1 none, Cond.methodLink RX8 328 yX3_add, Cond.instanceMethod yX3_add, Cond.selects RX3 yX3_add yX3_add, Cond.code yX3_add cX3_add 3 none, Cond.methodLink RX8 331 yX7_rainOn, Cond.instanceMethod yX7_rainOn, Cond.selects RX7 yX7_rainOn yX7_rainOn, Cond.code yX7_rainOn cX7_rainOn 2 (some .int), Cond.methodLink RX8 334 yX7_rateOn, Cond.instanceMethod yX7_rateOn, Cond.selects RX7 yX7_rateOn yX7_rateOn, Cond.code yX7_rateOn cX7_rateOn 2 (some .int), Cond.methodLink RX8 337 yX3_passDay, Cond.instanceMethod yX3_passDay]
def wsL_law_r22 : List Cond := [Cond.selects RX3 yX3_passDay yX3_passDay, Cond.code yX3_passDay cX3_passDay 7 (some .int), Cond.fieldLink RX3 38 "GrazeBook$Ground" "full" "I", Cond.methodLink RX3 47 Lib.Math.min.name, Cond.fieldLink RX3 56 "GrazeBook$Ground" "water" "Z", Cond.methodLink RX3 34 yX3_tread, Cond.instanceMethod yX3_tread, Cond.selects RX3 yX3_tread yX3_tread, Cond.code yX3_tread cX3_tread 3 (some .int), Cond.methodLink RX3 60 Lib.Math.max.name, Cond.methodLink RX3 43 yX3_grow, Cond.static yX3_grow, Cond.code yX3_grow cX3_grow 3 (some .int), Cond.methodLink RX3 52 yX3_shareHunger, Cond.instanceMethod yX3_shareHunger, Cond.selects RX3 yX3_shareHunger yX3_shareHunger, Cond.code yX3_shareHunger cX3_shareHunger 5 none, Cond.methodLink RX3 63 yX3_greatestRemainder, Cond.instanceMethod yX3_greatestRemainder, Cond.selects RX3 yX3_greatestRemainder yX3_greatestRemainder, Cond.code yX3_greatestRemainder cX3_greatestRemainder 3 (some .int), Cond.methodLink RX8 342 yX3_hungerOf, Cond.instanceMethod yX3_hungerOf, Cond.selects RX3 yX3_hungerOf yX3_hungerOf]
def wsL_law_r23 : List Cond := [Cond.code yX3_hungerOf cX3_hungerOf 3 (some .int), Cond.methodLink RX8 195 yX8_sellFromPound, Cond.instanceMethod yX8_sellFromPound, Cond.selects RX8 yX8_sellFromPound yX8_sellFromPound, Cond.code yX8_sellFromPound cX8_sellFromPound 5 none, Cond.methodLink RX8 348 Lib.Math.min.name, Cond.fieldLink RX8 228 "GrazeBook$Purse" "coins" "I", Cond.methodLink RX8 345 yX2_daysInPound, Cond.instanceMethod yX2_daysInPound, Cond.selects RX2 yX2_daysInPound yX2_daysInPound, Cond.code yX2_daysInPound cX2_daysInPound 2 (some .int), Cond.methodLink RX8 225 yX2_fee, Cond.instanceMethod yX2_fee, Cond.selects RX2 yX2_fee yX2_fee, Cond.code yX2_fee cX2_fee 2 (some .int), Cond.methodLink RX2 40 yX2_daysInPound, Cond.methodLink RX8 198 yX8_findUsed, Cond.instanceMethod yX8_findUsed, Cond.selects RX8 yX8_findUsed yX8_findUsed, Cond.code yX8_findUsed cX8_findUsed 3 none, Cond.fieldLink RX8 269 "GrazeBook$Claim" "usedOn" "I", Cond.methodLink RX8 351 yX8_hasHerdFor, Cond.instanceMethod yX8_hasHerdFor, Cond.selects RX8 yX8_hasHerdFor yX8_hasHerdFor]
def wsL_law_r24 : List Cond := [Cond.code yX8_hasHerdFor cX8_hasHerdFor 4 (some .boolean), Cond.methodLink RX8 355 yX0_fits, Cond.instanceMethod yX0_fits, Cond.selects RX0 yX0_fits yX0_fits, Cond.code yX0_fits cX0_fits 2 (some .boolean), Cond.fieldLink RX0 40 "GrazeBook$Drove" "piece" "I", Cond.fieldLink RX0 43 "GrazeBook$Drove" "sort" "I", Cond.methodLink RX8 201 yX8_lapse, Cond.instanceMethod yX8_lapse, Cond.selects RX8 yX8_lapse yX8_lapse, Cond.code yX8_lapse cX8_lapse 4 none, Cond.fieldLink RX8 259 "GrazeBook$Claim" "first" "I", Cond.fieldLink RX8 262 "GrazeBook$Claim" "gone" "Z", Cond.methodLink RL 82 yX9_pass, Cond.instanceMethod yX9_pass, Cond.selects RX9 yX9_pass yX9_pass, Cond.code yX9_pass cX9_pass 5 (some .int), Cond.fieldLink RX9 221 "GrazeBookModel" "eats" "I", Cond.fieldLink RX9 230 "GrazeBookModel" "hungers" "I", Cond.methodLink RX9 214 yX9_places, Cond.instanceMethod yX9_places, Cond.selects RX9 yX9_places yX9_places, Cond.code yX9_places cX9_places 2 none, Cond.methodLink RX9 217 yX9_goes]
def wsL_law_r25 : List Cond := [Cond.instanceMethod yX9_goes, Cond.selects RX9 yX9_goes yX9_goes, Cond.code yX9_goes cX9_goes 11 none, Cond.constantLong RX9 194 (1000), Cond.methodLink RX9 196 Lib.MathLoose.max_long.x, Cond.static Lib.MathLoose.max_long.x, Cond.code Lib.MathLoose.max_long.x Lib.MathLoose.max_long.code 4 (some .long), Cond.methodLink RX9 199 Lib.MathLoose.min_long.x, Cond.static Lib.MathLoose.min_long.x, Cond.code Lib.MathLoose.min_long.x Lib.MathLoose.min_long.code 4 (some .long), Cond.methodLink RX9 201 yX9_shares, Cond.instanceMethod yX9_shares, Cond.selects RX9 yX9_shares yX9_shares, Cond.code yX9_shares cX9_shares 13 none, Cond.methodLink RX9 224 yX9_sells, Cond.instanceMethod yX9_sells, Cond.selects RX9 yX9_sells yX9_sells, Cond.code yX9_sells cX9_sells 4 none, Cond.fieldLink RX9 205 "GrazeBookModel" "reeveCoins" "I", Cond.methodLink RX9 227 yX9_lapses, Cond.instanceMethod yX9_lapses, Cond.selects RX9 yX9_lapses yX9_lapses, Cond.code yX9_lapses cX9_lapses 3 none, Cond.fieldLink RX9 211 "GrazeBookModel" "lapsed" "I"]
def wsL_law_r26 : List Cond := [Cond.methodLink RX9 208 yX9_isAsked, Cond.instanceMethod yX9_isAsked, Cond.selects RX9 yX9_isAsked yX9_isAsked, Cond.code yX9_isAsked cX9_isAsked 5 (some .boolean), Cond.methodLink RL 83 yX8_rest, Cond.instanceMethod yX8_rest, Cond.selects RX8 yX8_rest yX8_rest, Cond.code yX8_rest cX8_rest 4 (some .int), Cond.fieldLink RX8 204 "GrazeBook$Ground" "rest" "I", Cond.methodLink RL 86 yX9_rest, Cond.instanceMethod yX9_rest, Cond.selects RX9 yX9_rest yX9_rest, Cond.code yX9_rest cX9_rest 4 (some .int), Cond.methodLink RL 87 yX8_cut, Cond.instanceMethod yX8_cut, Cond.selects RX8 yX8_cut yX8_cut, Cond.code yX8_cut cX8_cut 4 (some .int), Cond.methodLink RX8 213 Lib.Math.max.name, Cond.methodLink RX8 207 yX8_herdsOn, Cond.instanceMethod yX8_herdsOn, Cond.selects RX8 yX8_herdsOn yX8_herdsOn, Cond.code yX8_herdsOn cX8_herdsOn 4 (some .int), Cond.methodLink RX8 218 yX8_shareHay, Cond.instanceMethod yX8_shareHay]
def wsL_law_r27 : List Cond := [Cond.selects RX8 yX8_shareHay yX8_shareHay, Cond.code yX8_shareHay cX8_shareHay 7 none, Cond.fieldLink RX8 281 "GrazeBook$Purse" "hay" "I", Cond.methodLink RX8 359 yX1_partsForHay, Cond.instanceMethod yX1_partsForHay, Cond.selects RX1 yX1_partsForHay yX1_partsForHay, Cond.code yX1_partsForHay cX1_partsForHay 2 (some .int), Cond.methodLink RL 90 yX9_cut, Cond.instanceMethod yX9_cut, Cond.selects RX9 yX9_cut yX9_cut, Cond.code yX9_cut cX9_cut 11 (some .int), Cond.fieldLink RX9 236 "GrazeBookModel" "reeveHay" "I", Cond.methodLink RX9 233 yX9_counts, Cond.instanceMethod yX9_counts, Cond.selects RX9 yX9_counts yX9_counts, Cond.code yX9_counts cX9_counts 3 (some .int), Cond.methodLink RL 91 yX8_pound, Cond.instanceMethod yX8_pound, Cond.selects RX8 yX8_pound yX8_pound, Cond.code yX8_pound cX8_pound 3 (some .int), Cond.fieldLink RX8 222 "GrazeBook$Drove" "poundedOn" "I", Cond.methodLink RL 94 yX9_pound, Cond.instanceMethod yX9_pound, Cond.selects RX9 yX9_pound yX9_pound]
def wsL_law_r28 : List Cond := [Cond.code yX9_pound cX9_pound 2 (some .int), Cond.methodLink RL 95 yX8_free, Cond.instanceMethod yX8_free, Cond.selects RX8 yX8_free yX8_free, Cond.code yX8_free cX8_free 5 (some .int), Cond.methodLink RL 98 yX9_free, Cond.instanceMethod yX9_free, Cond.selects RX9 yX9_free yX9_free, Cond.code yX9_free cX9_free 3 (some .int), Cond.methodLink RX9 239 yX9_feeOf, Cond.instanceMethod yX9_feeOf, Cond.selects RX9 yX9_feeOf yX9_feeOf, Cond.code yX9_feeOf cX9_feeOf 2 (some .int), Cond.methodLink RL 99 yX8_plan, Cond.instanceMethod yX8_plan, Cond.selects RX8 yX8_plan yX8_plan, Cond.code yX8_plan cX8_plan 7 (some .int), Cond.methodLink RX8 231 yX8_openPieces, Cond.instanceMethod yX8_openPieces, Cond.selects RX8 yX8_openPieces yX8_openPieces, Cond.code yX8_openPieces cX8_openPieces 4 (some .int), Cond.methodLink RX8 234 yX6_begin, Cond.instanceMethod yX6_begin, Cond.selects RX6 yX6_begin yX6_begin]
def wsL_law_r29 : List Cond := [Cond.code yX6_begin cX6_begin 5 none, Cond.methodLink RX8 238 yX8_reckonTurns, Cond.instanceMethod yX8_reckonTurns, Cond.selects RX8 yX8_reckonTurns yX8_reckonTurns, Cond.code yX8_reckonTurns cX8_reckonTurns 3 none, Cond.fieldLink RX8 362 "GrazeBook$Turns" "steps" "I", Cond.fieldLink RX8 365 "GrazeBook$Turns" "open" "[I", Cond.fieldLink RX8 368 "GrazeBook$Turns" "days" "I", Cond.fieldLink RX8 374 "GrazeBook$Turns" "hunger" "[[I", Cond.methodLink RX8 371 yX6_waysToVisit, Cond.instanceMethod yX6_waysToVisit, Cond.selects RX6 yX6_waysToVisit yX6_waysToVisit, Cond.code yX6_waysToVisit cX6_waysToVisit 1 (some .int), Cond.methodLink RX6 51 yX6_slots, Cond.instanceMethod yX6_slots, Cond.selects RX6 yX6_slots yX6_slots, Cond.code yX6_slots cX6_slots 1 (some .int), Cond.methodLink RX6 45 Lib.Math.min.name, Cond.methodLink RX8 377 yX8_hungerOfVisits, Cond.instanceMethod yX8_hungerOfVisits, Cond.selects RX8 yX8_hungerOfVisits yX8_hungerOfVisits, Cond.code yX8_hungerOfVisits cX8_hungerOfVisits 9 (some .int), Cond.fieldLink RX8 383 "GrazeBook$Turns" "firstHerd" "I", Cond.fieldLink RX8 386 "GrazeBook$Turns" "secondHerd" "I"]
def wsL_law_r30 : List Cond := [Cond.methodLink RX8 380 yX8_gatherForStep, Cond.instanceMethod yX8_gatherForStep, Cond.selects RX8 yX8_gatherForStep yX8_gatherForStep, Cond.code yX8_gatherForStep cX8_gatherForStep 6 none, Cond.methodLink RX8 389 yX6_isTurning, Cond.instanceMethod yX6_isTurning, Cond.selects RX6 yX6_isTurning yX6_isTurning, Cond.code yX6_isTurning cX6_isTurning 2 (some .boolean), Cond.methodLink RX8 392 yX6_visitsIn, Cond.instanceMethod yX6_visitsIn, Cond.selects RX6 yX6_visitsIn yX6_visitsIn, Cond.code yX6_visitsIn cX6_visitsIn 5 (some .boolean), Cond.methodLink RX8 241 yX6_choose, Cond.instanceMethod yX6_choose, Cond.selects RX6 yX6_choose yX6_choose, Cond.code yX6_choose cX6_choose 6 (some .int), Cond.methodLink RX6 62 arraycopyName, Cond.native arraycopyName, Cond.static arraycopyName, Cond.initialized "java/lang/System", Cond.methodLink RX6 55 yX6_isOpen, Cond.instanceMethod yX6_isOpen, Cond.selects RX6 yX6_isOpen yX6_isOpen, Cond.code yX6_isOpen cX6_isOpen 3 (some .boolean)]
def wsL_law_r31 : List Cond := [Cond.methodLink RX6 59 yX6_hungerOfTrial, Cond.instanceMethod yX6_hungerOfTrial, Cond.selects RX6 yX6_hungerOfTrial yX6_hungerOfTrial, Cond.code yX6_hungerOfTrial cX6_hungerOfTrial 3 (some .int), Cond.methodLink RX6 68 yX6_nextTrial, Cond.instanceMethod yX6_nextTrial, Cond.selects RX6 yX6_nextTrial yX6_nextTrial, Cond.code yX6_nextTrial cX6_nextTrial 3 none, Cond.methodLink RL 102 yX9_plan, Cond.instanceMethod yX9_plan, Cond.selects RX9 yX9_plan yX9_plan, Cond.code yX9_plan cX9_plan 13 (some .int), Cond.fieldLink RX9 250 "GrazeBookModel" "planSteps" "I", Cond.fieldLink RX9 253 "GrazeBookModel" "planHerds" "I", Cond.methodLink RX9 242 yX9_mayTake, Cond.instanceMethod yX9_mayTake, Cond.selects RX9 yX9_mayTake yX9_mayTake, Cond.code yX9_mayTake cX9_mayTake 4 (some .boolean), Cond.methodLink RX9 246 yX9_tries, Cond.instanceMethod yX9_tries, Cond.selects RX9 yX9_tries yX9_tries, Cond.code yX9_tries cX9_tries 9 (some .int), Cond.methodLink RL 103 yX8_planned, Cond.instanceMethod yX8_planned]
def wsL_law_r32 : List Cond := [Cond.selects RX8 yX8_planned yX8_planned, Cond.code yX8_planned cX8_planned 3 (some .int), Cond.methodLink RX8 244 yX6_pieceOfStep, Cond.instanceMethod yX6_pieceOfStep, Cond.selects RX6 yX6_pieceOfStep yX6_pieceOfStep, Cond.code yX6_pieceOfStep cX6_pieceOfStep 3 (some .int), Cond.methodLink RL 106 yX9_planned, Cond.instanceMethod yX9_planned, Cond.selects RX9 yX9_planned yX9_planned, Cond.code yX9_planned cX9_planned 3 (some .int), Cond.methodLink RL 107 yX8_pieceOf, Cond.instanceMethod yX8_pieceOf, Cond.selects RX8 yX8_pieceOf yX8_pieceOf, Cond.code yX8_pieceOf cX8_pieceOf 4 (some .int), Cond.fieldLink RX8 247 "GrazeBook$Ground" "full" "I", Cond.methodLink RL 110 yX9_pieceOf, Cond.instanceMethod yX9_pieceOf, Cond.selects RX9 yX9_pieceOf yX9_pieceOf, Cond.code yX9_pieceOf cX9_pieceOf 5 (some .int), Cond.methodLink RL 111 yX8_rightOf, Cond.instanceMethod yX8_rightOf, Cond.selects RX8 yX8_rightOf yX8_rightOf, Cond.code yX8_rightOf cX8_rightOf 4 (some .int), Cond.methodLink RL 114 yX9_rightOf]
def wsL_law_r33 : List Cond := [Cond.instanceMethod yX9_rightOf, Cond.selects RX9 yX9_rightOf yX9_rightOf, Cond.code yX9_rightOf cX9_rightOf 3 (some .int), Cond.methodLink RL 115 yX8_herdOf, Cond.instanceMethod yX8_herdOf, Cond.selects RX8 yX8_herdOf yX8_herdOf, Cond.code yX8_herdOf cX8_herdOf 4 (some .int), Cond.fieldLink RX8 272 "GrazeBook$Drove" "sort" "I", Cond.fieldLink RX8 275 "GrazeBook$Drove" "beasts" "I", Cond.methodLink RL 118 yX9_herdOf, Cond.instanceMethod yX9_herdOf, Cond.selects RX9 yX9_herdOf yX9_herdOf, Cond.code yX9_herdOf cX9_herdOf 3 (some .int), Cond.methodLink RL 119 yX8_ownerOf, Cond.instanceMethod yX8_ownerOf, Cond.selects RX8 yX8_ownerOf yX8_ownerOf, Cond.code yX8_ownerOf cX8_ownerOf 5 (some .int), Cond.methodLink RX8 288 yX1_partsOut, Cond.instanceMethod yX1_partsOut, Cond.selects RX1 yX1_partsOut yX1_partsOut, Cond.code yX1_partsOut cX1_partsOut 3 (some .int), Cond.methodLink RX8 291 yX1_partsHeld, Cond.instanceMethod yX1_partsHeld, Cond.selects RX1 yX1_partsHeld yX1_partsHeld]
def wsL_law_r34 : List Cond := [Cond.code yX1_partsHeld cX1_partsHeld 3 (some .int), Cond.methodLink RL 122 yX9_ownerOf, Cond.instanceMethod yX9_ownerOf, Cond.selects RX9 yX9_ownerOf yX9_ownerOf, Cond.code yX9_ownerOf cX9_ownerOf 5 (some .int), Cond.methodLink RL 123 yX8_count, Cond.instanceMethod yX8_count, Cond.selects RX8 yX8_count yX8_count, Cond.code yX8_count cX8_count 2 (some .int), Cond.methodLink RX8 294 yX8_rightsInForce, Cond.instanceMethod yX8_rightsInForce, Cond.selects RX8 yX8_rightsInForce yX8_rightsInForce, Cond.code yX8_rightsInForce cX8_rightsInForce 3 (some .int), Cond.methodLink RX8 297 yX8_herdsNotLost, Cond.instanceMethod yX8_herdsNotLost, Cond.selects RX8 yX8_herdsNotLost yX8_herdsNotLost, Cond.code yX8_herdsNotLost cX8_herdsNotLost 3 (some .int), Cond.methodLink RX8 300 yX8_allGrass, Cond.instanceMethod yX8_allGrass, Cond.selects RX8 yX8_allGrass yX8_allGrass, Cond.code yX8_allGrass cX8_allGrass 3 (some .int), Cond.methodLink RX8 303 yX8_allHunger, Cond.instanceMethod yX8_allHunger, Cond.selects RX8 yX8_allHunger yX8_allHunger]
def wsL_law_r35 : List Cond := [Cond.code yX8_allHunger cX8_allHunger 3 (some .int), Cond.methodLink RX8 306 yX8_allEaten, Cond.instanceMethod yX8_allEaten, Cond.selects RX8 yX8_allEaten yX8_allEaten, Cond.code yX8_allEaten cX8_allEaten 3 (some .int), Cond.methodLink RL 126 yX9_count, Cond.instanceMethod yX9_count, Cond.selects RX9 yX9_count yX9_count, Cond.code yX9_count cX9_count 4 (some .int)]
def wsL_law : List Cond := (wsL_law_r1 ++ (wsL_law_r2 ++ (wsL_law_r3 ++ (wsL_law_r4 ++ (wsL_law_r5 ++ (wsL_law_r6 ++ (wsL_law_r7 ++ (wsL_law_r8 ++ (wsL_law_r9 ++ (wsL_law_r10 ++ (wsL_law_r11 ++ (wsL_law_r12 ++ (wsL_law_r13 ++ (wsL_law_r14 ++ (wsL_law_r15 ++ (wsL_law_r16 ++ (wsL_law_r17 ++ (wsL_law_r18 ++ (wsL_law_r19 ++ (wsL_law_r20 ++ (wsL_law_r21 ++ (wsL_law_r22 ++ (wsL_law_r23 ++ (wsL_law_r24 ++ (wsL_law_r25 ++ (wsL_law_r26 ++ (wsL_law_r27 ++ (wsL_law_r28 ++ (wsL_law_r29 ++ (wsL_law_r30 ++ (wsL_law_r31 ++ (wsL_law_r32 ++ (wsL_law_r33 ++ (wsL_law_r34 ++ wsL_law_r35)))))))))))))))))))))))))))))))))) ++ wsX80 ++ wsX90 ++ wsX50 ++ wsX70 ++ wsX10 ++ wsX30 ++ wsX60 ++ wsX40 ++ wsX00 ++ wsX20 ++ ([] : List Cond)
set_option maxRecDepth 20000 in
theorem wsL_law_in : ∀ w ∈ wsL_law, w ∈ lw_tbl := fun w h => (goodIn_p wsL_law [74, 77, 85, 104, 118, 140, 169, 781, 271, 275, 280, 941, 945, 311, 950, 315, 319, 954, 957, 323, 326, 330, 961, 335, 339, 965, 343, 347, 351, 355, 398, 969, 973, 402, 406, 410, 414, 418, 422, 977, 981, 985, 989, 426, 993, 430, 997, 434, 438, 1001, 480, 484, 488, 492, 496, 500, 504, 508, 514, 518, 521, 1005, 1009, 1013, 589, 1017, 1021, 1024, 525, 1030, 529, 1034, 533, 1038, 537, 541, 546, 1042, 1046, 550, 554, 558, 562, 566, 570, 574, 578, 582, 586, 593, 597, 601, 605, 609, 613, 619, 623, 627, 631, 1050, 1054, 1058, 1062, 1065, 1069, 1073, 1077, 1081, 635, 1085, 639, 643, 648, 652, 1089, 1093, 656, 1097, 660, 1101, 1105, 664, 668, 672, 676, 680, 684, 689, 693, 697, 701, 705, 709, 713, 720, 1109, 1113, 1117, 724, 728, 1121, 732, 1125, 736, 1129, 740, 1133, 744, 748, 752, 1137, 756, 760, 764, 768, 772, 776, 1141] (by decide +kernel) (by decide +kernel) w h).1
theorem inlX0 : ∀ w ∈ wsX00, w ∈ wsL_law := fun _ h => List.mem_append_left _ (List.mem_append_left _ (List.mem_append_right _ h))
theorem inX0 : ∀ w ∈ wsX00, w ∈ lw_tbl := fun w h => wsL_law_in w (inlX0 w h)
theorem inlX1 : ∀ w ∈ wsX10, w ∈ wsL_law := fun _ h => List.mem_append_left _ (List.mem_append_left _ (List.mem_append_left _ (List.mem_append_left _ (List.mem_append_left _ (List.mem_append_left _ (List.mem_append_right _ h))))))
theorem inX1 : ∀ w ∈ wsX10, w ∈ lw_tbl := fun w h => wsL_law_in w (inlX1 w h)
theorem inlX2 : ∀ w ∈ wsX20, w ∈ wsL_law := fun _ h => List.mem_append_left _ (List.mem_append_right _ h)
theorem inX2 : ∀ w ∈ wsX20, w ∈ lw_tbl := fun w h => wsL_law_in w (inlX2 w h)
theorem inlX3 : ∀ w ∈ wsX30, w ∈ wsL_law := fun _ h => List.mem_append_left _ (List.mem_append_left _ (List.mem_append_left _ (List.mem_append_left _ (List.mem_append_left _ (List.mem_append_right _ h)))))
theorem inX3 : ∀ w ∈ wsX30, w ∈ lw_tbl := fun w h => wsL_law_in w (inlX3 w h)
theorem inlX4 : ∀ w ∈ wsX40, w ∈ wsL_law := fun _ h => List.mem_append_left _ (List.mem_append_left _ (List.mem_append_left _ (List.mem_append_right _ h)))
theorem inX4 : ∀ w ∈ wsX40, w ∈ lw_tbl := fun w h => wsL_law_in w (inlX4 w h)
theorem inlX5 : ∀ w ∈ wsX50, w ∈ wsL_law := fun _ h => List.mem_append_left _ (List.mem_append_left _ (List.mem_append_left _ (List.mem_append_left _ (List.mem_append_left _ (List.mem_append_left _ (List.mem_append_left _ (List.mem_append_left _ (List.mem_append_right _ h))))))))
theorem inX5 : ∀ w ∈ wsX50, w ∈ lw_tbl := fun w h => wsL_law_in w (inlX5 w h)
theorem inlX6 : ∀ w ∈ wsX60, w ∈ wsL_law := fun _ h => List.mem_append_left _ (List.mem_append_left _ (List.mem_append_left _ (List.mem_append_left _ (List.mem_append_right _ h))))
theorem inX6 : ∀ w ∈ wsX60, w ∈ lw_tbl := fun w h => wsL_law_in w (inlX6 w h)
theorem inlX7 : ∀ w ∈ wsX70, w ∈ wsL_law := fun _ h => List.mem_append_left _ (List.mem_append_left _ (List.mem_append_left _ (List.mem_append_left _ (List.mem_append_left _ (List.mem_append_left _ (List.mem_append_left _ (List.mem_append_right _ h)))))))
theorem inX7 : ∀ w ∈ wsX70, w ∈ lw_tbl := fun w h => wsL_law_in w (inlX7 w h)
theorem inlX8 : ∀ w ∈ wsX80, w ∈ wsL_law := fun _ h => List.mem_append_left _ (List.mem_append_left _ (List.mem_append_left _ (List.mem_append_left _ (List.mem_append_left _ (List.mem_append_left _ (List.mem_append_left _ (List.mem_append_left _ (List.mem_append_left _ (List.mem_append_left _ (List.mem_append_right _ h))))))))))
theorem inX8 : ∀ w ∈ wsX80, w ∈ lw_tbl := fun w h => wsL_law_in w (inlX8 w h)
theorem inlX9 : ∀ w ∈ wsX90, w ∈ wsL_law := fun _ h => List.mem_append_left _ (List.mem_append_left _ (List.mem_append_left _ (List.mem_append_left _ (List.mem_append_left _ (List.mem_append_left _ (List.mem_append_left _ (List.mem_append_left _ (List.mem_append_left _ (List.mem_append_right _ h)))))))))
theorem inX9 : ∀ w ∈ wsX90, w ∈ lw_tbl := fun w h => wsL_law_in w (inlX9 w h)
theorem inJ9 : ∀ w ∈ wsJ90, w ∈ lw_tbl := by decide +kernel
theorem inJ10 : ∀ w ∈ wsJ100, w ∈ lw_tbl := by decide +kernel
theorem dX1_init_0 : decode cX1_init 0 = .ok (.aload_n 0, 1) := by decide +kernel
theorem dX1_init_1 : decode cX1_init 1 = .ok (.invokespecial 3, 3) := by decide +kernel
theorem dX1_init_4 : decode cX1_init 4 = .ok (.aload_n 0, 1) := by decide +kernel
theorem dX1_init_5 : decode cX1_init 5 = .ok (.bipush 6, 2) := by decide +kernel
theorem dX1_init_7 : decode cX1_init 7 = .ok (.newarray .int, 2) := by decide +kernel
theorem dX1_init_9 : decode cX1_init 9 = .ok (.putfield 9, 3) := by decide +kernel
theorem dX1_init_12 : decode cX1_init 12 = .ok (.aload_n 0, 1) := by decide +kernel
theorem dX1_init_13 : decode cX1_init 13 = .ok (.bipush 6, 2) := by decide +kernel
theorem dX1_init_15 : decode cX1_init 15 = .ok (.newarray .int, 2) := by decide +kernel
theorem dX1_init_17 : decode cX1_init 17 = .ok (.putfield 15, 3) := by decide +kernel
theorem dX1_init_20 : decode cX1_init 20 = .ok (.aload_n 0, 1) := by decide +kernel
theorem dX1_init_21 : decode cX1_init 21 = .ok (.bipush 6, 2) := by decide +kernel
theorem dX1_init_23 : decode cX1_init 23 = .ok (.newarray .int, 2) := by decide +kernel
theorem dX1_init_25 : decode cX1_init 25 = .ok (.putfield 18, 3) := by decide +kernel
theorem dX1_init_28 : decode cX1_init 28 = .ok (.aload_n 0, 1) := by decide +kernel
theorem dX1_init_29 : decode cX1_init 29 = .ok (.iconst 0, 1) := by decide +kernel
theorem dX1_init_30 : decode cX1_init 30 = .ok (.putfield 21, 3) := by decide +kernel
theorem dX1_init_33 : decode cX1_init 33 = .ok (.aload_n 0, 1) := by decide +kernel
theorem dX1_init_34 : decode cX1_init 34 = .ok (.iconst 0, 1) := by decide +kernel
theorem dX1_init_35 : decode cX1_init 35 = .ok (.putfield 25, 3) := by decide +kernel
theorem dX1_init_38 : decode cX1_init 38 = .ok (.return_, 1) := by decide +kernel
theorem dX1_clear_0 : decode cX1_clear 0 = .ok (.iconst 0, 1) := by decide +kernel
theorem dX1_clear_1 : decode cX1_clear 1 = .ok (.istore_n 1, 1) := by decide +kernel
theorem dX1_clear_2 : decode cX1_clear 2 = .ok (.iload_n 1, 1) := by decide +kernel
theorem dX1_clear_3 : decode cX1_clear 3 = .ok (.bipush 6, 2) := by decide +kernel
theorem dX1_clear_5 : decode cX1_clear 5 = .ok (.if_icmp .ge 30, 3) := by decide +kernel
theorem dX1_clear_8 : decode cX1_clear 8 = .ok (.aload_n 0, 1) := by decide +kernel
theorem dX1_clear_9 : decode cX1_clear 9 = .ok (.getfield 9, 3) := by decide +kernel
theorem dX1_clear_12 : decode cX1_clear 12 = .ok (.iload_n 1, 1) := by decide +kernel
theorem dX1_clear_13 : decode cX1_clear 13 = .ok (.iconst 0, 1) := by decide +kernel
theorem dX1_clear_14 : decode cX1_clear 14 = .ok (.iastore, 1) := by decide +kernel
theorem dX1_clear_15 : decode cX1_clear 15 = .ok (.aload_n 0, 1) := by decide +kernel
theorem dX1_clear_16 : decode cX1_clear 16 = .ok (.getfield 15, 3) := by decide +kernel
theorem dX1_clear_19 : decode cX1_clear 19 = .ok (.iload_n 1, 1) := by decide +kernel
theorem dX1_clear_20 : decode cX1_clear 20 = .ok (.iconst 0, 1) := by decide +kernel
theorem dX1_clear_21 : decode cX1_clear 21 = .ok (.iastore, 1) := by decide +kernel
theorem dX1_clear_22 : decode cX1_clear 22 = .ok (.aload_n 0, 1) := by decide +kernel
theorem dX1_clear_23 : decode cX1_clear 23 = .ok (.getfield 18, 3) := by decide +kernel
theorem dX1_clear_26 : decode cX1_clear 26 = .ok (.iload_n 1, 1) := by decide +kernel
theorem dX1_clear_27 : decode cX1_clear 27 = .ok (.iconst 0, 1) := by decide +kernel
theorem dX1_clear_28 : decode cX1_clear 28 = .ok (.iastore, 1) := by decide +kernel
theorem dX1_clear_29 : decode cX1_clear 29 = .ok (.iinc 1 1, 3) := by decide +kernel
theorem dX1_clear_32 : decode cX1_clear 32 = .ok (.goto (-30), 3) := by decide +kernel
theorem dX1_clear_35 : decode cX1_clear 35 = .ok (.aload_n 0, 1) := by decide +kernel
theorem dX1_clear_36 : decode cX1_clear 36 = .ok (.iconst 0, 1) := by decide +kernel
theorem dX1_clear_37 : decode cX1_clear 37 = .ok (.putfield 21, 3) := by decide +kernel
theorem dX1_clear_40 : decode cX1_clear 40 = .ok (.aload_n 0, 1) := by decide +kernel
theorem dX1_clear_41 : decode cX1_clear 41 = .ok (.iconst 0, 1) := by decide +kernel
theorem dX1_clear_42 : decode cX1_clear 42 = .ok (.putfield 25, 3) := by decide +kernel
theorem dX1_clear_45 : decode cX1_clear 45 = .ok (.return_, 1) := by decide +kernel
theorem dX1_partsOut_0 : decode cX1_partsOut 0 = .ok (.iconst 0, 1) := by decide +kernel
theorem dX1_partsOut_1 : decode cX1_partsOut 1 = .ok (.istore_n 1, 1) := by decide +kernel
theorem dX1_partsOut_2 : decode cX1_partsOut 2 = .ok (.iconst 0, 1) := by decide +kernel
theorem dX1_partsOut_3 : decode cX1_partsOut 3 = .ok (.istore_n 2, 1) := by decide +kernel
theorem dX1_partsOut_4 : decode cX1_partsOut 4 = .ok (.iload_n 2, 1) := by decide +kernel
theorem dX1_partsOut_5 : decode cX1_partsOut 5 = .ok (.bipush 6, 2) := by decide +kernel
theorem dX1_partsOut_7 : decode cX1_partsOut 7 = .ok (.if_icmp .ge 25, 3) := by decide +kernel
theorem dX1_partsOut_10 : decode cX1_partsOut 10 = .ok (.iload_n 1, 1) := by decide +kernel
theorem dX1_partsOut_11 : decode cX1_partsOut 11 = .ok (.aload_n 0, 1) := by decide +kernel
theorem dX1_partsOut_12 : decode cX1_partsOut 12 = .ok (.getfield 9, 3) := by decide +kernel
theorem dX1_partsOut_15 : decode cX1_partsOut 15 = .ok (.iload_n 2, 1) := by decide +kernel
theorem dX1_partsOut_16 : decode cX1_partsOut 16 = .ok (.iaload, 1) := by decide +kernel
theorem dX1_partsOut_17 : decode cX1_partsOut 17 = .ok (.aload_n 0, 1) := by decide +kernel
theorem dX1_partsOut_18 : decode cX1_partsOut 18 = .ok (.getfield 15, 3) := by decide +kernel
theorem dX1_partsOut_21 : decode cX1_partsOut 21 = .ok (.iload_n 2, 1) := by decide +kernel
theorem dX1_partsOut_22 : decode cX1_partsOut 22 = .ok (.iaload, 1) := by decide +kernel
theorem dX1_partsOut_23 : decode cX1_partsOut 23 = .ok (.iadd, 1) := by decide +kernel
theorem dX1_partsOut_24 : decode cX1_partsOut 24 = .ok (.iadd, 1) := by decide +kernel
theorem dX1_partsOut_25 : decode cX1_partsOut 25 = .ok (.istore_n 1, 1) := by decide +kernel
theorem dX1_partsOut_26 : decode cX1_partsOut 26 = .ok (.iinc 2 1, 3) := by decide +kernel
theorem dX1_partsOut_29 : decode cX1_partsOut 29 = .ok (.goto (-25), 3) := by decide +kernel
theorem dX1_partsOut_32 : decode cX1_partsOut 32 = .ok (.iload_n 1, 1) := by decide +kernel
theorem dX1_partsOut_33 : decode cX1_partsOut 33 = .ok (.ireturn, 1) := by decide +kernel
theorem dX1_partsHeld_0 : decode cX1_partsHeld 0 = .ok (.aload_n 0, 1) := by decide +kernel
theorem dX1_partsHeld_1 : decode cX1_partsHeld 1 = .ok (.getfield 21, 3) := by decide +kernel
theorem dX1_partsHeld_4 : decode cX1_partsHeld 4 = .ok (.aload_n 0, 1) := by decide +kernel
theorem dX1_partsHeld_5 : decode cX1_partsHeld 5 = .ok (.getfield 25, 3) := by decide +kernel
theorem dX1_partsHeld_8 : decode cX1_partsHeld 8 = .ok (.iadd, 1) := by decide +kernel
theorem dX1_partsHeld_9 : decode cX1_partsHeld 9 = .ok (.istore_n 1, 1) := by decide +kernel
theorem dX1_partsHeld_10 : decode cX1_partsHeld 10 = .ok (.iconst 0, 1) := by decide +kernel
theorem dX1_partsHeld_11 : decode cX1_partsHeld 11 = .ok (.istore_n 2, 1) := by decide +kernel
theorem dX1_partsHeld_12 : decode cX1_partsHeld 12 = .ok (.iload_n 2, 1) := by decide +kernel
theorem dX1_partsHeld_13 : decode cX1_partsHeld 13 = .ok (.bipush 6, 2) := by decide +kernel
theorem dX1_partsHeld_15 : decode cX1_partsHeld 15 = .ok (.if_icmp .ge 18, 3) := by decide +kernel
theorem dX1_partsHeld_18 : decode cX1_partsHeld 18 = .ok (.iload_n 1, 1) := by decide +kernel
theorem dX1_partsHeld_19 : decode cX1_partsHeld 19 = .ok (.aload_n 0, 1) := by decide +kernel
theorem dX1_partsHeld_20 : decode cX1_partsHeld 20 = .ok (.getfield 18, 3) := by decide +kernel
theorem dX1_partsHeld_23 : decode cX1_partsHeld 23 = .ok (.iload_n 2, 1) := by decide +kernel
theorem dX1_partsHeld_24 : decode cX1_partsHeld 24 = .ok (.iaload, 1) := by decide +kernel
theorem dX1_partsHeld_25 : decode cX1_partsHeld 25 = .ok (.iadd, 1) := by decide +kernel
theorem dX1_partsHeld_26 : decode cX1_partsHeld 26 = .ok (.istore_n 1, 1) := by decide +kernel
theorem dX1_partsHeld_27 : decode cX1_partsHeld 27 = .ok (.iinc 2 1, 3) := by decide +kernel
theorem dX1_partsHeld_30 : decode cX1_partsHeld 30 = .ok (.goto (-18), 3) := by decide +kernel
theorem dX1_partsHeld_33 : decode cX1_partsHeld 33 = .ok (.iload_n 1, 1) := by decide +kernel
theorem dX1_partsHeld_34 : decode cX1_partsHeld 34 = .ok (.ireturn, 1) := by decide +kernel
theorem dX3_init_0 : decode cX3_init 0 = .ok (.aload_n 0, 1) := by decide +kernel
theorem dX3_init_1 : decode cX3_init 1 = .ok (.invokespecial 3, 3) := by decide +kernel
theorem dX3_init_4 : decode cX3_init 4 = .ok (.aload_n 0, 1) := by decide +kernel
theorem dX3_init_5 : decode cX3_init 5 = .ok (.bipush 20, 2) := by decide +kernel
theorem dX3_init_7 : decode cX3_init 7 = .ok (.newarray .int, 2) := by decide +kernel
theorem dX3_init_9 : decode cX3_init 9 = .ok (.putfield 9, 3) := by decide +kernel
theorem dX3_init_12 : decode cX3_init 12 = .ok (.aload_n 0, 1) := by decide +kernel
theorem dX3_init_13 : decode cX3_init 13 = .ok (.bipush 20, 2) := by decide +kernel
theorem dX3_init_15 : decode cX3_init 15 = .ok (.newarray .int, 2) := by decide +kernel
theorem dX3_init_17 : decode cX3_init 17 = .ok (.putfield 15, 3) := by decide +kernel
theorem dX3_init_20 : decode cX3_init 20 = .ok (.aload_n 0, 1) := by decide +kernel
theorem dX3_init_21 : decode cX3_init 21 = .ok (.bipush 20, 2) := by decide +kernel
theorem dX3_init_23 : decode cX3_init 23 = .ok (.newarray .int, 2) := by decide +kernel
theorem dX3_init_25 : decode cX3_init 25 = .ok (.putfield 18, 3) := by decide +kernel
theorem dX3_init_28 : decode cX3_init 28 = .ok (.aload_n 0, 1) := by decide +kernel
theorem dX3_init_29 : decode cX3_init 29 = .ok (.bipush 20, 2) := by decide +kernel
theorem dX3_init_31 : decode cX3_init 31 = .ok (.newarray .int, 2) := by decide +kernel
theorem dX3_init_33 : decode cX3_init 33 = .ok (.putfield 21, 3) := by decide +kernel
theorem dX3_init_36 : decode cX3_init 36 = .ok (.aload_n 0, 1) := by decide +kernel
theorem dX3_init_37 : decode cX3_init 37 = .ok (.iconst 0, 1) := by decide +kernel
theorem dX3_init_38 : decode cX3_init 38 = .ok (.putfield 24, 3) := by decide +kernel
theorem dX3_init_41 : decode cX3_init 41 = .ok (.aload_n 0, 1) := by decide +kernel
theorem dX3_init_42 : decode cX3_init 42 = .ok (.iconst 0, 1) := by decide +kernel
theorem dX3_init_43 : decode cX3_init 43 = .ok (.putfield 28, 3) := by decide +kernel
theorem dX3_init_46 : decode cX3_init 46 = .ok (.aload_n 0, 1) := by decide +kernel
theorem dX3_init_47 : decode cX3_init 47 = .ok (.iconst 0, 1) := by decide +kernel
theorem dX3_init_48 : decode cX3_init 48 = .ok (.putfield 31, 3) := by decide +kernel
theorem dX3_init_51 : decode cX3_init 51 = .ok (.return_, 1) := by decide +kernel
theorem dX4_init_0 : decode cX4_init 0 = .ok (.aload_n 0, 1) := by decide +kernel
theorem dX4_init_1 : decode cX4_init 1 = .ok (.invokespecial 1, 3) := by decide +kernel
theorem dX4_init_4 : decode cX4_init 4 = .ok (.aload_n 0, 1) := by decide +kernel
theorem dX4_init_5 : decode cX4_init 5 = .ok (.iconst (-1), 1) := by decide +kernel
theorem dX4_init_6 : decode cX4_init 6 = .ok (.putfield 7, 3) := by decide +kernel
theorem dX4_init_9 : decode cX4_init 9 = .ok (.aload_n 0, 1) := by decide +kernel
theorem dX4_init_10 : decode cX4_init 10 = .ok (.iconst 0, 1) := by decide +kernel
theorem dX4_init_11 : decode cX4_init 11 = .ok (.putfield 13, 3) := by decide +kernel
theorem dX4_init_14 : decode cX4_init 14 = .ok (.aload_n 0, 1) := by decide +kernel
theorem dX4_init_15 : decode cX4_init 15 = .ok (.iload_n 1, 1) := by decide +kernel
theorem dX4_init_16 : decode cX4_init 16 = .ok (.putfield 16, 3) := by decide +kernel
theorem dX4_init_19 : decode cX4_init 19 = .ok (.aload_n 0, 1) := by decide +kernel
theorem dX4_init_20 : decode cX4_init 20 = .ok (.iload_n 2, 1) := by decide +kernel
theorem dX4_init_21 : decode cX4_init 21 = .ok (.putfield 19, 3) := by decide +kernel
theorem dX4_init_24 : decode cX4_init 24 = .ok (.aload_n 0, 1) := by decide +kernel
theorem dX4_init_25 : decode cX4_init 25 = .ok (.iload_n 3, 1) := by decide +kernel
theorem dX4_init_26 : decode cX4_init 26 = .ok (.putfield 22, 3) := by decide +kernel
theorem dX4_init_29 : decode cX4_init 29 = .ok (.aload_n 0, 1) := by decide +kernel
theorem dX4_init_30 : decode cX4_init 30 = .ok (.iload 4, 2) := by decide +kernel
theorem dX4_init_32 : decode cX4_init 32 = .ok (.putfield 25, 3) := by decide +kernel
theorem dX4_init_35 : decode cX4_init 35 = .ok (.return_, 1) := by decide +kernel
theorem dX5_init_0 : decode cX5_init 0 = .ok (.aload_n 0, 1) := by decide +kernel
theorem dX5_init_1 : decode cX5_init 1 = .ok (.invokespecial 1, 3) := by decide +kernel
theorem dX5_init_4 : decode cX5_init 4 = .ok (.aload_n 0, 1) := by decide +kernel
theorem dX5_init_5 : decode cX5_init 5 = .ok (.iconst 0, 1) := by decide +kernel
theorem dX5_init_6 : decode cX5_init 6 = .ok (.putfield 7, 3) := by decide +kernel
theorem dX5_init_9 : decode cX5_init 9 = .ok (.aload_n 0, 1) := by decide +kernel
theorem dX5_init_10 : decode cX5_init 10 = .ok (.iload_n 1, 1) := by decide +kernel
theorem dX5_init_11 : decode cX5_init 11 = .ok (.putfield 13, 3) := by decide +kernel
theorem dX5_init_14 : decode cX5_init 14 = .ok (.return_, 1) := by decide +kernel
theorem dX6_init_0 : decode cX6_init 0 = .ok (.aload_n 0, 1) := by decide +kernel
theorem dX6_init_1 : decode cX6_init 1 = .ok (.invokespecial 3, 3) := by decide +kernel
theorem dX6_init_4 : decode cX6_init 4 = .ok (.aload_n 0, 1) := by decide +kernel
theorem dX6_init_5 : decode cX6_init 5 = .ok (.bipush 6, 2) := by decide +kernel
theorem dX6_init_7 : decode cX6_init 7 = .ok (.bipush 16, 2) := by decide +kernel
theorem dX6_init_9 : decode cX6_init 9 = .ok (.multianewarray 9 2, 4) := by decide +kernel
theorem dX6_init_13 : decode cX6_init 13 = .ok (.putfield 11, 3) := by decide +kernel
theorem dX6_init_16 : decode cX6_init 16 = .ok (.aload_n 0, 1) := by decide +kernel
theorem dX6_init_17 : decode cX6_init 17 = .ok (.iconst 4, 1) := by decide +kernel
theorem dX6_init_18 : decode cX6_init 18 = .ok (.newarray .int, 2) := by decide +kernel
theorem dX6_init_20 : decode cX6_init 20 = .ok (.putfield 16, 3) := by decide +kernel
theorem dX6_init_23 : decode cX6_init 23 = .ok (.aload_n 0, 1) := by decide +kernel
theorem dX6_init_24 : decode cX6_init 24 = .ok (.iconst 4, 1) := by decide +kernel
theorem dX6_init_25 : decode cX6_init 25 = .ok (.newarray .int, 2) := by decide +kernel
theorem dX6_init_27 : decode cX6_init 27 = .ok (.putfield 20, 3) := by decide +kernel
theorem dX6_init_30 : decode cX6_init 30 = .ok (.aload_n 0, 1) := by decide +kernel
theorem dX6_init_31 : decode cX6_init 31 = .ok (.iconst 4, 1) := by decide +kernel
theorem dX6_init_32 : decode cX6_init 32 = .ok (.newarray .int, 2) := by decide +kernel
theorem dX6_init_34 : decode cX6_init 34 = .ok (.putfield 23, 3) := by decide +kernel
theorem dX6_init_37 : decode cX6_init 37 = .ok (.aload_n 0, 1) := by decide +kernel
theorem dX6_init_38 : decode cX6_init 38 = .ok (.bipush 6, 2) := by decide +kernel
theorem dX6_init_40 : decode cX6_init 40 = .ok (.newarray .int, 2) := by decide +kernel
theorem dX6_init_42 : decode cX6_init 42 = .ok (.putfield 26, 3) := by decide +kernel
theorem dX6_init_45 : decode cX6_init 45 = .ok (.aload_n 0, 1) := by decide +kernel
theorem dX6_init_46 : decode cX6_init 46 = .ok (.iconst (-1), 1) := by decide +kernel
theorem dX6_init_47 : decode cX6_init 47 = .ok (.putfield 29, 3) := by decide +kernel
theorem dX6_init_50 : decode cX6_init 50 = .ok (.aload_n 0, 1) := by decide +kernel
theorem dX6_init_51 : decode cX6_init 51 = .ok (.iconst (-1), 1) := by decide +kernel
theorem dX6_init_52 : decode cX6_init 52 = .ok (.putfield 33, 3) := by decide +kernel
theorem dX6_init_55 : decode cX6_init 55 = .ok (.aload_n 0, 1) := by decide +kernel
theorem dX6_init_56 : decode cX6_init 56 = .ok (.iconst 1, 1) := by decide +kernel
theorem dX6_init_57 : decode cX6_init 57 = .ok (.putfield 36, 3) := by decide +kernel
theorem dX6_init_60 : decode cX6_init 60 = .ok (.aload_n 0, 1) := by decide +kernel
theorem dX6_init_61 : decode cX6_init 61 = .ok (.iconst 0, 1) := by decide +kernel
theorem dX6_init_62 : decode cX6_init 62 = .ok (.putfield 39, 3) := by decide +kernel
theorem dX6_init_65 : decode cX6_init 65 = .ok (.aload_n 0, 1) := by decide +kernel
theorem dX6_init_66 : decode cX6_init 66 = .ok (.iconst 0, 1) := by decide +kernel
theorem dX6_init_67 : decode cX6_init 67 = .ok (.putfield 42, 3) := by decide +kernel
theorem dX6_init_70 : decode cX6_init 70 = .ok (.return_, 1) := by decide +kernel
theorem dX6_pieceOfStep_0 : decode cX6_pieceOfStep 0 = .ok (.iload_n 1, 1) := by decide +kernel
theorem dX6_pieceOfStep_1 : decode cX6_pieceOfStep 1 = .ok (.ifCond .lt 23, 3) := by decide +kernel
theorem dX6_pieceOfStep_4 : decode cX6_pieceOfStep 4 = .ok (.iload_n 1, 1) := by decide +kernel
theorem dX6_pieceOfStep_5 : decode cX6_pieceOfStep 5 = .ok (.aload_n 0, 1) := by decide +kernel
theorem dX6_pieceOfStep_6 : decode cX6_pieceOfStep 6 = .ok (.getfield 39, 3) := by decide +kernel
theorem dX6_pieceOfStep_9 : decode cX6_pieceOfStep 9 = .ok (.if_icmp .ge 15, 3) := by decide +kernel
theorem dX6_pieceOfStep_24 : decode cX6_pieceOfStep 24 = .ok (.bipush (-9), 2) := by decide +kernel
theorem dX6_pieceOfStep_26 : decode cX6_pieceOfStep 26 = .ok (.ireturn, 1) := by decide +kernel
theorem dX7_init_0 : decode cX7_init 0 = .ok (.aload_n 0, 1) := by decide +kernel
theorem dX7_init_1 : decode cX7_init 1 = .ok (.invokespecial 3, 3) := by decide +kernel
theorem dX7_init_4 : decode cX7_init 4 = .ok (.aload_n 0, 1) := by decide +kernel
theorem dX7_init_5 : decode cX7_init 5 = .ok (.bipush 100, 2) := by decide +kernel
theorem dX7_init_7 : decode cX7_init 7 = .ok (.newarray .int, 2) := by decide +kernel
theorem dX7_init_9 : decode cX7_init 9 = .ok (.putfield 11, 3) := by decide +kernel
theorem dX7_init_12 : decode cX7_init 12 = .ok (.aload_n 0, 1) := by decide +kernel
theorem dX7_init_13 : decode cX7_init 13 = .ok (.sipush 721, 3) := by decide +kernel
theorem dX7_init_16 : decode cX7_init 16 = .ok (.newarray .int, 2) := by decide +kernel
theorem dX7_init_18 : decode cX7_init 18 = .ok (.putfield 15, 3) := by decide +kernel
theorem dX7_init_21 : decode cX7_init 21 = .ok (.return_, 1) := by decide +kernel
theorem dX7_isWeather_0 : decode cX7_isWeather 0 = .ok (.iload_n 0, 1) := by decide +kernel
theorem dX7_isWeather_1 : decode cX7_isWeather 1 = .ok (.ifCond .lt 23, 3) := by decide +kernel
theorem dX7_isWeather_4 : decode cX7_isWeather 4 = .ok (.iload_n 0, 1) := by decide +kernel
theorem dX7_isWeather_5 : decode cX7_isWeather 5 = .ok (.bipush 10, 2) := by decide +kernel
theorem dX7_isWeather_7 : decode cX7_isWeather 7 = .ok (.if_icmp .ge 17, 3) := by decide +kernel
theorem dX7_isWeather_10 : decode cX7_isWeather 10 = .ok (.iload_n 1, 1) := by decide +kernel
theorem dX7_isWeather_11 : decode cX7_isWeather 11 = .ok (.ifCond .lt 13, 3) := by decide +kernel
theorem dX7_isWeather_14 : decode cX7_isWeather 14 = .ok (.iload_n 1, 1) := by decide +kernel
theorem dX7_isWeather_15 : decode cX7_isWeather 15 = .ok (.bipush 10, 2) := by decide +kernel
theorem dX7_isWeather_17 : decode cX7_isWeather 17 = .ok (.if_icmp .ge 7, 3) := by decide +kernel
theorem dX7_isWeather_20 : decode cX7_isWeather 20 = .ok (.iconst 1, 1) := by decide +kernel
theorem dX7_isWeather_21 : decode cX7_isWeather 21 = .ok (.goto 4, 3) := by decide +kernel
theorem dX7_isWeather_24 : decode cX7_isWeather 24 = .ok (.iconst 0, 1) := by decide +kernel
theorem dX7_isWeather_25 : decode cX7_isWeather 25 = .ok (.ireturn, 1) := by decide +kernel
set_option maxRecDepth 20000 in
theorem ggX7_changeRate_X7_isWeather : GoodIn wsX7_changeRate wsX7_isWeather := goodIn_r _ [5] (by decide +kernel) (by decide +kernel)
set_option maxRecDepth 20000 in
theorem gX7_changeRate_X7_isWeather : GoodIn wsX7_changeRate (va_wsS RX7 18 yX7_isWeather wsX7_isWeather) := goodIn_app (goodIn_of _ (by decide +kernel)) ggX7_changeRate_X7_isWeather
theorem dX7_changeRate_0 : decode cX7_changeRate 0 = .ok (.iload_n 1, 1) := by decide +kernel
theorem dX7_changeRate_1 : decode cX7_changeRate 1 = .ok (.iload_n 2, 1) := by decide +kernel
theorem dX7_changeRate_2 : decode cX7_changeRate 2 = .ok (.invokestatic 18, 3) := by decide +kernel
theorem dX7_changeRate_5 : decode cX7_changeRate 5 = .ok (.ifCond .ne 6, 3) := by decide +kernel
theorem dX7_changeRate_11 : decode cX7_changeRate 11 = .ok (.aload_n 0, 1) := by decide +kernel
theorem dX7_changeRate_12 : decode cX7_changeRate 12 = .ok (.getfield 11, 3) := by decide +kernel
theorem dX7_changeRate_15 : decode cX7_changeRate 15 = .ok (.iload_n 1, 1) := by decide +kernel
theorem dX7_changeRate_16 : decode cX7_changeRate 16 = .ok (.bipush 10, 2) := by decide +kernel
theorem dX7_changeRate_18 : decode cX7_changeRate 18 = .ok (.imul, 1) := by decide +kernel
theorem dX7_changeRate_19 : decode cX7_changeRate 19 = .ok (.iload_n 2, 1) := by decide +kernel
theorem dX7_changeRate_20 : decode cX7_changeRate 20 = .ok (.iadd, 1) := by decide +kernel
theorem dX7_changeRate_21 : decode cX7_changeRate 21 = .ok (.iaload, 1) := by decide +kernel
theorem dX7_changeRate_22 : decode cX7_changeRate 22 = .ok (.istore 4, 2) := by decide +kernel
theorem dX7_changeRate_24 : decode cX7_changeRate 24 = .ok (.aload_n 0, 1) := by decide +kernel
theorem dX7_changeRate_25 : decode cX7_changeRate 25 = .ok (.getfield 11, 3) := by decide +kernel
theorem dX7_changeRate_28 : decode cX7_changeRate 28 = .ok (.iload_n 1, 1) := by decide +kernel
theorem dX7_changeRate_29 : decode cX7_changeRate 29 = .ok (.bipush 10, 2) := by decide +kernel
theorem dX7_changeRate_31 : decode cX7_changeRate 31 = .ok (.imul, 1) := by decide +kernel
theorem dX7_changeRate_32 : decode cX7_changeRate 32 = .ok (.iload_n 2, 1) := by decide +kernel
theorem dX7_changeRate_33 : decode cX7_changeRate 33 = .ok (.iadd, 1) := by decide +kernel
theorem dX7_changeRate_34 : decode cX7_changeRate 34 = .ok (.iload_n 3, 1) := by decide +kernel
theorem dX7_changeRate_35 : decode cX7_changeRate 35 = .ok (.iastore, 1) := by decide +kernel
theorem dX7_changeRate_36 : decode cX7_changeRate 36 = .ok (.iload 4, 2) := by decide +kernel
theorem dX7_changeRate_38 : decode cX7_changeRate 38 = .ok (.ireturn, 1) := by decide +kernel
set_option maxRecDepth 20000 in
theorem ggX7_changeWeather_X7_isWeather : GoodIn wsX7_changeWeather wsX7_isWeather := goodIn_r _ [5] (by decide +kernel) (by decide +kernel)
set_option maxRecDepth 20000 in
theorem gX7_changeWeather_X7_isWeather : GoodIn wsX7_changeWeather (va_wsS RX7 18 yX7_isWeather wsX7_isWeather) := goodIn_app (goodIn_of _ (by decide +kernel)) ggX7_changeWeather_X7_isWeather
theorem dX7_changeWeather_0 : decode cX7_changeWeather 0 = .ok (.iload_n 2, 1) := by decide +kernel
theorem dX7_changeWeather_1 : decode cX7_changeWeather 1 = .ok (.iload_n 3, 1) := by decide +kernel
theorem dX7_changeWeather_2 : decode cX7_changeWeather 2 = .ok (.invokestatic 18, 3) := by decide +kernel
theorem dX7_changeWeather_5 : decode cX7_changeWeather 5 = .ok (.ifCond .eq 26, 3) := by decide +kernel
theorem dX7_changeWeather_8 : decode cX7_changeWeather 8 = .ok (.iload_n 1, 1) := by decide +kernel
theorem dX7_changeWeather_9 : decode cX7_changeWeather 9 = .ok (.ifCond .lt 22, 3) := by decide +kernel
theorem dX7_changeWeather_12 : decode cX7_changeWeather 12 = .ok (.iload_n 1, 1) := by decide +kernel
theorem dX7_changeWeather_13 : decode cX7_changeWeather 13 = .ok (.sipush 720, 3) := by decide +kernel
theorem dX7_changeWeather_16 : decode cX7_changeWeather 16 = .ok (.if_icmp .gt 15, 3) := by decide +kernel
theorem dX7_changeWeather_19 : decode cX7_changeWeather 19 = .ok (.aload_n 0, 1) := by decide +kernel
theorem dX7_changeWeather_20 : decode cX7_changeWeather 20 = .ok (.getfield 15, 3) := by decide +kernel
theorem dX7_changeWeather_23 : decode cX7_changeWeather 23 = .ok (.iload_n 1, 1) := by decide +kernel
theorem dX7_changeWeather_24 : decode cX7_changeWeather 24 = .ok (.iload_n 2, 1) := by decide +kernel
theorem dX7_changeWeather_25 : decode cX7_changeWeather 25 = .ok (.bipush 10, 2) := by decide +kernel
theorem dX7_changeWeather_27 : decode cX7_changeWeather 27 = .ok (.imul, 1) := by decide +kernel
theorem dX7_changeWeather_28 : decode cX7_changeWeather 28 = .ok (.iload_n 3, 1) := by decide +kernel
theorem dX7_changeWeather_29 : decode cX7_changeWeather 29 = .ok (.iadd, 1) := by decide +kernel
theorem dX7_changeWeather_30 : decode cX7_changeWeather 30 = .ok (.iastore, 1) := by decide +kernel
theorem dX7_changeWeather_31 : decode cX7_changeWeather 31 = .ok (.return_, 1) := by decide +kernel
set_option maxRecDepth 20000 in
theorem ggX8_init_X5_init : GoodIn wsX8_init wsX5_init := goodIn_r _ [44, 45, 2, 3, 46, 47, 104, 105] (by decide +kernel) (by decide +kernel)
set_option maxRecDepth 20000 in
theorem gX8_init_X5_init : GoodIn wsX8_init (wsX5_init) := ggX8_init_X5_init
set_option maxRecDepth 20000 in
theorem ggX8_init_X7_init : GoodIn wsX8_init wsX7_init := goodIn_r _ [49, 50, 2, 3, 11, 51, 52, 106, 107] (by decide +kernel) (by decide +kernel)
set_option maxRecDepth 20000 in
theorem gX8_init_X7_init_n46 : GoodIn wsX8_init (wsX7_init) := ggX8_init_X7_init
set_option maxRecDepth 20000 in
theorem ggX8_init_X1_init : GoodIn wsX8_init wsX1_init := goodIn_r _ [54, 55, 2, 3, 11, 56, 57, 58, 59, 60, 108, 109, 110, 111, 112] (by decide +kernel) (by decide +kernel)
set_option maxRecDepth 20000 in
theorem gX8_init_X1_init_n53 : GoodIn wsX8_init (wsX1_init) := ggX8_init_X1_init
set_option maxRecDepth 20000 in
theorem ggX8_init_X3_init : GoodIn wsX8_init wsX3_init := goodIn_r _ [62, 63, 2, 3, 11, 64, 65, 66, 67, 68, 69, 70, 113, 114, 115, 116, 117, 118, 119] (by decide +kernel) (by decide +kernel)
set_option maxRecDepth 20000 in
theorem gX8_init_X3_init_n60 : GoodIn wsX8_init (wsX3_init) := ggX8_init_X3_init
set_option maxRecDepth 20000 in
theorem ggX8_init_X6_init : GoodIn wsX8_init wsX6_init := goodIn_r _ [72, 73, 2, 3, 74, 11, 75, 76, 77, 78, 79, 80, 81, 82, 83, 84, 120, 121, 122, 123, 124, 125, 126, 127, 128, 129] (by decide +kernel) (by decide +kernel)
set_option maxRecDepth 20000 in
theorem gX8_init_X6_init_n67 : GoodIn wsX8_init (wsX6_init) := ggX8_init_X6_init
theorem dX8_init_0 : decode cX8_init 0 = .ok (.aload_n 0, 1) := by decide +kernel
theorem dX8_init_1 : decode cX8_init 1 = .ok (.invokespecial 1, 3) := by decide +kernel
theorem dX8_init_4 : decode cX8_init 4 = .ok (.aload_n 0, 1) := by decide +kernel
theorem dX8_init_5 : decode cX8_init 5 = .ok (.bipush 6, 2) := by decide +kernel
theorem dX8_init_7 : decode cX8_init 7 = .ok (.anewarray 9, 3) := by decide +kernel
theorem dX8_init_10 : decode cX8_init 10 = .ok (.putfield 11, 3) := by decide +kernel
theorem dX8_init_13 : decode cX8_init 13 = .ok (.aload_n 0, 1) := by decide +kernel
theorem dX8_init_14 : decode cX8_init 14 = .ok (.bipush 10, 2) := by decide +kernel
theorem dX8_init_16 : decode cX8_init 16 = .ok (.anewarray 15, 3) := by decide +kernel
theorem dX8_init_19 : decode cX8_init 19 = .ok (.putfield 17, 3) := by decide +kernel
theorem dX8_init_22 : decode cX8_init 22 = .ok (.aload_n 0, 1) := by decide +kernel
theorem dX8_init_23 : decode cX8_init 23 = .ok (.new 15, 3) := by decide +kernel
theorem dX8_init_26 : decode cX8_init 26 = .ok (.dup, 1) := by decide +kernel
theorem dX8_init_27 : decode cX8_init 27 = .ok (.iconst 0, 1) := by decide +kernel
theorem dX8_init_28 : decode cX8_init 28 = .ok (.invokespecial 21, 3) := by decide +kernel
theorem dX8_init_31 : decode cX8_init 31 = .ok (.putfield 24, 3) := by decide +kernel
theorem dX8_init_34 : decode cX8_init 34 = .ok (.aload_n 0, 1) := by decide +kernel
theorem dX8_init_35 : decode cX8_init 35 = .ok (.bipush 10, 2) := by decide +kernel
theorem dX8_init_37 : decode cX8_init 37 = .ok (.newarray .int, 2) := by decide +kernel
theorem dX8_init_39 : decode cX8_init 39 = .ok (.putfield 28, 3) := by decide +kernel
theorem dX8_init_42 : decode cX8_init 42 = .ok (.aload_n 0, 1) := by decide +kernel
theorem dX8_init_43 : decode cX8_init 43 = .ok (.bipush 60, 2) := by decide +kernel
theorem dX8_init_45 : decode cX8_init 45 = .ok (.anewarray 32, 3) := by decide +kernel
theorem dX8_init_48 : decode cX8_init 48 = .ok (.putfield 34, 3) := by decide +kernel
theorem dX8_init_51 : decode cX8_init 51 = .ok (.aload_n 0, 1) := by decide +kernel
theorem dX8_init_52 : decode cX8_init 52 = .ok (.bipush 20, 2) := by decide +kernel
theorem dX8_init_54 : decode cX8_init 54 = .ok (.anewarray 38, 3) := by decide +kernel
theorem dX8_init_57 : decode cX8_init 57 = .ok (.putfield 40, 3) := by decide +kernel
theorem dX8_init_60 : decode cX8_init 60 = .ok (.aload_n 0, 1) := by decide +kernel
theorem dX8_init_61 : decode cX8_init 61 = .ok (.new 44, 3) := by decide +kernel
theorem dX8_init_64 : decode cX8_init 64 = .ok (.dup, 1) := by decide +kernel
theorem dX8_init_65 : decode cX8_init 65 = .ok (.invokespecial 46, 3) := by decide +kernel
theorem dX8_init_68 : decode cX8_init 68 = .ok (.putfield 47, 3) := by decide +kernel
theorem dX8_init_71 : decode cX8_init 71 = .ok (.aload_n 0, 1) := by decide +kernel
theorem dX8_init_72 : decode cX8_init 72 = .ok (.new 51, 3) := by decide +kernel
theorem dX8_init_75 : decode cX8_init 75 = .ok (.dup, 1) := by decide +kernel
theorem dX8_init_76 : decode cX8_init 76 = .ok (.invokespecial 53, 3) := by decide +kernel
theorem dX8_init_79 : decode cX8_init 79 = .ok (.putfield 54, 3) := by decide +kernel
theorem dX8_init_82 : decode cX8_init 82 = .ok (.aload_n 0, 1) := by decide +kernel
theorem dX8_init_83 : decode cX8_init 83 = .ok (.new 58, 3) := by decide +kernel
theorem dX8_init_86 : decode cX8_init 86 = .ok (.dup, 1) := by decide +kernel
theorem dX8_init_87 : decode cX8_init 87 = .ok (.invokespecial 60, 3) := by decide +kernel
theorem dX8_init_90 : decode cX8_init 90 = .ok (.putfield 61, 3) := by decide +kernel
theorem dX8_init_93 : decode cX8_init 93 = .ok (.aload_n 0, 1) := by decide +kernel
theorem dX8_init_94 : decode cX8_init 94 = .ok (.new 65, 3) := by decide +kernel
theorem dX8_init_97 : decode cX8_init 97 = .ok (.dup, 1) := by decide +kernel
theorem dX8_init_98 : decode cX8_init 98 = .ok (.invokespecial 67, 3) := by decide +kernel
theorem dX8_init_101 : decode cX8_init 101 = .ok (.putfield 68, 3) := by decide +kernel
theorem dX8_init_104 : decode cX8_init 104 = .ok (.aload_n 0, 1) := by decide +kernel
theorem dX8_init_105 : decode cX8_init 105 = .ok (.bipush 7, 2) := by decide +kernel
theorem dX8_init_107 : decode cX8_init 107 = .ok (.newarray .int, 2) := by decide +kernel
theorem dX8_init_109 : decode cX8_init 109 = .ok (.putfield 72, 3) := by decide +kernel
theorem dX8_init_112 : decode cX8_init 112 = .ok (.aload_n 0, 1) := by decide +kernel
theorem dX8_init_113 : decode cX8_init 113 = .ok (.iconst 0, 1) := by decide +kernel
theorem dX8_init_114 : decode cX8_init 114 = .ok (.putfield 75, 3) := by decide +kernel
theorem dX8_init_117 : decode cX8_init 117 = .ok (.aload_n 0, 1) := by decide +kernel
theorem dX8_init_118 : decode cX8_init 118 = .ok (.iconst 0, 1) := by decide +kernel
theorem dX8_init_119 : decode cX8_init 119 = .ok (.putfield 79, 3) := by decide +kernel
theorem dX8_init_122 : decode cX8_init 122 = .ok (.aload_n 0, 1) := by decide +kernel
theorem dX8_init_123 : decode cX8_init 123 = .ok (.iconst 0, 1) := by decide +kernel
theorem dX8_init_124 : decode cX8_init 124 = .ok (.putfield 82, 3) := by decide +kernel
theorem dX8_init_127 : decode cX8_init 127 = .ok (.aload_n 0, 1) := by decide +kernel
theorem dX8_init_128 : decode cX8_init 128 = .ok (.iconst 0, 1) := by decide +kernel
theorem dX8_init_129 : decode cX8_init 129 = .ok (.putfield 85, 3) := by decide +kernel
theorem dX8_init_132 : decode cX8_init 132 = .ok (.aload_n 0, 1) := by decide +kernel
theorem dX8_init_133 : decode cX8_init 133 = .ok (.iconst 0, 1) := by decide +kernel
theorem dX8_init_134 : decode cX8_init 134 = .ok (.putfield 88, 3) := by decide +kernel
theorem dX8_init_137 : decode cX8_init 137 = .ok (.aload_n 0, 1) := by decide +kernel
theorem dX8_init_138 : decode cX8_init 138 = .ok (.iconst 0, 1) := by decide +kernel
theorem dX8_init_139 : decode cX8_init 139 = .ok (.putfield 91, 3) := by decide +kernel
theorem dX8_init_142 : decode cX8_init 142 = .ok (.aload_n 0, 1) := by decide +kernel
theorem dX8_init_143 : decode cX8_init 143 = .ok (.iconst 0, 1) := by decide +kernel
theorem dX8_init_144 : decode cX8_init 144 = .ok (.putfield 94, 3) := by decide +kernel
theorem dX8_init_147 : decode cX8_init 147 = .ok (.aload_n 0, 1) := by decide +kernel
theorem dX8_init_148 : decode cX8_init 148 = .ok (.iconst 0, 1) := by decide +kernel
theorem dX8_init_149 : decode cX8_init 149 = .ok (.putfield 97, 3) := by decide +kernel
theorem dX8_init_152 : decode cX8_init 152 = .ok (.return_, 1) := by decide +kernel
set_option maxRecDepth 20000 in
theorem ggX8_piece_X8_refuse : GoodIn wsX8_piece wsX8_refuse := goodIn_r _ [11, 12, 25, 26, 27, 28, 29, 30, 31, 32, 33, 34, 35, 36, 37, 38, 39, 40, 41, 42, 43] (by decide +kernel) (by decide +kernel)
set_option maxRecDepth 20000 in
theorem gX8_piece_X8_refuse : GoodIn wsX8_piece (wsV RX8 100 RX8 yX8_refuse wsX8_refuse) := goodIn_app (goodIn_of _ (by decide +kernel)) ggX8_piece_X8_refuse
set_option maxRecDepth 20000 in
theorem ggX8_piece_X4_init : GoodIn wsX8_piece wsX4_init := goodIn_r _ [15, 16, 17, 18, 19, 20, 21, 22, 23, 24, 44, 45, 46, 47, 48, 49] (by decide +kernel) (by decide +kernel)
set_option maxRecDepth 20000 in
theorem gX8_piece_X4_init : GoodIn wsX8_piece (wsX4_init) := ggX8_piece_X4_init
theorem dX8_piece_0 : decode cX8_piece 0 = .ok (.iload_n 1, 1) := by decide +kernel
theorem dX8_piece_1 : decode cX8_piece 1 = .ok (.ifCond .lt 12, 3) := by decide +kernel
theorem dX8_piece_4 : decode cX8_piece 4 = .ok (.iload_n 3, 1) := by decide +kernel
theorem dX8_piece_5 : decode cX8_piece 5 = .ok (.ifCond .lt 8, 3) := by decide +kernel
theorem dX8_piece_8 : decode cX8_piece 8 = .ok (.iload_n 2, 1) := by decide +kernel
theorem dX8_piece_9 : decode cX8_piece 9 = .ok (.iconst 1, 1) := by decide +kernel
theorem dX8_piece_10 : decode cX8_piece 10 = .ok (.if_icmp .ge 10, 3) := by decide +kernel
theorem dX8_piece_13 : decode cX8_piece 13 = .ok (.aload_n 0, 1) := by decide +kernel
theorem dX8_piece_14 : decode cX8_piece 14 = .ok (.bipush (-4), 2) := by decide +kernel
theorem dX8_piece_16 : decode cX8_piece 16 = .ok (.invokevirtual 100, 3) := by decide +kernel
theorem dX8_piece_19 : decode cX8_piece 19 = .ok (.ireturn, 1) := by decide +kernel
theorem dX8_piece_20 : decode cX8_piece 20 = .ok (.iload_n 2, 1) := by decide +kernel
theorem dX8_piece_21 : decode cX8_piece 21 = .ok (.ldc 104, 2) := by decide +kernel
theorem dX8_piece_23 : decode cX8_piece 23 = .ok (.if_icmp .gt 24, 3) := by decide +kernel
theorem dX8_piece_26 : decode cX8_piece 26 = .ok (.iload_n 1, 1) := by decide +kernel
theorem dX8_piece_27 : decode cX8_piece 27 = .ok (.iload_n 2, 1) := by decide +kernel
theorem dX8_piece_28 : decode cX8_piece 28 = .ok (.if_icmp .gt 19, 3) := by decide +kernel
theorem dX8_piece_31 : decode cX8_piece 31 = .ok (.iload_n 3, 1) := by decide +kernel
theorem dX8_piece_32 : decode cX8_piece 32 = .ok (.sipush 10000, 3) := by decide +kernel
theorem dX8_piece_35 : decode cX8_piece 35 = .ok (.if_icmp .gt 12, 3) := by decide +kernel
theorem dX8_piece_38 : decode cX8_piece 38 = .ok (.aload_n 0, 1) := by decide +kernel
theorem dX8_piece_39 : decode cX8_piece 39 = .ok (.getfield 75, 3) := by decide +kernel
theorem dX8_piece_42 : decode cX8_piece 42 = .ok (.bipush 6, 2) := by decide +kernel
theorem dX8_piece_44 : decode cX8_piece 44 = .ok (.if_icmp .lt 10, 3) := by decide +kernel
theorem dX8_piece_47 : decode cX8_piece 47 = .ok (.aload_n 0, 1) := by decide +kernel
theorem dX8_piece_48 : decode cX8_piece 48 = .ok (.bipush (-6), 2) := by decide +kernel
theorem dX8_piece_50 : decode cX8_piece 50 = .ok (.invokevirtual 100, 3) := by decide +kernel
theorem dX8_piece_53 : decode cX8_piece 53 = .ok (.ireturn, 1) := by decide +kernel
theorem dX8_piece_54 : decode cX8_piece 54 = .ok (.aload_n 0, 1) := by decide +kernel
theorem dX8_piece_55 : decode cX8_piece 55 = .ok (.getfield 11, 3) := by decide +kernel
theorem dX8_piece_58 : decode cX8_piece 58 = .ok (.aload_n 0, 1) := by decide +kernel
theorem dX8_piece_59 : decode cX8_piece 59 = .ok (.getfield 75, 3) := by decide +kernel
theorem dX8_piece_62 : decode cX8_piece 62 = .ok (.new 9, 3) := by decide +kernel
theorem dX8_piece_65 : decode cX8_piece 65 = .ok (.dup, 1) := by decide +kernel
theorem dX8_piece_66 : decode cX8_piece 66 = .ok (.iload_n 1, 1) := by decide +kernel
theorem dX8_piece_67 : decode cX8_piece 67 = .ok (.iload_n 2, 1) := by decide +kernel
theorem dX8_piece_68 : decode cX8_piece 68 = .ok (.iload_n 3, 1) := by decide +kernel
theorem dX8_piece_69 : decode cX8_piece 69 = .ok (.iload 4, 2) := by decide +kernel
theorem dX8_piece_71 : decode cX8_piece 71 = .ok (.invokespecial 105, 3) := by decide +kernel
theorem dX8_piece_74 : decode cX8_piece 74 = .ok (.aastore, 1) := by decide +kernel
theorem dX8_piece_75 : decode cX8_piece 75 = .ok (.aload_n 0, 1) := by decide +kernel
theorem dX8_piece_76 : decode cX8_piece 76 = .ok (.dup, 1) := by decide +kernel
theorem dX8_piece_77 : decode cX8_piece 77 = .ok (.getfield 75, 3) := by decide +kernel
theorem dX8_piece_80 : decode cX8_piece 80 = .ok (.iconst 1, 1) := by decide +kernel
theorem dX8_piece_81 : decode cX8_piece 81 = .ok (.iadd, 1) := by decide +kernel
theorem dX8_piece_82 : decode cX8_piece 82 = .ok (.putfield 75, 3) := by decide +kernel
theorem dX8_piece_85 : decode cX8_piece 85 = .ok (.aload_n 0, 1) := by decide +kernel
theorem dX8_piece_86 : decode cX8_piece 86 = .ok (.getfield 75, 3) := by decide +kernel
theorem dX8_piece_89 : decode cX8_piece 89 = .ok (.iconst 1, 1) := by decide +kernel
theorem dX8_piece_90 : decode cX8_piece 90 = .ok (.isub, 1) := by decide +kernel
theorem dX8_piece_91 : decode cX8_piece 91 = .ok (.ireturn, 1) := by decide +kernel
set_option maxRecDepth 20000 in
theorem ggX8_owner_X8_refuse : GoodIn wsX8_owner wsX8_refuse := goodIn_r _ [11, 12, 21, 22, 23, 24, 25, 26, 27, 28, 29, 30, 31, 32, 33, 34, 35, 36, 37, 38, 39] (by decide +kernel) (by decide +kernel)
set_option maxRecDepth 20000 in
theorem gX8_owner_X8_refuse : GoodIn wsX8_owner (wsV RX8 100 RX8 yX8_refuse wsX8_refuse) := goodIn_app (goodIn_of _ (by decide +kernel)) ggX8_owner_X8_refuse
set_option maxRecDepth 20000 in
theorem ggX8_owner_X5_init : GoodIn wsX8_owner wsX5_init := goodIn_r _ [15, 16, 17, 18, 19, 20, 40, 41] (by decide +kernel) (by decide +kernel)
set_option maxRecDepth 20000 in
theorem gX8_owner_X5_init : GoodIn wsX8_owner (wsX5_init) := ggX8_owner_X5_init
theorem dX8_owner_0 : decode cX8_owner 0 = .ok (.iload_n 1, 1) := by decide +kernel
theorem dX8_owner_1 : decode cX8_owner 1 = .ok (.ifCond .ge 10, 3) := by decide +kernel
theorem dX8_owner_4 : decode cX8_owner 4 = .ok (.aload_n 0, 1) := by decide +kernel
theorem dX8_owner_5 : decode cX8_owner 5 = .ok (.bipush (-4), 2) := by decide +kernel
theorem dX8_owner_7 : decode cX8_owner 7 = .ok (.invokevirtual 100, 3) := by decide +kernel
theorem dX8_owner_10 : decode cX8_owner 10 = .ok (.ireturn, 1) := by decide +kernel
theorem dX8_owner_11 : decode cX8_owner 11 = .ok (.iload_n 1, 1) := by decide +kernel
theorem dX8_owner_12 : decode cX8_owner 12 = .ok (.ldc 104, 2) := by decide +kernel
theorem dX8_owner_14 : decode cX8_owner 14 = .ok (.if_icmp .gt 12, 3) := by decide +kernel
theorem dX8_owner_17 : decode cX8_owner 17 = .ok (.aload_n 0, 1) := by decide +kernel
theorem dX8_owner_18 : decode cX8_owner 18 = .ok (.getfield 79, 3) := by decide +kernel
theorem dX8_owner_21 : decode cX8_owner 21 = .ok (.bipush 10, 2) := by decide +kernel
theorem dX8_owner_23 : decode cX8_owner 23 = .ok (.if_icmp .lt 10, 3) := by decide +kernel
theorem dX8_owner_26 : decode cX8_owner 26 = .ok (.aload_n 0, 1) := by decide +kernel
theorem dX8_owner_27 : decode cX8_owner 27 = .ok (.bipush (-6), 2) := by decide +kernel
theorem dX8_owner_29 : decode cX8_owner 29 = .ok (.invokevirtual 100, 3) := by decide +kernel
theorem dX8_owner_32 : decode cX8_owner 32 = .ok (.ireturn, 1) := by decide +kernel
theorem dX8_owner_33 : decode cX8_owner 33 = .ok (.aload_n 0, 1) := by decide +kernel
theorem dX8_owner_34 : decode cX8_owner 34 = .ok (.getfield 17, 3) := by decide +kernel
theorem dX8_owner_37 : decode cX8_owner 37 = .ok (.aload_n 0, 1) := by decide +kernel
theorem dX8_owner_38 : decode cX8_owner 38 = .ok (.getfield 79, 3) := by decide +kernel
theorem dX8_owner_41 : decode cX8_owner 41 = .ok (.new 15, 3) := by decide +kernel
theorem dX8_owner_44 : decode cX8_owner 44 = .ok (.dup, 1) := by decide +kernel
theorem dX8_owner_45 : decode cX8_owner 45 = .ok (.iload_n 1, 1) := by decide +kernel
theorem dX8_owner_46 : decode cX8_owner 46 = .ok (.invokespecial 21, 3) := by decide +kernel
theorem dX8_owner_49 : decode cX8_owner 49 = .ok (.aastore, 1) := by decide +kernel
theorem dX8_owner_50 : decode cX8_owner 50 = .ok (.aload_n 0, 1) := by decide +kernel
theorem dX8_owner_51 : decode cX8_owner 51 = .ok (.dup, 1) := by decide +kernel
theorem dX8_owner_52 : decode cX8_owner 52 = .ok (.getfield 79, 3) := by decide +kernel
theorem dX8_owner_55 : decode cX8_owner 55 = .ok (.iconst 1, 1) := by decide +kernel
theorem dX8_owner_56 : decode cX8_owner 56 = .ok (.iadd, 1) := by decide +kernel
theorem dX8_owner_57 : decode cX8_owner 57 = .ok (.putfield 79, 3) := by decide +kernel
theorem dX8_owner_60 : decode cX8_owner 60 = .ok (.aload_n 0, 1) := by decide +kernel
theorem dX8_owner_61 : decode cX8_owner 61 = .ok (.getfield 79, 3) := by decide +kernel
theorem dX8_owner_64 : decode cX8_owner 64 = .ok (.iconst 1, 1) := by decide +kernel
theorem dX8_owner_65 : decode cX8_owner 65 = .ok (.isub, 1) := by decide +kernel
theorem dX8_owner_66 : decode cX8_owner 66 = .ok (.ireturn, 1) := by decide +kernel
set_option maxRecDepth 20000 in
theorem ggX8_house_X8_isOwner : GoodIn wsX8_house wsX8_isOwner := goodIn_r _ [7, 8, 14, 15, 16, 17, 18, 19, 20, 21, 22, 23, 24, 25, 26, 27, 28, 29, 30, 31, 32] (by decide +kernel) (by decide +kernel)
set_option maxRecDepth 20000 in
theorem gX8_house_X8_isOwner : GoodIn wsX8_house (wsV RX8 108 RX8 yX8_isOwner wsX8_isOwner) := goodIn_app (goodIn_of _ (by decide +kernel)) ggX8_house_X8_isOwner
set_option maxRecDepth 20000 in
theorem ggX8_house_X8_refuse : GoodIn wsX8_house wsX8_refuse := goodIn_r _ [12, 13, 14, 15, 16, 17, 18, 19, 20, 21, 22, 23, 24, 25, 26, 27, 28, 29, 30, 31, 32] (by decide +kernel) (by decide +kernel)
set_option maxRecDepth 20000 in
theorem gX8_house_X8_refuse : GoodIn wsX8_house (wsV RX8 100 RX8 yX8_refuse wsX8_refuse) := goodIn_app (goodIn_of _ (by decide +kernel)) ggX8_house_X8_refuse
theorem dX8_house_0 : decode cX8_house 0 = .ok (.aload_n 0, 1) := by decide +kernel
theorem dX8_house_1 : decode cX8_house 1 = .ok (.iload_n 1, 1) := by decide +kernel
theorem dX8_house_2 : decode cX8_house 2 = .ok (.invokevirtual 108, 3) := by decide +kernel
theorem dX8_house_5 : decode cX8_house 5 = .ok (.ifCond .ne 9, 3) := by decide +kernel
theorem dX8_house_8 : decode cX8_house 8 = .ok (.aload_n 0, 1) := by decide +kernel
theorem dX8_house_9 : decode cX8_house 9 = .ok (.iconst (-1), 1) := by decide +kernel
theorem dX8_house_10 : decode cX8_house 10 = .ok (.invokevirtual 100, 3) := by decide +kernel
theorem dX8_house_13 : decode cX8_house 13 = .ok (.ireturn, 1) := by decide +kernel
set_option maxRecDepth 20000 in
theorem ggX8_rate_X7_isWeather : GoodIn wsX8_rate wsX7_isWeather := goodIn_r _ [5] (by decide +kernel) (by decide +kernel)
set_option maxRecDepth 20000 in
theorem gX8_rate_X7_isWeather : GoodIn wsX8_rate (va_wsS RX8 112 yX7_isWeather wsX7_isWeather) := goodIn_app (goodIn_of _ (by decide +kernel)) ggX8_rate_X7_isWeather
set_option maxRecDepth 20000 in
theorem ggX8_rate_X8_refuse : GoodIn wsX8_rate wsX8_refuse := goodIn_r _ [10, 11, 18, 19, 20, 21, 22, 23, 24, 25, 26, 27, 28, 29, 30, 31, 32, 33, 34, 35, 36] (by decide +kernel) (by decide +kernel)
set_option maxRecDepth 20000 in
theorem gX8_rate_X8_refuse : GoodIn wsX8_rate (wsV RX8 100 RX8 yX8_refuse wsX8_refuse) := goodIn_app (goodIn_of _ (by decide +kernel)) ggX8_rate_X8_refuse
set_option maxRecDepth 20000 in
theorem ggX8_rate_X7_changeRate : GoodIn wsX8_rate wsX7_changeRate := goodIn_r _ [15, 16, 17, 3, 4, 5, 37, 38] (by decide +kernel) (by decide +kernel)
set_option maxRecDepth 20000 in
theorem gX8_rate_X7_changeRate : GoodIn wsX8_rate (wsV RX8 116 RX7 yX7_changeRate wsX7_changeRate) := goodIn_app (goodIn_of _ (by decide +kernel)) ggX8_rate_X7_changeRate
theorem dX8_rate_0 : decode cX8_rate 0 = .ok (.iload_n 1, 1) := by decide +kernel
theorem dX8_rate_1 : decode cX8_rate 1 = .ok (.iload_n 2, 1) := by decide +kernel
theorem dX8_rate_2 : decode cX8_rate 2 = .ok (.invokestatic 112, 3) := by decide +kernel
theorem dX8_rate_5 : decode cX8_rate 5 = .ok (.ifCond .ne 10, 3) := by decide +kernel
theorem dX8_rate_8 : decode cX8_rate 8 = .ok (.aload_n 0, 1) := by decide +kernel
theorem dX8_rate_9 : decode cX8_rate 9 = .ok (.bipush (-2), 2) := by decide +kernel
theorem dX8_rate_11 : decode cX8_rate 11 = .ok (.invokevirtual 100, 3) := by decide +kernel
theorem dX8_rate_14 : decode cX8_rate 14 = .ok (.ireturn, 1) := by decide +kernel
theorem dX8_rate_15 : decode cX8_rate 15 = .ok (.iload_n 3, 1) := by decide +kernel
theorem dX8_rate_16 : decode cX8_rate 16 = .ok (.ifCond .ge 10, 3) := by decide +kernel
theorem dX8_rate_19 : decode cX8_rate 19 = .ok (.aload_n 0, 1) := by decide +kernel
theorem dX8_rate_20 : decode cX8_rate 20 = .ok (.bipush (-4), 2) := by decide +kernel
theorem dX8_rate_22 : decode cX8_rate 22 = .ok (.invokevirtual 100, 3) := by decide +kernel
theorem dX8_rate_25 : decode cX8_rate 25 = .ok (.ireturn, 1) := by decide +kernel
theorem dX8_rate_26 : decode cX8_rate 26 = .ok (.iload_n 3, 1) := by decide +kernel
theorem dX8_rate_27 : decode cX8_rate 27 = .ok (.sipush 1000, 3) := by decide +kernel
theorem dX8_rate_30 : decode cX8_rate 30 = .ok (.if_icmp .le 10, 3) := by decide +kernel
theorem dX8_rate_33 : decode cX8_rate 33 = .ok (.aload_n 0, 1) := by decide +kernel
theorem dX8_rate_34 : decode cX8_rate 34 = .ok (.bipush (-6), 2) := by decide +kernel
theorem dX8_rate_36 : decode cX8_rate 36 = .ok (.invokevirtual 100, 3) := by decide +kernel
theorem dX8_rate_39 : decode cX8_rate 39 = .ok (.ireturn, 1) := by decide +kernel
theorem dX8_rate_40 : decode cX8_rate 40 = .ok (.aload_n 0, 1) := by decide +kernel
theorem dX8_rate_41 : decode cX8_rate 41 = .ok (.getfield 47, 3) := by decide +kernel
theorem dX8_rate_44 : decode cX8_rate 44 = .ok (.iload_n 1, 1) := by decide +kernel
theorem dX8_rate_45 : decode cX8_rate 45 = .ok (.iload_n 2, 1) := by decide +kernel
theorem dX8_rate_46 : decode cX8_rate 46 = .ok (.iload_n 3, 1) := by decide +kernel
theorem dX8_rate_47 : decode cX8_rate 47 = .ok (.invokevirtual 116, 3) := by decide +kernel
theorem dX8_rate_50 : decode cX8_rate 50 = .ok (.ireturn, 1) := by decide +kernel
set_option maxRecDepth 20000 in
theorem ggX8_weather_X7_isWeather : GoodIn wsX8_weather wsX7_isWeather := goodIn_r _ [5] (by decide +kernel) (by decide +kernel)
set_option maxRecDepth 20000 in
theorem gX8_weather_X7_isWeather : GoodIn wsX8_weather (va_wsS RX8 112 yX7_isWeather wsX7_isWeather) := goodIn_app (goodIn_of _ (by decide +kernel)) ggX8_weather_X7_isWeather
set_option maxRecDepth 20000 in
theorem ggX8_weather_X8_refuse : GoodIn wsX8_weather wsX8_refuse := goodIn_r _ [10, 11, 18, 19, 20, 21, 22, 23, 24, 25, 26, 27, 28, 29, 30, 31, 32, 33, 34, 35, 36] (by decide +kernel) (by decide +kernel)
set_option maxRecDepth 20000 in
theorem gX8_weather_X8_refuse : GoodIn wsX8_weather (wsV RX8 100 RX8 yX8_refuse wsX8_refuse) := goodIn_app (goodIn_of _ (by decide +kernel)) ggX8_weather_X8_refuse
set_option maxRecDepth 20000 in
theorem ggX8_weather_X7_changeWeather : GoodIn wsX8_weather wsX7_changeWeather := goodIn_r _ [15, 16, 17, 3, 4, 5, 37, 38] (by decide +kernel) (by decide +kernel)
set_option maxRecDepth 20000 in
theorem gX8_weather_X7_changeWeather : GoodIn wsX8_weather (wsV RX8 120 RX7 yX7_changeWeather wsX7_changeWeather) := goodIn_app (goodIn_of _ (by decide +kernel)) ggX8_weather_X7_changeWeather
theorem dX8_weather_0 : decode cX8_weather 0 = .ok (.iload_n 2, 1) := by decide +kernel
theorem dX8_weather_1 : decode cX8_weather 1 = .ok (.iload_n 3, 1) := by decide +kernel
theorem dX8_weather_2 : decode cX8_weather 2 = .ok (.invokestatic 112, 3) := by decide +kernel
theorem dX8_weather_5 : decode cX8_weather 5 = .ok (.ifCond .ne 10, 3) := by decide +kernel
theorem dX8_weather_8 : decode cX8_weather 8 = .ok (.aload_n 0, 1) := by decide +kernel
theorem dX8_weather_9 : decode cX8_weather 9 = .ok (.bipush (-2), 2) := by decide +kernel
theorem dX8_weather_11 : decode cX8_weather 11 = .ok (.invokevirtual 100, 3) := by decide +kernel
theorem dX8_weather_14 : decode cX8_weather 14 = .ok (.ireturn, 1) := by decide +kernel
theorem dX8_weather_15 : decode cX8_weather 15 = .ok (.iload_n 1, 1) := by decide +kernel
theorem dX8_weather_16 : decode cX8_weather 16 = .ok (.ifCond .ge 10, 3) := by decide +kernel
theorem dX8_weather_19 : decode cX8_weather 19 = .ok (.aload_n 0, 1) := by decide +kernel
theorem dX8_weather_20 : decode cX8_weather 20 = .ok (.bipush (-4), 2) := by decide +kernel
theorem dX8_weather_22 : decode cX8_weather 22 = .ok (.invokevirtual 100, 3) := by decide +kernel
theorem dX8_weather_25 : decode cX8_weather 25 = .ok (.ireturn, 1) := by decide +kernel
theorem dX8_weather_26 : decode cX8_weather 26 = .ok (.iload_n 1, 1) := by decide +kernel
theorem dX8_weather_27 : decode cX8_weather 27 = .ok (.sipush 720, 3) := by decide +kernel
theorem dX8_weather_30 : decode cX8_weather 30 = .ok (.if_icmp .le 10, 3) := by decide +kernel
theorem dX8_weather_33 : decode cX8_weather 33 = .ok (.aload_n 0, 1) := by decide +kernel
theorem dX8_weather_34 : decode cX8_weather 34 = .ok (.bipush (-6), 2) := by decide +kernel
theorem dX8_weather_36 : decode cX8_weather 36 = .ok (.invokevirtual 100, 3) := by decide +kernel
theorem dX8_weather_39 : decode cX8_weather 39 = .ok (.ireturn, 1) := by decide +kernel
theorem dX8_weather_40 : decode cX8_weather 40 = .ok (.aload_n 0, 1) := by decide +kernel
theorem dX8_weather_41 : decode cX8_weather 41 = .ok (.getfield 47, 3) := by decide +kernel
theorem dX8_weather_44 : decode cX8_weather 44 = .ok (.iload_n 1, 1) := by decide +kernel
theorem dX8_weather_45 : decode cX8_weather 45 = .ok (.iload_n 2, 1) := by decide +kernel
theorem dX8_weather_46 : decode cX8_weather 46 = .ok (.iload_n 3, 1) := by decide +kernel
theorem dX8_weather_47 : decode cX8_weather 47 = .ok (.invokevirtual 120, 3) := by decide +kernel
theorem dX8_weather_50 : decode cX8_weather 50 = .ok (.iconst 1, 1) := by decide +kernel
theorem dX8_weather_51 : decode cX8_weather 51 = .ok (.ireturn, 1) := by decide +kernel
set_option maxRecDepth 20000 in
theorem ggX8_right_X8_refuse : GoodIn wsX8_right wsX8_refuse := goodIn_r _ [10, 11, 47, 48, 49, 50, 51, 52, 53, 54, 55, 56, 57, 58, 59, 60, 61, 62, 63, 64, 65] (by decide +kernel) (by decide +kernel)
set_option maxRecDepth 20000 in
theorem gX8_right_X8_refuse : GoodIn wsX8_right (wsV RX8 100 RX8 yX8_refuse wsX8_refuse) := goodIn_app (goodIn_of _ (by decide +kernel)) ggX8_right_X8_refuse
set_option maxRecDepth 20000 in
theorem ggX8_right_X8_isHouse : GoodIn wsX8_right wsX8_isHouse := goodIn_r _ [15, 16, 47, 48, 49, 50, 51, 52, 53, 54, 55, 56, 57, 58, 59, 60, 61, 62, 63, 64, 65] (by decide +kernel) (by decide +kernel)
set_option maxRecDepth 20000 in
theorem gX8_right_X8_isHouse : GoodIn wsX8_right (wsV RX8 124 RX8 yX8_isHouse wsX8_isHouse) := goodIn_app (goodIn_of _ (by decide +kernel)) ggX8_right_X8_isHouse
set_option maxRecDepth 20000 in
theorem ggX8_right_X8_isOwner : GoodIn wsX8_right wsX8_isOwner := goodIn_r _ [20, 21, 47, 48, 49, 50, 51, 52, 53, 54, 55, 56, 57, 58, 59, 60, 61, 62, 63, 64, 65] (by decide +kernel) (by decide +kernel)
set_option maxRecDepth 20000 in
theorem gX8_right_X8_isOwner : GoodIn wsX8_right (wsV RX8 108 RX8 yX8_isOwner wsX8_isOwner) := goodIn_app (goodIn_of _ (by decide +kernel)) ggX8_right_X8_isOwner
theorem dX8_right_0 : decode cX8_right 0 = .ok (.iload_n 1, 1) := by decide +kernel
theorem dX8_right_1 : decode cX8_right 1 = .ok (.ifCond .lt 8, 3) := by decide +kernel
theorem dX8_right_4 : decode cX8_right 4 = .ok (.iload_n 1, 1) := by decide +kernel
theorem dX8_right_5 : decode cX8_right 5 = .ok (.iconst 3, 1) := by decide +kernel
theorem dX8_right_6 : decode cX8_right 6 = .ok (.if_icmp .le 10, 3) := by decide +kernel
theorem dX8_right_9 : decode cX8_right 9 = .ok (.aload_n 0, 1) := by decide +kernel
theorem dX8_right_10 : decode cX8_right 10 = .ok (.bipush (-2), 2) := by decide +kernel
theorem dX8_right_12 : decode cX8_right 12 = .ok (.invokevirtual 100, 3) := by decide +kernel
theorem dX8_right_15 : decode cX8_right 15 = .ok (.ireturn, 1) := by decide +kernel
theorem dX8_right_16 : decode cX8_right 16 = .ok (.iload_n 1, 1) := by decide +kernel
theorem dX8_right_17 : decode cX8_right 17 = .ok (.iconst 1, 1) := by decide +kernel
theorem dX8_right_18 : decode cX8_right 18 = .ok (.if_icmp .ne 14, 3) := by decide +kernel
theorem dX8_right_21 : decode cX8_right 21 = .ok (.aload_n 0, 1) := by decide +kernel
theorem dX8_right_22 : decode cX8_right 22 = .ok (.iload_n 2, 1) := by decide +kernel
theorem dX8_right_23 : decode cX8_right 23 = .ok (.invokevirtual 124, 3) := by decide +kernel
theorem dX8_right_26 : decode cX8_right 26 = .ok (.ifCond .ne 20, 3) := by decide +kernel
theorem dX8_right_29 : decode cX8_right 29 = .ok (.goto 11, 3) := by decide +kernel
theorem dX8_right_32 : decode cX8_right 32 = .ok (.aload_n 0, 1) := by decide +kernel
theorem dX8_right_33 : decode cX8_right 33 = .ok (.iload_n 2, 1) := by decide +kernel
theorem dX8_right_34 : decode cX8_right 34 = .ok (.invokevirtual 108, 3) := by decide +kernel
theorem dX8_right_37 : decode cX8_right 37 = .ok (.ifCond .ne 9, 3) := by decide +kernel
theorem dX8_right_40 : decode cX8_right 40 = .ok (.aload_n 0, 1) := by decide +kernel
theorem dX8_right_41 : decode cX8_right 41 = .ok (.iconst (-1), 1) := by decide +kernel
theorem dX8_right_42 : decode cX8_right 42 = .ok (.invokevirtual 100, 3) := by decide +kernel
theorem dX8_right_45 : decode cX8_right 45 = .ok (.ireturn, 1) := by decide +kernel
set_option maxRecDepth 20000 in
theorem ggX8_lend_X8_canPass : GoodIn wsX8_lend wsX8_canPass := goodIn_r _ [13, 1, 14, 15, 16, 12, 17, 5, 18, 19, 20, 21, 22, 23, 24, 25, 26, 2, 27, 28, 29, 30, 31, 32, 33, 68, 69, 70, 71, 72, 73, 74, 75, 76, 77, 78, 79, 80, 81, 82, 83, 84, 85, 86, 87, 88, 89, 90, 91, 92, 93, 94, 95] (by decide +kernel) (by decide +kernel)
set_option maxRecDepth 20000 in
theorem gX8_lend_X8_canPass : GoodIn wsX8_lend (wsV RX8 137 RX8 yX8_canPass wsX8_canPass) := goodIn_app (goodIn_of _ (by decide +kernel)) ggX8_lend_X8_canPass
set_option maxRecDepth 20000 in
theorem ggX8_lend_X8_refuse : GoodIn wsX8_lend wsX8_refuse := goodIn_r _ [37, 38, 68, 69, 70, 71, 72, 73, 74, 75, 76, 77, 78, 79, 80, 81, 82, 83, 84, 85, 86] (by decide +kernel) (by decide +kernel)
set_option maxRecDepth 20000 in
theorem gX8_lend_X8_refuse : GoodIn wsX8_lend (wsV RX8 100 RX8 yX8_refuse wsX8_refuse) := goodIn_app (goodIn_of _ (by decide +kernel)) ggX8_lend_X8_refuse
theorem dX8_lend_0 : decode cX8_lend 0 = .ok (.aload_n 0, 1) := by decide +kernel
theorem dX8_lend_1 : decode cX8_lend 1 = .ok (.iload_n 1, 1) := by decide +kernel
theorem dX8_lend_2 : decode cX8_lend 2 = .ok (.iload_n 2, 1) := by decide +kernel
theorem dX8_lend_3 : decode cX8_lend 3 = .ok (.invokevirtual 137, 3) := by decide +kernel
theorem dX8_lend_6 : decode cX8_lend 6 = .ok (.ifCond .ne 9, 3) := by decide +kernel
theorem dX8_lend_9 : decode cX8_lend 9 = .ok (.aload_n 0, 1) := by decide +kernel
theorem dX8_lend_10 : decode cX8_lend 10 = .ok (.iconst (-1), 1) := by decide +kernel
theorem dX8_lend_11 : decode cX8_lend 11 = .ok (.invokevirtual 100, 3) := by decide +kernel
theorem dX8_lend_14 : decode cX8_lend 14 = .ok (.ireturn, 1) := by decide +kernel
set_option maxRecDepth 20000 in
theorem ggX8_sell_X8_canPass : GoodIn wsX8_sell wsX8_canPass := goodIn_r _ [9, 1, 10, 11, 12, 8, 13, 14, 15, 16, 17, 18, 19, 20, 21, 22, 23, 2, 4, 24, 25, 26, 27, 28, 29, 43, 44, 45, 46, 47, 48, 49, 50, 51, 52, 53, 54, 55, 56, 57, 58, 59, 60, 61, 62, 63, 64, 65, 66, 67, 68, 69, 70] (by decide +kernel) (by decide +kernel)
set_option maxRecDepth 20000 in
theorem gX8_sell_X8_canPass : GoodIn wsX8_sell (wsV RX8 137 RX8 yX8_canPass wsX8_canPass) := goodIn_app (goodIn_of _ (by decide +kernel)) ggX8_sell_X8_canPass
set_option maxRecDepth 20000 in
theorem ggX8_sell_X8_refuse : GoodIn wsX8_sell wsX8_refuse := goodIn_r _ [33, 34, 43, 44, 45, 46, 47, 48, 49, 50, 51, 52, 53, 54, 55, 56, 57, 58, 59, 60, 61] (by decide +kernel) (by decide +kernel)
set_option maxRecDepth 20000 in
theorem gX8_sell_X8_refuse : GoodIn wsX8_sell (wsV RX8 100 RX8 yX8_refuse wsX8_refuse) := goodIn_app (goodIn_of _ (by decide +kernel)) ggX8_sell_X8_refuse
theorem dX8_sell_0 : decode cX8_sell 0 = .ok (.aload_n 0, 1) := by decide +kernel
theorem dX8_sell_1 : decode cX8_sell 1 = .ok (.iload_n 1, 1) := by decide +kernel
theorem dX8_sell_2 : decode cX8_sell 2 = .ok (.iload_n 2, 1) := by decide +kernel
theorem dX8_sell_3 : decode cX8_sell 3 = .ok (.invokevirtual 137, 3) := by decide +kernel
theorem dX8_sell_6 : decode cX8_sell 6 = .ok (.ifCond .ne 9, 3) := by decide +kernel
theorem dX8_sell_9 : decode cX8_sell 9 = .ok (.aload_n 0, 1) := by decide +kernel
theorem dX8_sell_10 : decode cX8_sell 10 = .ok (.iconst (-1), 1) := by decide +kernel
theorem dX8_sell_11 : decode cX8_sell 11 = .ok (.invokevirtual 100, 3) := by decide +kernel
theorem dX8_sell_14 : decode cX8_sell 14 = .ok (.ireturn, 1) := by decide +kernel
set_option maxRecDepth 20000 in
theorem ggX8_move_X8_isHouse : GoodIn wsX8_move wsX8_isHouse := goodIn_r _ [6, 7, 18, 19, 20, 21, 22, 23, 24, 25, 26, 27, 28, 29, 30, 31, 32, 33, 34, 35, 36] (by decide +kernel) (by decide +kernel)
set_option maxRecDepth 20000 in
theorem gX8_move_X8_isHouse : GoodIn wsX8_move (wsV RX8 124 RX8 yX8_isHouse wsX8_isHouse) := goodIn_app (goodIn_of _ (by decide +kernel)) ggX8_move_X8_isHouse
set_option maxRecDepth 20000 in
theorem ggX8_move_X8_refuse : GoodIn wsX8_move wsX8_refuse := goodIn_r _ [16, 17, 18, 19, 20, 21, 22, 23, 24, 25, 26, 27, 28, 29, 30, 31, 32, 33, 34, 35, 36] (by decide +kernel) (by decide +kernel)
set_option maxRecDepth 20000 in
theorem gX8_move_X8_refuse : GoodIn wsX8_move (wsV RX8 100 RX8 yX8_refuse wsX8_refuse) := goodIn_app (goodIn_of _ (by decide +kernel)) ggX8_move_X8_refuse
theorem dX8_move_0 : decode cX8_move 0 = .ok (.aload_n 0, 1) := by decide +kernel
theorem dX8_move_1 : decode cX8_move 1 = .ok (.iload_n 1, 1) := by decide +kernel
theorem dX8_move_2 : decode cX8_move 2 = .ok (.invokevirtual 124, 3) := by decide +kernel
theorem dX8_move_5 : decode cX8_move 5 = .ok (.ifCond .eq 21, 3) := by decide +kernel
theorem dX8_move_26 : decode cX8_move 26 = .ok (.aload_n 0, 1) := by decide +kernel
theorem dX8_move_27 : decode cX8_move 27 = .ok (.iconst (-1), 1) := by decide +kernel
theorem dX8_move_28 : decode cX8_move 28 = .ok (.invokevirtual 100, 3) := by decide +kernel
theorem dX8_move_31 : decode cX8_move 31 = .ok (.ireturn, 1) := by decide +kernel
set_option maxRecDepth 20000 in
theorem ggX8_herd_X8_isOwner : GoodIn wsX8_herd wsX8_isOwner := goodIn_r _ [10, 11, 31, 32, 33, 34, 35, 36, 37, 38, 39, 40, 41, 42, 43, 44, 45, 46, 47, 48, 49] (by decide +kernel) (by decide +kernel)
set_option maxRecDepth 20000 in
theorem gX8_herd_X8_isOwner : GoodIn wsX8_herd (wsV RX8 108 RX8 yX8_isOwner wsX8_isOwner) := goodIn_app (goodIn_of _ (by decide +kernel)) ggX8_herd_X8_isOwner
set_option maxRecDepth 20000 in
theorem ggX8_herd_X8_refuse : GoodIn wsX8_herd wsX8_refuse := goodIn_r _ [15, 16, 31, 32, 33, 34, 35, 36, 37, 38, 39, 40, 41, 42, 43, 44, 45, 46, 47, 48, 49] (by decide +kernel) (by decide +kernel)
set_option maxRecDepth 20000 in
theorem gX8_herd_X8_refuse : GoodIn wsX8_herd (wsV RX8 100 RX8 yX8_refuse wsX8_refuse) := goodIn_app (goodIn_of _ (by decide +kernel)) ggX8_herd_X8_refuse
theorem dX8_herd_0 : decode cX8_herd 0 = .ok (.aload_n 0, 1) := by decide +kernel
theorem dX8_herd_1 : decode cX8_herd 1 = .ok (.iload_n 1, 1) := by decide +kernel
theorem dX8_herd_2 : decode cX8_herd 2 = .ok (.invokevirtual 108, 3) := by decide +kernel
theorem dX8_herd_5 : decode cX8_herd 5 = .ok (.ifCond .ne 9, 3) := by decide +kernel
theorem dX8_herd_8 : decode cX8_herd 8 = .ok (.aload_n 0, 1) := by decide +kernel
theorem dX8_herd_9 : decode cX8_herd 9 = .ok (.iconst (-1), 1) := by decide +kernel
theorem dX8_herd_10 : decode cX8_herd 10 = .ok (.invokevirtual 100, 3) := by decide +kernel
theorem dX8_herd_13 : decode cX8_herd 13 = .ok (.ireturn, 1) := by decide +kernel
set_option maxRecDepth 20000 in
theorem ggX8_put_X8_isHerd : GoodIn wsX8_put wsX8_isHerd := goodIn_r _ [13, 14, 105, 106, 107, 108, 109, 110, 111, 112, 113, 114, 115, 116, 117, 118, 119, 120, 121, 122, 123] (by decide +kernel) (by decide +kernel)
set_option maxRecDepth 20000 in
theorem gX8_put_X8_isHerd : GoodIn wsX8_put (wsV RX8 157 RX8 yX8_isHerd wsX8_isHerd) := goodIn_app (goodIn_of _ (by decide +kernel)) ggX8_put_X8_isHerd
set_option maxRecDepth 20000 in
theorem ggX8_put_X8_refuse : GoodIn wsX8_put wsX8_refuse := goodIn_r _ [23, 24, 105, 106, 107, 108, 109, 110, 111, 112, 113, 114, 115, 116, 117, 118, 119, 120, 121, 122, 123] (by decide +kernel) (by decide +kernel)
set_option maxRecDepth 20000 in
theorem gX8_put_X8_refuse : GoodIn wsX8_put (wsV RX8 100 RX8 yX8_refuse wsX8_refuse) := goodIn_app (goodIn_of _ (by decide +kernel)) ggX8_put_X8_refuse
theorem dX8_put_0 : decode cX8_put 0 = .ok (.aload_n 0, 1) := by decide +kernel
theorem dX8_put_1 : decode cX8_put 1 = .ok (.iload_n 1, 1) := by decide +kernel
theorem dX8_put_2 : decode cX8_put 2 = .ok (.invokevirtual 157, 3) := by decide +kernel
theorem dX8_put_5 : decode cX8_put 5 = .ok (.ifCond .eq 11, 3) := by decide +kernel
theorem dX8_put_16 : decode cX8_put 16 = .ok (.aload_n 0, 1) := by decide +kernel
theorem dX8_put_17 : decode cX8_put 17 = .ok (.iconst (-1), 1) := by decide +kernel
theorem dX8_put_18 : decode cX8_put 18 = .ok (.invokevirtual 100, 3) := by decide +kernel
theorem dX8_put_21 : decode cX8_put 21 = .ok (.ireturn, 1) := by decide +kernel
set_option maxRecDepth 20000 in
theorem ggX8_drive_X8_isHerd : GoodIn wsX8_drive wsX8_isHerd := goodIn_r _ [11, 12, 29, 30, 31, 32, 33, 34, 35, 36, 37, 38, 39, 40, 41, 42, 43, 44, 45, 46, 47] (by decide +kernel) (by decide +kernel)
set_option maxRecDepth 20000 in
theorem gX8_drive_X8_isHerd : GoodIn wsX8_drive (wsV RX8 157 RX8 yX8_isHerd wsX8_isHerd) := goodIn_app (goodIn_of _ (by decide +kernel)) ggX8_drive_X8_isHerd
set_option maxRecDepth 20000 in
theorem ggX8_drive_X8_refuse : GoodIn wsX8_drive wsX8_refuse := goodIn_r _ [21, 22, 29, 30, 31, 32, 33, 34, 35, 36, 37, 38, 39, 40, 41, 42, 43, 44, 45, 46, 47] (by decide +kernel) (by decide +kernel)
set_option maxRecDepth 20000 in
theorem gX8_drive_X8_refuse : GoodIn wsX8_drive (wsV RX8 100 RX8 yX8_refuse wsX8_refuse) := goodIn_app (goodIn_of _ (by decide +kernel)) ggX8_drive_X8_refuse
theorem dX8_drive_0 : decode cX8_drive 0 = .ok (.aload_n 0, 1) := by decide +kernel
theorem dX8_drive_1 : decode cX8_drive 1 = .ok (.iload_n 1, 1) := by decide +kernel
theorem dX8_drive_2 : decode cX8_drive 2 = .ok (.invokevirtual 157, 3) := by decide +kernel
theorem dX8_drive_5 : decode cX8_drive 5 = .ok (.ifCond .eq 16, 3) := by decide +kernel
theorem dX8_drive_21 : decode cX8_drive 21 = .ok (.aload_n 0, 1) := by decide +kernel
theorem dX8_drive_22 : decode cX8_drive 22 = .ok (.iconst (-1), 1) := by decide +kernel
theorem dX8_drive_23 : decode cX8_drive 23 = .ok (.invokevirtual 100, 3) := by decide +kernel
theorem dX8_drive_26 : decode cX8_drive 26 = .ok (.ireturn, 1) := by decide +kernel
set_option maxRecDepth 20000 in
theorem ggX8_covered_X8_isOwner : GoodIn wsX8_covered wsX8_isOwner := goodIn_r _ [5, 6, 90, 91, 92, 93, 94, 95, 96, 97, 98, 99, 100, 101, 102, 103, 104, 105, 106, 107, 108] (by decide +kernel) (by decide +kernel)
set_option maxRecDepth 20000 in
theorem gX8_covered_X8_isOwner : GoodIn wsX8_covered (wsV RX8 108 RX8 yX8_isOwner wsX8_isOwner) := goodIn_app (goodIn_of _ (by decide +kernel)) ggX8_covered_X8_isOwner
set_option maxRecDepth 20000 in
theorem ggX8_covered_X8_refuse : GoodIn wsX8_covered wsX8_refuse := goodIn_r _ [10, 11, 90, 91, 92, 93, 94, 95, 96, 97, 98, 99, 100, 101, 102, 103, 104, 105, 106, 107, 108] (by decide +kernel) (by decide +kernel)
set_option maxRecDepth 20000 in
theorem gX8_covered_X8_refuse : GoodIn wsX8_covered (wsV RX8 100 RX8 yX8_refuse wsX8_refuse) := goodIn_app (goodIn_of _ (by decide +kernel)) ggX8_covered_X8_refuse
theorem dX8_covered_0 : decode cX8_covered 0 = .ok (.aload_n 0, 1) := by decide +kernel
theorem dX8_covered_1 : decode cX8_covered 1 = .ok (.iload_n 1, 1) := by decide +kernel
theorem dX8_covered_2 : decode cX8_covered 2 = .ok (.invokevirtual 108, 3) := by decide +kernel
theorem dX8_covered_5 : decode cX8_covered 5 = .ok (.ifCond .ne 9, 3) := by decide +kernel
theorem dX8_covered_8 : decode cX8_covered 8 = .ok (.aload_n 0, 1) := by decide +kernel
theorem dX8_covered_9 : decode cX8_covered 9 = .ok (.iconst (-1), 1) := by decide +kernel
theorem dX8_covered_10 : decode cX8_covered 10 = .ok (.invokevirtual 100, 3) := by decide +kernel
theorem dX8_covered_13 : decode cX8_covered 13 = .ok (.ireturn, 1) := by decide +kernel
set_option maxRecDepth 20000 in
theorem ggX8_lacks_X8_isOwner : GoodIn wsX8_lacks wsX8_isOwner := goodIn_r _ [5, 6, 90, 91, 92, 93, 94, 95, 96, 97, 98, 99, 100, 101, 102, 103, 104, 105, 106, 107, 108] (by decide +kernel) (by decide +kernel)
set_option maxRecDepth 20000 in
theorem gX8_lacks_X8_isOwner : GoodIn wsX8_lacks (wsV RX8 108 RX8 yX8_isOwner wsX8_isOwner) := goodIn_app (goodIn_of _ (by decide +kernel)) ggX8_lacks_X8_isOwner
set_option maxRecDepth 20000 in
theorem ggX8_lacks_X8_refuse : GoodIn wsX8_lacks wsX8_refuse := goodIn_r _ [10, 11, 90, 91, 92, 93, 94, 95, 96, 97, 98, 99, 100, 101, 102, 103, 104, 105, 106, 107, 108] (by decide +kernel) (by decide +kernel)
set_option maxRecDepth 20000 in
theorem gX8_lacks_X8_refuse : GoodIn wsX8_lacks (wsV RX8 100 RX8 yX8_refuse wsX8_refuse) := goodIn_app (goodIn_of _ (by decide +kernel)) ggX8_lacks_X8_refuse
theorem dX8_lacks_0 : decode cX8_lacks 0 = .ok (.aload_n 0, 1) := by decide +kernel
theorem dX8_lacks_1 : decode cX8_lacks 1 = .ok (.iload_n 1, 1) := by decide +kernel
theorem dX8_lacks_2 : decode cX8_lacks 2 = .ok (.invokevirtual 108, 3) := by decide +kernel
theorem dX8_lacks_5 : decode cX8_lacks 5 = .ok (.ifCond .ne 9, 3) := by decide +kernel
theorem dX8_lacks_8 : decode cX8_lacks 8 = .ok (.aload_n 0, 1) := by decide +kernel
theorem dX8_lacks_9 : decode cX8_lacks 9 = .ok (.iconst (-1), 1) := by decide +kernel
theorem dX8_lacks_10 : decode cX8_lacks 10 = .ok (.invokevirtual 100, 3) := by decide +kernel
theorem dX8_lacks_13 : decode cX8_lacks 13 = .ok (.ireturn, 1) := by decide +kernel
set_option maxRecDepth 20000 in
theorem ggX8_over_X8_isPiece : GoodIn wsX8_over wsX8_isPiece := goodIn_r _ [10, 11, 34, 35, 36, 37, 38, 39, 40, 41, 42, 43, 44, 45, 46, 47, 48, 49, 50, 51, 52] (by decide +kernel) (by decide +kernel)
set_option maxRecDepth 20000 in
theorem gX8_over_X8_isPiece : GoodIn wsX8_over (wsV RX8 127 RX8 yX8_isPiece wsX8_isPiece) := goodIn_app (goodIn_of _ (by decide +kernel)) ggX8_over_X8_isPiece
set_option maxRecDepth 20000 in
theorem ggX8_over_X8_refuse : GoodIn wsX8_over wsX8_refuse := goodIn_r _ [15, 16, 34, 35, 36, 37, 38, 39, 40, 41, 42, 43, 44, 45, 46, 47, 48, 49, 50, 51, 52] (by decide +kernel) (by decide +kernel)
set_option maxRecDepth 20000 in
theorem gX8_over_X8_refuse : GoodIn wsX8_over (wsV RX8 100 RX8 yX8_refuse wsX8_refuse) := goodIn_app (goodIn_of _ (by decide +kernel)) ggX8_over_X8_refuse
theorem dX8_over_0 : decode cX8_over 0 = .ok (.aload_n 0, 1) := by decide +kernel
theorem dX8_over_1 : decode cX8_over 1 = .ok (.iload_n 1, 1) := by decide +kernel
theorem dX8_over_2 : decode cX8_over 2 = .ok (.invokevirtual 127, 3) := by decide +kernel
theorem dX8_over_5 : decode cX8_over 5 = .ok (.ifCond .ne 9, 3) := by decide +kernel
theorem dX8_over_8 : decode cX8_over 8 = .ok (.aload_n 0, 1) := by decide +kernel
theorem dX8_over_9 : decode cX8_over 9 = .ok (.iconst (-1), 1) := by decide +kernel
theorem dX8_over_10 : decode cX8_over 10 = .ok (.invokevirtual 100, 3) := by decide +kernel
theorem dX8_over_13 : decode cX8_over 13 = .ok (.ireturn, 1) := by decide +kernel
set_option maxRecDepth 20000 in
theorem ggX8_pass_X8_refuse : GoodIn wsX8_pass wsX8_refuse := goodIn_r _ [6, 7, 170, 171, 172, 173, 174, 175, 176, 177, 178, 179, 180, 181, 182, 183, 184, 185, 186, 187, 188] (by decide +kernel) (by decide +kernel)
set_option maxRecDepth 20000 in
theorem gX8_pass_X8_refuse : GoodIn wsX8_pass (wsV RX8 100 RX8 yX8_refuse wsX8_refuse) := goodIn_app (goodIn_of _ (by decide +kernel)) ggX8_pass_X8_refuse
set_option maxRecDepth 20000 in
theorem ggX8_pass_X8_grazeAll : GoodIn wsX8_pass wsX8_grazeAll := goodIn_r _ [11, 12, 13, 14, 15, 5, 16, 17, 18, 19, 20, 21, 22, 23, 1, 24, 25, 26, 27, 28, 29, 30, 31, 32, 33, 34, 35, 36, 37, 38, 39, 40, 41, 42, 43, 44, 45, 46, 47, 48, 49, 50, 51, 52, 53, 54, 55, 56, 57, 58, 59, 60, 61, 62, 63, 64, 65, 66, 67, 68, 69, 70, 71, 72, 73, 74, 75, 76, 77, 78, 79, 80, 81, 82, 83, 84, 85, 86, 87, 88, 89, 90, 91, 92, 170, 171, 172, 173, 174, 175, 176, 177, 178, 179, 180, 181, 182, 183, 184, 185, 186, 187, 188, 189, 190, 191, 192, 193, 194, 195, 196, 197, 198, 199, 200, 201, 202, 203, 204, 205, 206, 207, 208, 209, 210, 211] (by decide +kernel) (by decide +kernel)
set_option maxRecDepth 20000 in
theorem gX8_pass_X8_grazeAll : GoodIn wsX8_pass (wsV RX8 192 RX8 yX8_grazeAll wsX8_grazeAll) := goodIn_app (goodIn_of _ (by decide +kernel)) ggX8_pass_X8_grazeAll
set_option maxRecDepth 20000 in
theorem ggX8_pass_X8_sellFromPound : GoodIn wsX8_pass wsX8_sellFromPound := goodIn_r _ [96, 18, 19, 97, 1, 98, 66, 67, 68, 99, 100, 101, 102, 103, 104, 105, 38, 106, 107, 108, 35, 36, 37, 39, 40, 41, 109, 110, 111, 112, 113, 170, 171, 172, 173, 174, 175, 176, 177, 178, 179, 180, 181, 182, 183, 184, 185, 186, 187, 188, 189, 190, 191, 192, 193, 194, 195, 196, 212, 213] (by decide +kernel) (by decide +kernel)
set_option maxRecDepth 20000 in
theorem gX8_pass_X8_sellFromPound : GoodIn wsX8_pass (wsV RX8 195 RX8 yX8_sellFromPound wsX8_sellFromPound) := goodIn_app (goodIn_of _ (by decide +kernel)) ggX8_pass_X8_sellFromPound
set_option maxRecDepth 20000 in
theorem ggX8_pass_X8_findUsed : GoodIn wsX8_pass wsX8_findUsed := goodIn_r _ [117, 118, 119, 1, 120, 121, 122, 123, 124, 125, 126, 127, 128, 129, 130, 131, 132, 5, 133, 18, 19, 100, 134, 135, 136, 137, 138, 139, 140, 141, 142, 143, 144, 145, 146, 147, 148, 149, 150, 151, 152, 153, 154, 155, 156, 157, 158, 159, 160, 161, 162, 170, 171, 172, 173, 174, 175, 176, 177, 178, 179, 180, 181, 182, 183, 184, 185, 186, 187, 188, 214, 215, 216, 217, 218, 219, 220, 221, 222, 189, 190, 191, 192, 193, 194, 195, 196] (by decide +kernel) (by decide +kernel)
set_option maxRecDepth 20000 in
theorem gX8_pass_X8_findUsed : GoodIn wsX8_pass (wsV RX8 198 RX8 yX8_findUsed wsX8_findUsed) := goodIn_app (goodIn_of _ (by decide +kernel)) ggX8_pass_X8_findUsed
set_option maxRecDepth 20000 in
theorem ggX8_pass_X8_lapse : GoodIn wsX8_pass wsX8_lapse := goodIn_r _ [166, 118, 119, 1, 167, 120, 168, 169, 122, 123, 124, 125, 126, 127, 128, 129, 170, 171, 172, 173, 174, 175, 176, 177, 178, 179, 180, 181, 182, 183, 184, 185, 186, 187, 188, 214, 215, 216, 217, 218, 219, 220, 221, 222] (by decide +kernel) (by decide +kernel)
set_option maxRecDepth 20000 in
theorem gX8_pass_X8_lapse : GoodIn wsX8_pass (wsV RX8 201 RX8 yX8_lapse wsX8_lapse) := goodIn_app (goodIn_of _ (by decide +kernel)) ggX8_pass_X8_lapse
theorem dX8_pass_0 : decode cX8_pass 0 = .ok (.iload_n 1, 1) := by decide +kernel
theorem dX8_pass_1 : decode cX8_pass 1 = .ok (.iconst 1, 1) := by decide +kernel
theorem dX8_pass_2 : decode cX8_pass 2 = .ok (.if_icmp .ge 10, 3) := by decide +kernel
theorem dX8_pass_5 : decode cX8_pass 5 = .ok (.aload_n 0, 1) := by decide +kernel
theorem dX8_pass_6 : decode cX8_pass 6 = .ok (.bipush (-4), 2) := by decide +kernel
theorem dX8_pass_8 : decode cX8_pass 8 = .ok (.invokevirtual 100, 3) := by decide +kernel
theorem dX8_pass_11 : decode cX8_pass 11 = .ok (.ireturn, 1) := by decide +kernel
theorem dX8_pass_12 : decode cX8_pass 12 = .ok (.iload_n 1, 1) := by decide +kernel
theorem dX8_pass_13 : decode cX8_pass 13 = .ok (.sipush 720, 3) := by decide +kernel
theorem dX8_pass_16 : decode cX8_pass 16 = .ok (.aload_n 0, 1) := by decide +kernel
theorem dX8_pass_17 : decode cX8_pass 17 = .ok (.getfield 91, 3) := by decide +kernel
theorem dX8_pass_20 : decode cX8_pass 20 = .ok (.isub, 1) := by decide +kernel
theorem dX8_pass_21 : decode cX8_pass 21 = .ok (.if_icmp .le 10, 3) := by decide +kernel
theorem dX8_pass_24 : decode cX8_pass 24 = .ok (.aload_n 0, 1) := by decide +kernel
theorem dX8_pass_25 : decode cX8_pass 25 = .ok (.bipush (-6), 2) := by decide +kernel
theorem dX8_pass_27 : decode cX8_pass 27 = .ok (.invokevirtual 100, 3) := by decide +kernel
theorem dX8_pass_30 : decode cX8_pass 30 = .ok (.ireturn, 1) := by decide +kernel
theorem dX8_pass_31 : decode cX8_pass 31 = .ok (.iconst 0, 1) := by decide +kernel
theorem dX8_pass_32 : decode cX8_pass 32 = .ok (.istore_n 2, 1) := by decide +kernel
theorem dX8_pass_33 : decode cX8_pass 33 = .ok (.iconst 0, 1) := by decide +kernel
theorem dX8_pass_34 : decode cX8_pass 34 = .ok (.istore_n 3, 1) := by decide +kernel
theorem dX8_pass_35 : decode cX8_pass 35 = .ok (.iload_n 3, 1) := by decide +kernel
theorem dX8_pass_36 : decode cX8_pass 36 = .ok (.iload_n 1, 1) := by decide +kernel
theorem dX8_pass_37 : decode cX8_pass 37 = .ok (.if_icmp .ge 38, 3) := by decide +kernel
theorem dX8_pass_40 : decode cX8_pass 40 = .ok (.aload_n 0, 1) := by decide +kernel
theorem dX8_pass_41 : decode cX8_pass 41 = .ok (.dup, 1) := by decide +kernel
theorem dX8_pass_42 : decode cX8_pass 42 = .ok (.getfield 91, 3) := by decide +kernel
theorem dX8_pass_45 : decode cX8_pass 45 = .ok (.iconst 1, 1) := by decide +kernel
theorem dX8_pass_46 : decode cX8_pass 46 = .ok (.iadd, 1) := by decide +kernel
theorem dX8_pass_47 : decode cX8_pass 47 = .ok (.putfield 91, 3) := by decide +kernel
theorem dX8_pass_50 : decode cX8_pass 50 = .ok (.iload_n 2, 1) := by decide +kernel
theorem dX8_pass_51 : decode cX8_pass 51 = .ok (.aload_n 0, 1) := by decide +kernel
theorem dX8_pass_52 : decode cX8_pass 52 = .ok (.invokevirtual 192, 3) := by decide +kernel
theorem dX8_pass_55 : decode cX8_pass 55 = .ok (.iadd, 1) := by decide +kernel
theorem dX8_pass_56 : decode cX8_pass 56 = .ok (.istore_n 2, 1) := by decide +kernel
theorem dX8_pass_57 : decode cX8_pass 57 = .ok (.aload_n 0, 1) := by decide +kernel
theorem dX8_pass_58 : decode cX8_pass 58 = .ok (.invokevirtual 195, 3) := by decide +kernel
theorem dX8_pass_61 : decode cX8_pass 61 = .ok (.aload_n 0, 1) := by decide +kernel
theorem dX8_pass_62 : decode cX8_pass 62 = .ok (.invokevirtual 198, 3) := by decide +kernel
theorem dX8_pass_65 : decode cX8_pass 65 = .ok (.aload_n 0, 1) := by decide +kernel
theorem dX8_pass_66 : decode cX8_pass 66 = .ok (.invokevirtual 201, 3) := by decide +kernel
theorem dX8_pass_69 : decode cX8_pass 69 = .ok (.iinc 3 1, 3) := by decide +kernel
theorem dX8_pass_72 : decode cX8_pass 72 = .ok (.goto (-37), 3) := by decide +kernel
theorem dX8_pass_75 : decode cX8_pass 75 = .ok (.iload_n 2, 1) := by decide +kernel
theorem dX8_pass_76 : decode cX8_pass 76 = .ok (.ireturn, 1) := by decide +kernel
set_option maxRecDepth 20000 in
theorem ggX8_rest_X8_isPiece : GoodIn wsX8_rest wsX8_isPiece := goodIn_r _ [8, 9, 15, 16, 17, 18, 19, 20, 21, 22, 23, 24, 25, 26, 27, 28, 29, 30, 31, 32, 33] (by decide +kernel) (by decide +kernel)
set_option maxRecDepth 20000 in
theorem gX8_rest_X8_isPiece : GoodIn wsX8_rest (wsV RX8 127 RX8 yX8_isPiece wsX8_isPiece) := goodIn_app (goodIn_of _ (by decide +kernel)) ggX8_rest_X8_isPiece
set_option maxRecDepth 20000 in
theorem ggX8_rest_X8_refuse : GoodIn wsX8_rest wsX8_refuse := goodIn_r _ [13, 14, 15, 16, 17, 18, 19, 20, 21, 22, 23, 24, 25, 26, 27, 28, 29, 30, 31, 32, 33] (by decide +kernel) (by decide +kernel)
set_option maxRecDepth 20000 in
theorem gX8_rest_X8_refuse : GoodIn wsX8_rest (wsV RX8 100 RX8 yX8_refuse wsX8_refuse) := goodIn_app (goodIn_of _ (by decide +kernel)) ggX8_rest_X8_refuse
theorem dX8_rest_0 : decode cX8_rest 0 = .ok (.aload_n 0, 1) := by decide +kernel
theorem dX8_rest_1 : decode cX8_rest 1 = .ok (.iload_n 1, 1) := by decide +kernel
theorem dX8_rest_2 : decode cX8_rest 2 = .ok (.invokevirtual 127, 3) := by decide +kernel
theorem dX8_rest_5 : decode cX8_rest 5 = .ok (.ifCond .ne 9, 3) := by decide +kernel
theorem dX8_rest_8 : decode cX8_rest 8 = .ok (.aload_n 0, 1) := by decide +kernel
theorem dX8_rest_9 : decode cX8_rest 9 = .ok (.iconst (-1), 1) := by decide +kernel
theorem dX8_rest_10 : decode cX8_rest 10 = .ok (.invokevirtual 100, 3) := by decide +kernel
theorem dX8_rest_13 : decode cX8_rest 13 = .ok (.ireturn, 1) := by decide +kernel
set_option maxRecDepth 20000 in
theorem ggX8_cut_X8_isPiece : GoodIn wsX8_cut wsX8_isPiece := goodIn_r _ [13, 14, 108, 109, 110, 111, 112, 113, 114, 115, 116, 117, 118, 119, 120, 121, 122, 123, 124, 125, 126] (by decide +kernel) (by decide +kernel)
set_option maxRecDepth 20000 in
theorem gX8_cut_X8_isPiece : GoodIn wsX8_cut (wsV RX8 127 RX8 yX8_isPiece wsX8_isPiece) := goodIn_app (goodIn_of _ (by decide +kernel)) ggX8_cut_X8_isPiece
set_option maxRecDepth 20000 in
theorem ggX8_cut_X8_refuse : GoodIn wsX8_cut wsX8_refuse := goodIn_r _ [18, 19, 108, 109, 110, 111, 112, 113, 114, 115, 116, 117, 118, 119, 120, 121, 122, 123, 124, 125, 126] (by decide +kernel) (by decide +kernel)
set_option maxRecDepth 20000 in
theorem gX8_cut_X8_refuse : GoodIn wsX8_cut (wsV RX8 100 RX8 yX8_refuse wsX8_refuse) := goodIn_app (goodIn_of _ (by decide +kernel)) ggX8_cut_X8_refuse
theorem dX8_cut_0 : decode cX8_cut 0 = .ok (.aload_n 0, 1) := by decide +kernel
theorem dX8_cut_1 : decode cX8_cut 1 = .ok (.iload_n 1, 1) := by decide +kernel
theorem dX8_cut_2 : decode cX8_cut 2 = .ok (.invokevirtual 127, 3) := by decide +kernel
theorem dX8_cut_5 : decode cX8_cut 5 = .ok (.ifCond .ne 9, 3) := by decide +kernel
theorem dX8_cut_8 : decode cX8_cut 8 = .ok (.aload_n 0, 1) := by decide +kernel
theorem dX8_cut_9 : decode cX8_cut 9 = .ok (.iconst (-1), 1) := by decide +kernel
theorem dX8_cut_10 : decode cX8_cut 10 = .ok (.invokevirtual 100, 3) := by decide +kernel
theorem dX8_cut_13 : decode cX8_cut 13 = .ok (.ireturn, 1) := by decide +kernel
set_option maxRecDepth 20000 in
theorem ggX8_pound_X8_isHerd : GoodIn wsX8_pound wsX8_isHerd := goodIn_r _ [11, 12, 92, 93, 94, 95, 96, 97, 98, 99, 100, 101, 102, 103, 104, 105, 106, 107, 108, 109, 110] (by decide +kernel) (by decide +kernel)
set_option maxRecDepth 20000 in
theorem gX8_pound_X8_isHerd : GoodIn wsX8_pound (wsV RX8 157 RX8 yX8_isHerd wsX8_isHerd) := goodIn_app (goodIn_of _ (by decide +kernel)) ggX8_pound_X8_isHerd
set_option maxRecDepth 20000 in
theorem ggX8_pound_X8_refuse : GoodIn wsX8_pound wsX8_refuse := goodIn_r _ [16, 17, 92, 93, 94, 95, 96, 97, 98, 99, 100, 101, 102, 103, 104, 105, 106, 107, 108, 109, 110] (by decide +kernel) (by decide +kernel)
set_option maxRecDepth 20000 in
theorem gX8_pound_X8_refuse : GoodIn wsX8_pound (wsV RX8 100 RX8 yX8_refuse wsX8_refuse) := goodIn_app (goodIn_of _ (by decide +kernel)) ggX8_pound_X8_refuse
theorem dX8_pound_0 : decode cX8_pound 0 = .ok (.aload_n 0, 1) := by decide +kernel
theorem dX8_pound_1 : decode cX8_pound 1 = .ok (.iload_n 1, 1) := by decide +kernel
theorem dX8_pound_2 : decode cX8_pound 2 = .ok (.invokevirtual 157, 3) := by decide +kernel
theorem dX8_pound_5 : decode cX8_pound 5 = .ok (.ifCond .ne 9, 3) := by decide +kernel
theorem dX8_pound_8 : decode cX8_pound 8 = .ok (.aload_n 0, 1) := by decide +kernel
theorem dX8_pound_9 : decode cX8_pound 9 = .ok (.iconst (-1), 1) := by decide +kernel
theorem dX8_pound_10 : decode cX8_pound 10 = .ok (.invokevirtual 100, 3) := by decide +kernel
theorem dX8_pound_13 : decode cX8_pound 13 = .ok (.ireturn, 1) := by decide +kernel
set_option maxRecDepth 20000 in
theorem ggX8_free_X8_isHerd : GoodIn wsX8_free wsX8_isHerd := goodIn_r _ [12, 13, 31, 32, 33, 34, 35, 36, 37, 38, 39, 40, 41, 42, 43, 44, 45, 46, 47, 48, 49] (by decide +kernel) (by decide +kernel)
set_option maxRecDepth 20000 in
theorem gX8_free_X8_isHerd : GoodIn wsX8_free (wsV RX8 157 RX8 yX8_isHerd wsX8_isHerd) := goodIn_app (goodIn_of _ (by decide +kernel)) ggX8_free_X8_isHerd
set_option maxRecDepth 20000 in
theorem ggX8_free_X8_refuse : GoodIn wsX8_free wsX8_refuse := goodIn_r _ [17, 18, 31, 32, 33, 34, 35, 36, 37, 38, 39, 40, 41, 42, 43, 44, 45, 46, 47, 48, 49] (by decide +kernel) (by decide +kernel)
set_option maxRecDepth 20000 in
theorem gX8_free_X8_refuse : GoodIn wsX8_free (wsV RX8 100 RX8 yX8_refuse wsX8_refuse) := goodIn_app (goodIn_of _ (by decide +kernel)) ggX8_free_X8_refuse
theorem dX8_free_0 : decode cX8_free 0 = .ok (.aload_n 0, 1) := by decide +kernel
theorem dX8_free_1 : decode cX8_free 1 = .ok (.iload_n 1, 1) := by decide +kernel
theorem dX8_free_2 : decode cX8_free 2 = .ok (.invokevirtual 157, 3) := by decide +kernel
theorem dX8_free_5 : decode cX8_free 5 = .ok (.ifCond .ne 9, 3) := by decide +kernel
theorem dX8_free_8 : decode cX8_free 8 = .ok (.aload_n 0, 1) := by decide +kernel
theorem dX8_free_9 : decode cX8_free 9 = .ok (.iconst (-1), 1) := by decide +kernel
theorem dX8_free_10 : decode cX8_free 10 = .ok (.invokevirtual 100, 3) := by decide +kernel
theorem dX8_free_13 : decode cX8_free 13 = .ok (.ireturn, 1) := by decide +kernel
set_option maxRecDepth 20000 in
theorem ggX8_plan_X8_isHerd : GoodIn wsX8_plan wsX8_isHerd := goodIn_r _ [10, 11, 168, 169, 170, 171, 172, 173, 174, 175, 176, 177, 178, 179, 180, 181, 182, 183, 184, 185, 186] (by decide +kernel) (by decide +kernel)
set_option maxRecDepth 20000 in
theorem gX8_plan_X8_isHerd : GoodIn wsX8_plan (wsV RX8 157 RX8 yX8_isHerd wsX8_isHerd) := goodIn_app (goodIn_of _ (by decide +kernel)) ggX8_plan_X8_isHerd
set_option maxRecDepth 20000 in
theorem ggX8_plan_X8_refuse : GoodIn wsX8_plan wsX8_refuse := goodIn_r _ [15, 16, 168, 169, 170, 171, 172, 173, 174, 175, 176, 177, 178, 179, 180, 181, 182, 183, 184, 185, 186] (by decide +kernel) (by decide +kernel)
set_option maxRecDepth 20000 in
theorem gX8_plan_X8_refuse : GoodIn wsX8_plan (wsV RX8 100 RX8 yX8_refuse wsX8_refuse) := goodIn_app (goodIn_of _ (by decide +kernel)) ggX8_plan_X8_refuse
theorem dX8_plan_0 : decode cX8_plan 0 = .ok (.aload_n 0, 1) := by decide +kernel
theorem dX8_plan_1 : decode cX8_plan 1 = .ok (.iload_n 1, 1) := by decide +kernel
theorem dX8_plan_2 : decode cX8_plan 2 = .ok (.invokevirtual 157, 3) := by decide +kernel
theorem dX8_plan_5 : decode cX8_plan 5 = .ok (.ifCond .eq 21, 3) := by decide +kernel
theorem dX8_plan_26 : decode cX8_plan 26 = .ok (.aload_n 0, 1) := by decide +kernel
theorem dX8_plan_27 : decode cX8_plan 27 = .ok (.iconst (-1), 1) := by decide +kernel
theorem dX8_plan_28 : decode cX8_plan 28 = .ok (.invokevirtual 100, 3) := by decide +kernel
theorem dX8_plan_31 : decode cX8_plan 31 = .ok (.ireturn, 1) := by decide +kernel
set_option maxRecDepth 20000 in
theorem ggX8_planned_X6_pieceOfStep : GoodIn wsX8_planned wsX6_pieceOfStep := goodIn_r _ [6, 7, 8, 9, 29, 30, 31, 32, 33, 34, 35, 36, 37, 38] (by decide +kernel) (by decide +kernel)
set_option maxRecDepth 20000 in
theorem gX8_planned_X6_pieceOfStep : GoodIn wsX8_planned (wsV RX8 244 RX6 yX6_pieceOfStep wsX6_pieceOfStep) := goodIn_app (goodIn_of _ (by decide +kernel)) ggX8_planned_X6_pieceOfStep
theorem dX8_planned_0 : decode cX8_planned 0 = .ok (.aload_n 0, 1) := by decide +kernel
theorem dX8_planned_1 : decode cX8_planned 1 = .ok (.getfield 68, 3) := by decide +kernel
theorem dX8_planned_4 : decode cX8_planned 4 = .ok (.iload_n 1, 1) := by decide +kernel
theorem dX8_planned_5 : decode cX8_planned 5 = .ok (.iload_n 2, 1) := by decide +kernel
theorem dX8_planned_6 : decode cX8_planned 6 = .ok (.invokevirtual 244, 3) := by decide +kernel
theorem dX8_planned_9 : decode cX8_planned 9 = .ok (.ireturn, 1) := by decide +kernel
set_option maxRecDepth 20000 in
theorem ggX8_pieceOf_X8_isPiece : GoodIn wsX8_pieceOf wsX8_isPiece := goodIn_r _ [11, 12, 36, 37, 38, 39, 40, 41, 42, 43, 44, 45, 46, 47, 48, 49, 50, 51, 52, 53, 54] (by decide +kernel) (by decide +kernel)
set_option maxRecDepth 20000 in
theorem gX8_pieceOf_X8_isPiece : GoodIn wsX8_pieceOf (wsV RX8 127 RX8 yX8_isPiece wsX8_isPiece) := goodIn_app (goodIn_of _ (by decide +kernel)) ggX8_pieceOf_X8_isPiece
set_option maxRecDepth 20000 in
theorem ggX8_pieceOf_X8_refuse : GoodIn wsX8_pieceOf wsX8_refuse := goodIn_r _ [16, 17, 36, 37, 38, 39, 40, 41, 42, 43, 44, 45, 46, 47, 48, 49, 50, 51, 52, 53, 54] (by decide +kernel) (by decide +kernel)
set_option maxRecDepth 20000 in
theorem gX8_pieceOf_X8_refuse : GoodIn wsX8_pieceOf (wsV RX8 100 RX8 yX8_refuse wsX8_refuse) := goodIn_app (goodIn_of _ (by decide +kernel)) ggX8_pieceOf_X8_refuse
theorem dX8_pieceOf_0 : decode cX8_pieceOf 0 = .ok (.aload_n 0, 1) := by decide +kernel
theorem dX8_pieceOf_1 : decode cX8_pieceOf 1 = .ok (.iload_n 1, 1) := by decide +kernel
theorem dX8_pieceOf_2 : decode cX8_pieceOf 2 = .ok (.invokevirtual 127, 3) := by decide +kernel
theorem dX8_pieceOf_5 : decode cX8_pieceOf 5 = .ok (.ifCond .ne 9, 3) := by decide +kernel
theorem dX8_pieceOf_8 : decode cX8_pieceOf 8 = .ok (.aload_n 0, 1) := by decide +kernel
theorem dX8_pieceOf_9 : decode cX8_pieceOf 9 = .ok (.iconst (-1), 1) := by decide +kernel
theorem dX8_pieceOf_10 : decode cX8_pieceOf 10 = .ok (.invokevirtual 100, 3) := by decide +kernel
theorem dX8_pieceOf_13 : decode cX8_pieceOf 13 = .ok (.ireturn, 1) := by decide +kernel
set_option maxRecDepth 20000 in
theorem ggX8_rightOf_X8_isRight : GoodIn wsX8_rightOf wsX8_isRight := goodIn_r _ [13, 14, 44, 45, 46, 47, 48, 49, 50, 51, 52, 53, 54, 55, 56, 57, 58, 59, 60, 61, 62] (by decide +kernel) (by decide +kernel)
set_option maxRecDepth 20000 in
theorem gX8_rightOf_X8_isRight : GoodIn wsX8_rightOf (wsV RX8 253 RX8 yX8_isRight wsX8_isRight) := goodIn_app (goodIn_of _ (by decide +kernel)) ggX8_rightOf_X8_isRight
set_option maxRecDepth 20000 in
theorem ggX8_rightOf_X8_refuse : GoodIn wsX8_rightOf wsX8_refuse := goodIn_r _ [18, 19, 44, 45, 46, 47, 48, 49, 50, 51, 52, 53, 54, 55, 56, 57, 58, 59, 60, 61, 62] (by decide +kernel) (by decide +kernel)
set_option maxRecDepth 20000 in
theorem gX8_rightOf_X8_refuse : GoodIn wsX8_rightOf (wsV RX8 100 RX8 yX8_refuse wsX8_refuse) := goodIn_app (goodIn_of _ (by decide +kernel)) ggX8_rightOf_X8_refuse
theorem dX8_rightOf_0 : decode cX8_rightOf 0 = .ok (.aload_n 0, 1) := by decide +kernel
theorem dX8_rightOf_1 : decode cX8_rightOf 1 = .ok (.iload_n 1, 1) := by decide +kernel
theorem dX8_rightOf_2 : decode cX8_rightOf 2 = .ok (.invokevirtual 253, 3) := by decide +kernel
theorem dX8_rightOf_5 : decode cX8_rightOf 5 = .ok (.ifCond .ne 9, 3) := by decide +kernel
theorem dX8_rightOf_8 : decode cX8_rightOf 8 = .ok (.aload_n 0, 1) := by decide +kernel
theorem dX8_rightOf_9 : decode cX8_rightOf 9 = .ok (.iconst (-1), 1) := by decide +kernel
theorem dX8_rightOf_10 : decode cX8_rightOf 10 = .ok (.invokevirtual 100, 3) := by decide +kernel
theorem dX8_rightOf_13 : decode cX8_rightOf 13 = .ok (.ireturn, 1) := by decide +kernel
set_option maxRecDepth 20000 in
theorem ggX8_herdOf_X8_isHerd : GoodIn wsX8_herdOf wsX8_isHerd := goodIn_r _ [13, 14, 32, 33, 34, 35, 36, 37, 38, 39, 40, 41, 42, 43, 44, 45, 46, 47, 48, 49, 50] (by decide +kernel) (by decide +kernel)
set_option maxRecDepth 20000 in
theorem gX8_herdOf_X8_isHerd : GoodIn wsX8_herdOf (wsV RX8 157 RX8 yX8_isHerd wsX8_isHerd) := goodIn_app (goodIn_of _ (by decide +kernel)) ggX8_herdOf_X8_isHerd
set_option maxRecDepth 20000 in
theorem ggX8_herdOf_X8_refuse : GoodIn wsX8_herdOf wsX8_refuse := goodIn_r _ [18, 19, 32, 33, 34, 35, 36, 37, 38, 39, 40, 41, 42, 43, 44, 45, 46, 47, 48, 49, 50] (by decide +kernel) (by decide +kernel)
set_option maxRecDepth 20000 in
theorem gX8_herdOf_X8_refuse : GoodIn wsX8_herdOf (wsV RX8 100 RX8 yX8_refuse wsX8_refuse) := goodIn_app (goodIn_of _ (by decide +kernel)) ggX8_herdOf_X8_refuse
theorem dX8_herdOf_0 : decode cX8_herdOf 0 = .ok (.aload_n 0, 1) := by decide +kernel
theorem dX8_herdOf_1 : decode cX8_herdOf 1 = .ok (.iload_n 1, 1) := by decide +kernel
theorem dX8_herdOf_2 : decode cX8_herdOf 2 = .ok (.invokevirtual 157, 3) := by decide +kernel
theorem dX8_herdOf_5 : decode cX8_herdOf 5 = .ok (.ifCond .ne 9, 3) := by decide +kernel
theorem dX8_herdOf_8 : decode cX8_herdOf 8 = .ok (.aload_n 0, 1) := by decide +kernel
theorem dX8_herdOf_9 : decode cX8_herdOf 9 = .ok (.iconst (-1), 1) := by decide +kernel
theorem dX8_herdOf_10 : decode cX8_herdOf 10 = .ok (.invokevirtual 100, 3) := by decide +kernel
theorem dX8_herdOf_13 : decode cX8_herdOf 13 = .ok (.ireturn, 1) := by decide +kernel
set_option maxRecDepth 20000 in
theorem ggX8_ownerOf_X8_isOwner : GoodIn wsX8_ownerOf wsX8_isOwner := goodIn_r _ [9, 10, 90, 91, 92, 93, 94, 95, 96, 97, 98, 99, 100, 101, 102, 103, 104, 105, 106, 107, 108] (by decide +kernel) (by decide +kernel)
set_option maxRecDepth 20000 in
theorem gX8_ownerOf_X8_isOwner : GoodIn wsX8_ownerOf (wsV RX8 108 RX8 yX8_isOwner wsX8_isOwner) := goodIn_app (goodIn_of _ (by decide +kernel)) ggX8_ownerOf_X8_isOwner
set_option maxRecDepth 20000 in
theorem ggX8_ownerOf_X8_refuse : GoodIn wsX8_ownerOf wsX8_refuse := goodIn_r _ [14, 15, 90, 91, 92, 93, 94, 95, 96, 97, 98, 99, 100, 101, 102, 103, 104, 105, 106, 107, 108] (by decide +kernel) (by decide +kernel)
set_option maxRecDepth 20000 in
theorem gX8_ownerOf_X8_refuse : GoodIn wsX8_ownerOf (wsV RX8 100 RX8 yX8_refuse wsX8_refuse) := goodIn_app (goodIn_of _ (by decide +kernel)) ggX8_ownerOf_X8_refuse
set_option maxRecDepth 20000 in
theorem ggX8_ownerOf_X8_coverOf : GoodIn wsX8_ownerOf wsX8_coverOf := goodIn_r _ [19, 20, 21, 22, 23, 24, 25, 26, 27, 28, 29, 30, 31, 32, 33, 34, 35, 36, 37, 38, 39, 40, 41, 42, 43, 44, 45, 46, 47, 48, 49, 50, 51, 8, 52, 53, 54, 55, 56, 57, 58, 59, 60, 61, 62, 63, 64, 65, 66, 67, 68, 69, 70, 71, 72, 73, 74, 75, 76, 77, 78, 79, 80, 81, 90, 91, 92, 93, 94, 95, 96, 97, 98, 99, 100, 101, 102, 103, 104, 105, 106, 107, 108, 111, 112, 113, 114, 115, 116, 117, 118, 119, 120, 121, 122, 123, 124, 125, 126, 127, 128, 129, 130, 131, 132] (by decide +kernel) (by decide +kernel)
set_option maxRecDepth 20000 in
theorem gX8_ownerOf_X8_coverOf : GoodIn wsX8_ownerOf (wsV RX8 284 RX8 yX8_coverOf wsX8_coverOf) := goodIn_app (goodIn_of _ (by decide +kernel)) ggX8_ownerOf_X8_coverOf
set_option maxRecDepth 20000 in
theorem ggX8_ownerOf_X1_partsOut : GoodIn wsX8_ownerOf wsX1_partsOut := goodIn_r _ [85, 31, 32, 119, 120, 121, 122, 123] (by decide +kernel) (by decide +kernel)
set_option maxRecDepth 20000 in
theorem gX8_ownerOf_X1_partsOut : GoodIn wsX8_ownerOf (wsV RX8 288 RX1 yX1_partsOut wsX1_partsOut) := goodIn_app (goodIn_of _ (by decide +kernel)) ggX8_ownerOf_X1_partsOut
set_option maxRecDepth 20000 in
theorem ggX8_ownerOf_X1_partsHeld : GoodIn wsX8_ownerOf wsX1_partsHeld := goodIn_r _ [89, 34, 35, 33, 119, 120, 121, 122, 123] (by decide +kernel) (by decide +kernel)
set_option maxRecDepth 20000 in
theorem gX8_ownerOf_X1_partsHeld : GoodIn wsX8_ownerOf (wsV RX8 291 RX1 yX1_partsHeld wsX1_partsHeld) := goodIn_app (goodIn_of _ (by decide +kernel)) ggX8_ownerOf_X1_partsHeld
theorem dX8_ownerOf_0 : decode cX8_ownerOf 0 = .ok (.iload_n 1, 1) := by decide +kernel
theorem dX8_ownerOf_1 : decode cX8_ownerOf 1 = .ok (.iconst (-1), 1) := by decide +kernel
theorem dX8_ownerOf_2 : decode cX8_ownerOf 2 = .ok (.if_icmp .ne 7, 3) := by decide +kernel
theorem dX8_ownerOf_5 : decode cX8_ownerOf 5 = .ok (.iconst 1, 1) := by decide +kernel
theorem dX8_ownerOf_6 : decode cX8_ownerOf 6 = .ok (.goto 4, 3) := by decide +kernel
theorem dX8_ownerOf_9 : decode cX8_ownerOf 9 = .ok (.iconst 0, 1) := by decide +kernel
theorem dX8_ownerOf_10 : decode cX8_ownerOf 10 = .ok (.istore_n 3, 1) := by decide +kernel
theorem dX8_ownerOf_11 : decode cX8_ownerOf 11 = .ok (.iload_n 3, 1) := by decide +kernel
theorem dX8_ownerOf_12 : decode cX8_ownerOf 12 = .ok (.ifCond .ne 17, 3) := by decide +kernel
theorem dX8_ownerOf_15 : decode cX8_ownerOf 15 = .ok (.aload_n 0, 1) := by decide +kernel
theorem dX8_ownerOf_16 : decode cX8_ownerOf 16 = .ok (.iload_n 1, 1) := by decide +kernel
theorem dX8_ownerOf_17 : decode cX8_ownerOf 17 = .ok (.invokevirtual 108, 3) := by decide +kernel
theorem dX8_ownerOf_20 : decode cX8_ownerOf 20 = .ok (.ifCond .ne 9, 3) := by decide +kernel
theorem dX8_ownerOf_23 : decode cX8_ownerOf 23 = .ok (.aload_n 0, 1) := by decide +kernel
theorem dX8_ownerOf_24 : decode cX8_ownerOf 24 = .ok (.iconst (-1), 1) := by decide +kernel
theorem dX8_ownerOf_25 : decode cX8_ownerOf 25 = .ok (.invokevirtual 100, 3) := by decide +kernel
theorem dX8_ownerOf_28 : decode cX8_ownerOf 28 = .ok (.ireturn, 1) := by decide +kernel
theorem dX8_ownerOf_29 : decode cX8_ownerOf 29 = .ok (.iload_n 3, 1) := by decide +kernel
theorem dX8_ownerOf_30 : decode cX8_ownerOf 30 = .ok (.ifCond .eq 10, 3) := by decide +kernel
theorem dX8_ownerOf_33 : decode cX8_ownerOf 33 = .ok (.aload_n 0, 1) := by decide +kernel
theorem dX8_ownerOf_34 : decode cX8_ownerOf 34 = .ok (.getfield 24, 3) := by decide +kernel
theorem dX8_ownerOf_37 : decode cX8_ownerOf 37 = .ok (.goto 9, 3) := by decide +kernel
theorem dX8_ownerOf_46 : decode cX8_ownerOf 46 = .ok (.astore 4, 2) := by decide +kernel
theorem dX8_ownerOf_48 : decode cX8_ownerOf 48 = .ok (.iload_n 2, 1) := by decide +kernel
theorem dX8_ownerOf_49 : decode cX8_ownerOf 49 = .ok (.tableswitch 61 0 3 #[31, 37, 43, 52], 31) := by decide +kernel
theorem dX8_ownerOf_80 : decode cX8_ownerOf 80 = .ok (.aload 4, 2) := by decide +kernel
theorem dX8_ownerOf_82 : decode cX8_ownerOf 82 = .ok (.getfield 228, 3) := by decide +kernel
theorem dX8_ownerOf_85 : decode cX8_ownerOf 85 = .ok (.ireturn, 1) := by decide +kernel
theorem dX8_ownerOf_86 : decode cX8_ownerOf 86 = .ok (.aload 4, 2) := by decide +kernel
theorem dX8_ownerOf_88 : decode cX8_ownerOf 88 = .ok (.getfield 281, 3) := by decide +kernel
theorem dX8_ownerOf_91 : decode cX8_ownerOf 91 = .ok (.ireturn, 1) := by decide +kernel
theorem dX8_ownerOf_92 : decode cX8_ownerOf 92 = .ok (.aload_n 0, 1) := by decide +kernel
theorem dX8_ownerOf_93 : decode cX8_ownerOf 93 = .ok (.iload_n 1, 1) := by decide +kernel
theorem dX8_ownerOf_94 : decode cX8_ownerOf 94 = .ok (.invokevirtual 284, 3) := by decide +kernel
theorem dX8_ownerOf_97 : decode cX8_ownerOf 97 = .ok (.invokevirtual 288, 3) := by decide +kernel
theorem dX8_ownerOf_100 : decode cX8_ownerOf 100 = .ok (.ireturn, 1) := by decide +kernel
theorem dX8_ownerOf_101 : decode cX8_ownerOf 101 = .ok (.aload_n 0, 1) := by decide +kernel
theorem dX8_ownerOf_102 : decode cX8_ownerOf 102 = .ok (.iload_n 1, 1) := by decide +kernel
theorem dX8_ownerOf_103 : decode cX8_ownerOf 103 = .ok (.invokevirtual 284, 3) := by decide +kernel
theorem dX8_ownerOf_106 : decode cX8_ownerOf 106 = .ok (.invokevirtual 291, 3) := by decide +kernel
theorem dX8_ownerOf_109 : decode cX8_ownerOf 109 = .ok (.ireturn, 1) := by decide +kernel
theorem dX8_ownerOf_110 : decode cX8_ownerOf 110 = .ok (.aload_n 0, 1) := by decide +kernel
theorem dX8_ownerOf_111 : decode cX8_ownerOf 111 = .ok (.bipush (-2), 2) := by decide +kernel
theorem dX8_ownerOf_113 : decode cX8_ownerOf 113 = .ok (.invokevirtual 100, 3) := by decide +kernel
theorem dX8_ownerOf_116 : decode cX8_ownerOf 116 = .ok (.ireturn, 1) := by decide +kernel
set_option maxRecDepth 20000 in
theorem ggX8_count_X8_rightsInForce : GoodIn wsX8_count wsX8_rightsInForce := goodIn_r _ [11, 12, 13, 1, 14, 15, 16, 17, 18, 19, 20, 21, 45, 46, 47, 48, 49, 50, 51, 52, 53, 54, 55, 56, 57, 58, 59, 60, 61, 62, 63, 64, 65, 66, 67, 68, 69, 70, 71, 72] (by decide +kernel) (by decide +kernel)
set_option maxRecDepth 20000 in
theorem gX8_count_X8_rightsInForce : GoodIn wsX8_count (wsV RX8 294 RX8 yX8_rightsInForce wsX8_rightsInForce) := goodIn_app (goodIn_of _ (by decide +kernel)) ggX8_count_X8_rightsInForce
set_option maxRecDepth 20000 in
theorem ggX8_count_X8_herdsNotLost : GoodIn wsX8_count wsX8_herdsNotLost := goodIn_r _ [25, 26, 27, 28, 45, 46, 47, 48, 49, 50, 51, 52, 53, 54, 55, 56, 57, 58, 59, 60, 61, 62, 63, 73, 74, 75, 76, 77, 78, 79, 80] (by decide +kernel) (by decide +kernel)
set_option maxRecDepth 20000 in
theorem gX8_count_X8_herdsNotLost : GoodIn wsX8_count (wsV RX8 297 RX8 yX8_herdsNotLost wsX8_herdsNotLost) := goodIn_app (goodIn_of _ (by decide +kernel)) ggX8_count_X8_herdsNotLost
set_option maxRecDepth 20000 in
theorem ggX8_count_X8_allGrass : GoodIn wsX8_count wsX8_allGrass := goodIn_r _ [32, 2, 33, 34, 45, 46, 47, 48, 49, 50, 51, 52, 53, 54, 55, 56, 57, 58, 59, 60, 61, 62, 63, 81, 82, 83, 84, 85, 86] (by decide +kernel) (by decide +kernel)
set_option maxRecDepth 20000 in
theorem gX8_count_X8_allGrass : GoodIn wsX8_count (wsV RX8 300 RX8 yX8_allGrass wsX8_allGrass) := goodIn_app (goodIn_of _ (by decide +kernel)) ggX8_count_X8_allGrass
set_option maxRecDepth 20000 in
theorem ggX8_count_X8_allHunger : GoodIn wsX8_count wsX8_allHunger := goodIn_r _ [38, 26, 27, 39, 45, 46, 47, 48, 49, 50, 51, 52, 53, 54, 55, 56, 57, 58, 59, 60, 61, 62, 63, 73, 74, 75, 76, 77, 78, 79, 80] (by decide +kernel) (by decide +kernel)
set_option maxRecDepth 20000 in
theorem gX8_count_X8_allHunger : GoodIn wsX8_count (wsV RX8 303 RX8 yX8_allHunger wsX8_allHunger) := goodIn_app (goodIn_of _ (by decide +kernel)) ggX8_count_X8_allHunger
set_option maxRecDepth 20000 in
theorem ggX8_count_X8_allEaten : GoodIn wsX8_count wsX8_allEaten := goodIn_r _ [43, 2, 33, 44, 45, 46, 47, 48, 49, 50, 51, 52, 53, 54, 55, 56, 57, 58, 59, 60, 61, 62, 63, 81, 82, 83, 84, 85, 86] (by decide +kernel) (by decide +kernel)
set_option maxRecDepth 20000 in
theorem gX8_count_X8_allEaten : GoodIn wsX8_count (wsV RX8 306 RX8 yX8_allEaten wsX8_allEaten) := goodIn_app (goodIn_of _ (by decide +kernel)) ggX8_count_X8_allEaten
theorem dX8_count_0 : decode cX8_count 0 = .ok (.iload_n 1, 1) := by decide +kernel
theorem dX8_count_1 : decode cX8_count 1 = .ok (.tableswitch 105 0 9 #[55, 60, 65, 70, 75, 80, 85, 90, 95, 100], 55) := by decide +kernel
theorem dX8_count_56 : decode cX8_count 56 = .ok (.aload_n 0, 1) := by decide +kernel
theorem dX8_count_57 : decode cX8_count 57 = .ok (.getfield 91, 3) := by decide +kernel
theorem dX8_count_60 : decode cX8_count 60 = .ok (.ireturn, 1) := by decide +kernel
theorem dX8_count_61 : decode cX8_count 61 = .ok (.aload_n 0, 1) := by decide +kernel
theorem dX8_count_62 : decode cX8_count 62 = .ok (.getfield 75, 3) := by decide +kernel
theorem dX8_count_65 : decode cX8_count 65 = .ok (.ireturn, 1) := by decide +kernel
theorem dX8_count_66 : decode cX8_count 66 = .ok (.aload_n 0, 1) := by decide +kernel
theorem dX8_count_67 : decode cX8_count 67 = .ok (.getfield 79, 3) := by decide +kernel
theorem dX8_count_70 : decode cX8_count 70 = .ok (.ireturn, 1) := by decide +kernel
theorem dX8_count_71 : decode cX8_count 71 = .ok (.aload_n 0, 1) := by decide +kernel
theorem dX8_count_72 : decode cX8_count 72 = .ok (.getfield 82, 3) := by decide +kernel
theorem dX8_count_75 : decode cX8_count 75 = .ok (.ireturn, 1) := by decide +kernel
theorem dX8_count_76 : decode cX8_count 76 = .ok (.aload_n 0, 1) := by decide +kernel
theorem dX8_count_77 : decode cX8_count 77 = .ok (.invokevirtual 294, 3) := by decide +kernel
theorem dX8_count_80 : decode cX8_count 80 = .ok (.ireturn, 1) := by decide +kernel
theorem dX8_count_81 : decode cX8_count 81 = .ok (.aload_n 0, 1) := by decide +kernel
theorem dX8_count_82 : decode cX8_count 82 = .ok (.invokevirtual 297, 3) := by decide +kernel
theorem dX8_count_85 : decode cX8_count 85 = .ok (.ireturn, 1) := by decide +kernel
theorem dX8_count_86 : decode cX8_count 86 = .ok (.aload_n 0, 1) := by decide +kernel
theorem dX8_count_87 : decode cX8_count 87 = .ok (.invokevirtual 300, 3) := by decide +kernel
theorem dX8_count_90 : decode cX8_count 90 = .ok (.ireturn, 1) := by decide +kernel
theorem dX8_count_91 : decode cX8_count 91 = .ok (.aload_n 0, 1) := by decide +kernel
theorem dX8_count_92 : decode cX8_count 92 = .ok (.invokevirtual 303, 3) := by decide +kernel
theorem dX8_count_95 : decode cX8_count 95 = .ok (.ireturn, 1) := by decide +kernel
theorem dX8_count_96 : decode cX8_count 96 = .ok (.aload_n 0, 1) := by decide +kernel
theorem dX8_count_97 : decode cX8_count 97 = .ok (.invokevirtual 306, 3) := by decide +kernel
theorem dX8_count_100 : decode cX8_count 100 = .ok (.ireturn, 1) := by decide +kernel
theorem dX8_count_101 : decode cX8_count 101 = .ok (.aload_n 0, 1) := by decide +kernel
theorem dX8_count_102 : decode cX8_count 102 = .ok (.getfield 97, 3) := by decide +kernel
theorem dX8_count_105 : decode cX8_count 105 = .ok (.ireturn, 1) := by decide +kernel
theorem dX8_count_106 : decode cX8_count 106 = .ok (.iload_n 1, 1) := by decide +kernel
theorem dX8_count_107 : decode cX8_count 107 = .ok (.bipush 11, 2) := by decide +kernel
theorem dX8_count_109 : decode cX8_count 109 = .ok (.if_icmp .lt 21, 3) := by decide +kernel
theorem dX8_count_112 : decode cX8_count 112 = .ok (.iload_n 1, 1) := by decide +kernel
theorem dX8_count_113 : decode cX8_count 113 = .ok (.bipush 16, 2) := by decide +kernel
theorem dX8_count_115 : decode cX8_count 115 = .ok (.if_icmp .gt 15, 3) := by decide +kernel
theorem dX8_count_118 : decode cX8_count 118 = .ok (.aload_n 0, 1) := by decide +kernel
theorem dX8_count_119 : decode cX8_count 119 = .ok (.getfield 72, 3) := by decide +kernel
theorem dX8_count_122 : decode cX8_count 122 = .ok (.iload_n 1, 1) := by decide +kernel
theorem dX8_count_123 : decode cX8_count 123 = .ok (.bipush 10, 2) := by decide +kernel
theorem dX8_count_125 : decode cX8_count 125 = .ok (.isub, 1) := by decide +kernel
theorem dX8_count_126 : decode cX8_count 126 = .ok (.iaload, 1) := by decide +kernel
theorem dX8_count_127 : decode cX8_count 127 = .ok (.goto 5, 3) := by decide +kernel
theorem dX8_count_130 : decode cX8_count 130 = .ok (.bipush (-9), 2) := by decide +kernel
theorem dX8_count_132 : decode cX8_count 132 = .ok (.ireturn, 1) := by decide +kernel
theorem dX8_refuse_0 : decode cX8_refuse 0 = .ok (.iload_n 1, 1) := by decide +kernel
theorem dX8_refuse_1 : decode cX8_refuse 1 = .ok (.ifCond .ge 20, 3) := by decide +kernel
theorem dX8_refuse_4 : decode cX8_refuse 4 = .ok (.iload_n 1, 1) := by decide +kernel
theorem dX8_refuse_5 : decode cX8_refuse 5 = .ok (.bipush (-6), 2) := by decide +kernel
theorem dX8_refuse_7 : decode cX8_refuse 7 = .ok (.if_icmp .lt 14, 3) := by decide +kernel
theorem dX8_refuse_10 : decode cX8_refuse 10 = .ok (.aload_n 0, 1) := by decide +kernel
theorem dX8_refuse_11 : decode cX8_refuse 11 = .ok (.getfield 72, 3) := by decide +kernel
theorem dX8_refuse_14 : decode cX8_refuse 14 = .ok (.iload_n 1, 1) := by decide +kernel
theorem dX8_refuse_15 : decode cX8_refuse 15 = .ok (.ineg, 1) := by decide +kernel
theorem dX8_refuse_16 : decode cX8_refuse 16 = .ok (.dup2, 1) := by decide +kernel
theorem dX8_refuse_17 : decode cX8_refuse 17 = .ok (.iaload, 1) := by decide +kernel
theorem dX8_refuse_18 : decode cX8_refuse 18 = .ok (.iconst 1, 1) := by decide +kernel
theorem dX8_refuse_19 : decode cX8_refuse 19 = .ok (.iadd, 1) := by decide +kernel
theorem dX8_refuse_20 : decode cX8_refuse 20 = .ok (.iastore, 1) := by decide +kernel
theorem dX8_refuse_21 : decode cX8_refuse 21 = .ok (.iload_n 1, 1) := by decide +kernel
theorem dX8_refuse_22 : decode cX8_refuse 22 = .ok (.ireturn, 1) := by decide +kernel
theorem dX8_isPiece_0 : decode cX8_isPiece 0 = .ok (.iload_n 1, 1) := by decide +kernel
theorem dX8_isPiece_1 : decode cX8_isPiece 1 = .ok (.ifCond .lt 15, 3) := by decide +kernel
theorem dX8_isPiece_4 : decode cX8_isPiece 4 = .ok (.iload_n 1, 1) := by decide +kernel
theorem dX8_isPiece_5 : decode cX8_isPiece 5 = .ok (.aload_n 0, 1) := by decide +kernel
theorem dX8_isPiece_6 : decode cX8_isPiece 6 = .ok (.getfield 75, 3) := by decide +kernel
theorem dX8_isPiece_9 : decode cX8_isPiece 9 = .ok (.if_icmp .ge 7, 3) := by decide +kernel
theorem dX8_isPiece_16 : decode cX8_isPiece 16 = .ok (.iconst 0, 1) := by decide +kernel
theorem dX8_isPiece_17 : decode cX8_isPiece 17 = .ok (.ireturn, 1) := by decide +kernel
theorem dX8_isOwner_0 : decode cX8_isOwner 0 = .ok (.iload_n 1, 1) := by decide +kernel
theorem dX8_isOwner_1 : decode cX8_isOwner 1 = .ok (.ifCond .lt 15, 3) := by decide +kernel
theorem dX8_isOwner_4 : decode cX8_isOwner 4 = .ok (.iload_n 1, 1) := by decide +kernel
theorem dX8_isOwner_5 : decode cX8_isOwner 5 = .ok (.aload_n 0, 1) := by decide +kernel
theorem dX8_isOwner_6 : decode cX8_isOwner 6 = .ok (.getfield 79, 3) := by decide +kernel
theorem dX8_isOwner_9 : decode cX8_isOwner 9 = .ok (.if_icmp .ge 7, 3) := by decide +kernel
theorem dX8_isOwner_16 : decode cX8_isOwner 16 = .ok (.iconst 0, 1) := by decide +kernel
theorem dX8_isOwner_17 : decode cX8_isOwner 17 = .ok (.ireturn, 1) := by decide +kernel
theorem dX8_isHouse_0 : decode cX8_isHouse 0 = .ok (.iload_n 1, 1) := by decide +kernel
theorem dX8_isHouse_1 : decode cX8_isHouse 1 = .ok (.ifCond .lt 15, 3) := by decide +kernel
theorem dX8_isHouse_4 : decode cX8_isHouse 4 = .ok (.iload_n 1, 1) := by decide +kernel
theorem dX8_isHouse_5 : decode cX8_isHouse 5 = .ok (.aload_n 0, 1) := by decide +kernel
theorem dX8_isHouse_6 : decode cX8_isHouse 6 = .ok (.getfield 82, 3) := by decide +kernel
theorem dX8_isHouse_9 : decode cX8_isHouse 9 = .ok (.if_icmp .ge 7, 3) := by decide +kernel
theorem dX8_isHouse_16 : decode cX8_isHouse 16 = .ok (.iconst 0, 1) := by decide +kernel
theorem dX8_isHouse_17 : decode cX8_isHouse 17 = .ok (.ireturn, 1) := by decide +kernel
theorem dX8_isRight_0 : decode cX8_isRight 0 = .ok (.iload_n 1, 1) := by decide +kernel
theorem dX8_isRight_1 : decode cX8_isRight 1 = .ok (.ifCond .lt 15, 3) := by decide +kernel
theorem dX8_isRight_4 : decode cX8_isRight 4 = .ok (.iload_n 1, 1) := by decide +kernel
theorem dX8_isRight_5 : decode cX8_isRight 5 = .ok (.aload_n 0, 1) := by decide +kernel
theorem dX8_isRight_6 : decode cX8_isRight 6 = .ok (.getfield 85, 3) := by decide +kernel
theorem dX8_isRight_9 : decode cX8_isRight 9 = .ok (.if_icmp .ge 7, 3) := by decide +kernel
theorem dX8_isRight_16 : decode cX8_isRight 16 = .ok (.iconst 0, 1) := by decide +kernel
theorem dX8_isRight_17 : decode cX8_isRight 17 = .ok (.ireturn, 1) := by decide +kernel
theorem dX8_isHerd_0 : decode cX8_isHerd 0 = .ok (.iload_n 1, 1) := by decide +kernel
theorem dX8_isHerd_1 : decode cX8_isHerd 1 = .ok (.ifCond .lt 15, 3) := by decide +kernel
theorem dX8_isHerd_4 : decode cX8_isHerd 4 = .ok (.iload_n 1, 1) := by decide +kernel
theorem dX8_isHerd_5 : decode cX8_isHerd 5 = .ok (.aload_n 0, 1) := by decide +kernel
theorem dX8_isHerd_6 : decode cX8_isHerd 6 = .ok (.getfield 88, 3) := by decide +kernel
theorem dX8_isHerd_9 : decode cX8_isHerd 9 = .ok (.if_icmp .ge 7, 3) := by decide +kernel
theorem dX8_isHerd_16 : decode cX8_isHerd 16 = .ok (.iconst 0, 1) := by decide +kernel
theorem dX8_isHerd_17 : decode cX8_isHerd 17 = .ok (.ireturn, 1) := by decide +kernel
set_option maxRecDepth 20000 in
theorem ggX8_canPass_X8_isRight : GoodIn wsX8_canPass wsX8_isRight := goodIn_r _ [6, 7, 25, 26, 27, 28, 29, 30, 31, 32, 33, 34, 35, 36, 37, 38, 39, 40, 41, 42, 43] (by decide +kernel) (by decide +kernel)
set_option maxRecDepth 20000 in
theorem gX8_canPass_X8_isRight : GoodIn wsX8_canPass (wsV RX8 253 RX8 yX8_isRight wsX8_isRight) := goodIn_app (goodIn_of _ (by decide +kernel)) ggX8_canPass_X8_isRight
theorem dX8_canPass_0 : decode cX8_canPass 0 = .ok (.aload_n 0, 1) := by decide +kernel
theorem dX8_canPass_1 : decode cX8_canPass 1 = .ok (.iload_n 1, 1) := by decide +kernel
theorem dX8_canPass_2 : decode cX8_canPass 2 = .ok (.invokevirtual 253, 3) := by decide +kernel
theorem dX8_canPass_5 : decode cX8_canPass 5 = .ok (.ifCond .eq 29, 3) := by decide +kernel
theorem dX8_canPass_34 : decode cX8_canPass 34 = .ok (.iconst 0, 1) := by decide +kernel
theorem dX8_canPass_35 : decode cX8_canPass 35 = .ok (.ireturn, 1) := by decide +kernel
set_option maxRecDepth 20000 in
theorem ggX8_coverOf_X1_clear : GoodIn wsX8_coverOf wsX1_clear := goodIn_r _ [11, 12, 13, 14, 15, 16, 91, 92, 93, 94, 95] (by decide +kernel) (by decide +kernel)
set_option maxRecDepth 20000 in
theorem gX8_coverOf_X1_clear : GoodIn wsX8_coverOf (wsV RX8 311 RX1 yX1_clear wsX1_clear) := goodIn_app (goodIn_of _ (by decide +kernel)) ggX8_coverOf_X1_clear
theorem dX8_coverOf_0 : decode cX8_coverOf 0 = .ok (.aload_n 0, 1) := by decide +kernel
theorem dX8_coverOf_1 : decode cX8_coverOf 1 = .ok (.getfield 54, 3) := by decide +kernel
theorem dX8_coverOf_4 : decode cX8_coverOf 4 = .ok (.invokevirtual 311, 3) := by decide +kernel
theorem dX8_coverOf_7 : decode cX8_coverOf 7 = .ok (.iconst 0, 1) := by decide +kernel
theorem dX8_coverOf_8 : decode cX8_coverOf 8 = .ok (.istore_n 2, 1) := by decide +kernel
theorem dX8_coverOf_9 : decode cX8_coverOf 9 = .ok (.iload_n 2, 1) := by decide +kernel
theorem dX8_coverOf_10 : decode cX8_coverOf 10 = .ok (.aload_n 0, 1) := by decide +kernel
theorem dX8_coverOf_11 : decode cX8_coverOf 11 = .ok (.getfield 88, 3) := by decide +kernel
theorem dX8_coverOf_14 : decode cX8_coverOf 14 = .ok (.if_icmp .ge 35, 3) := by decide +kernel
theorem dX8_coverOf_49 : decode cX8_coverOf 49 = .ok (.iconst 0, 1) := by decide +kernel
theorem dX8_coverOf_50 : decode cX8_coverOf 50 = .ok (.istore_n 2, 1) := by decide +kernel
theorem dX8_coverOf_51 : decode cX8_coverOf 51 = .ok (.iload_n 2, 1) := by decide +kernel
theorem dX8_coverOf_52 : decode cX8_coverOf 52 = .ok (.aload_n 0, 1) := by decide +kernel
theorem dX8_coverOf_53 : decode cX8_coverOf 53 = .ok (.getfield 85, 3) := by decide +kernel
theorem dX8_coverOf_56 : decode cX8_coverOf 56 = .ok (.if_icmp .ge 41, 3) := by decide +kernel
theorem dX8_coverOf_97 : decode cX8_coverOf 97 = .ok (.aload_n 0, 1) := by decide +kernel
theorem dX8_coverOf_98 : decode cX8_coverOf 98 = .ok (.getfield 54, 3) := by decide +kernel
theorem dX8_coverOf_101 : decode cX8_coverOf 101 = .ok (.areturn, 1) := by decide +kernel
theorem dX8_rightsInForce_0 : decode cX8_rightsInForce 0 = .ok (.iconst 0, 1) := by decide +kernel
theorem dX8_rightsInForce_1 : decode cX8_rightsInForce 1 = .ok (.istore_n 1, 1) := by decide +kernel
theorem dX8_rightsInForce_2 : decode cX8_rightsInForce 2 = .ok (.iconst 0, 1) := by decide +kernel
theorem dX8_rightsInForce_3 : decode cX8_rightsInForce 3 = .ok (.istore_n 2, 1) := by decide +kernel
theorem dX8_rightsInForce_4 : decode cX8_rightsInForce 4 = .ok (.iload_n 2, 1) := by decide +kernel
theorem dX8_rightsInForce_5 : decode cX8_rightsInForce 5 = .ok (.aload_n 0, 1) := by decide +kernel
theorem dX8_rightsInForce_6 : decode cX8_rightsInForce 6 = .ok (.getfield 85, 3) := by decide +kernel
theorem dX8_rightsInForce_9 : decode cX8_rightsInForce 9 = .ok (.if_icmp .ge 28, 3) := by decide +kernel
theorem dX8_rightsInForce_37 : decode cX8_rightsInForce 37 = .ok (.iload_n 1, 1) := by decide +kernel
theorem dX8_rightsInForce_38 : decode cX8_rightsInForce 38 = .ok (.ireturn, 1) := by decide +kernel
theorem dX8_herdsNotLost_0 : decode cX8_herdsNotLost 0 = .ok (.iconst 0, 1) := by decide +kernel
theorem dX8_herdsNotLost_1 : decode cX8_herdsNotLost 1 = .ok (.istore_n 1, 1) := by decide +kernel
theorem dX8_herdsNotLost_2 : decode cX8_herdsNotLost 2 = .ok (.iconst 0, 1) := by decide +kernel
theorem dX8_herdsNotLost_3 : decode cX8_herdsNotLost 3 = .ok (.istore_n 2, 1) := by decide +kernel
theorem dX8_herdsNotLost_4 : decode cX8_herdsNotLost 4 = .ok (.iload_n 2, 1) := by decide +kernel
theorem dX8_herdsNotLost_5 : decode cX8_herdsNotLost 5 = .ok (.aload_n 0, 1) := by decide +kernel
theorem dX8_herdsNotLost_6 : decode cX8_herdsNotLost 6 = .ok (.getfield 88, 3) := by decide +kernel
theorem dX8_herdsNotLost_9 : decode cX8_herdsNotLost 9 = .ok (.if_icmp .ge 25, 3) := by decide +kernel
theorem dX8_herdsNotLost_34 : decode cX8_herdsNotLost 34 = .ok (.iload_n 1, 1) := by decide +kernel
theorem dX8_herdsNotLost_35 : decode cX8_herdsNotLost 35 = .ok (.ireturn, 1) := by decide +kernel
theorem dX8_allGrass_0 : decode cX8_allGrass 0 = .ok (.iconst 0, 1) := by decide +kernel
theorem dX8_allGrass_1 : decode cX8_allGrass 1 = .ok (.istore_n 1, 1) := by decide +kernel
theorem dX8_allGrass_2 : decode cX8_allGrass 2 = .ok (.iconst 0, 1) := by decide +kernel
theorem dX8_allGrass_3 : decode cX8_allGrass 3 = .ok (.istore_n 2, 1) := by decide +kernel
theorem dX8_allGrass_4 : decode cX8_allGrass 4 = .ok (.iload_n 2, 1) := by decide +kernel
theorem dX8_allGrass_5 : decode cX8_allGrass 5 = .ok (.aload_n 0, 1) := by decide +kernel
theorem dX8_allGrass_6 : decode cX8_allGrass 6 = .ok (.getfield 75, 3) := by decide +kernel
theorem dX8_allGrass_9 : decode cX8_allGrass 9 = .ok (.if_icmp .ge 21, 3) := by decide +kernel
theorem dX8_allGrass_30 : decode cX8_allGrass 30 = .ok (.iload_n 1, 1) := by decide +kernel
theorem dX8_allGrass_31 : decode cX8_allGrass 31 = .ok (.ireturn, 1) := by decide +kernel
theorem dX8_allHunger_0 : decode cX8_allHunger 0 = .ok (.iconst 0, 1) := by decide +kernel
theorem dX8_allHunger_1 : decode cX8_allHunger 1 = .ok (.istore_n 1, 1) := by decide +kernel
theorem dX8_allHunger_2 : decode cX8_allHunger 2 = .ok (.iconst 0, 1) := by decide +kernel
theorem dX8_allHunger_3 : decode cX8_allHunger 3 = .ok (.istore_n 2, 1) := by decide +kernel
theorem dX8_allHunger_4 : decode cX8_allHunger 4 = .ok (.iload_n 2, 1) := by decide +kernel
theorem dX8_allHunger_5 : decode cX8_allHunger 5 = .ok (.aload_n 0, 1) := by decide +kernel
theorem dX8_allHunger_6 : decode cX8_allHunger 6 = .ok (.getfield 88, 3) := by decide +kernel
theorem dX8_allHunger_9 : decode cX8_allHunger 9 = .ok (.if_icmp .ge 21, 3) := by decide +kernel
theorem dX8_allHunger_30 : decode cX8_allHunger 30 = .ok (.iload_n 1, 1) := by decide +kernel
theorem dX8_allHunger_31 : decode cX8_allHunger 31 = .ok (.ireturn, 1) := by decide +kernel
theorem dX8_allEaten_0 : decode cX8_allEaten 0 = .ok (.iconst 0, 1) := by decide +kernel
theorem dX8_allEaten_1 : decode cX8_allEaten 1 = .ok (.istore_n 1, 1) := by decide +kernel
theorem dX8_allEaten_2 : decode cX8_allEaten 2 = .ok (.iconst 0, 1) := by decide +kernel
theorem dX8_allEaten_3 : decode cX8_allEaten 3 = .ok (.istore_n 2, 1) := by decide +kernel
theorem dX8_allEaten_4 : decode cX8_allEaten 4 = .ok (.iload_n 2, 1) := by decide +kernel
theorem dX8_allEaten_5 : decode cX8_allEaten 5 = .ok (.aload_n 0, 1) := by decide +kernel
theorem dX8_allEaten_6 : decode cX8_allEaten 6 = .ok (.getfield 75, 3) := by decide +kernel
theorem dX8_allEaten_9 : decode cX8_allEaten 9 = .ok (.if_icmp .ge 21, 3) := by decide +kernel
theorem dX8_allEaten_30 : decode cX8_allEaten 30 = .ok (.iload_n 1, 1) := by decide +kernel
theorem dX8_allEaten_31 : decode cX8_allEaten 31 = .ok (.ireturn, 1) := by decide +kernel
theorem dX8_grazeAll_0 : decode cX8_grazeAll 0 = .ok (.iconst 0, 1) := by decide +kernel
theorem dX8_grazeAll_1 : decode cX8_grazeAll 1 = .ok (.istore_n 1, 1) := by decide +kernel
theorem dX8_grazeAll_2 : decode cX8_grazeAll 2 = .ok (.iconst 0, 1) := by decide +kernel
theorem dX8_grazeAll_3 : decode cX8_grazeAll 3 = .ok (.istore_n 2, 1) := by decide +kernel
theorem dX8_grazeAll_4 : decode cX8_grazeAll 4 = .ok (.iload_n 2, 1) := by decide +kernel
theorem dX8_grazeAll_5 : decode cX8_grazeAll 5 = .ok (.aload_n 0, 1) := by decide +kernel
theorem dX8_grazeAll_6 : decode cX8_grazeAll 6 = .ok (.getfield 75, 3) := by decide +kernel
theorem dX8_grazeAll_9 : decode cX8_grazeAll 9 = .ok (.if_icmp .ge 17, 3) := by decide +kernel
theorem dX8_grazeAll_12 : decode cX8_grazeAll 12 = .ok (.iload_n 1, 1) := by decide +kernel
theorem dX8_grazeAll_13 : decode cX8_grazeAll 13 = .ok (.aload_n 0, 1) := by decide +kernel
theorem dX8_grazeAll_14 : decode cX8_grazeAll 14 = .ok (.iload_n 2, 1) := by decide +kernel
theorem dX8_grazeAll_15 : decode cX8_grazeAll 15 = .ok (.invokevirtual 324, 3) := by decide +kernel
theorem dX8_grazeAll_18 : decode cX8_grazeAll 18 = .ok (.iadd, 1) := by decide +kernel
theorem dX8_grazeAll_19 : decode cX8_grazeAll 19 = .ok (.istore_n 1, 1) := by decide +kernel
theorem dX8_grazeAll_20 : decode cX8_grazeAll 20 = .ok (.iinc 2 1, 3) := by decide +kernel
theorem dX8_grazeAll_23 : decode cX8_grazeAll 23 = .ok (.goto (-19), 3) := by decide +kernel
theorem dX8_grazeAll_26 : decode cX8_grazeAll 26 = .ok (.iload_n 1, 1) := by decide +kernel
theorem dX8_grazeAll_27 : decode cX8_grazeAll 27 = .ok (.ireturn, 1) := by decide +kernel
theorem dX8_sellFromPound_0 : decode cX8_sellFromPound 0 = .ok (.iconst 0, 1) := by decide +kernel
theorem dX8_sellFromPound_1 : decode cX8_sellFromPound 1 = .ok (.istore_n 1, 1) := by decide +kernel
theorem dX8_sellFromPound_2 : decode cX8_sellFromPound 2 = .ok (.iload_n 1, 1) := by decide +kernel
theorem dX8_sellFromPound_3 : decode cX8_sellFromPound 3 = .ok (.aload_n 0, 1) := by decide +kernel
theorem dX8_sellFromPound_4 : decode cX8_sellFromPound 4 = .ok (.getfield 88, 3) := by decide +kernel
theorem dX8_sellFromPound_7 : decode cX8_sellFromPound 7 = .ok (.if_icmp .ge 96, 3) := by decide +kernel
theorem dX8_sellFromPound_103 : decode cX8_sellFromPound 103 = .ok (.return_, 1) := by decide +kernel
theorem dX8_findUsed_0 : decode cX8_findUsed 0 = .ok (.iconst 0, 1) := by decide +kernel
theorem dX8_findUsed_1 : decode cX8_findUsed 1 = .ok (.istore_n 1, 1) := by decide +kernel
theorem dX8_findUsed_2 : decode cX8_findUsed 2 = .ok (.iload_n 1, 1) := by decide +kernel
theorem dX8_findUsed_3 : decode cX8_findUsed 3 = .ok (.aload_n 0, 1) := by decide +kernel
theorem dX8_findUsed_4 : decode cX8_findUsed 4 = .ok (.getfield 85, 3) := by decide +kernel
theorem dX8_findUsed_7 : decode cX8_findUsed 7 = .ok (.if_icmp .ge 78, 3) := by decide +kernel
theorem dX8_findUsed_85 : decode cX8_findUsed 85 = .ok (.return_, 1) := by decide +kernel
theorem dX8_lapse_0 : decode cX8_lapse 0 = .ok (.iconst 0, 1) := by decide +kernel
theorem dX8_lapse_1 : decode cX8_lapse 1 = .ok (.istore_n 1, 1) := by decide +kernel
theorem dX8_lapse_2 : decode cX8_lapse 2 = .ok (.iload_n 1, 1) := by decide +kernel
theorem dX8_lapse_3 : decode cX8_lapse 3 = .ok (.aload_n 0, 1) := by decide +kernel
theorem dX8_lapse_4 : decode cX8_lapse 4 = .ok (.getfield 85, 3) := by decide +kernel
theorem dX8_lapse_7 : decode cX8_lapse 7 = .ok (.if_icmp .ge 80, 3) := by decide +kernel
theorem dX8_lapse_87 : decode cX8_lapse 87 = .ok (.return_, 1) := by decide +kernel
theorem dX9_init_0 : decode cX9_init 0 = .ok (.aload_n 0, 1) := by decide +kernel
theorem dX9_init_1 : decode cX9_init 1 = .ok (.invokespecial 1, 3) := by decide +kernel
theorem dX9_init_4 : decode cX9_init 4 = .ok (.aload_n 0, 1) := by decide +kernel
theorem dX9_init_5 : decode cX9_init 5 = .ok (.bipush 7, 2) := by decide +kernel
theorem dX9_init_7 : decode cX9_init 7 = .ok (.newarray .int, 2) := by decide +kernel
theorem dX9_init_9 : decode cX9_init 9 = .ok (.putfield 7, 3) := by decide +kernel
theorem dX9_init_12 : decode cX9_init 12 = .ok (.aload_n 0, 1) := by decide +kernel
theorem dX9_init_13 : decode cX9_init 13 = .ok (.bipush 6, 2) := by decide +kernel
theorem dX9_init_15 : decode cX9_init 15 = .ok (.newarray .int, 2) := by decide +kernel
theorem dX9_init_17 : decode cX9_init 17 = .ok (.putfield 13, 3) := by decide +kernel
theorem dX9_init_20 : decode cX9_init 20 = .ok (.aload_n 0, 1) := by decide +kernel
theorem dX9_init_21 : decode cX9_init 21 = .ok (.bipush 6, 2) := by decide +kernel
theorem dX9_init_23 : decode cX9_init 23 = .ok (.newarray .int, 2) := by decide +kernel
theorem dX9_init_25 : decode cX9_init 25 = .ok (.putfield 16, 3) := by decide +kernel
theorem dX9_init_28 : decode cX9_init 28 = .ok (.aload_n 0, 1) := by decide +kernel
theorem dX9_init_29 : decode cX9_init 29 = .ok (.bipush 6, 2) := by decide +kernel
theorem dX9_init_31 : decode cX9_init 31 = .ok (.newarray .int, 2) := by decide +kernel
theorem dX9_init_33 : decode cX9_init 33 = .ok (.putfield 19, 3) := by decide +kernel
theorem dX9_init_36 : decode cX9_init 36 = .ok (.aload_n 0, 1) := by decide +kernel
theorem dX9_init_37 : decode cX9_init 37 = .ok (.bipush 6, 2) := by decide +kernel
theorem dX9_init_39 : decode cX9_init 39 = .ok (.newarray .int, 2) := by decide +kernel
theorem dX9_init_41 : decode cX9_init 41 = .ok (.putfield 22, 3) := by decide +kernel
theorem dX9_init_44 : decode cX9_init 44 = .ok (.aload_n 0, 1) := by decide +kernel
theorem dX9_init_45 : decode cX9_init 45 = .ok (.bipush 6, 2) := by decide +kernel
theorem dX9_init_47 : decode cX9_init 47 = .ok (.newarray .int, 2) := by decide +kernel
theorem dX9_init_49 : decode cX9_init 49 = .ok (.putfield 25, 3) := by decide +kernel
theorem dX9_init_52 : decode cX9_init 52 = .ok (.aload_n 0, 1) := by decide +kernel
theorem dX9_init_53 : decode cX9_init 53 = .ok (.bipush 6, 2) := by decide +kernel
theorem dX9_init_55 : decode cX9_init 55 = .ok (.newarray .boolean, 2) := by decide +kernel
theorem dX9_init_57 : decode cX9_init 57 = .ok (.putfield 28, 3) := by decide +kernel
theorem dX9_init_60 : decode cX9_init 60 = .ok (.aload_n 0, 1) := by decide +kernel
theorem dX9_init_61 : decode cX9_init 61 = .ok (.bipush 10, 2) := by decide +kernel
theorem dX9_init_63 : decode cX9_init 63 = .ok (.newarray .int, 2) := by decide +kernel
theorem dX9_init_65 : decode cX9_init 65 = .ok (.putfield 32, 3) := by decide +kernel
theorem dX9_init_68 : decode cX9_init 68 = .ok (.aload_n 0, 1) := by decide +kernel
theorem dX9_init_69 : decode cX9_init 69 = .ok (.bipush 10, 2) := by decide +kernel
theorem dX9_init_71 : decode cX9_init 71 = .ok (.newarray .int, 2) := by decide +kernel
theorem dX9_init_73 : decode cX9_init 73 = .ok (.putfield 35, 3) := by decide +kernel
theorem dX9_init_76 : decode cX9_init 76 = .ok (.aload_n 0, 1) := by decide +kernel
theorem dX9_init_77 : decode cX9_init 77 = .ok (.bipush 10, 2) := by decide +kernel
theorem dX9_init_79 : decode cX9_init 79 = .ok (.newarray .int, 2) := by decide +kernel
theorem dX9_init_81 : decode cX9_init 81 = .ok (.putfield 38, 3) := by decide +kernel
theorem dX9_init_84 : decode cX9_init 84 = .ok (.aload_n 0, 1) := by decide +kernel
theorem dX9_init_85 : decode cX9_init 85 = .ok (.bipush 100, 2) := by decide +kernel
theorem dX9_init_87 : decode cX9_init 87 = .ok (.newarray .int, 2) := by decide +kernel
theorem dX9_init_89 : decode cX9_init 89 = .ok (.putfield 41, 3) := by decide +kernel
theorem dX9_init_92 : decode cX9_init 92 = .ok (.aload_n 0, 1) := by decide +kernel
theorem dX9_init_93 : decode cX9_init 93 = .ok (.sipush 721, 3) := by decide +kernel
theorem dX9_init_96 : decode cX9_init 96 = .ok (.newarray .int, 2) := by decide +kernel
theorem dX9_init_98 : decode cX9_init 98 = .ok (.putfield 44, 3) := by decide +kernel
theorem dX9_init_101 : decode cX9_init 101 = .ok (.aload_n 0, 1) := by decide +kernel
theorem dX9_init_102 : decode cX9_init 102 = .ok (.sipush 721, 3) := by decide +kernel
theorem dX9_init_105 : decode cX9_init 105 = .ok (.newarray .int, 2) := by decide +kernel
theorem dX9_init_107 : decode cX9_init 107 = .ok (.putfield 47, 3) := by decide +kernel
theorem dX9_init_110 : decode cX9_init 110 = .ok (.aload_n 0, 1) := by decide +kernel
theorem dX9_init_111 : decode cX9_init 111 = .ok (.bipush 60, 2) := by decide +kernel
theorem dX9_init_113 : decode cX9_init 113 = .ok (.newarray .int, 2) := by decide +kernel
theorem dX9_init_115 : decode cX9_init 115 = .ok (.putfield 50, 3) := by decide +kernel
theorem dX9_init_118 : decode cX9_init 118 = .ok (.aload_n 0, 1) := by decide +kernel
theorem dX9_init_119 : decode cX9_init 119 = .ok (.bipush 60, 2) := by decide +kernel
theorem dX9_init_121 : decode cX9_init 121 = .ok (.newarray .int, 2) := by decide +kernel
theorem dX9_init_123 : decode cX9_init 123 = .ok (.putfield 53, 3) := by decide +kernel
theorem dX9_init_126 : decode cX9_init 126 = .ok (.aload_n 0, 1) := by decide +kernel
theorem dX9_init_127 : decode cX9_init 127 = .ok (.bipush 60, 2) := by decide +kernel
theorem dX9_init_129 : decode cX9_init 129 = .ok (.newarray .int, 2) := by decide +kernel
theorem dX9_init_131 : decode cX9_init 131 = .ok (.putfield 56, 3) := by decide +kernel
theorem dX9_init_134 : decode cX9_init 134 = .ok (.aload_n 0, 1) := by decide +kernel
theorem dX9_init_135 : decode cX9_init 135 = .ok (.bipush 60, 2) := by decide +kernel
theorem dX9_init_137 : decode cX9_init 137 = .ok (.newarray .int, 2) := by decide +kernel
theorem dX9_init_139 : decode cX9_init 139 = .ok (.putfield 59, 3) := by decide +kernel
theorem dX9_init_142 : decode cX9_init 142 = .ok (.aload_n 0, 1) := by decide +kernel
theorem dX9_init_143 : decode cX9_init 143 = .ok (.bipush 60, 2) := by decide +kernel
theorem dX9_init_145 : decode cX9_init 145 = .ok (.newarray .int, 2) := by decide +kernel
theorem dX9_init_147 : decode cX9_init 147 = .ok (.putfield 62, 3) := by decide +kernel
theorem dX9_init_150 : decode cX9_init 150 = .ok (.aload_n 0, 1) := by decide +kernel
theorem dX9_init_151 : decode cX9_init 151 = .ok (.bipush 60, 2) := by decide +kernel
theorem dX9_init_153 : decode cX9_init 153 = .ok (.newarray .int, 2) := by decide +kernel
theorem dX9_init_155 : decode cX9_init 155 = .ok (.putfield 65, 3) := by decide +kernel
theorem dX9_init_158 : decode cX9_init 158 = .ok (.aload_n 0, 1) := by decide +kernel
theorem dX9_init_159 : decode cX9_init 159 = .ok (.bipush 60, 2) := by decide +kernel
theorem dX9_init_161 : decode cX9_init 161 = .ok (.newarray .int, 2) := by decide +kernel
theorem dX9_init_163 : decode cX9_init 163 = .ok (.putfield 68, 3) := by decide +kernel
theorem dX9_init_166 : decode cX9_init 166 = .ok (.aload_n 0, 1) := by decide +kernel
theorem dX9_init_167 : decode cX9_init 167 = .ok (.bipush 60, 2) := by decide +kernel
theorem dX9_init_169 : decode cX9_init 169 = .ok (.newarray .int, 2) := by decide +kernel
theorem dX9_init_171 : decode cX9_init 171 = .ok (.putfield 71, 3) := by decide +kernel
theorem dX9_init_174 : decode cX9_init 174 = .ok (.aload_n 0, 1) := by decide +kernel
theorem dX9_init_175 : decode cX9_init 175 = .ok (.bipush 60, 2) := by decide +kernel
theorem dX9_init_177 : decode cX9_init 177 = .ok (.newarray .boolean, 2) := by decide +kernel
theorem dX9_init_179 : decode cX9_init 179 = .ok (.putfield 74, 3) := by decide +kernel
theorem dX9_init_182 : decode cX9_init 182 = .ok (.aload_n 0, 1) := by decide +kernel
theorem dX9_init_183 : decode cX9_init 183 = .ok (.bipush 60, 2) := by decide +kernel
theorem dX9_init_185 : decode cX9_init 185 = .ok (.newarray .boolean, 2) := by decide +kernel
theorem dX9_init_187 : decode cX9_init 187 = .ok (.putfield 77, 3) := by decide +kernel
theorem dX9_init_190 : decode cX9_init 190 = .ok (.aload_n 0, 1) := by decide +kernel
theorem dX9_init_191 : decode cX9_init 191 = .ok (.bipush 20, 2) := by decide +kernel
theorem dX9_init_193 : decode cX9_init 193 = .ok (.newarray .int, 2) := by decide +kernel
theorem dX9_init_195 : decode cX9_init 195 = .ok (.putfield 80, 3) := by decide +kernel
theorem dX9_init_198 : decode cX9_init 198 = .ok (.aload_n 0, 1) := by decide +kernel
theorem dX9_init_199 : decode cX9_init 199 = .ok (.bipush 20, 2) := by decide +kernel
theorem dX9_init_201 : decode cX9_init 201 = .ok (.newarray .int, 2) := by decide +kernel
theorem dX9_init_203 : decode cX9_init 203 = .ok (.putfield 83, 3) := by decide +kernel
theorem dX9_init_206 : decode cX9_init 206 = .ok (.aload_n 0, 1) := by decide +kernel
theorem dX9_init_207 : decode cX9_init 207 = .ok (.bipush 20, 2) := by decide +kernel
theorem dX9_init_209 : decode cX9_init 209 = .ok (.newarray .int, 2) := by decide +kernel
theorem dX9_init_211 : decode cX9_init 211 = .ok (.putfield 86, 3) := by decide +kernel
theorem dX9_init_214 : decode cX9_init 214 = .ok (.aload_n 0, 1) := by decide +kernel
theorem dX9_init_215 : decode cX9_init 215 = .ok (.bipush 20, 2) := by decide +kernel
theorem dX9_init_217 : decode cX9_init 217 = .ok (.newarray .int, 2) := by decide +kernel
theorem dX9_init_219 : decode cX9_init 219 = .ok (.putfield 89, 3) := by decide +kernel
theorem dX9_init_222 : decode cX9_init 222 = .ok (.aload_n 0, 1) := by decide +kernel
theorem dX9_init_223 : decode cX9_init 223 = .ok (.bipush 20, 2) := by decide +kernel
theorem dX9_init_225 : decode cX9_init 225 = .ok (.newarray .int, 2) := by decide +kernel
theorem dX9_init_227 : decode cX9_init 227 = .ok (.putfield 92, 3) := by decide +kernel
theorem dX9_init_230 : decode cX9_init 230 = .ok (.aload_n 0, 1) := by decide +kernel
theorem dX9_init_231 : decode cX9_init 231 = .ok (.bipush 20, 2) := by decide +kernel
theorem dX9_init_233 : decode cX9_init 233 = .ok (.newarray .int, 2) := by decide +kernel
theorem dX9_init_235 : decode cX9_init 235 = .ok (.putfield 95, 3) := by decide +kernel
theorem dX9_init_238 : decode cX9_init 238 = .ok (.aload_n 0, 1) := by decide +kernel
theorem dX9_init_239 : decode cX9_init 239 = .ok (.bipush 20, 2) := by decide +kernel
theorem dX9_init_241 : decode cX9_init 241 = .ok (.newarray .int, 2) := by decide +kernel
theorem dX9_init_243 : decode cX9_init 243 = .ok (.putfield 98, 3) := by decide +kernel
theorem dX9_init_246 : decode cX9_init 246 = .ok (.aload_n 0, 1) := by decide +kernel
theorem dX9_init_247 : decode cX9_init 247 = .ok (.bipush 20, 2) := by decide +kernel
theorem dX9_init_249 : decode cX9_init 249 = .ok (.newarray .int, 2) := by decide +kernel
theorem dX9_init_251 : decode cX9_init 251 = .ok (.putfield 101, 3) := by decide +kernel
theorem dX9_init_254 : decode cX9_init 254 = .ok (.aload_n 0, 1) := by decide +kernel
theorem dX9_init_255 : decode cX9_init 255 = .ok (.bipush 20, 2) := by decide +kernel
theorem dX9_init_257 : decode cX9_init 257 = .ok (.newarray .int, 2) := by decide +kernel
theorem dX9_init_259 : decode cX9_init 259 = .ok (.putfield 104, 3) := by decide +kernel
theorem dX9_init_262 : decode cX9_init 262 = .ok (.aload_n 0, 1) := by decide +kernel
theorem dX9_init_263 : decode cX9_init 263 = .ok (.bipush 6, 2) := by decide +kernel
theorem dX9_init_265 : decode cX9_init 265 = .ok (.newarray .int, 2) := by decide +kernel
theorem dX9_init_267 : decode cX9_init 267 = .ok (.putfield 107, 3) := by decide +kernel
theorem dX9_init_270 : decode cX9_init 270 = .ok (.aload_n 0, 1) := by decide +kernel
theorem dX9_init_271 : decode cX9_init 271 = .ok (.bipush 20, 2) := by decide +kernel
theorem dX9_init_273 : decode cX9_init 273 = .ok (.newarray .int, 2) := by decide +kernel
theorem dX9_init_275 : decode cX9_init 275 = .ok (.putfield 110, 3) := by decide +kernel
theorem dX9_init_278 : decode cX9_init 278 = .ok (.aload_n 0, 1) := by decide +kernel
theorem dX9_init_279 : decode cX9_init 279 = .ok (.bipush 6, 2) := by decide +kernel
theorem dX9_init_281 : decode cX9_init 281 = .ok (.newarray .int, 2) := by decide +kernel
theorem dX9_init_283 : decode cX9_init 283 = .ok (.putfield 113, 3) := by decide +kernel
theorem dX9_init_286 : decode cX9_init 286 = .ok (.aload_n 0, 1) := by decide +kernel
theorem dX9_init_287 : decode cX9_init 287 = .ok (.bipush 8, 2) := by decide +kernel
theorem dX9_init_289 : decode cX9_init 289 = .ok (.newarray .int, 2) := by decide +kernel
theorem dX9_init_291 : decode cX9_init 291 = .ok (.putfield 116, 3) := by decide +kernel
theorem dX9_init_294 : decode cX9_init 294 = .ok (.aload_n 0, 1) := by decide +kernel
theorem dX9_init_295 : decode cX9_init 295 = .ok (.bipush 8, 2) := by decide +kernel
theorem dX9_init_297 : decode cX9_init 297 = .ok (.newarray .int, 2) := by decide +kernel
theorem dX9_init_299 : decode cX9_init 299 = .ok (.putfield 119, 3) := by decide +kernel
theorem dX9_init_302 : decode cX9_init 302 = .ok (.return_, 1) := by decide +kernel
theorem dX9_refuse_0 : decode cX9_refuse 0 = .ok (.aload_n 0, 1) := by decide +kernel
theorem dX9_refuse_1 : decode cX9_refuse 1 = .ok (.getfield 7, 3) := by decide +kernel
theorem dX9_refuse_4 : decode cX9_refuse 4 = .ok (.iload_n 1, 1) := by decide +kernel
theorem dX9_refuse_5 : decode cX9_refuse 5 = .ok (.ineg, 1) := by decide +kernel
theorem dX9_refuse_6 : decode cX9_refuse 6 = .ok (.dup2, 1) := by decide +kernel
theorem dX9_refuse_7 : decode cX9_refuse 7 = .ok (.iaload, 1) := by decide +kernel
theorem dX9_refuse_8 : decode cX9_refuse 8 = .ok (.iconst 1, 1) := by decide +kernel
theorem dX9_refuse_9 : decode cX9_refuse 9 = .ok (.iadd, 1) := by decide +kernel
theorem dX9_refuse_10 : decode cX9_refuse 10 = .ok (.iastore, 1) := by decide +kernel
theorem dX9_refuse_11 : decode cX9_refuse 11 = .ok (.iload_n 1, 1) := by decide +kernel
theorem dX9_refuse_12 : decode cX9_refuse 12 = .ok (.ireturn, 1) := by decide +kernel
theorem dX9_isIn_0 : decode cX9_isIn 0 = .ok (.iload_n 0, 1) := by decide +kernel
theorem dX9_isIn_1 : decode cX9_isIn 1 = .ok (.ifCond .lt 12, 3) := by decide +kernel
theorem dX9_isIn_4 : decode cX9_isIn 4 = .ok (.iload_n 0, 1) := by decide +kernel
theorem dX9_isIn_5 : decode cX9_isIn 5 = .ok (.iload_n 1, 1) := by decide +kernel
theorem dX9_isIn_6 : decode cX9_isIn 6 = .ok (.if_icmp .ge 7, 3) := by decide +kernel
theorem dX9_isIn_9 : decode cX9_isIn 9 = .ok (.iconst 1, 1) := by decide +kernel
theorem dX9_isIn_10 : decode cX9_isIn 10 = .ok (.goto 4, 3) := by decide +kernel
theorem dX9_isIn_13 : decode cX9_isIn 13 = .ok (.iconst 0, 1) := by decide +kernel
theorem dX9_isIn_14 : decode cX9_isIn 14 = .ok (.ireturn, 1) := by decide +kernel
set_option maxRecDepth 20000 in
theorem ggX9_piece_X9_refuse : GoodIn wsX9_piece wsX9_refuse := goodIn_r _ [12, 13, 14, 15, 16, 17, 18, 19, 20, 21, 22, 23, 24, 25, 26, 27, 28, 29, 30, 31, 32, 33, 34, 35, 36, 37, 38, 39, 40, 41, 42, 43, 44, 45, 46, 47, 48, 49, 50, 51, 52, 53, 54, 55, 56, 57, 58, 59, 60, 61, 62, 63, 64] (by decide +kernel) (by decide +kernel)
set_option maxRecDepth 20000 in
theorem gX9_piece_X9_refuse : GoodIn wsX9_piece (wsV RX9 122 RX9 yX9_refuse wsX9_refuse) := goodIn_app (goodIn_of _ (by decide +kernel)) ggX9_piece_X9_refuse
theorem dX9_piece_0 : decode cX9_piece 0 = .ok (.iload_n 1, 1) := by decide +kernel
theorem dX9_piece_1 : decode cX9_piece 1 = .ok (.ifCond .lt 12, 3) := by decide +kernel
theorem dX9_piece_4 : decode cX9_piece 4 = .ok (.iload_n 3, 1) := by decide +kernel
theorem dX9_piece_5 : decode cX9_piece 5 = .ok (.ifCond .lt 8, 3) := by decide +kernel
theorem dX9_piece_8 : decode cX9_piece 8 = .ok (.iload_n 2, 1) := by decide +kernel
theorem dX9_piece_9 : decode cX9_piece 9 = .ok (.iconst 1, 1) := by decide +kernel
theorem dX9_piece_10 : decode cX9_piece 10 = .ok (.if_icmp .ge 10, 3) := by decide +kernel
theorem dX9_piece_13 : decode cX9_piece 13 = .ok (.aload_n 0, 1) := by decide +kernel
theorem dX9_piece_14 : decode cX9_piece 14 = .ok (.bipush (-4), 2) := by decide +kernel
theorem dX9_piece_16 : decode cX9_piece 16 = .ok (.invokevirtual 122, 3) := by decide +kernel
theorem dX9_piece_19 : decode cX9_piece 19 = .ok (.ireturn, 1) := by decide +kernel
theorem dX9_piece_20 : decode cX9_piece 20 = .ok (.iload_n 2, 1) := by decide +kernel
theorem dX9_piece_21 : decode cX9_piece 21 = .ok (.ldc 126, 2) := by decide +kernel
theorem dX9_piece_23 : decode cX9_piece 23 = .ok (.if_icmp .gt 24, 3) := by decide +kernel
theorem dX9_piece_26 : decode cX9_piece 26 = .ok (.iload_n 1, 1) := by decide +kernel
theorem dX9_piece_27 : decode cX9_piece 27 = .ok (.iload_n 2, 1) := by decide +kernel
theorem dX9_piece_28 : decode cX9_piece 28 = .ok (.if_icmp .gt 19, 3) := by decide +kernel
theorem dX9_piece_31 : decode cX9_piece 31 = .ok (.iload_n 3, 1) := by decide +kernel
theorem dX9_piece_32 : decode cX9_piece 32 = .ok (.sipush 10000, 3) := by decide +kernel
theorem dX9_piece_35 : decode cX9_piece 35 = .ok (.if_icmp .gt 12, 3) := by decide +kernel
theorem dX9_piece_38 : decode cX9_piece 38 = .ok (.aload_n 0, 1) := by decide +kernel
theorem dX9_piece_39 : decode cX9_piece 39 = .ok (.getfield 127, 3) := by decide +kernel
theorem dX9_piece_42 : decode cX9_piece 42 = .ok (.bipush 6, 2) := by decide +kernel
theorem dX9_piece_44 : decode cX9_piece 44 = .ok (.if_icmp .ne 10, 3) := by decide +kernel
theorem dX9_piece_47 : decode cX9_piece 47 = .ok (.aload_n 0, 1) := by decide +kernel
theorem dX9_piece_48 : decode cX9_piece 48 = .ok (.bipush (-6), 2) := by decide +kernel
theorem dX9_piece_50 : decode cX9_piece 50 = .ok (.invokevirtual 122, 3) := by decide +kernel
theorem dX9_piece_53 : decode cX9_piece 53 = .ok (.ireturn, 1) := by decide +kernel
theorem dX9_piece_54 : decode cX9_piece 54 = .ok (.aload_n 0, 1) := by decide +kernel
theorem dX9_piece_55 : decode cX9_piece 55 = .ok (.getfield 13, 3) := by decide +kernel
theorem dX9_piece_58 : decode cX9_piece 58 = .ok (.aload_n 0, 1) := by decide +kernel
theorem dX9_piece_59 : decode cX9_piece 59 = .ok (.getfield 127, 3) := by decide +kernel
theorem dX9_piece_62 : decode cX9_piece 62 = .ok (.iload_n 1, 1) := by decide +kernel
theorem dX9_piece_63 : decode cX9_piece 63 = .ok (.iastore, 1) := by decide +kernel
theorem dX9_piece_64 : decode cX9_piece 64 = .ok (.aload_n 0, 1) := by decide +kernel
theorem dX9_piece_65 : decode cX9_piece 65 = .ok (.getfield 16, 3) := by decide +kernel
theorem dX9_piece_68 : decode cX9_piece 68 = .ok (.aload_n 0, 1) := by decide +kernel
theorem dX9_piece_69 : decode cX9_piece 69 = .ok (.getfield 127, 3) := by decide +kernel
theorem dX9_piece_72 : decode cX9_piece 72 = .ok (.iload_n 2, 1) := by decide +kernel
theorem dX9_piece_73 : decode cX9_piece 73 = .ok (.iastore, 1) := by decide +kernel
theorem dX9_piece_74 : decode cX9_piece 74 = .ok (.aload_n 0, 1) := by decide +kernel
theorem dX9_piece_75 : decode cX9_piece 75 = .ok (.getfield 19, 3) := by decide +kernel
theorem dX9_piece_78 : decode cX9_piece 78 = .ok (.aload_n 0, 1) := by decide +kernel
theorem dX9_piece_79 : decode cX9_piece 79 = .ok (.getfield 127, 3) := by decide +kernel
theorem dX9_piece_82 : decode cX9_piece 82 = .ok (.iload_n 3, 1) := by decide +kernel
theorem dX9_piece_83 : decode cX9_piece 83 = .ok (.iastore, 1) := by decide +kernel
theorem dX9_piece_84 : decode cX9_piece 84 = .ok (.aload_n 0, 1) := by decide +kernel
theorem dX9_piece_85 : decode cX9_piece 85 = .ok (.getfield 28, 3) := by decide +kernel
theorem dX9_piece_88 : decode cX9_piece 88 = .ok (.aload_n 0, 1) := by decide +kernel
theorem dX9_piece_89 : decode cX9_piece 89 = .ok (.getfield 127, 3) := by decide +kernel
theorem dX9_piece_92 : decode cX9_piece 92 = .ok (.iload 4, 2) := by decide +kernel
theorem dX9_piece_94 : decode cX9_piece 94 = .ok (.bastore, 1) := by decide +kernel
theorem dX9_piece_95 : decode cX9_piece 95 = .ok (.aload_n 0, 1) := by decide +kernel
theorem dX9_piece_96 : decode cX9_piece 96 = .ok (.getfield 22, 3) := by decide +kernel
theorem dX9_piece_99 : decode cX9_piece 99 = .ok (.aload_n 0, 1) := by decide +kernel
theorem dX9_piece_100 : decode cX9_piece 100 = .ok (.getfield 127, 3) := by decide +kernel
theorem dX9_piece_103 : decode cX9_piece 103 = .ok (.iconst (-1), 1) := by decide +kernel
theorem dX9_piece_104 : decode cX9_piece 104 = .ok (.iastore, 1) := by decide +kernel
theorem dX9_piece_105 : decode cX9_piece 105 = .ok (.aload_n 0, 1) := by decide +kernel
theorem dX9_piece_106 : decode cX9_piece 106 = .ok (.dup, 1) := by decide +kernel
theorem dX9_piece_107 : decode cX9_piece 107 = .ok (.getfield 127, 3) := by decide +kernel
theorem dX9_piece_110 : decode cX9_piece 110 = .ok (.iconst 1, 1) := by decide +kernel
theorem dX9_piece_111 : decode cX9_piece 111 = .ok (.iadd, 1) := by decide +kernel
theorem dX9_piece_112 : decode cX9_piece 112 = .ok (.putfield 127, 3) := by decide +kernel
theorem dX9_piece_115 : decode cX9_piece 115 = .ok (.aload_n 0, 1) := by decide +kernel
theorem dX9_piece_116 : decode cX9_piece 116 = .ok (.getfield 127, 3) := by decide +kernel
theorem dX9_piece_119 : decode cX9_piece 119 = .ok (.iconst 1, 1) := by decide +kernel
theorem dX9_piece_120 : decode cX9_piece 120 = .ok (.isub, 1) := by decide +kernel
theorem dX9_piece_121 : decode cX9_piece 121 = .ok (.ireturn, 1) := by decide +kernel
set_option maxRecDepth 20000 in
theorem ggX9_owner_X9_refuse : GoodIn wsX9_owner wsX9_refuse := goodIn_r _ [8, 9, 10, 11, 12, 13, 14, 15, 16, 17, 18, 19, 20, 21, 22, 23, 24, 25, 26, 27, 28, 29, 30, 31, 32, 33, 34, 35, 36, 37, 38, 39, 40, 41, 42, 43, 44, 45, 46, 47, 48, 49, 50, 51, 52, 53, 54, 55, 56, 57, 58, 59, 60] (by decide +kernel) (by decide +kernel)
set_option maxRecDepth 20000 in
theorem gX9_owner_X9_refuse : GoodIn wsX9_owner (wsV RX9 122 RX9 yX9_refuse wsX9_refuse) := goodIn_app (goodIn_of _ (by decide +kernel)) ggX9_owner_X9_refuse
theorem dX9_owner_0 : decode cX9_owner 0 = .ok (.iload_n 1, 1) := by decide +kernel
theorem dX9_owner_1 : decode cX9_owner 1 = .ok (.ifCond .ge 10, 3) := by decide +kernel
theorem dX9_owner_4 : decode cX9_owner 4 = .ok (.aload_n 0, 1) := by decide +kernel
theorem dX9_owner_5 : decode cX9_owner 5 = .ok (.bipush (-4), 2) := by decide +kernel
theorem dX9_owner_7 : decode cX9_owner 7 = .ok (.invokevirtual 122, 3) := by decide +kernel
theorem dX9_owner_10 : decode cX9_owner 10 = .ok (.ireturn, 1) := by decide +kernel
theorem dX9_owner_11 : decode cX9_owner 11 = .ok (.iload_n 1, 1) := by decide +kernel
theorem dX9_owner_12 : decode cX9_owner 12 = .ok (.ldc 126, 2) := by decide +kernel
theorem dX9_owner_14 : decode cX9_owner 14 = .ok (.if_icmp .gt 12, 3) := by decide +kernel
theorem dX9_owner_17 : decode cX9_owner 17 = .ok (.aload_n 0, 1) := by decide +kernel
theorem dX9_owner_18 : decode cX9_owner 18 = .ok (.getfield 131, 3) := by decide +kernel
theorem dX9_owner_21 : decode cX9_owner 21 = .ok (.bipush 10, 2) := by decide +kernel
theorem dX9_owner_23 : decode cX9_owner 23 = .ok (.if_icmp .ne 10, 3) := by decide +kernel
theorem dX9_owner_26 : decode cX9_owner 26 = .ok (.aload_n 0, 1) := by decide +kernel
theorem dX9_owner_27 : decode cX9_owner 27 = .ok (.bipush (-6), 2) := by decide +kernel
theorem dX9_owner_29 : decode cX9_owner 29 = .ok (.invokevirtual 122, 3) := by decide +kernel
theorem dX9_owner_32 : decode cX9_owner 32 = .ok (.ireturn, 1) := by decide +kernel
theorem dX9_owner_33 : decode cX9_owner 33 = .ok (.aload_n 0, 1) := by decide +kernel
theorem dX9_owner_34 : decode cX9_owner 34 = .ok (.getfield 32, 3) := by decide +kernel
theorem dX9_owner_37 : decode cX9_owner 37 = .ok (.aload_n 0, 1) := by decide +kernel
theorem dX9_owner_38 : decode cX9_owner 38 = .ok (.getfield 131, 3) := by decide +kernel
theorem dX9_owner_41 : decode cX9_owner 41 = .ok (.iload_n 1, 1) := by decide +kernel
theorem dX9_owner_42 : decode cX9_owner 42 = .ok (.iastore, 1) := by decide +kernel
theorem dX9_owner_43 : decode cX9_owner 43 = .ok (.aload_n 0, 1) := by decide +kernel
theorem dX9_owner_44 : decode cX9_owner 44 = .ok (.dup, 1) := by decide +kernel
theorem dX9_owner_45 : decode cX9_owner 45 = .ok (.getfield 131, 3) := by decide +kernel
theorem dX9_owner_48 : decode cX9_owner 48 = .ok (.iconst 1, 1) := by decide +kernel
theorem dX9_owner_49 : decode cX9_owner 49 = .ok (.iadd, 1) := by decide +kernel
theorem dX9_owner_50 : decode cX9_owner 50 = .ok (.putfield 131, 3) := by decide +kernel
theorem dX9_owner_53 : decode cX9_owner 53 = .ok (.aload_n 0, 1) := by decide +kernel
theorem dX9_owner_54 : decode cX9_owner 54 = .ok (.getfield 131, 3) := by decide +kernel
theorem dX9_owner_57 : decode cX9_owner 57 = .ok (.iconst 1, 1) := by decide +kernel
theorem dX9_owner_58 : decode cX9_owner 58 = .ok (.isub, 1) := by decide +kernel
theorem dX9_owner_59 : decode cX9_owner 59 = .ok (.ireturn, 1) := by decide +kernel
set_option maxRecDepth 20000 in
theorem ggX9_house_X9_isIn : GoodIn wsX9_house wsX9_isIn := goodIn_r _ [7] (by decide +kernel) (by decide +kernel)
set_option maxRecDepth 20000 in
theorem gX9_house_X9_isIn : GoodIn wsX9_house (va_wsS RX9 134 yX9_isIn wsX9_isIn) := goodIn_app (goodIn_of _ (by decide +kernel)) ggX9_house_X9_isIn
set_option maxRecDepth 20000 in
theorem ggX9_house_X9_refuse : GoodIn wsX9_house wsX9_refuse := goodIn_r _ [11, 12, 13, 14, 15, 16, 17, 18, 19, 20, 21, 22, 23, 24, 25, 26, 27, 28, 29, 30, 31, 32, 33, 34, 35, 36, 37, 38, 39, 40, 41, 42, 43, 44, 45, 46, 47, 48, 49, 50, 51, 52, 53, 54, 55, 56, 57, 58, 59, 60, 61, 62, 63] (by decide +kernel) (by decide +kernel)
set_option maxRecDepth 20000 in
theorem gX9_house_X9_refuse : GoodIn wsX9_house (wsV RX9 122 RX9 yX9_refuse wsX9_refuse) := goodIn_app (goodIn_of _ (by decide +kernel)) ggX9_house_X9_refuse
theorem dX9_house_0 : decode cX9_house 0 = .ok (.iload_n 1, 1) := by decide +kernel
theorem dX9_house_1 : decode cX9_house 1 = .ok (.aload_n 0, 1) := by decide +kernel
theorem dX9_house_2 : decode cX9_house 2 = .ok (.getfield 131, 3) := by decide +kernel
theorem dX9_house_5 : decode cX9_house 5 = .ok (.invokestatic 134, 3) := by decide +kernel
theorem dX9_house_8 : decode cX9_house 8 = .ok (.ifCond .ne 9, 3) := by decide +kernel
theorem dX9_house_11 : decode cX9_house 11 = .ok (.aload_n 0, 1) := by decide +kernel
theorem dX9_house_12 : decode cX9_house 12 = .ok (.iconst (-1), 1) := by decide +kernel
theorem dX9_house_13 : decode cX9_house 13 = .ok (.invokevirtual 122, 3) := by decide +kernel
theorem dX9_house_16 : decode cX9_house 16 = .ok (.ireturn, 1) := by decide +kernel
set_option maxRecDepth 20000 in
theorem ggX9_rate_X9_isIn : GoodIn wsX9_rate wsX9_isIn := goodIn_r _ [5] (by decide +kernel) (by decide +kernel)
set_option maxRecDepth 20000 in
theorem gX9_rate_X9_isIn : GoodIn wsX9_rate (va_wsS RX9 134 yX9_isIn wsX9_isIn) := goodIn_app (goodIn_of _ (by decide +kernel)) ggX9_rate_X9_isIn
set_option maxRecDepth 20000 in
theorem ggX9_rate_X9_refuse : GoodIn wsX9_rate wsX9_refuse := goodIn_r _ [9, 10, 11, 12, 13, 14, 15, 16, 17, 18, 19, 20, 21, 22, 23, 24, 25, 26, 27, 28, 29, 30, 31, 32, 33, 34, 35, 36, 37, 38, 39, 40, 41, 42, 43, 44, 45, 46, 47, 48, 49, 50, 51, 52, 53, 54, 55, 56, 57, 58, 59, 60, 61] (by decide +kernel) (by decide +kernel)
set_option maxRecDepth 20000 in
theorem gX9_rate_X9_refuse : GoodIn wsX9_rate (wsV RX9 122 RX9 yX9_refuse wsX9_refuse) := goodIn_app (goodIn_of _ (by decide +kernel)) ggX9_rate_X9_refuse
theorem dX9_rate_0 : decode cX9_rate 0 = .ok (.iload_n 1, 1) := by decide +kernel
theorem dX9_rate_1 : decode cX9_rate 1 = .ok (.bipush 10, 2) := by decide +kernel
theorem dX9_rate_3 : decode cX9_rate 3 = .ok (.invokestatic 134, 3) := by decide +kernel
theorem dX9_rate_6 : decode cX9_rate 6 = .ok (.ifCond .eq 12, 3) := by decide +kernel
theorem dX9_rate_9 : decode cX9_rate 9 = .ok (.iload_n 2, 1) := by decide +kernel
theorem dX9_rate_10 : decode cX9_rate 10 = .ok (.bipush 10, 2) := by decide +kernel
theorem dX9_rate_12 : decode cX9_rate 12 = .ok (.invokestatic 134, 3) := by decide +kernel
theorem dX9_rate_15 : decode cX9_rate 15 = .ok (.ifCond .ne 10, 3) := by decide +kernel
theorem dX9_rate_18 : decode cX9_rate 18 = .ok (.aload_n 0, 1) := by decide +kernel
theorem dX9_rate_19 : decode cX9_rate 19 = .ok (.bipush (-2), 2) := by decide +kernel
theorem dX9_rate_21 : decode cX9_rate 21 = .ok (.invokevirtual 122, 3) := by decide +kernel
theorem dX9_rate_24 : decode cX9_rate 24 = .ok (.ireturn, 1) := by decide +kernel
theorem dX9_rate_25 : decode cX9_rate 25 = .ok (.iload_n 3, 1) := by decide +kernel
theorem dX9_rate_26 : decode cX9_rate 26 = .ok (.ifCond .ge 10, 3) := by decide +kernel
theorem dX9_rate_29 : decode cX9_rate 29 = .ok (.aload_n 0, 1) := by decide +kernel
theorem dX9_rate_30 : decode cX9_rate 30 = .ok (.bipush (-4), 2) := by decide +kernel
theorem dX9_rate_32 : decode cX9_rate 32 = .ok (.invokevirtual 122, 3) := by decide +kernel
theorem dX9_rate_35 : decode cX9_rate 35 = .ok (.ireturn, 1) := by decide +kernel
theorem dX9_rate_36 : decode cX9_rate 36 = .ok (.iload_n 3, 1) := by decide +kernel
theorem dX9_rate_37 : decode cX9_rate 37 = .ok (.sipush 1000, 3) := by decide +kernel
theorem dX9_rate_40 : decode cX9_rate 40 = .ok (.if_icmp .le 10, 3) := by decide +kernel
theorem dX9_rate_43 : decode cX9_rate 43 = .ok (.aload_n 0, 1) := by decide +kernel
theorem dX9_rate_44 : decode cX9_rate 44 = .ok (.bipush (-6), 2) := by decide +kernel
theorem dX9_rate_46 : decode cX9_rate 46 = .ok (.invokevirtual 122, 3) := by decide +kernel
theorem dX9_rate_49 : decode cX9_rate 49 = .ok (.ireturn, 1) := by decide +kernel
theorem dX9_rate_50 : decode cX9_rate 50 = .ok (.aload_n 0, 1) := by decide +kernel
theorem dX9_rate_51 : decode cX9_rate 51 = .ok (.getfield 41, 3) := by decide +kernel
theorem dX9_rate_54 : decode cX9_rate 54 = .ok (.bipush 10, 2) := by decide +kernel
theorem dX9_rate_56 : decode cX9_rate 56 = .ok (.iload_n 1, 1) := by decide +kernel
theorem dX9_rate_57 : decode cX9_rate 57 = .ok (.imul, 1) := by decide +kernel
theorem dX9_rate_58 : decode cX9_rate 58 = .ok (.iload_n 2, 1) := by decide +kernel
theorem dX9_rate_59 : decode cX9_rate 59 = .ok (.iadd, 1) := by decide +kernel
theorem dX9_rate_60 : decode cX9_rate 60 = .ok (.iaload, 1) := by decide +kernel
theorem dX9_rate_61 : decode cX9_rate 61 = .ok (.istore 4, 2) := by decide +kernel
theorem dX9_rate_63 : decode cX9_rate 63 = .ok (.aload_n 0, 1) := by decide +kernel
theorem dX9_rate_64 : decode cX9_rate 64 = .ok (.getfield 41, 3) := by decide +kernel
theorem dX9_rate_67 : decode cX9_rate 67 = .ok (.bipush 10, 2) := by decide +kernel
theorem dX9_rate_69 : decode cX9_rate 69 = .ok (.iload_n 1, 1) := by decide +kernel
theorem dX9_rate_70 : decode cX9_rate 70 = .ok (.imul, 1) := by decide +kernel
theorem dX9_rate_71 : decode cX9_rate 71 = .ok (.iload_n 2, 1) := by decide +kernel
theorem dX9_rate_72 : decode cX9_rate 72 = .ok (.iadd, 1) := by decide +kernel
theorem dX9_rate_73 : decode cX9_rate 73 = .ok (.iload_n 3, 1) := by decide +kernel
theorem dX9_rate_74 : decode cX9_rate 74 = .ok (.iastore, 1) := by decide +kernel
theorem dX9_rate_75 : decode cX9_rate 75 = .ok (.iload 4, 2) := by decide +kernel
theorem dX9_rate_77 : decode cX9_rate 77 = .ok (.ireturn, 1) := by decide +kernel
set_option maxRecDepth 20000 in
theorem ggX9_weather_X9_isIn : GoodIn wsX9_weather wsX9_isIn := goodIn_r _ [6] (by decide +kernel) (by decide +kernel)
set_option maxRecDepth 20000 in
theorem gX9_weather_X9_isIn : GoodIn wsX9_weather (va_wsS RX9 134 yX9_isIn wsX9_isIn) := goodIn_app (goodIn_of _ (by decide +kernel)) ggX9_weather_X9_isIn
set_option maxRecDepth 20000 in
theorem ggX9_weather_X9_refuse : GoodIn wsX9_weather wsX9_refuse := goodIn_r _ [10, 11, 12, 13, 14, 15, 16, 17, 18, 19, 20, 21, 22, 23, 24, 25, 26, 27, 28, 29, 30, 31, 32, 33, 34, 35, 36, 37, 38, 39, 40, 41, 42, 43, 44, 45, 46, 47, 48, 49, 50, 51, 52, 53, 54, 55, 56, 57, 58, 59, 60, 61, 62] (by decide +kernel) (by decide +kernel)
set_option maxRecDepth 20000 in
theorem gX9_weather_X9_refuse : GoodIn wsX9_weather (wsV RX9 122 RX9 yX9_refuse wsX9_refuse) := goodIn_app (goodIn_of _ (by decide +kernel)) ggX9_weather_X9_refuse
theorem dX9_weather_0 : decode cX9_weather 0 = .ok (.iload_n 2, 1) := by decide +kernel
theorem dX9_weather_1 : decode cX9_weather 1 = .ok (.bipush 10, 2) := by decide +kernel
theorem dX9_weather_3 : decode cX9_weather 3 = .ok (.invokestatic 134, 3) := by decide +kernel
theorem dX9_weather_6 : decode cX9_weather 6 = .ok (.ifCond .eq 12, 3) := by decide +kernel
theorem dX9_weather_9 : decode cX9_weather 9 = .ok (.iload_n 3, 1) := by decide +kernel
theorem dX9_weather_10 : decode cX9_weather 10 = .ok (.bipush 10, 2) := by decide +kernel
theorem dX9_weather_12 : decode cX9_weather 12 = .ok (.invokestatic 134, 3) := by decide +kernel
theorem dX9_weather_15 : decode cX9_weather 15 = .ok (.ifCond .ne 10, 3) := by decide +kernel
theorem dX9_weather_18 : decode cX9_weather 18 = .ok (.aload_n 0, 1) := by decide +kernel
theorem dX9_weather_19 : decode cX9_weather 19 = .ok (.bipush (-2), 2) := by decide +kernel
theorem dX9_weather_21 : decode cX9_weather 21 = .ok (.invokevirtual 122, 3) := by decide +kernel
theorem dX9_weather_24 : decode cX9_weather 24 = .ok (.ireturn, 1) := by decide +kernel
theorem dX9_weather_25 : decode cX9_weather 25 = .ok (.iload_n 1, 1) := by decide +kernel
theorem dX9_weather_26 : decode cX9_weather 26 = .ok (.ifCond .ge 10, 3) := by decide +kernel
theorem dX9_weather_29 : decode cX9_weather 29 = .ok (.aload_n 0, 1) := by decide +kernel
theorem dX9_weather_30 : decode cX9_weather 30 = .ok (.bipush (-4), 2) := by decide +kernel
theorem dX9_weather_32 : decode cX9_weather 32 = .ok (.invokevirtual 122, 3) := by decide +kernel
theorem dX9_weather_35 : decode cX9_weather 35 = .ok (.ireturn, 1) := by decide +kernel
theorem dX9_weather_36 : decode cX9_weather 36 = .ok (.iload_n 1, 1) := by decide +kernel
theorem dX9_weather_37 : decode cX9_weather 37 = .ok (.sipush 720, 3) := by decide +kernel
theorem dX9_weather_40 : decode cX9_weather 40 = .ok (.if_icmp .le 10, 3) := by decide +kernel
theorem dX9_weather_43 : decode cX9_weather 43 = .ok (.aload_n 0, 1) := by decide +kernel
theorem dX9_weather_44 : decode cX9_weather 44 = .ok (.bipush (-6), 2) := by decide +kernel
theorem dX9_weather_46 : decode cX9_weather 46 = .ok (.invokevirtual 122, 3) := by decide +kernel
theorem dX9_weather_49 : decode cX9_weather 49 = .ok (.ireturn, 1) := by decide +kernel
theorem dX9_weather_50 : decode cX9_weather 50 = .ok (.aload_n 0, 1) := by decide +kernel
theorem dX9_weather_51 : decode cX9_weather 51 = .ok (.getfield 44, 3) := by decide +kernel
theorem dX9_weather_54 : decode cX9_weather 54 = .ok (.iload_n 1, 1) := by decide +kernel
theorem dX9_weather_55 : decode cX9_weather 55 = .ok (.iload_n 2, 1) := by decide +kernel
theorem dX9_weather_56 : decode cX9_weather 56 = .ok (.iastore, 1) := by decide +kernel
theorem dX9_weather_57 : decode cX9_weather 57 = .ok (.aload_n 0, 1) := by decide +kernel
theorem dX9_weather_58 : decode cX9_weather 58 = .ok (.getfield 47, 3) := by decide +kernel
theorem dX9_weather_61 : decode cX9_weather 61 = .ok (.iload_n 1, 1) := by decide +kernel
theorem dX9_weather_62 : decode cX9_weather 62 = .ok (.iload_n 3, 1) := by decide +kernel
theorem dX9_weather_63 : decode cX9_weather 63 = .ok (.iastore, 1) := by decide +kernel
theorem dX9_weather_64 : decode cX9_weather 64 = .ok (.iconst 1, 1) := by decide +kernel
theorem dX9_weather_65 : decode cX9_weather 65 = .ok (.ireturn, 1) := by decide +kernel
set_option maxRecDepth 20000 in
theorem ggX9_right_X9_isIn : GoodIn wsX9_right wsX9_isIn := goodIn_r _ [9] (by decide +kernel) (by decide +kernel)
set_option maxRecDepth 20000 in
theorem gX9_right_X9_isIn : GoodIn wsX9_right (va_wsS RX9 134 yX9_isIn wsX9_isIn) := goodIn_app (goodIn_of _ (by decide +kernel)) ggX9_right_X9_isIn
set_option maxRecDepth 20000 in
theorem ggX9_right_X9_refuse : GoodIn wsX9_right wsX9_refuse := goodIn_r _ [13, 14, 27, 28, 29, 30, 31, 32, 33, 34, 35, 36, 37, 38, 39, 40, 41, 42, 43, 44, 45, 46, 47, 48, 49, 50, 51, 52, 53, 54, 55, 56, 57, 58, 59, 60, 61, 62, 63, 64, 65, 66, 67, 68, 69, 70, 71, 72, 73, 74, 75, 76, 77] (by decide +kernel) (by decide +kernel)
set_option maxRecDepth 20000 in
theorem gX9_right_X9_refuse : GoodIn wsX9_right (wsV RX9 122 RX9 yX9_refuse wsX9_refuse) := goodIn_app (goodIn_of _ (by decide +kernel)) ggX9_right_X9_refuse
theorem dX9_right_0 : decode cX9_right 0 = .ok (.iload_n 1, 1) := by decide +kernel
theorem dX9_right_1 : decode cX9_right 1 = .ok (.iconst 4, 1) := by decide +kernel
theorem dX9_right_2 : decode cX9_right 2 = .ok (.invokestatic 134, 3) := by decide +kernel
theorem dX9_right_5 : decode cX9_right 5 = .ok (.ifCond .ne 10, 3) := by decide +kernel
theorem dX9_right_8 : decode cX9_right 8 = .ok (.aload_n 0, 1) := by decide +kernel
theorem dX9_right_9 : decode cX9_right 9 = .ok (.bipush (-2), 2) := by decide +kernel
theorem dX9_right_11 : decode cX9_right 11 = .ok (.invokevirtual 122, 3) := by decide +kernel
theorem dX9_right_14 : decode cX9_right 14 = .ok (.ireturn, 1) := by decide +kernel
theorem dX9_right_15 : decode cX9_right 15 = .ok (.iload_n 2, 1) := by decide +kernel
theorem dX9_right_16 : decode cX9_right 16 = .ok (.iload_n 1, 1) := by decide +kernel
theorem dX9_right_17 : decode cX9_right 17 = .ok (.iconst 1, 1) := by decide +kernel
theorem dX9_right_18 : decode cX9_right 18 = .ok (.if_icmp .ne 10, 3) := by decide +kernel
theorem dX9_right_21 : decode cX9_right 21 = .ok (.aload_n 0, 1) := by decide +kernel
theorem dX9_right_22 : decode cX9_right 22 = .ok (.getfield 138, 3) := by decide +kernel
theorem dX9_right_25 : decode cX9_right 25 = .ok (.goto 7, 3) := by decide +kernel
theorem dX9_right_28 : decode cX9_right 28 = .ok (.aload_n 0, 1) := by decide +kernel
theorem dX9_right_29 : decode cX9_right 29 = .ok (.getfield 131, 3) := by decide +kernel
theorem dX9_right_32 : decode cX9_right 32 = .ok (.invokestatic 134, 3) := by decide +kernel
theorem dX9_right_35 : decode cX9_right 35 = .ok (.ifCond .eq 20, 3) := by decide +kernel
theorem dX9_right_55 : decode cX9_right 55 = .ok (.aload_n 0, 1) := by decide +kernel
theorem dX9_right_56 : decode cX9_right 56 = .ok (.iconst (-1), 1) := by decide +kernel
theorem dX9_right_57 : decode cX9_right 57 = .ok (.invokevirtual 122, 3) := by decide +kernel
theorem dX9_right_60 : decode cX9_right 60 = .ok (.ireturn, 1) := by decide +kernel
set_option maxRecDepth 20000 in
theorem ggX9_lend_X9_isIn : GoodIn wsX9_lend wsX9_isIn := goodIn_r _ [9] (by decide +kernel) (by decide +kernel)
set_option maxRecDepth 20000 in
theorem gX9_lend_X9_isIn : GoodIn wsX9_lend (va_wsS RX9 134 yX9_isIn wsX9_isIn) := goodIn_app (goodIn_of _ (by decide +kernel)) ggX9_lend_X9_isIn
set_option maxRecDepth 20000 in
theorem ggX9_lend_X9_refuse : GoodIn wsX9_lend wsX9_refuse := goodIn_r _ [19, 20, 39, 40, 41, 42, 43, 44, 45, 46, 47, 48, 49, 50, 51, 52, 53, 54, 55, 56, 57, 58, 59, 60, 61, 62, 63, 64, 65, 66, 67, 68, 69, 70, 71, 72, 73, 74, 75, 76, 77, 78, 79, 80, 81, 82, 83, 84, 85, 86, 87, 88, 89] (by decide +kernel) (by decide +kernel)
set_option maxRecDepth 20000 in
theorem gX9_lend_X9_refuse : GoodIn wsX9_lend (wsV RX9 122 RX9 yX9_refuse wsX9_refuse) := goodIn_app (goodIn_of _ (by decide +kernel)) ggX9_lend_X9_refuse
theorem dX9_lend_0 : decode cX9_lend 0 = .ok (.iload_n 1, 1) := by decide +kernel
theorem dX9_lend_1 : decode cX9_lend 1 = .ok (.aload_n 0, 1) := by decide +kernel
theorem dX9_lend_2 : decode cX9_lend 2 = .ok (.getfield 148, 3) := by decide +kernel
theorem dX9_lend_5 : decode cX9_lend 5 = .ok (.invokestatic 134, 3) := by decide +kernel
theorem dX9_lend_8 : decode cX9_lend 8 = .ok (.ifCond .eq 23, 3) := by decide +kernel
theorem dX9_lend_31 : decode cX9_lend 31 = .ok (.aload_n 0, 1) := by decide +kernel
theorem dX9_lend_32 : decode cX9_lend 32 = .ok (.iconst (-1), 1) := by decide +kernel
theorem dX9_lend_33 : decode cX9_lend 33 = .ok (.invokevirtual 122, 3) := by decide +kernel
theorem dX9_lend_36 : decode cX9_lend 36 = .ok (.ireturn, 1) := by decide +kernel
set_option maxRecDepth 20000 in
theorem ggX9_sell_X9_isIn : GoodIn wsX9_sell wsX9_isIn := goodIn_r _ [8] (by decide +kernel) (by decide +kernel)
set_option maxRecDepth 20000 in
theorem gX9_sell_X9_isIn : GoodIn wsX9_sell (va_wsS RX9 134 yX9_isIn wsX9_isIn) := goodIn_app (goodIn_of _ (by decide +kernel)) ggX9_sell_X9_isIn
set_option maxRecDepth 20000 in
theorem ggX9_sell_X9_refuse : GoodIn wsX9_sell wsX9_refuse := goodIn_r _ [17, 18, 27, 28, 29, 30, 31, 32, 33, 34, 35, 36, 37, 38, 39, 40, 41, 42, 43, 44, 45, 46, 47, 48, 49, 50, 51, 52, 53, 54, 55, 56, 57, 58, 59, 60, 61, 62, 63, 64, 65, 66, 67, 68, 69, 70, 71, 72, 73, 74, 75, 76, 77] (by decide +kernel) (by decide +kernel)
set_option maxRecDepth 20000 in
theorem gX9_sell_X9_refuse : GoodIn wsX9_sell (wsV RX9 122 RX9 yX9_refuse wsX9_refuse) := goodIn_app (goodIn_of _ (by decide +kernel)) ggX9_sell_X9_refuse
theorem dX9_sell_0 : decode cX9_sell 0 = .ok (.iload_n 1, 1) := by decide +kernel
theorem dX9_sell_1 : decode cX9_sell 1 = .ok (.aload_n 0, 1) := by decide +kernel
theorem dX9_sell_2 : decode cX9_sell 2 = .ok (.getfield 148, 3) := by decide +kernel
theorem dX9_sell_5 : decode cX9_sell 5 = .ok (.invokestatic 134, 3) := by decide +kernel
theorem dX9_sell_8 : decode cX9_sell 8 = .ok (.ifCond .eq 23, 3) := by decide +kernel
theorem dX9_sell_31 : decode cX9_sell 31 = .ok (.aload_n 0, 1) := by decide +kernel
theorem dX9_sell_32 : decode cX9_sell 32 = .ok (.iconst (-1), 1) := by decide +kernel
theorem dX9_sell_33 : decode cX9_sell 33 = .ok (.invokevirtual 122, 3) := by decide +kernel
theorem dX9_sell_36 : decode cX9_sell 36 = .ok (.ireturn, 1) := by decide +kernel
set_option maxRecDepth 20000 in
theorem ggX9_move_X9_isIn : GoodIn wsX9_move wsX9_isIn := goodIn_r _ [7] (by decide +kernel) (by decide +kernel)
set_option maxRecDepth 20000 in
theorem gX9_move_X9_isIn : GoodIn wsX9_move (va_wsS RX9 134 yX9_isIn wsX9_isIn) := goodIn_app (goodIn_of _ (by decide +kernel)) ggX9_move_X9_isIn
set_option maxRecDepth 20000 in
theorem ggX9_move_X9_refuse : GoodIn wsX9_move wsX9_refuse := goodIn_r _ [11, 12, 13, 14, 15, 16, 17, 18, 19, 20, 21, 22, 23, 24, 25, 26, 27, 28, 29, 30, 31, 32, 33, 34, 35, 36, 37, 38, 39, 40, 41, 42, 43, 44, 45, 46, 47, 48, 49, 50, 51, 52, 53, 54, 55, 56, 57, 58, 59, 60, 61, 62, 63] (by decide +kernel) (by decide +kernel)
set_option maxRecDepth 20000 in
theorem gX9_move_X9_refuse : GoodIn wsX9_move (wsV RX9 122 RX9 yX9_refuse wsX9_refuse) := goodIn_app (goodIn_of _ (by decide +kernel)) ggX9_move_X9_refuse
theorem dX9_move_0 : decode cX9_move 0 = .ok (.iload_n 1, 1) := by decide +kernel
theorem dX9_move_1 : decode cX9_move 1 = .ok (.aload_n 0, 1) := by decide +kernel
theorem dX9_move_2 : decode cX9_move 2 = .ok (.getfield 138, 3) := by decide +kernel
theorem dX9_move_5 : decode cX9_move 5 = .ok (.invokestatic 134, 3) := by decide +kernel
theorem dX9_move_8 : decode cX9_move 8 = .ok (.ifCond .eq 24, 3) := by decide +kernel
theorem dX9_move_32 : decode cX9_move 32 = .ok (.aload_n 0, 1) := by decide +kernel
theorem dX9_move_33 : decode cX9_move 33 = .ok (.iconst (-1), 1) := by decide +kernel
theorem dX9_move_34 : decode cX9_move 34 = .ok (.invokevirtual 122, 3) := by decide +kernel
theorem dX9_move_37 : decode cX9_move 37 = .ok (.ireturn, 1) := by decide +kernel
set_option maxRecDepth 20000 in
theorem ggX9_herd_X9_isIn : GoodIn wsX9_herd wsX9_isIn := goodIn_r _ [10] (by decide +kernel) (by decide +kernel)
set_option maxRecDepth 20000 in
theorem gX9_herd_X9_isIn : GoodIn wsX9_herd (va_wsS RX9 134 yX9_isIn wsX9_isIn) := goodIn_app (goodIn_of _ (by decide +kernel)) ggX9_herd_X9_isIn
set_option maxRecDepth 20000 in
theorem ggX9_herd_X9_refuse : GoodIn wsX9_herd wsX9_refuse := goodIn_r _ [14, 15, 16, 17, 18, 19, 20, 21, 22, 23, 24, 25, 26, 27, 28, 29, 30, 31, 32, 33, 34, 35, 36, 37, 38, 39, 40, 41, 42, 43, 44, 45, 46, 47, 48, 49, 50, 51, 52, 53, 54, 55, 56, 57, 58, 59, 60, 61, 62, 63, 64, 65, 66] (by decide +kernel) (by decide +kernel)
set_option maxRecDepth 20000 in
theorem gX9_herd_X9_refuse : GoodIn wsX9_herd (wsV RX9 122 RX9 yX9_refuse wsX9_refuse) := goodIn_app (goodIn_of _ (by decide +kernel)) ggX9_herd_X9_refuse
theorem dX9_herd_0 : decode cX9_herd 0 = .ok (.iload_n 1, 1) := by decide +kernel
theorem dX9_herd_1 : decode cX9_herd 1 = .ok (.aload_n 0, 1) := by decide +kernel
theorem dX9_herd_2 : decode cX9_herd 2 = .ok (.getfield 131, 3) := by decide +kernel
theorem dX9_herd_5 : decode cX9_herd 5 = .ok (.invokestatic 134, 3) := by decide +kernel
theorem dX9_herd_8 : decode cX9_herd 8 = .ok (.ifCond .ne 9, 3) := by decide +kernel
theorem dX9_herd_11 : decode cX9_herd 11 = .ok (.aload_n 0, 1) := by decide +kernel
theorem dX9_herd_12 : decode cX9_herd 12 = .ok (.iconst (-1), 1) := by decide +kernel
theorem dX9_herd_13 : decode cX9_herd 13 = .ok (.invokevirtual 122, 3) := by decide +kernel
theorem dX9_herd_16 : decode cX9_herd 16 = .ok (.ireturn, 1) := by decide +kernel
set_option maxRecDepth 20000 in
theorem ggX9_put_X9_isIn : GoodIn wsX9_put wsX9_isIn := goodIn_r _ [11] (by decide +kernel) (by decide +kernel)
set_option maxRecDepth 20000 in
theorem gX9_put_X9_isIn : GoodIn wsX9_put (va_wsS RX9 134 yX9_isIn wsX9_isIn) := goodIn_app (goodIn_of _ (by decide +kernel)) ggX9_put_X9_isIn
set_option maxRecDepth 20000 in
theorem ggX9_put_X9_refuse : GoodIn wsX9_put wsX9_refuse := goodIn_r _ [15, 16, 69, 70, 71, 72, 73, 74, 75, 76, 77, 78, 79, 80, 81, 82, 83, 84, 85, 86, 87, 88, 89, 90, 91, 92, 93, 94, 95, 96, 97, 98, 99, 100, 101, 102, 103, 104, 105, 106, 107, 108, 109, 110, 111, 112, 113, 114, 115, 116, 117, 118, 119] (by decide +kernel) (by decide +kernel)
set_option maxRecDepth 20000 in
theorem gX9_put_X9_refuse : GoodIn wsX9_put (wsV RX9 122 RX9 yX9_refuse wsX9_refuse) := goodIn_app (goodIn_of _ (by decide +kernel)) ggX9_put_X9_refuse
theorem dX9_put_0 : decode cX9_put 0 = .ok (.iload_n 1, 1) := by decide +kernel
theorem dX9_put_1 : decode cX9_put 1 = .ok (.aload_n 0, 1) := by decide +kernel
theorem dX9_put_2 : decode cX9_put 2 = .ok (.getfield 164, 3) := by decide +kernel
theorem dX9_put_5 : decode cX9_put 5 = .ok (.invokestatic 134, 3) := by decide +kernel
theorem dX9_put_8 : decode cX9_put 8 = .ok (.ifCond .eq 14, 3) := by decide +kernel
theorem dX9_put_22 : decode cX9_put 22 = .ok (.aload_n 0, 1) := by decide +kernel
theorem dX9_put_23 : decode cX9_put 23 = .ok (.iconst (-1), 1) := by decide +kernel
theorem dX9_put_24 : decode cX9_put 24 = .ok (.invokevirtual 122, 3) := by decide +kernel
theorem dX9_put_27 : decode cX9_put 27 = .ok (.ireturn, 1) := by decide +kernel
set_option maxRecDepth 20000 in
theorem ggX9_drive_X9_isIn : GoodIn wsX9_drive wsX9_isIn := goodIn_r _ [10] (by decide +kernel) (by decide +kernel)
set_option maxRecDepth 20000 in
theorem gX9_drive_X9_isIn : GoodIn wsX9_drive (va_wsS RX9 134 yX9_isIn wsX9_isIn) := goodIn_app (goodIn_of _ (by decide +kernel)) ggX9_drive_X9_isIn
set_option maxRecDepth 20000 in
theorem ggX9_drive_X9_refuse : GoodIn wsX9_drive wsX9_refuse := goodIn_r _ [14, 15, 22, 23, 24, 25, 26, 27, 28, 29, 30, 31, 32, 33, 34, 35, 36, 37, 38, 39, 40, 41, 42, 43, 44, 45, 46, 47, 48, 49, 50, 51, 52, 53, 54, 55, 56, 57, 58, 59, 60, 61, 62, 63, 64, 65, 66, 67, 68, 69, 70, 71, 72] (by decide +kernel) (by decide +kernel)
set_option maxRecDepth 20000 in
theorem gX9_drive_X9_refuse : GoodIn wsX9_drive (wsV RX9 122 RX9 yX9_refuse wsX9_refuse) := goodIn_app (goodIn_of _ (by decide +kernel)) ggX9_drive_X9_refuse
theorem dX9_drive_0 : decode cX9_drive 0 = .ok (.iload_n 1, 1) := by decide +kernel
theorem dX9_drive_1 : decode cX9_drive 1 = .ok (.aload_n 0, 1) := by decide +kernel
theorem dX9_drive_2 : decode cX9_drive 2 = .ok (.getfield 164, 3) := by decide +kernel
theorem dX9_drive_5 : decode cX9_drive 5 = .ok (.invokestatic 134, 3) := by decide +kernel
theorem dX9_drive_8 : decode cX9_drive 8 = .ok (.ifCond .eq 19, 3) := by decide +kernel
theorem dX9_drive_27 : decode cX9_drive 27 = .ok (.aload_n 0, 1) := by decide +kernel
theorem dX9_drive_28 : decode cX9_drive 28 = .ok (.iconst (-1), 1) := by decide +kernel
theorem dX9_drive_29 : decode cX9_drive 29 = .ok (.invokevirtual 122, 3) := by decide +kernel
theorem dX9_drive_32 : decode cX9_drive 32 = .ok (.ireturn, 1) := by decide +kernel
set_option maxRecDepth 20000 in
theorem ggX9_covered_X9_isIn : GoodIn wsX9_covered wsX9_isIn := goodIn_r _ [5] (by decide +kernel) (by decide +kernel)
set_option maxRecDepth 20000 in
theorem gX9_covered_X9_isIn : GoodIn wsX9_covered (va_wsS RX9 134 yX9_isIn wsX9_isIn) := goodIn_app (goodIn_of _ (by decide +kernel)) ggX9_covered_X9_isIn
set_option maxRecDepth 20000 in
theorem ggX9_covered_X9_refuse : GoodIn wsX9_covered wsX9_refuse := goodIn_r _ [61, 62, 63, 64, 65, 66, 67, 68, 69, 70, 71, 72, 73, 74, 75, 76, 77, 78, 79, 80, 81, 82, 83, 84, 85, 86, 87, 88, 89, 90, 91, 92, 93, 94, 95, 96, 97, 98, 99, 100, 101, 102, 103, 104, 105, 106, 107, 108, 109, 110, 111, 112, 113] (by decide +kernel) (by decide +kernel)
set_option maxRecDepth 20000 in
theorem gX9_covered_X9_refuse : GoodIn wsX9_covered (wsV RX9 122 RX9 yX9_refuse wsX9_refuse) := goodIn_app (goodIn_of _ (by decide +kernel)) ggX9_covered_X9_refuse
theorem dX9_covered_0 : decode cX9_covered 0 = .ok (.iload_n 1, 1) := by decide +kernel
theorem dX9_covered_1 : decode cX9_covered 1 = .ok (.aload_n 0, 1) := by decide +kernel
theorem dX9_covered_2 : decode cX9_covered 2 = .ok (.getfield 131, 3) := by decide +kernel
theorem dX9_covered_5 : decode cX9_covered 5 = .ok (.invokestatic 134, 3) := by decide +kernel
theorem dX9_covered_8 : decode cX9_covered 8 = .ok (.ifCond .eq 19, 3) := by decide +kernel
theorem dX9_covered_27 : decode cX9_covered 27 = .ok (.aload_n 0, 1) := by decide +kernel
theorem dX9_covered_28 : decode cX9_covered 28 = .ok (.iconst (-1), 1) := by decide +kernel
theorem dX9_covered_29 : decode cX9_covered 29 = .ok (.invokevirtual 122, 3) := by decide +kernel
theorem dX9_covered_32 : decode cX9_covered 32 = .ok (.ireturn, 1) := by decide +kernel
set_option maxRecDepth 20000 in
theorem ggX9_lacks_X9_isIn : GoodIn wsX9_lacks wsX9_isIn := goodIn_r _ [5] (by decide +kernel) (by decide +kernel)
set_option maxRecDepth 20000 in
theorem gX9_lacks_X9_isIn : GoodIn wsX9_lacks (va_wsS RX9 134 yX9_isIn wsX9_isIn) := goodIn_app (goodIn_of _ (by decide +kernel)) ggX9_lacks_X9_isIn
set_option maxRecDepth 20000 in
theorem ggX9_lacks_X9_refuse : GoodIn wsX9_lacks wsX9_refuse := goodIn_r _ [61, 62, 63, 64, 65, 66, 67, 68, 69, 70, 71, 72, 73, 74, 75, 76, 77, 78, 79, 80, 81, 82, 83, 84, 85, 86, 87, 88, 89, 90, 91, 92, 93, 94, 95, 96, 97, 98, 99, 100, 101, 102, 103, 104, 105, 106, 107, 108, 109, 110, 111, 112, 113] (by decide +kernel) (by decide +kernel)
set_option maxRecDepth 20000 in
theorem gX9_lacks_X9_refuse : GoodIn wsX9_lacks (wsV RX9 122 RX9 yX9_refuse wsX9_refuse) := goodIn_app (goodIn_of _ (by decide +kernel)) ggX9_lacks_X9_refuse
theorem dX9_lacks_0 : decode cX9_lacks 0 = .ok (.iload_n 1, 1) := by decide +kernel
theorem dX9_lacks_1 : decode cX9_lacks 1 = .ok (.aload_n 0, 1) := by decide +kernel
theorem dX9_lacks_2 : decode cX9_lacks 2 = .ok (.getfield 131, 3) := by decide +kernel
theorem dX9_lacks_5 : decode cX9_lacks 5 = .ok (.invokestatic 134, 3) := by decide +kernel
theorem dX9_lacks_8 : decode cX9_lacks 8 = .ok (.ifCond .eq 11, 3) := by decide +kernel
theorem dX9_lacks_19 : decode cX9_lacks 19 = .ok (.aload_n 0, 1) := by decide +kernel
theorem dX9_lacks_20 : decode cX9_lacks 20 = .ok (.iconst (-1), 1) := by decide +kernel
theorem dX9_lacks_21 : decode cX9_lacks 21 = .ok (.invokevirtual 122, 3) := by decide +kernel
theorem dX9_lacks_24 : decode cX9_lacks 24 = .ok (.ireturn, 1) := by decide +kernel
set_option maxRecDepth 20000 in
theorem ggX9_over_X9_isIn : GoodIn wsX9_over wsX9_isIn := goodIn_r _ [10] (by decide +kernel) (by decide +kernel)
set_option maxRecDepth 20000 in
theorem gX9_over_X9_isIn : GoodIn wsX9_over (va_wsS RX9 134 yX9_isIn wsX9_isIn) := goodIn_app (goodIn_of _ (by decide +kernel)) ggX9_over_X9_isIn
set_option maxRecDepth 20000 in
theorem ggX9_over_X9_refuse : GoodIn wsX9_over wsX9_refuse := goodIn_r _ [14, 15, 34, 35, 36, 37, 38, 39, 40, 41, 42, 43, 44, 45, 46, 47, 48, 49, 50, 51, 52, 53, 54, 55, 56, 57, 58, 59, 60, 61, 62, 63, 64, 65, 66, 67, 68, 69, 70, 71, 72, 73, 74, 75, 76, 77, 78, 79, 80, 81, 82, 83, 84] (by decide +kernel) (by decide +kernel)
set_option maxRecDepth 20000 in
theorem gX9_over_X9_refuse : GoodIn wsX9_over (wsV RX9 122 RX9 yX9_refuse wsX9_refuse) := goodIn_app (goodIn_of _ (by decide +kernel)) ggX9_over_X9_refuse
theorem dX9_over_0 : decode cX9_over 0 = .ok (.iload_n 1, 1) := by decide +kernel
theorem dX9_over_1 : decode cX9_over 1 = .ok (.aload_n 0, 1) := by decide +kernel
theorem dX9_over_2 : decode cX9_over 2 = .ok (.getfield 127, 3) := by decide +kernel
theorem dX9_over_5 : decode cX9_over 5 = .ok (.invokestatic 134, 3) := by decide +kernel
theorem dX9_over_8 : decode cX9_over 8 = .ok (.ifCond .ne 9, 3) := by decide +kernel
theorem dX9_over_11 : decode cX9_over 11 = .ok (.aload_n 0, 1) := by decide +kernel
theorem dX9_over_12 : decode cX9_over 12 = .ok (.iconst (-1), 1) := by decide +kernel
theorem dX9_over_13 : decode cX9_over 13 = .ok (.invokevirtual 122, 3) := by decide +kernel
theorem dX9_over_16 : decode cX9_over 16 = .ok (.ireturn, 1) := by decide +kernel
theorem dX9_goes_0 : decode cX9_goes 0 = .ok (.iconst 0, 1) := by decide +kernel
theorem dX9_goes_1 : decode cX9_goes 1 = .ok (.istore 5, 2) := by decide +kernel
theorem dX9_goes_3 : decode cX9_goes 3 = .ok (.iload 5, 2) := by decide +kernel
theorem dX9_goes_5 : decode cX9_goes 5 = .ok (.aload_n 0, 1) := by decide +kernel
theorem dX9_goes_6 : decode cX9_goes 6 = .ok (.getfield 164, 3) := by decide +kernel
theorem dX9_goes_9 : decode cX9_goes 9 = .ok (.if_icmp .ge 17, 3) := by decide +kernel
theorem dX9_goes_12 : decode cX9_goes 12 = .ok (.aload_n 0, 1) := by decide +kernel
theorem dX9_goes_13 : decode cX9_goes 13 = .ok (.getfield 104, 3) := by decide +kernel
theorem dX9_goes_16 : decode cX9_goes 16 = .ok (.iload 5, 2) := by decide +kernel
theorem dX9_goes_18 : decode cX9_goes 18 = .ok (.iconst 0, 1) := by decide +kernel
theorem dX9_goes_19 : decode cX9_goes 19 = .ok (.iastore, 1) := by decide +kernel
theorem dX9_goes_20 : decode cX9_goes 20 = .ok (.iinc 5 1, 3) := by decide +kernel
theorem dX9_goes_23 : decode cX9_goes 23 = .ok (.goto (-20), 3) := by decide +kernel
theorem dX9_goes_26 : decode cX9_goes 26 = .ok (.aload_n 0, 1) := by decide +kernel
theorem dX9_goes_27 : decode cX9_goes 27 = .ok (.getfield 44, 3) := by decide +kernel
theorem dX9_goes_30 : decode cX9_goes 30 = .ok (.iload_n 3, 1) := by decide +kernel
theorem dX9_goes_31 : decode cX9_goes 31 = .ok (.iaload, 1) := by decide +kernel
theorem dX9_goes_32 : decode cX9_goes 32 = .ok (.istore 5, 2) := by decide +kernel
theorem dX9_goes_34 : decode cX9_goes 34 = .ok (.aload_n 0, 1) := by decide +kernel
theorem dX9_goes_35 : decode cX9_goes 35 = .ok (.getfield 41, 3) := by decide +kernel
theorem dX9_goes_38 : decode cX9_goes 38 = .ok (.bipush 10, 2) := by decide +kernel
theorem dX9_goes_40 : decode cX9_goes 40 = .ok (.iload 5, 2) := by decide +kernel
theorem dX9_goes_42 : decode cX9_goes 42 = .ok (.imul, 1) := by decide +kernel
theorem dX9_goes_43 : decode cX9_goes 43 = .ok (.aload_n 0, 1) := by decide +kernel
theorem dX9_goes_44 : decode cX9_goes 44 = .ok (.getfield 47, 3) := by decide +kernel
theorem dX9_goes_47 : decode cX9_goes 47 = .ok (.iload_n 3, 1) := by decide +kernel
theorem dX9_goes_48 : decode cX9_goes 48 = .ok (.iaload, 1) := by decide +kernel
theorem dX9_goes_49 : decode cX9_goes 49 = .ok (.iadd, 1) := by decide +kernel
theorem dX9_goes_50 : decode cX9_goes 50 = .ok (.iaload, 1) := by decide +kernel
theorem dX9_goes_51 : decode cX9_goes 51 = .ok (.istore 6, 2) := by decide +kernel
theorem dX9_goes_53 : decode cX9_goes 53 = .ok (.iconst 0, 1) := by decide +kernel
theorem dX9_goes_54 : decode cX9_goes 54 = .ok (.istore 7, 2) := by decide +kernel
theorem dX9_goes_56 : decode cX9_goes 56 = .ok (.iload 7, 2) := by decide +kernel
theorem dX9_goes_58 : decode cX9_goes 58 = .ok (.aload_n 0, 1) := by decide +kernel
theorem dX9_goes_59 : decode cX9_goes 59 = .ok (.getfield 127, 3) := by decide +kernel
theorem dX9_goes_62 : decode cX9_goes 62 = .ok (.if_icmp .ge 248, 3) := by decide +kernel
theorem dX9_goes_65 : decode cX9_goes 65 = .ok (.iconst 0, 1) := by decide +kernel
theorem dX9_goes_66 : decode cX9_goes 66 = .ok (.istore 8, 2) := by decide +kernel
theorem dX9_goes_68 : decode cX9_goes 68 = .ok (.iconst 0, 1) := by decide +kernel
theorem dX9_goes_69 : decode cX9_goes 69 = .ok (.istore 9, 2) := by decide +kernel
theorem dX9_goes_71 : decode cX9_goes 71 = .ok (.iload 9, 2) := by decide +kernel
theorem dX9_goes_73 : decode cX9_goes 73 = .ok (.aload_n 0, 1) := by decide +kernel
theorem dX9_goes_74 : decode cX9_goes 74 = .ok (.getfield 164, 3) := by decide +kernel
theorem dX9_goes_77 : decode cX9_goes 77 = .ok (.if_icmp .ge 33, 3) := by decide +kernel
theorem dX9_goes_80 : decode cX9_goes 80 = .ok (.iload 8, 2) := by decide +kernel
theorem dX9_goes_82 : decode cX9_goes 82 = .ok (.aload_n 2, 1) := by decide +kernel
theorem dX9_goes_83 : decode cX9_goes 83 = .ok (.iload 9, 2) := by decide +kernel
theorem dX9_goes_85 : decode cX9_goes 85 = .ok (.iaload, 1) := by decide +kernel
theorem dX9_goes_86 : decode cX9_goes 86 = .ok (.iload 7, 2) := by decide +kernel
theorem dX9_goes_88 : decode cX9_goes 88 = .ok (.if_icmp .ne 12, 3) := by decide +kernel
theorem dX9_goes_91 : decode cX9_goes 91 = .ok (.aload_n 0, 1) := by decide +kernel
theorem dX9_goes_92 : decode cX9_goes 92 = .ok (.iload 9, 2) := by decide +kernel
theorem dX9_goes_94 : decode cX9_goes 94 = .ok (.invokevirtual 170, 3) := by decide +kernel
theorem dX9_goes_97 : decode cX9_goes 97 = .ok (.goto 4, 3) := by decide +kernel
theorem dX9_goes_100 : decode cX9_goes 100 = .ok (.iconst 0, 1) := by decide +kernel
theorem dX9_goes_101 : decode cX9_goes 101 = .ok (.iadd, 1) := by decide +kernel
theorem dX9_goes_102 : decode cX9_goes 102 = .ok (.istore 8, 2) := by decide +kernel
theorem dX9_goes_104 : decode cX9_goes 104 = .ok (.iinc 9 1, 3) := by decide +kernel
theorem dX9_goes_107 : decode cX9_goes 107 = .ok (.goto (-36), 3) := by decide +kernel
theorem dX9_goes_110 : decode cX9_goes 110 = .ok (.iload 5, 2) := by decide +kernel
theorem dX9_goes_112 : decode cX9_goes 112 = .ok (.bipush 8, 2) := by decide +kernel
theorem dX9_goes_114 : decode cX9_goes 114 = .ok (.if_icmp .lt 26, 3) := by decide +kernel
theorem dX9_goes_117 : decode cX9_goes 117 = .ok (.iload 8, 2) := by decide +kernel
theorem dX9_goes_119 : decode cX9_goes 119 = .ok (.ifCond .le 21, 3) := by decide +kernel
theorem dX9_goes_122 : decode cX9_goes 122 = .ok (.aload_n 1, 1) := by decide +kernel
theorem dX9_goes_123 : decode cX9_goes 123 = .ok (.iload 7, 2) := by decide +kernel
theorem dX9_goes_125 : decode cX9_goes 125 = .ok (.iconst 0, 1) := by decide +kernel
theorem dX9_goes_126 : decode cX9_goes 126 = .ok (.aload_n 1, 1) := by decide +kernel
theorem dX9_goes_127 : decode cX9_goes 127 = .ok (.iload 7, 2) := by decide +kernel
theorem dX9_goes_129 : decode cX9_goes 129 = .ok (.iaload, 1) := by decide +kernel
theorem dX9_goes_130 : decode cX9_goes 130 = .ok (.iload 8, 2) := by decide +kernel
theorem dX9_goes_132 : decode cX9_goes 132 = .ok (.bipush 100, 2) := by decide +kernel
theorem dX9_goes_134 : decode cX9_goes 134 = .ok (.idiv, 1) := by decide +kernel
theorem dX9_goes_135 : decode cX9_goes 135 = .ok (.isub, 1) := by decide +kernel
theorem dX9_goes_136 : decode cX9_goes 136 = .ok (.invokestatic 179, 3) := by decide +kernel
theorem dX9_goes_139 : decode cX9_goes 139 = .ok (.iastore, 1) := by decide +kernel
theorem dX9_goes_140 : decode cX9_goes 140 = .ok (.aload_n 1, 1) := by decide +kernel
theorem dX9_goes_141 : decode cX9_goes 141 = .ok (.iload 7, 2) := by decide +kernel
theorem dX9_goes_143 : decode cX9_goes 143 = .ok (.iaload, 1) := by decide +kernel
theorem dX9_goes_144 : decode cX9_goes 144 = .ok (.aload_n 0, 1) := by decide +kernel
theorem dX9_goes_145 : decode cX9_goes 145 = .ok (.getfield 16, 3) := by decide +kernel
theorem dX9_goes_148 : decode cX9_goes 148 = .ok (.iload 7, 2) := by decide +kernel
theorem dX9_goes_150 : decode cX9_goes 150 = .ok (.iaload, 1) := by decide +kernel
theorem dX9_goes_151 : decode cX9_goes 151 = .ok (.if_icmp .ge 45, 3) := by decide +kernel
theorem dX9_goes_154 : decode cX9_goes 154 = .ok (.aload_n 1, 1) := by decide +kernel
theorem dX9_goes_155 : decode cX9_goes 155 = .ok (.iload 7, 2) := by decide +kernel
theorem dX9_goes_157 : decode cX9_goes 157 = .ok (.aload_n 0, 1) := by decide +kernel
theorem dX9_goes_158 : decode cX9_goes 158 = .ok (.getfield 16, 3) := by decide +kernel
theorem dX9_goes_161 : decode cX9_goes 161 = .ok (.iload 7, 2) := by decide +kernel
theorem dX9_goes_163 : decode cX9_goes 163 = .ok (.iaload, 1) := by decide +kernel
theorem dX9_goes_164 : decode cX9_goes 164 = .ok (.i2l, 1) := by decide +kernel
theorem dX9_goes_165 : decode cX9_goes 165 = .ok (.aload_n 1, 1) := by decide +kernel
theorem dX9_goes_166 : decode cX9_goes 166 = .ok (.iload 7, 2) := by decide +kernel
theorem dX9_goes_168 : decode cX9_goes 168 = .ok (.iaload, 1) := by decide +kernel
theorem dX9_goes_169 : decode cX9_goes 169 = .ok (.i2l, 1) := by decide +kernel
theorem dX9_goes_170 : decode cX9_goes 170 = .ok (.lconst 1, 1) := by decide +kernel
theorem dX9_goes_171 : decode cX9_goes 171 = .ok (.iload 6, 2) := by decide +kernel
theorem dX9_goes_173 : decode cX9_goes 173 = .ok (.i2l, 1) := by decide +kernel
theorem dX9_goes_174 : decode cX9_goes 174 = .ok (.aload_n 0, 1) := by decide +kernel
theorem dX9_goes_175 : decode cX9_goes 175 = .ok (.getfield 16, 3) := by decide +kernel
theorem dX9_goes_178 : decode cX9_goes 178 = .ok (.iload 7, 2) := by decide +kernel
theorem dX9_goes_180 : decode cX9_goes 180 = .ok (.iaload, 1) := by decide +kernel
theorem dX9_goes_181 : decode cX9_goes 181 = .ok (.i2l, 1) := by decide +kernel
theorem dX9_goes_182 : decode cX9_goes 182 = .ok (.lmul, 1) := by decide +kernel
theorem dX9_goes_183 : decode cX9_goes 183 = .ok (.ldc2_w 194, 3) := by decide +kernel
theorem dX9_goes_186 : decode cX9_goes 186 = .ok (.ldiv, 1) := by decide +kernel
theorem dX9_goes_187 : decode cX9_goes 187 = .ok (.invokestatic 196, 3) := by decide +kernel
theorem dX9_goes_190 : decode cX9_goes 190 = .ok (.ladd, 1) := by decide +kernel
theorem dX9_goes_191 : decode cX9_goes 191 = .ok (.invokestatic 199, 3) := by decide +kernel
theorem dX9_goes_194 : decode cX9_goes 194 = .ok (.l2i, 1) := by decide +kernel
theorem dX9_goes_195 : decode cX9_goes 195 = .ok (.iastore, 1) := by decide +kernel
theorem dX9_goes_196 : decode cX9_goes 196 = .ok (.aload_n 1, 1) := by decide +kernel
theorem dX9_goes_197 : decode cX9_goes 197 = .ok (.iload 7, 2) := by decide +kernel
theorem dX9_goes_199 : decode cX9_goes 199 = .ok (.iaload, 1) := by decide +kernel
theorem dX9_goes_200 : decode cX9_goes 200 = .ok (.iload 8, 2) := by decide +kernel
theorem dX9_goes_202 : decode cX9_goes 202 = .ok (.invokestatic 173, 3) := by decide +kernel
theorem dX9_goes_205 : decode cX9_goes 205 = .ok (.istore 9, 2) := by decide +kernel
theorem dX9_goes_207 : decode cX9_goes 207 = .ok (.aload_n 1, 1) := by decide +kernel
theorem dX9_goes_208 : decode cX9_goes 208 = .ok (.iload 7, 2) := by decide +kernel
theorem dX9_goes_210 : decode cX9_goes 210 = .ok (.dup2, 1) := by decide +kernel
theorem dX9_goes_211 : decode cX9_goes 211 = .ok (.iaload, 1) := by decide +kernel
theorem dX9_goes_212 : decode cX9_goes 212 = .ok (.iload 9, 2) := by decide +kernel
theorem dX9_goes_214 : decode cX9_goes 214 = .ok (.isub, 1) := by decide +kernel
theorem dX9_goes_215 : decode cX9_goes 215 = .ok (.iastore, 1) := by decide +kernel
theorem dX9_goes_216 : decode cX9_goes 216 = .ok (.aload 4, 2) := by decide +kernel
theorem dX9_goes_218 : decode cX9_goes 218 = .ok (.iload 7, 2) := by decide +kernel
theorem dX9_goes_220 : decode cX9_goes 220 = .ok (.dup2, 1) := by decide +kernel
theorem dX9_goes_221 : decode cX9_goes 221 = .ok (.iaload, 1) := by decide +kernel
theorem dX9_goes_222 : decode cX9_goes 222 = .ok (.iload 9, 2) := by decide +kernel
theorem dX9_goes_224 : decode cX9_goes 224 = .ok (.iadd, 1) := by decide +kernel
theorem dX9_goes_225 : decode cX9_goes 225 = .ok (.iastore, 1) := by decide +kernel
theorem dX9_goes_226 : decode cX9_goes 226 = .ok (.iload 8, 2) := by decide +kernel
theorem dX9_goes_228 : decode cX9_goes 228 = .ok (.iload 9, 2) := by decide +kernel
theorem dX9_goes_230 : decode cX9_goes 230 = .ok (.if_icmp .le 17, 3) := by decide +kernel
theorem dX9_goes_233 : decode cX9_goes 233 = .ok (.aload_n 0, 1) := by decide +kernel
theorem dX9_goes_234 : decode cX9_goes 234 = .ok (.aload_n 2, 1) := by decide +kernel
theorem dX9_goes_235 : decode cX9_goes 235 = .ok (.iload 7, 2) := by decide +kernel
theorem dX9_goes_237 : decode cX9_goes 237 = .ok (.iload 8, 2) := by decide +kernel
theorem dX9_goes_239 : decode cX9_goes 239 = .ok (.iload 8, 2) := by decide +kernel
theorem dX9_goes_241 : decode cX9_goes 241 = .ok (.iload 9, 2) := by decide +kernel
theorem dX9_goes_243 : decode cX9_goes 243 = .ok (.isub, 1) := by decide +kernel
theorem dX9_goes_244 : decode cX9_goes 244 = .ok (.invokevirtual 201, 3) := by decide +kernel
theorem dX9_goes_247 : decode cX9_goes 247 = .ok (.iconst 0, 1) := by decide +kernel
theorem dX9_goes_248 : decode cX9_goes 248 = .ok (.istore 10, 2) := by decide +kernel
theorem dX9_goes_250 : decode cX9_goes 250 = .ok (.iload 10, 2) := by decide +kernel
theorem dX9_goes_252 : decode cX9_goes 252 = .ok (.aload_n 0, 1) := by decide +kernel
theorem dX9_goes_253 : decode cX9_goes 253 = .ok (.getfield 164, 3) := by decide +kernel
theorem dX9_goes_256 : decode cX9_goes 256 = .ok (.if_icmp .ge 48, 3) := by decide +kernel
theorem dX9_goes_259 : decode cX9_goes 259 = .ok (.aload_n 0, 1) := by decide +kernel
theorem dX9_goes_260 : decode cX9_goes 260 = .ok (.getfield 104, 3) := by decide +kernel
theorem dX9_goes_263 : decode cX9_goes 263 = .ok (.iload 10, 2) := by decide +kernel
theorem dX9_goes_265 : decode cX9_goes 265 = .ok (.dup2, 1) := by decide +kernel
theorem dX9_goes_266 : decode cX9_goes 266 = .ok (.iaload, 1) := by decide +kernel
theorem dX9_goes_267 : decode cX9_goes 267 = .ok (.aload_n 2, 1) := by decide +kernel
theorem dX9_goes_268 : decode cX9_goes 268 = .ok (.iload 10, 2) := by decide +kernel
theorem dX9_goes_270 : decode cX9_goes 270 = .ok (.iaload, 1) := by decide +kernel
theorem dX9_goes_271 : decode cX9_goes 271 = .ok (.iload 7, 2) := by decide +kernel
theorem dX9_goes_273 : decode cX9_goes 273 = .ok (.if_icmp .ne 22, 3) := by decide +kernel
theorem dX9_goes_276 : decode cX9_goes 276 = .ok (.aload_n 0, 1) := by decide +kernel
theorem dX9_goes_277 : decode cX9_goes 277 = .ok (.getfield 28, 3) := by decide +kernel
theorem dX9_goes_280 : decode cX9_goes 280 = .ok (.iload 7, 2) := by decide +kernel
theorem dX9_goes_282 : decode cX9_goes 282 = .ok (.baload, 1) := by decide +kernel
theorem dX9_goes_283 : decode cX9_goes 283 = .ok (.ifCond .ne 12, 3) := by decide +kernel
theorem dX9_goes_286 : decode cX9_goes 286 = .ok (.aload_n 0, 1) := by decide +kernel
theorem dX9_goes_287 : decode cX9_goes 287 = .ok (.iload 10, 2) := by decide +kernel
theorem dX9_goes_289 : decode cX9_goes 289 = .ok (.invokevirtual 170, 3) := by decide +kernel
theorem dX9_goes_292 : decode cX9_goes 292 = .ok (.goto 4, 3) := by decide +kernel
theorem dX9_goes_295 : decode cX9_goes 295 = .ok (.iconst 0, 1) := by decide +kernel
theorem dX9_goes_296 : decode cX9_goes 296 = .ok (.iadd, 1) := by decide +kernel
theorem dX9_goes_297 : decode cX9_goes 297 = .ok (.iastore, 1) := by decide +kernel
theorem dX9_goes_298 : decode cX9_goes 298 = .ok (.iinc 10 1, 3) := by decide +kernel
theorem dX9_goes_301 : decode cX9_goes 301 = .ok (.goto (-51), 3) := by decide +kernel
theorem dX9_goes_304 : decode cX9_goes 304 = .ok (.iinc 7 1, 3) := by decide +kernel
theorem dX9_goes_307 : decode cX9_goes 307 = .ok (.goto (-251), 3) := by decide +kernel
theorem dX9_goes_310 : decode cX9_goes 310 = .ok (.return_, 1) := by decide +kernel
theorem dX9_places_0 : decode cX9_places 0 = .ok (.iconst 0, 1) := by decide +kernel
theorem dX9_places_1 : decode cX9_places 1 = .ok (.istore_n 1, 1) := by decide +kernel
theorem dX9_places_2 : decode cX9_places 2 = .ok (.iload_n 1, 1) := by decide +kernel
theorem dX9_places_3 : decode cX9_places 3 = .ok (.bipush 20, 2) := by decide +kernel
theorem dX9_places_5 : decode cX9_places 5 = .ok (.if_icmp .ge 41, 3) := by decide +kernel
theorem dX9_places_8 : decode cX9_places 8 = .ok (.aload_n 0, 1) := by decide +kernel
theorem dX9_places_9 : decode cX9_places 9 = .ok (.getfield 110, 3) := by decide +kernel
theorem dX9_places_12 : decode cX9_places 12 = .ok (.iload_n 1, 1) := by decide +kernel
theorem dX9_places_13 : decode cX9_places 13 = .ok (.iload_n 1, 1) := by decide +kernel
theorem dX9_places_14 : decode cX9_places 14 = .ok (.aload_n 0, 1) := by decide +kernel
theorem dX9_places_15 : decode cX9_places 15 = .ok (.getfield 164, 3) := by decide +kernel
theorem dX9_places_18 : decode cX9_places 18 = .ok (.if_icmp .ge 20, 3) := by decide +kernel
theorem dX9_places_21 : decode cX9_places 21 = .ok (.aload_n 0, 1) := by decide +kernel
theorem dX9_places_22 : decode cX9_places 22 = .ok (.iload_n 1, 1) := by decide +kernel
theorem dX9_places_23 : decode cX9_places 23 = .ok (.invokevirtual 167, 3) := by decide +kernel
theorem dX9_places_26 : decode cX9_places 26 = .ok (.ifCond .eq 12, 3) := by decide +kernel
theorem dX9_places_29 : decode cX9_places 29 = .ok (.aload_n 0, 1) := by decide +kernel
theorem dX9_places_30 : decode cX9_places 30 = .ok (.getfield 89, 3) := by decide +kernel
theorem dX9_places_33 : decode cX9_places 33 = .ok (.iload_n 1, 1) := by decide +kernel
theorem dX9_places_34 : decode cX9_places 34 = .ok (.iaload, 1) := by decide +kernel
theorem dX9_places_35 : decode cX9_places 35 = .ok (.goto 4, 3) := by decide +kernel
theorem dX9_places_38 : decode cX9_places 38 = .ok (.iconst (-1), 1) := by decide +kernel
theorem dX9_places_39 : decode cX9_places 39 = .ok (.iastore, 1) := by decide +kernel
theorem dX9_places_40 : decode cX9_places 40 = .ok (.iinc 1 1, 3) := by decide +kernel
theorem dX9_places_43 : decode cX9_places 43 = .ok (.goto (-41), 3) := by decide +kernel
theorem dX9_places_46 : decode cX9_places 46 = .ok (.return_, 1) := by decide +kernel
theorem dX9_sells_0 : decode cX9_sells 0 = .ok (.iconst 0, 1) := by decide +kernel
theorem dX9_sells_1 : decode cX9_sells 1 = .ok (.istore_n 1, 1) := by decide +kernel
theorem dX9_sells_2 : decode cX9_sells 2 = .ok (.iload_n 1, 1) := by decide +kernel
theorem dX9_sells_3 : decode cX9_sells 3 = .ok (.aload_n 0, 1) := by decide +kernel
theorem dX9_sells_4 : decode cX9_sells 4 = .ok (.getfield 164, 3) := by decide +kernel
theorem dX9_sells_7 : decode cX9_sells 7 = .ok (.if_icmp .ge 94, 3) := by decide +kernel
theorem dX9_sells_10 : decode cX9_sells 10 = .ok (.aload_n 0, 1) := by decide +kernel
theorem dX9_sells_11 : decode cX9_sells 11 = .ok (.getfield 98, 3) := by decide +kernel
theorem dX9_sells_14 : decode cX9_sells 14 = .ok (.iload_n 1, 1) := by decide +kernel
theorem dX9_sells_15 : decode cX9_sells 15 = .ok (.iaload, 1) := by decide +kernel
theorem dX9_sells_16 : decode cX9_sells 16 = .ok (.iconst 1, 1) := by decide +kernel
theorem dX9_sells_17 : decode cX9_sells 17 = .ok (.if_icmp .ne 78, 3) := by decide +kernel
theorem dX9_sells_20 : decode cX9_sells 20 = .ok (.aload_n 0, 1) := by decide +kernel
theorem dX9_sells_21 : decode cX9_sells 21 = .ok (.getfield 141, 3) := by decide +kernel
theorem dX9_sells_24 : decode cX9_sells 24 = .ok (.aload_n 0, 1) := by decide +kernel
theorem dX9_sells_25 : decode cX9_sells 25 = .ok (.getfield 101, 3) := by decide +kernel
theorem dX9_sells_28 : decode cX9_sells 28 = .ok (.iload_n 1, 1) := by decide +kernel
theorem dX9_sells_29 : decode cX9_sells 29 = .ok (.iaload, 1) := by decide +kernel
theorem dX9_sells_30 : decode cX9_sells 30 = .ok (.isub, 1) := by decide +kernel
theorem dX9_sells_31 : decode cX9_sells 31 = .ok (.iconst 1, 1) := by decide +kernel
theorem dX9_sells_32 : decode cX9_sells 32 = .ok (.iadd, 1) := by decide +kernel
theorem dX9_sells_33 : decode cX9_sells 33 = .ok (.bipush 31, 2) := by decide +kernel
theorem dX9_sells_35 : decode cX9_sells 35 = .ok (.if_icmp .ge 6, 3) := by decide +kernel
theorem dX9_sells_38 : decode cX9_sells 38 = .ok (.goto 57, 3) := by decide +kernel
theorem dX9_sells_41 : decode cX9_sells 41 = .ok (.aload_n 0, 1) := by decide +kernel
theorem dX9_sells_42 : decode cX9_sells 42 = .ok (.iload_n 1, 1) := by decide +kernel
theorem dX9_sells_43 : decode cX9_sells 43 = .ok (.invokevirtual 170, 3) := by decide +kernel
theorem dX9_sells_46 : decode cX9_sells 46 = .ok (.istore_n 2, 1) := by decide +kernel
theorem dX9_sells_47 : decode cX9_sells 47 = .ok (.iload_n 2, 1) := by decide +kernel
theorem dX9_sells_48 : decode cX9_sells 48 = .ok (.bipush 31, 2) := by decide +kernel
theorem dX9_sells_50 : decode cX9_sells 50 = .ok (.aload_n 0, 1) := by decide +kernel
theorem dX9_sells_51 : decode cX9_sells 51 = .ok (.getfield 86, 3) := by decide +kernel
theorem dX9_sells_54 : decode cX9_sells 54 = .ok (.iload_n 1, 1) := by decide +kernel
theorem dX9_sells_55 : decode cX9_sells 55 = .ok (.iaload, 1) := by decide +kernel
theorem dX9_sells_56 : decode cX9_sells 56 = .ok (.imul, 1) := by decide +kernel
theorem dX9_sells_57 : decode cX9_sells 57 = .ok (.invokestatic 173, 3) := by decide +kernel
theorem dX9_sells_60 : decode cX9_sells 60 = .ok (.istore_n 3, 1) := by decide +kernel
theorem dX9_sells_61 : decode cX9_sells 61 = .ok (.aload_n 0, 1) := by decide +kernel
theorem dX9_sells_62 : decode cX9_sells 62 = .ok (.getfield 98, 3) := by decide +kernel
theorem dX9_sells_65 : decode cX9_sells 65 = .ok (.iload_n 1, 1) := by decide +kernel
theorem dX9_sells_66 : decode cX9_sells 66 = .ok (.iconst 2, 1) := by decide +kernel
theorem dX9_sells_67 : decode cX9_sells 67 = .ok (.iastore, 1) := by decide +kernel
theorem dX9_sells_68 : decode cX9_sells 68 = .ok (.aload_n 0, 1) := by decide +kernel
theorem dX9_sells_69 : decode cX9_sells 69 = .ok (.dup, 1) := by decide +kernel
theorem dX9_sells_70 : decode cX9_sells 70 = .ok (.getfield 205, 3) := by decide +kernel
theorem dX9_sells_73 : decode cX9_sells 73 = .ok (.iload_n 3, 1) := by decide +kernel
theorem dX9_sells_74 : decode cX9_sells 74 = .ok (.iadd, 1) := by decide +kernel
theorem dX9_sells_75 : decode cX9_sells 75 = .ok (.putfield 205, 3) := by decide +kernel
theorem dX9_sells_78 : decode cX9_sells 78 = .ok (.aload_n 0, 1) := by decide +kernel
theorem dX9_sells_79 : decode cX9_sells 79 = .ok (.getfield 32, 3) := by decide +kernel
theorem dX9_sells_82 : decode cX9_sells 82 = .ok (.aload_n 0, 1) := by decide +kernel
theorem dX9_sells_83 : decode cX9_sells 83 = .ok (.getfield 80, 3) := by decide +kernel
theorem dX9_sells_86 : decode cX9_sells 86 = .ok (.iload_n 1, 1) := by decide +kernel
theorem dX9_sells_87 : decode cX9_sells 87 = .ok (.iaload, 1) := by decide +kernel
theorem dX9_sells_88 : decode cX9_sells 88 = .ok (.dup2, 1) := by decide +kernel
theorem dX9_sells_89 : decode cX9_sells 89 = .ok (.iaload, 1) := by decide +kernel
theorem dX9_sells_90 : decode cX9_sells 90 = .ok (.iload_n 2, 1) := by decide +kernel
theorem dX9_sells_91 : decode cX9_sells 91 = .ok (.iload_n 3, 1) := by decide +kernel
theorem dX9_sells_92 : decode cX9_sells 92 = .ok (.isub, 1) := by decide +kernel
theorem dX9_sells_93 : decode cX9_sells 93 = .ok (.iadd, 1) := by decide +kernel
theorem dX9_sells_94 : decode cX9_sells 94 = .ok (.iastore, 1) := by decide +kernel
theorem dX9_sells_95 : decode cX9_sells 95 = .ok (.iinc 1 1, 3) := by decide +kernel
theorem dX9_sells_98 : decode cX9_sells 98 = .ok (.goto (-96), 3) := by decide +kernel
theorem dX9_sells_101 : decode cX9_sells 101 = .ok (.return_, 1) := by decide +kernel
theorem dX9_lapses_0 : decode cX9_lapses 0 = .ok (.aload_n 0, 1) := by decide +kernel
theorem dX9_lapses_1 : decode cX9_lapses 1 = .ok (.getfield 148, 3) := by decide +kernel
theorem dX9_lapses_4 : decode cX9_lapses 4 = .ok (.iconst 1, 1) := by decide +kernel
theorem dX9_lapses_5 : decode cX9_lapses 5 = .ok (.isub, 1) := by decide +kernel
theorem dX9_lapses_6 : decode cX9_lapses 6 = .ok (.istore_n 1, 1) := by decide +kernel
theorem dX9_lapses_7 : decode cX9_lapses 7 = .ok (.iload_n 1, 1) := by decide +kernel
theorem dX9_lapses_8 : decode cX9_lapses 8 = .ok (.ifCond .lt 120, 3) := by decide +kernel
theorem dX9_lapses_11 : decode cX9_lapses 11 = .ok (.aload_n 0, 1) := by decide +kernel
theorem dX9_lapses_12 : decode cX9_lapses 12 = .ok (.getfield 77, 3) := by decide +kernel
theorem dX9_lapses_15 : decode cX9_lapses 15 = .ok (.iload_n 1, 1) := by decide +kernel
theorem dX9_lapses_16 : decode cX9_lapses 16 = .ok (.aload_n 0, 1) := by decide +kernel
theorem dX9_lapses_17 : decode cX9_lapses 17 = .ok (.iload_n 1, 1) := by decide +kernel
theorem dX9_lapses_18 : decode cX9_lapses 18 = .ok (.invokevirtual 158, 3) := by decide +kernel
theorem dX9_lapses_21 : decode cX9_lapses 21 = .ok (.ifCond .le 15, 3) := by decide +kernel
theorem dX9_lapses_24 : decode cX9_lapses 24 = .ok (.aload_n 0, 1) := by decide +kernel
theorem dX9_lapses_25 : decode cX9_lapses 25 = .ok (.iload_n 1, 1) := by decide +kernel
theorem dX9_lapses_26 : decode cX9_lapses 26 = .ok (.invokevirtual 208, 3) := by decide +kernel
theorem dX9_lapses_29 : decode cX9_lapses 29 = .ok (.ifCond .eq 7, 3) := by decide +kernel
theorem dX9_lapses_32 : decode cX9_lapses 32 = .ok (.iconst 1, 1) := by decide +kernel
theorem dX9_lapses_33 : decode cX9_lapses 33 = .ok (.goto 4, 3) := by decide +kernel
theorem dX9_lapses_36 : decode cX9_lapses 36 = .ok (.iconst 0, 1) := by decide +kernel
theorem dX9_lapses_37 : decode cX9_lapses 37 = .ok (.bastore, 1) := by decide +kernel
theorem dX9_lapses_38 : decode cX9_lapses 38 = .ok (.iload_n 1, 1) := by decide +kernel
theorem dX9_lapses_39 : decode cX9_lapses 39 = .ok (.iconst 1, 1) := by decide +kernel
theorem dX9_lapses_40 : decode cX9_lapses 40 = .ok (.iadd, 1) := by decide +kernel
theorem dX9_lapses_41 : decode cX9_lapses 41 = .ok (.istore_n 2, 1) := by decide +kernel
theorem dX9_lapses_42 : decode cX9_lapses 42 = .ok (.iload_n 2, 1) := by decide +kernel
theorem dX9_lapses_43 : decode cX9_lapses 43 = .ok (.aload_n 0, 1) := by decide +kernel
theorem dX9_lapses_44 : decode cX9_lapses 44 = .ok (.getfield 148, 3) := by decide +kernel
theorem dX9_lapses_47 : decode cX9_lapses 47 = .ok (.if_icmp .ge 56, 3) := by decide +kernel
theorem dX9_lapses_50 : decode cX9_lapses 50 = .ok (.aload_n 0, 1) := by decide +kernel
theorem dX9_lapses_51 : decode cX9_lapses 51 = .ok (.iload_n 1, 1) := by decide +kernel
theorem dX9_lapses_52 : decode cX9_lapses 52 = .ok (.invokevirtual 144, 3) := by decide +kernel
theorem dX9_lapses_55 : decode cX9_lapses 55 = .ok (.ifCond .eq 48, 3) := by decide +kernel
theorem dX9_lapses_58 : decode cX9_lapses 58 = .ok (.aload_n 0, 1) := by decide +kernel
theorem dX9_lapses_59 : decode cX9_lapses 59 = .ok (.getfield 77, 3) := by decide +kernel
theorem dX9_lapses_62 : decode cX9_lapses 62 = .ok (.iload_n 1, 1) := by decide +kernel
theorem dX9_lapses_63 : decode cX9_lapses 63 = .ok (.aload_n 0, 1) := by decide +kernel
theorem dX9_lapses_64 : decode cX9_lapses 64 = .ok (.getfield 77, 3) := by decide +kernel
theorem dX9_lapses_67 : decode cX9_lapses 67 = .ok (.iload_n 1, 1) := by decide +kernel
theorem dX9_lapses_68 : decode cX9_lapses 68 = .ok (.baload, 1) := by decide +kernel
theorem dX9_lapses_69 : decode cX9_lapses 69 = .ok (.ifCond .ne 22, 3) := by decide +kernel
theorem dX9_lapses_72 : decode cX9_lapses 72 = .ok (.aload_n 0, 1) := by decide +kernel
theorem dX9_lapses_73 : decode cX9_lapses 73 = .ok (.getfield 68, 3) := by decide +kernel
theorem dX9_lapses_76 : decode cX9_lapses 76 = .ok (.iload_n 2, 1) := by decide +kernel
theorem dX9_lapses_77 : decode cX9_lapses 77 = .ok (.iaload, 1) := by decide +kernel
theorem dX9_lapses_78 : decode cX9_lapses 78 = .ok (.iload_n 1, 1) := by decide +kernel
theorem dX9_lapses_79 : decode cX9_lapses 79 = .ok (.if_icmp .ne 16, 3) := by decide +kernel
theorem dX9_lapses_82 : decode cX9_lapses 82 = .ok (.aload_n 0, 1) := by decide +kernel
theorem dX9_lapses_83 : decode cX9_lapses 83 = .ok (.getfield 77, 3) := by decide +kernel
theorem dX9_lapses_86 : decode cX9_lapses 86 = .ok (.iload_n 2, 1) := by decide +kernel
theorem dX9_lapses_87 : decode cX9_lapses 87 = .ok (.baload, 1) := by decide +kernel
theorem dX9_lapses_88 : decode cX9_lapses 88 = .ok (.ifCond .eq 7, 3) := by decide +kernel
theorem dX9_lapses_91 : decode cX9_lapses 91 = .ok (.iconst 1, 1) := by decide +kernel
theorem dX9_lapses_92 : decode cX9_lapses 92 = .ok (.goto 4, 3) := by decide +kernel
theorem dX9_lapses_95 : decode cX9_lapses 95 = .ok (.iconst 0, 1) := by decide +kernel
theorem dX9_lapses_96 : decode cX9_lapses 96 = .ok (.bastore, 1) := by decide +kernel
theorem dX9_lapses_97 : decode cX9_lapses 97 = .ok (.iinc 2 1, 3) := by decide +kernel
theorem dX9_lapses_100 : decode cX9_lapses 100 = .ok (.goto (-58), 3) := by decide +kernel
theorem dX9_lapses_103 : decode cX9_lapses 103 = .ok (.aload_n 0, 1) := by decide +kernel
theorem dX9_lapses_104 : decode cX9_lapses 104 = .ok (.getfield 77, 3) := by decide +kernel
theorem dX9_lapses_107 : decode cX9_lapses 107 = .ok (.iload_n 1, 1) := by decide +kernel
theorem dX9_lapses_108 : decode cX9_lapses 108 = .ok (.baload, 1) := by decide +kernel
theorem dX9_lapses_109 : decode cX9_lapses 109 = .ok (.ifCond .eq 13, 3) := by decide +kernel
theorem dX9_lapses_112 : decode cX9_lapses 112 = .ok (.aload_n 0, 1) := by decide +kernel
theorem dX9_lapses_113 : decode cX9_lapses 113 = .ok (.getfield 71, 3) := by decide +kernel
theorem dX9_lapses_116 : decode cX9_lapses 116 = .ok (.iload_n 1, 1) := by decide +kernel
theorem dX9_lapses_117 : decode cX9_lapses 117 = .ok (.aload_n 0, 1) := by decide +kernel
theorem dX9_lapses_118 : decode cX9_lapses 118 = .ok (.getfield 141, 3) := by decide +kernel
theorem dX9_lapses_121 : decode cX9_lapses 121 = .ok (.iastore, 1) := by decide +kernel
theorem dX9_lapses_122 : decode cX9_lapses 122 = .ok (.iinc 1 (-1), 3) := by decide +kernel
theorem dX9_lapses_125 : decode cX9_lapses 125 = .ok (.goto (-118), 3) := by decide +kernel
theorem dX9_lapses_128 : decode cX9_lapses 128 = .ok (.iconst 0, 1) := by decide +kernel
theorem dX9_lapses_129 : decode cX9_lapses 129 = .ok (.istore_n 1, 1) := by decide +kernel
theorem dX9_lapses_130 : decode cX9_lapses 130 = .ok (.iload_n 1, 1) := by decide +kernel
theorem dX9_lapses_131 : decode cX9_lapses 131 = .ok (.aload_n 0, 1) := by decide +kernel
theorem dX9_lapses_132 : decode cX9_lapses 132 = .ok (.getfield 148, 3) := by decide +kernel
theorem dX9_lapses_135 : decode cX9_lapses 135 = .ok (.if_icmp .ge 71, 3) := by decide +kernel
theorem dX9_lapses_138 : decode cX9_lapses 138 = .ok (.aload_n 0, 1) := by decide +kernel
theorem dX9_lapses_139 : decode cX9_lapses 139 = .ok (.getfield 77, 3) := by decide +kernel
theorem dX9_lapses_142 : decode cX9_lapses 142 = .ok (.iload_n 1, 1) := by decide +kernel
theorem dX9_lapses_143 : decode cX9_lapses 143 = .ok (.aload_n 0, 1) := by decide +kernel
theorem dX9_lapses_144 : decode cX9_lapses 144 = .ok (.iload_n 1, 1) := by decide +kernel
theorem dX9_lapses_145 : decode cX9_lapses 145 = .ok (.invokevirtual 144, 3) := by decide +kernel
theorem dX9_lapses_148 : decode cX9_lapses 148 = .ok (.ifCond .eq 50, 3) := by decide +kernel
theorem dX9_lapses_151 : decode cX9_lapses 151 = .ok (.aload_n 0, 1) := by decide +kernel
theorem dX9_lapses_152 : decode cX9_lapses 152 = .ok (.getfield 59, 3) := by decide +kernel
theorem dX9_lapses_155 : decode cX9_lapses 155 = .ok (.iload_n 1, 1) := by decide +kernel
theorem dX9_lapses_156 : decode cX9_lapses 156 = .ok (.iaload, 1) := by decide +kernel
theorem dX9_lapses_157 : decode cX9_lapses 157 = .ok (.aload_n 0, 1) := by decide +kernel
theorem dX9_lapses_158 : decode cX9_lapses 158 = .ok (.getfield 141, 3) := by decide +kernel
theorem dX9_lapses_161 : decode cX9_lapses 161 = .ok (.bipush 100, 2) := by decide +kernel
theorem dX9_lapses_163 : decode cX9_lapses 163 = .ok (.isub, 1) := by decide +kernel
theorem dX9_lapses_164 : decode cX9_lapses 164 = .ok (.if_icmp .gt 34, 3) := by decide +kernel
theorem dX9_lapses_167 : decode cX9_lapses 167 = .ok (.aload_n 0, 1) := by decide +kernel
theorem dX9_lapses_168 : decode cX9_lapses 168 = .ok (.getfield 71, 3) := by decide +kernel
theorem dX9_lapses_171 : decode cX9_lapses 171 = .ok (.iload_n 1, 1) := by decide +kernel
theorem dX9_lapses_172 : decode cX9_lapses 172 = .ok (.iaload, 1) := by decide +kernel
theorem dX9_lapses_173 : decode cX9_lapses 173 = .ok (.bipush (-9), 2) := by decide +kernel
theorem dX9_lapses_175 : decode cX9_lapses 175 = .ok (.if_icmp .eq 19, 3) := by decide +kernel
theorem dX9_lapses_178 : decode cX9_lapses 178 = .ok (.aload_n 0, 1) := by decide +kernel
theorem dX9_lapses_179 : decode cX9_lapses 179 = .ok (.getfield 71, 3) := by decide +kernel
theorem dX9_lapses_182 : decode cX9_lapses 182 = .ok (.iload_n 1, 1) := by decide +kernel
theorem dX9_lapses_183 : decode cX9_lapses 183 = .ok (.iaload, 1) := by decide +kernel
theorem dX9_lapses_184 : decode cX9_lapses 184 = .ok (.aload_n 0, 1) := by decide +kernel
theorem dX9_lapses_185 : decode cX9_lapses 185 = .ok (.getfield 141, 3) := by decide +kernel
theorem dX9_lapses_188 : decode cX9_lapses 188 = .ok (.bipush 99, 2) := by decide +kernel
theorem dX9_lapses_190 : decode cX9_lapses 190 = .ok (.isub, 1) := by decide +kernel
theorem dX9_lapses_191 : decode cX9_lapses 191 = .ok (.if_icmp .ge 7, 3) := by decide +kernel
theorem dX9_lapses_194 : decode cX9_lapses 194 = .ok (.iconst 1, 1) := by decide +kernel
theorem dX9_lapses_195 : decode cX9_lapses 195 = .ok (.goto 4, 3) := by decide +kernel
theorem dX9_lapses_198 : decode cX9_lapses 198 = .ok (.iconst 0, 1) := by decide +kernel
theorem dX9_lapses_199 : decode cX9_lapses 199 = .ok (.bastore, 1) := by decide +kernel
theorem dX9_lapses_200 : decode cX9_lapses 200 = .ok (.iinc 1 1, 3) := by decide +kernel
theorem dX9_lapses_203 : decode cX9_lapses 203 = .ok (.goto (-73), 3) := by decide +kernel
theorem dX9_lapses_206 : decode cX9_lapses 206 = .ok (.iconst 0, 1) := by decide +kernel
theorem dX9_lapses_207 : decode cX9_lapses 207 = .ok (.istore_n 1, 1) := by decide +kernel
theorem dX9_lapses_208 : decode cX9_lapses 208 = .ok (.iload_n 1, 1) := by decide +kernel
theorem dX9_lapses_209 : decode cX9_lapses 209 = .ok (.aload_n 0, 1) := by decide +kernel
theorem dX9_lapses_210 : decode cX9_lapses 210 = .ok (.getfield 148, 3) := by decide +kernel
theorem dX9_lapses_213 : decode cX9_lapses 213 = .ok (.if_icmp .ge 38, 3) := by decide +kernel
theorem dX9_lapses_216 : decode cX9_lapses 216 = .ok (.aload_n 0, 1) := by decide +kernel
theorem dX9_lapses_217 : decode cX9_lapses 217 = .ok (.getfield 77, 3) := by decide +kernel
theorem dX9_lapses_220 : decode cX9_lapses 220 = .ok (.iload_n 1, 1) := by decide +kernel
theorem dX9_lapses_221 : decode cX9_lapses 221 = .ok (.baload, 1) := by decide +kernel
theorem dX9_lapses_222 : decode cX9_lapses 222 = .ok (.ifCond .ne 6, 3) := by decide +kernel
theorem dX9_lapses_225 : decode cX9_lapses 225 = .ok (.goto 20, 3) := by decide +kernel
theorem dX9_lapses_228 : decode cX9_lapses 228 = .ok (.aload_n 0, 1) := by decide +kernel
theorem dX9_lapses_229 : decode cX9_lapses 229 = .ok (.getfield 74, 3) := by decide +kernel
theorem dX9_lapses_232 : decode cX9_lapses 232 = .ok (.iload_n 1, 1) := by decide +kernel
theorem dX9_lapses_233 : decode cX9_lapses 233 = .ok (.iconst 1, 1) := by decide +kernel
theorem dX9_lapses_234 : decode cX9_lapses 234 = .ok (.bastore, 1) := by decide +kernel
theorem dX9_lapses_235 : decode cX9_lapses 235 = .ok (.aload_n 0, 1) := by decide +kernel
theorem dX9_lapses_236 : decode cX9_lapses 236 = .ok (.dup, 1) := by decide +kernel
theorem dX9_lapses_237 : decode cX9_lapses 237 = .ok (.getfield 211, 3) := by decide +kernel
theorem dX9_lapses_240 : decode cX9_lapses 240 = .ok (.iconst 1, 1) := by decide +kernel
theorem dX9_lapses_241 : decode cX9_lapses 241 = .ok (.iadd, 1) := by decide +kernel
theorem dX9_lapses_242 : decode cX9_lapses 242 = .ok (.putfield 211, 3) := by decide +kernel
theorem dX9_lapses_245 : decode cX9_lapses 245 = .ok (.iinc 1 1, 3) := by decide +kernel
theorem dX9_lapses_248 : decode cX9_lapses 248 = .ok (.goto (-40), 3) := by decide +kernel
theorem dX9_lapses_251 : decode cX9_lapses 251 = .ok (.return_, 1) := by decide +kernel
set_option maxRecDepth 20000 in
theorem ggX9_pass_X9_refuse : GoodIn wsX9_pass wsX9_refuse := goodIn_r _ [16, 17, 105, 106, 107, 108, 109, 110, 111, 112, 113, 114, 115, 116, 117, 118, 119, 120, 121, 122, 123, 124, 125, 126, 127, 128, 129, 130, 131, 132, 133, 134, 135, 136, 137, 138, 139, 140, 141, 142, 143, 144, 145, 146, 147, 148, 149, 150, 151, 152, 153, 154, 155] (by decide +kernel) (by decide +kernel)
set_option maxRecDepth 20000 in
theorem gX9_pass_X9_refuse : GoodIn wsX9_pass (wsV RX9 122 RX9 yX9_refuse wsX9_refuse) := goodIn_app (goodIn_of _ (by decide +kernel)) ggX9_pass_X9_refuse
set_option maxRecDepth 20000 in
theorem ggX9_pass_X9_places : GoodIn wsX9_pass wsX9_places := goodIn_r _ [21, 4, 8, 22, 23, 24, 25, 15, 26, 27, 105, 106, 107, 108, 109, 110, 111, 112, 113, 114, 115, 116, 117, 118, 119, 120, 121, 122, 123, 124, 125, 126, 127, 128, 129, 130, 131, 132, 133, 134, 135, 136, 137, 138, 139, 140, 141, 142, 143, 144, 145, 146, 147, 148, 149, 150, 151, 152, 153, 154, 155] (by decide +kernel) (by decide +kernel)
set_option maxRecDepth 20000 in
theorem gX9_pass_X9_places : GoodIn wsX9_pass (wsV RX9 214 RX9 yX9_places wsX9_places) := goodIn_app (goodIn_of _ (by decide +kernel)) ggX9_pass_X9_places
set_option maxRecDepth 20000 in
theorem ggX9_pass_X9_goes : GoodIn wsX9_pass wsX9_goes := goodIn_r _ [31, 8, 10, 32, 33, 34, 5, 35, 36, 37, 38, 39, 40, 41, 42, 43, 44, 45, 46, 47, 48, 49, 50, 51, 52, 53, 15, 54, 55, 56, 57, 58, 59, 60, 61, 62, 63, 105, 106, 107, 108, 109, 110, 111, 112, 113, 114, 115, 116, 117, 118, 119, 120, 121, 122, 123, 124, 125, 126, 127, 128, 129, 130, 131, 132, 133, 134, 135, 136, 137, 138, 139, 140, 141, 142, 143, 144, 145, 146, 147, 148, 149, 150, 151, 152, 153, 154, 155] (by decide +kernel) (by decide +kernel)
set_option maxRecDepth 20000 in
theorem gX9_pass_X9_goes : GoodIn wsX9_pass (wsV RX9 217 RX9 yX9_goes wsX9_goes) := goodIn_app (goodIn_of _ (by decide +kernel)) ggX9_pass_X9_goes
set_option maxRecDepth 20000 in
theorem ggX9_pass_X9_sells : GoodIn wsX9_pass wsX9_sells := goodIn_r _ [67, 8, 27, 1, 68, 55, 47, 48, 37, 49, 69, 70, 71, 51, 52, 53, 15, 54, 56, 57, 58, 59, 105, 106, 107, 108, 109, 110, 111, 112, 113, 114, 115, 116, 117, 118, 119, 120, 121, 122, 123, 124, 125, 126, 127, 128, 129, 130, 131, 132, 133, 134, 135, 136, 137, 138, 139, 140, 141, 142, 143, 144, 145, 146, 147, 148, 149, 150, 151, 152, 153, 154, 155] (by decide +kernel) (by decide +kernel)
set_option maxRecDepth 20000 in
theorem gX9_pass_X9_sells : GoodIn wsX9_pass (wsV RX9 224 RX9 yX9_sells wsX9_sells) := goodIn_app (goodIn_of _ (by decide +kernel)) ggX9_pass_X9_sells
set_option maxRecDepth 20000 in
theorem ggX9_pass_X9_lapses : GoodIn wsX9_pass wsX9_lapses := goodIn_r _ [75, 76, 77, 78, 79, 1, 80, 81, 82, 83, 84, 85, 15, 86, 87, 88, 89, 90, 91, 92, 93, 94, 95, 96, 8, 71, 97, 56, 22, 98, 99, 100, 101, 102, 103, 104, 23, 24, 25, 26, 27, 105, 106, 107, 108, 109, 110, 111, 112, 113, 114, 115, 116, 117, 118, 119, 120, 121, 122, 123, 124, 125, 126, 127, 128, 129, 130, 131, 132, 133, 134, 135, 136, 137, 138, 139, 140, 141, 142, 143, 144, 145, 146, 147, 148, 149, 150, 151, 152, 153, 154, 155] (by decide +kernel) (by decide +kernel)
set_option maxRecDepth 20000 in
theorem gX9_pass_X9_lapses : GoodIn wsX9_pass (wsV RX9 227 RX9 yX9_lapses wsX9_lapses) := goodIn_app (goodIn_of _ (by decide +kernel)) ggX9_pass_X9_lapses
theorem dX9_pass_0 : decode cX9_pass 0 = .ok (.iload_n 1, 1) := by decide +kernel
theorem dX9_pass_1 : decode cX9_pass 1 = .ok (.iconst 1, 1) := by decide +kernel
theorem dX9_pass_2 : decode cX9_pass 2 = .ok (.if_icmp .ge 10, 3) := by decide +kernel
theorem dX9_pass_5 : decode cX9_pass 5 = .ok (.aload_n 0, 1) := by decide +kernel
theorem dX9_pass_6 : decode cX9_pass 6 = .ok (.bipush (-4), 2) := by decide +kernel
theorem dX9_pass_8 : decode cX9_pass 8 = .ok (.invokevirtual 122, 3) := by decide +kernel
theorem dX9_pass_11 : decode cX9_pass 11 = .ok (.ireturn, 1) := by decide +kernel
theorem dX9_pass_12 : decode cX9_pass 12 = .ok (.iload_n 1, 1) := by decide +kernel
theorem dX9_pass_13 : decode cX9_pass 13 = .ok (.sipush 720, 3) := by decide +kernel
theorem dX9_pass_16 : decode cX9_pass 16 = .ok (.aload_n 0, 1) := by decide +kernel
theorem dX9_pass_17 : decode cX9_pass 17 = .ok (.getfield 141, 3) := by decide +kernel
theorem dX9_pass_20 : decode cX9_pass 20 = .ok (.isub, 1) := by decide +kernel
theorem dX9_pass_21 : decode cX9_pass 21 = .ok (.if_icmp .le 10, 3) := by decide +kernel
theorem dX9_pass_24 : decode cX9_pass 24 = .ok (.aload_n 0, 1) := by decide +kernel
theorem dX9_pass_25 : decode cX9_pass 25 = .ok (.bipush (-6), 2) := by decide +kernel
theorem dX9_pass_27 : decode cX9_pass 27 = .ok (.invokevirtual 122, 3) := by decide +kernel
theorem dX9_pass_30 : decode cX9_pass 30 = .ok (.ireturn, 1) := by decide +kernel
theorem dX9_pass_31 : decode cX9_pass 31 = .ok (.iconst 0, 1) := by decide +kernel
theorem dX9_pass_32 : decode cX9_pass 32 = .ok (.istore_n 2, 1) := by decide +kernel
theorem dX9_pass_33 : decode cX9_pass 33 = .ok (.iconst 0, 1) := by decide +kernel
theorem dX9_pass_34 : decode cX9_pass 34 = .ok (.istore_n 3, 1) := by decide +kernel
theorem dX9_pass_35 : decode cX9_pass 35 = .ok (.iload_n 3, 1) := by decide +kernel
theorem dX9_pass_36 : decode cX9_pass 36 = .ok (.iload_n 1, 1) := by decide +kernel
theorem dX9_pass_37 : decode cX9_pass 37 = .ok (.if_icmp .ge 171, 3) := by decide +kernel
theorem dX9_pass_40 : decode cX9_pass 40 = .ok (.aload_n 0, 1) := by decide +kernel
theorem dX9_pass_41 : decode cX9_pass 41 = .ok (.dup, 1) := by decide +kernel
theorem dX9_pass_42 : decode cX9_pass 42 = .ok (.getfield 141, 3) := by decide +kernel
theorem dX9_pass_45 : decode cX9_pass 45 = .ok (.iconst 1, 1) := by decide +kernel
theorem dX9_pass_46 : decode cX9_pass 46 = .ok (.iadd, 1) := by decide +kernel
theorem dX9_pass_47 : decode cX9_pass 47 = .ok (.putfield 141, 3) := by decide +kernel
theorem dX9_pass_50 : decode cX9_pass 50 = .ok (.aload_n 0, 1) := by decide +kernel
theorem dX9_pass_51 : decode cX9_pass 51 = .ok (.invokevirtual 214, 3) := by decide +kernel
theorem dX9_pass_54 : decode cX9_pass 54 = .ok (.iconst 0, 1) := by decide +kernel
theorem dX9_pass_55 : decode cX9_pass 55 = .ok (.istore 4, 2) := by decide +kernel
theorem dX9_pass_57 : decode cX9_pass 57 = .ok (.iload 4, 2) := by decide +kernel
theorem dX9_pass_59 : decode cX9_pass 59 = .ok (.bipush 6, 2) := by decide +kernel
theorem dX9_pass_61 : decode cX9_pass 61 = .ok (.if_icmp .ge 17, 3) := by decide +kernel
theorem dX9_pass_64 : decode cX9_pass 64 = .ok (.aload_n 0, 1) := by decide +kernel
theorem dX9_pass_65 : decode cX9_pass 65 = .ok (.getfield 113, 3) := by decide +kernel
theorem dX9_pass_68 : decode cX9_pass 68 = .ok (.iload 4, 2) := by decide +kernel
theorem dX9_pass_70 : decode cX9_pass 70 = .ok (.iconst 0, 1) := by decide +kernel
theorem dX9_pass_71 : decode cX9_pass 71 = .ok (.iastore, 1) := by decide +kernel
theorem dX9_pass_72 : decode cX9_pass 72 = .ok (.iinc 4 1, 3) := by decide +kernel
theorem dX9_pass_75 : decode cX9_pass 75 = .ok (.goto (-18), 3) := by decide +kernel
theorem dX9_pass_78 : decode cX9_pass 78 = .ok (.aload_n 0, 1) := by decide +kernel
theorem dX9_pass_79 : decode cX9_pass 79 = .ok (.aload_n 0, 1) := by decide +kernel
theorem dX9_pass_80 : decode cX9_pass 80 = .ok (.getfield 13, 3) := by decide +kernel
theorem dX9_pass_83 : decode cX9_pass 83 = .ok (.aload_n 0, 1) := by decide +kernel
theorem dX9_pass_84 : decode cX9_pass 84 = .ok (.getfield 110, 3) := by decide +kernel
theorem dX9_pass_87 : decode cX9_pass 87 = .ok (.aload_n 0, 1) := by decide +kernel
theorem dX9_pass_88 : decode cX9_pass 88 = .ok (.getfield 141, 3) := by decide +kernel
theorem dX9_pass_91 : decode cX9_pass 91 = .ok (.aload_n 0, 1) := by decide +kernel
theorem dX9_pass_92 : decode cX9_pass 92 = .ok (.getfield 113, 3) := by decide +kernel
theorem dX9_pass_95 : decode cX9_pass 95 = .ok (.invokevirtual 217, 3) := by decide +kernel
theorem dX9_pass_98 : decode cX9_pass 98 = .ok (.iconst 0, 1) := by decide +kernel
theorem dX9_pass_99 : decode cX9_pass 99 = .ok (.istore 4, 2) := by decide +kernel
theorem dX9_pass_101 : decode cX9_pass 101 = .ok (.iload 4, 2) := by decide +kernel
theorem dX9_pass_103 : decode cX9_pass 103 = .ok (.aload_n 0, 1) := by decide +kernel
theorem dX9_pass_104 : decode cX9_pass 104 = .ok (.getfield 127, 3) := by decide +kernel
theorem dX9_pass_107 : decode cX9_pass 107 = .ok (.if_icmp .ge 42, 3) := by decide +kernel
theorem dX9_pass_110 : decode cX9_pass 110 = .ok (.aload_n 0, 1) := by decide +kernel
theorem dX9_pass_111 : decode cX9_pass 111 = .ok (.getfield 25, 3) := by decide +kernel
theorem dX9_pass_114 : decode cX9_pass 114 = .ok (.iload 4, 2) := by decide +kernel
theorem dX9_pass_116 : decode cX9_pass 116 = .ok (.dup2, 1) := by decide +kernel
theorem dX9_pass_117 : decode cX9_pass 117 = .ok (.iaload, 1) := by decide +kernel
theorem dX9_pass_118 : decode cX9_pass 118 = .ok (.aload_n 0, 1) := by decide +kernel
theorem dX9_pass_119 : decode cX9_pass 119 = .ok (.getfield 113, 3) := by decide +kernel
theorem dX9_pass_122 : decode cX9_pass 122 = .ok (.iload 4, 2) := by decide +kernel
theorem dX9_pass_124 : decode cX9_pass 124 = .ok (.iaload, 1) := by decide +kernel
theorem dX9_pass_125 : decode cX9_pass 125 = .ok (.iadd, 1) := by decide +kernel
theorem dX9_pass_126 : decode cX9_pass 126 = .ok (.iastore, 1) := by decide +kernel
theorem dX9_pass_127 : decode cX9_pass 127 = .ok (.aload_n 0, 1) := by decide +kernel
theorem dX9_pass_128 : decode cX9_pass 128 = .ok (.dup, 1) := by decide +kernel
theorem dX9_pass_129 : decode cX9_pass 129 = .ok (.getfield 221, 3) := by decide +kernel
theorem dX9_pass_132 : decode cX9_pass 132 = .ok (.aload_n 0, 1) := by decide +kernel
theorem dX9_pass_133 : decode cX9_pass 133 = .ok (.getfield 113, 3) := by decide +kernel
theorem dX9_pass_136 : decode cX9_pass 136 = .ok (.iload 4, 2) := by decide +kernel
theorem dX9_pass_138 : decode cX9_pass 138 = .ok (.iaload, 1) := by decide +kernel
theorem dX9_pass_139 : decode cX9_pass 139 = .ok (.iadd, 1) := by decide +kernel
theorem dX9_pass_140 : decode cX9_pass 140 = .ok (.putfield 221, 3) := by decide +kernel
theorem dX9_pass_143 : decode cX9_pass 143 = .ok (.iinc 4 1, 3) := by decide +kernel
theorem dX9_pass_146 : decode cX9_pass 146 = .ok (.goto (-45), 3) := by decide +kernel
theorem dX9_pass_149 : decode cX9_pass 149 = .ok (.iconst 0, 1) := by decide +kernel
theorem dX9_pass_150 : decode cX9_pass 150 = .ok (.istore 4, 2) := by decide +kernel
theorem dX9_pass_152 : decode cX9_pass 152 = .ok (.iload 4, 2) := by decide +kernel
theorem dX9_pass_154 : decode cX9_pass 154 = .ok (.aload_n 0, 1) := by decide +kernel
theorem dX9_pass_155 : decode cX9_pass 155 = .ok (.getfield 164, 3) := by decide +kernel
theorem dX9_pass_158 : decode cX9_pass 158 = .ok (.if_icmp .ge 36, 3) := by decide +kernel
theorem dX9_pass_161 : decode cX9_pass 161 = .ok (.aload_n 0, 1) := by decide +kernel
theorem dX9_pass_162 : decode cX9_pass 162 = .ok (.getfield 95, 3) := by decide +kernel
theorem dX9_pass_165 : decode cX9_pass 165 = .ok (.iload 4, 2) := by decide +kernel
theorem dX9_pass_167 : decode cX9_pass 167 = .ok (.dup2, 1) := by decide +kernel
theorem dX9_pass_168 : decode cX9_pass 168 = .ok (.iaload, 1) := by decide +kernel
theorem dX9_pass_169 : decode cX9_pass 169 = .ok (.aload_n 0, 1) := by decide +kernel
theorem dX9_pass_170 : decode cX9_pass 170 = .ok (.getfield 104, 3) := by decide +kernel
theorem dX9_pass_173 : decode cX9_pass 173 = .ok (.iload 4, 2) := by decide +kernel
theorem dX9_pass_175 : decode cX9_pass 175 = .ok (.iaload, 1) := by decide +kernel
theorem dX9_pass_176 : decode cX9_pass 176 = .ok (.iadd, 1) := by decide +kernel
theorem dX9_pass_177 : decode cX9_pass 177 = .ok (.iastore, 1) := by decide +kernel
theorem dX9_pass_178 : decode cX9_pass 178 = .ok (.iload_n 2, 1) := by decide +kernel
theorem dX9_pass_179 : decode cX9_pass 179 = .ok (.aload_n 0, 1) := by decide +kernel
theorem dX9_pass_180 : decode cX9_pass 180 = .ok (.getfield 104, 3) := by decide +kernel
theorem dX9_pass_183 : decode cX9_pass 183 = .ok (.iload 4, 2) := by decide +kernel
theorem dX9_pass_185 : decode cX9_pass 185 = .ok (.iaload, 1) := by decide +kernel
theorem dX9_pass_186 : decode cX9_pass 186 = .ok (.iadd, 1) := by decide +kernel
theorem dX9_pass_187 : decode cX9_pass 187 = .ok (.istore_n 2, 1) := by decide +kernel
theorem dX9_pass_188 : decode cX9_pass 188 = .ok (.iinc 4 1, 3) := by decide +kernel
theorem dX9_pass_191 : decode cX9_pass 191 = .ok (.goto (-39), 3) := by decide +kernel
theorem dX9_pass_194 : decode cX9_pass 194 = .ok (.aload_n 0, 1) := by decide +kernel
theorem dX9_pass_195 : decode cX9_pass 195 = .ok (.invokevirtual 224, 3) := by decide +kernel
theorem dX9_pass_198 : decode cX9_pass 198 = .ok (.aload_n 0, 1) := by decide +kernel
theorem dX9_pass_199 : decode cX9_pass 199 = .ok (.invokevirtual 227, 3) := by decide +kernel
theorem dX9_pass_202 : decode cX9_pass 202 = .ok (.iinc 3 1, 3) := by decide +kernel
theorem dX9_pass_205 : decode cX9_pass 205 = .ok (.goto (-170), 3) := by decide +kernel
theorem dX9_pass_208 : decode cX9_pass 208 = .ok (.aload_n 0, 1) := by decide +kernel
theorem dX9_pass_209 : decode cX9_pass 209 = .ok (.dup, 1) := by decide +kernel
theorem dX9_pass_210 : decode cX9_pass 210 = .ok (.getfield 230, 3) := by decide +kernel
theorem dX9_pass_213 : decode cX9_pass 213 = .ok (.iload_n 2, 1) := by decide +kernel
theorem dX9_pass_214 : decode cX9_pass 214 = .ok (.iadd, 1) := by decide +kernel
theorem dX9_pass_215 : decode cX9_pass 215 = .ok (.putfield 230, 3) := by decide +kernel
theorem dX9_pass_218 : decode cX9_pass 218 = .ok (.iload_n 2, 1) := by decide +kernel
theorem dX9_pass_219 : decode cX9_pass 219 = .ok (.ireturn, 1) := by decide +kernel
set_option maxRecDepth 20000 in
theorem ggX9_rest_X9_isIn : GoodIn wsX9_rest wsX9_isIn := goodIn_r _ [7] (by decide +kernel) (by decide +kernel)
set_option maxRecDepth 20000 in
theorem gX9_rest_X9_isIn : GoodIn wsX9_rest (va_wsS RX9 134 yX9_isIn wsX9_isIn) := goodIn_app (goodIn_of _ (by decide +kernel)) ggX9_rest_X9_isIn
set_option maxRecDepth 20000 in
theorem ggX9_rest_X9_refuse : GoodIn wsX9_rest wsX9_refuse := goodIn_r _ [11, 12, 13, 14, 15, 16, 17, 18, 19, 20, 21, 22, 23, 24, 25, 26, 27, 28, 29, 30, 31, 32, 33, 34, 35, 36, 37, 38, 39, 40, 41, 42, 43, 44, 45, 46, 47, 48, 49, 50, 51, 52, 53, 54, 55, 56, 57, 58, 59, 60, 61, 62, 63] (by decide +kernel) (by decide +kernel)
set_option maxRecDepth 20000 in
theorem gX9_rest_X9_refuse : GoodIn wsX9_rest (wsV RX9 122 RX9 yX9_refuse wsX9_refuse) := goodIn_app (goodIn_of _ (by decide +kernel)) ggX9_rest_X9_refuse
theorem dX9_rest_0 : decode cX9_rest 0 = .ok (.iload_n 1, 1) := by decide +kernel
theorem dX9_rest_1 : decode cX9_rest 1 = .ok (.aload_n 0, 1) := by decide +kernel
theorem dX9_rest_2 : decode cX9_rest 2 = .ok (.getfield 127, 3) := by decide +kernel
theorem dX9_rest_5 : decode cX9_rest 5 = .ok (.invokestatic 134, 3) := by decide +kernel
theorem dX9_rest_8 : decode cX9_rest 8 = .ok (.ifCond .ne 9, 3) := by decide +kernel
theorem dX9_rest_11 : decode cX9_rest 11 = .ok (.aload_n 0, 1) := by decide +kernel
theorem dX9_rest_12 : decode cX9_rest 12 = .ok (.iconst (-1), 1) := by decide +kernel
theorem dX9_rest_13 : decode cX9_rest 13 = .ok (.invokevirtual 122, 3) := by decide +kernel
theorem dX9_rest_16 : decode cX9_rest 16 = .ok (.ireturn, 1) := by decide +kernel
set_option maxRecDepth 20000 in
theorem ggX9_cut_X9_isIn : GoodIn wsX9_cut wsX9_isIn := goodIn_r _ [18] (by decide +kernel) (by decide +kernel)
set_option maxRecDepth 20000 in
theorem gX9_cut_X9_isIn : GoodIn wsX9_cut (va_wsS RX9 134 yX9_isIn wsX9_isIn) := goodIn_app (goodIn_of _ (by decide +kernel)) ggX9_cut_X9_isIn
set_option maxRecDepth 20000 in
theorem ggX9_cut_X9_refuse : GoodIn wsX9_cut wsX9_refuse := goodIn_r _ [22, 23, 58, 59, 60, 61, 62, 63, 64, 65, 66, 67, 68, 69, 70, 71, 72, 73, 74, 75, 76, 77, 78, 79, 80, 81, 82, 83, 84, 85, 86, 87, 88, 89, 90, 91, 92, 93, 94, 95, 96, 97, 98, 99, 100, 101, 102, 103, 104, 105, 106, 107, 108] (by decide +kernel) (by decide +kernel)
set_option maxRecDepth 20000 in
theorem gX9_cut_X9_refuse : GoodIn wsX9_cut (wsV RX9 122 RX9 yX9_refuse wsX9_refuse) := goodIn_app (goodIn_of _ (by decide +kernel)) ggX9_cut_X9_refuse
theorem dX9_cut_0 : decode cX9_cut 0 = .ok (.iload_n 1, 1) := by decide +kernel
theorem dX9_cut_1 : decode cX9_cut 1 = .ok (.aload_n 0, 1) := by decide +kernel
theorem dX9_cut_2 : decode cX9_cut 2 = .ok (.getfield 127, 3) := by decide +kernel
theorem dX9_cut_5 : decode cX9_cut 5 = .ok (.invokestatic 134, 3) := by decide +kernel
theorem dX9_cut_8 : decode cX9_cut 8 = .ok (.ifCond .ne 9, 3) := by decide +kernel
theorem dX9_cut_11 : decode cX9_cut 11 = .ok (.aload_n 0, 1) := by decide +kernel
theorem dX9_cut_12 : decode cX9_cut 12 = .ok (.iconst (-1), 1) := by decide +kernel
theorem dX9_cut_13 : decode cX9_cut 13 = .ok (.invokevirtual 122, 3) := by decide +kernel
theorem dX9_cut_16 : decode cX9_cut 16 = .ok (.ireturn, 1) := by decide +kernel
set_option maxRecDepth 20000 in
theorem ggX9_pound_X9_isIn : GoodIn wsX9_pound wsX9_isIn := goodIn_r _ [10] (by decide +kernel) (by decide +kernel)
set_option maxRecDepth 20000 in
theorem gX9_pound_X9_isIn : GoodIn wsX9_pound (va_wsS RX9 134 yX9_isIn wsX9_isIn) := goodIn_app (goodIn_of _ (by decide +kernel)) ggX9_pound_X9_isIn
set_option maxRecDepth 20000 in
theorem ggX9_pound_X9_refuse : GoodIn wsX9_pound wsX9_refuse := goodIn_r _ [14, 15, 63, 64, 65, 66, 67, 68, 69, 70, 71, 72, 73, 74, 75, 76, 77, 78, 79, 80, 81, 82, 83, 84, 85, 86, 87, 88, 89, 90, 91, 92, 93, 94, 95, 96, 97, 98, 99, 100, 101, 102, 103, 104, 105, 106, 107, 108, 109, 110, 111, 112, 113] (by decide +kernel) (by decide +kernel)
set_option maxRecDepth 20000 in
theorem gX9_pound_X9_refuse : GoodIn wsX9_pound (wsV RX9 122 RX9 yX9_refuse wsX9_refuse) := goodIn_app (goodIn_of _ (by decide +kernel)) ggX9_pound_X9_refuse
theorem dX9_pound_0 : decode cX9_pound 0 = .ok (.iload_n 1, 1) := by decide +kernel
theorem dX9_pound_1 : decode cX9_pound 1 = .ok (.aload_n 0, 1) := by decide +kernel
theorem dX9_pound_2 : decode cX9_pound 2 = .ok (.getfield 164, 3) := by decide +kernel
theorem dX9_pound_5 : decode cX9_pound 5 = .ok (.invokestatic 134, 3) := by decide +kernel
theorem dX9_pound_8 : decode cX9_pound 8 = .ok (.ifCond .ne 9, 3) := by decide +kernel
theorem dX9_pound_11 : decode cX9_pound 11 = .ok (.aload_n 0, 1) := by decide +kernel
theorem dX9_pound_12 : decode cX9_pound 12 = .ok (.iconst (-1), 1) := by decide +kernel
theorem dX9_pound_13 : decode cX9_pound 13 = .ok (.invokevirtual 122, 3) := by decide +kernel
theorem dX9_pound_16 : decode cX9_pound 16 = .ok (.ireturn, 1) := by decide +kernel
set_option maxRecDepth 20000 in
theorem ggX9_free_X9_isIn : GoodIn wsX9_free wsX9_isIn := goodIn_r _ [9] (by decide +kernel) (by decide +kernel)
set_option maxRecDepth 20000 in
theorem gX9_free_X9_isIn : GoodIn wsX9_free (va_wsS RX9 134 yX9_isIn wsX9_isIn) := goodIn_app (goodIn_of _ (by decide +kernel)) ggX9_free_X9_isIn
set_option maxRecDepth 20000 in
theorem ggX9_free_X9_refuse : GoodIn wsX9_free wsX9_refuse := goodIn_r _ [13, 14, 22, 23, 24, 25, 26, 27, 28, 29, 30, 31, 32, 33, 34, 35, 36, 37, 38, 39, 40, 41, 42, 43, 44, 45, 46, 47, 48, 49, 50, 51, 52, 53, 54, 55, 56, 57, 58, 59, 60, 61, 62, 63, 64, 65, 66, 67, 68, 69, 70, 71, 72] (by decide +kernel) (by decide +kernel)
set_option maxRecDepth 20000 in
theorem gX9_free_X9_refuse : GoodIn wsX9_free (wsV RX9 122 RX9 yX9_refuse wsX9_refuse) := goodIn_app (goodIn_of _ (by decide +kernel)) ggX9_free_X9_refuse
theorem dX9_free_0 : decode cX9_free 0 = .ok (.iload_n 1, 1) := by decide +kernel
theorem dX9_free_1 : decode cX9_free 1 = .ok (.aload_n 0, 1) := by decide +kernel
theorem dX9_free_2 : decode cX9_free 2 = .ok (.getfield 164, 3) := by decide +kernel
theorem dX9_free_5 : decode cX9_free 5 = .ok (.invokestatic 134, 3) := by decide +kernel
theorem dX9_free_8 : decode cX9_free 8 = .ok (.ifCond .ne 9, 3) := by decide +kernel
theorem dX9_free_11 : decode cX9_free 11 = .ok (.aload_n 0, 1) := by decide +kernel
theorem dX9_free_12 : decode cX9_free 12 = .ok (.iconst (-1), 1) := by decide +kernel
theorem dX9_free_13 : decode cX9_free 13 = .ok (.invokevirtual 122, 3) := by decide +kernel
theorem dX9_free_16 : decode cX9_free 16 = .ok (.ireturn, 1) := by decide +kernel
set_option maxRecDepth 20000 in
theorem ggX9_plan_X9_isIn : GoodIn wsX9_plan wsX9_isIn := goodIn_r _ [12] (by decide +kernel) (by decide +kernel)
set_option maxRecDepth 20000 in
theorem gX9_plan_X9_isIn : GoodIn wsX9_plan (va_wsS RX9 134 yX9_isIn wsX9_isIn) := goodIn_app (goodIn_of _ (by decide +kernel)) ggX9_plan_X9_isIn
set_option maxRecDepth 20000 in
theorem ggX9_plan_X9_refuse : GoodIn wsX9_plan wsX9_refuse := goodIn_r _ [16, 17, 77, 78, 79, 80, 81, 82, 83, 84, 85, 86, 87, 88, 89, 90, 91, 92, 93, 94, 95, 96, 97, 98, 99, 100, 101, 102, 103, 104, 105, 106, 107, 108, 109, 110, 111, 112, 113, 114, 115, 116, 117, 118, 119, 120, 121, 122, 123, 124, 125, 126, 127] (by decide +kernel) (by decide +kernel)
set_option maxRecDepth 20000 in
theorem gX9_plan_X9_refuse : GoodIn wsX9_plan (wsV RX9 122 RX9 yX9_refuse wsX9_refuse) := goodIn_app (goodIn_of _ (by decide +kernel)) ggX9_plan_X9_refuse
theorem dX9_plan_0 : decode cX9_plan 0 = .ok (.iload_n 1, 1) := by decide +kernel
theorem dX9_plan_1 : decode cX9_plan 1 = .ok (.aload_n 0, 1) := by decide +kernel
theorem dX9_plan_2 : decode cX9_plan 2 = .ok (.getfield 164, 3) := by decide +kernel
theorem dX9_plan_5 : decode cX9_plan 5 = .ok (.invokestatic 134, 3) := by decide +kernel
theorem dX9_plan_8 : decode cX9_plan 8 = .ok (.ifCond .eq 24, 3) := by decide +kernel
theorem dX9_plan_32 : decode cX9_plan 32 = .ok (.aload_n 0, 1) := by decide +kernel
theorem dX9_plan_33 : decode cX9_plan 33 = .ok (.iconst (-1), 1) := by decide +kernel
theorem dX9_plan_34 : decode cX9_plan 34 = .ok (.invokevirtual 122, 3) := by decide +kernel
theorem dX9_plan_37 : decode cX9_plan 37 = .ok (.ireturn, 1) := by decide +kernel
set_option maxRecDepth 20000 in
theorem ggX9_planned_X9_isIn : GoodIn wsX9_planned wsX9_isIn := goodIn_r _ [7] (by decide +kernel) (by decide +kernel)
set_option maxRecDepth 20000 in
theorem gX9_planned_X9_isIn : GoodIn wsX9_planned (va_wsS RX9 134 yX9_isIn wsX9_isIn) := goodIn_app (goodIn_of _ (by decide +kernel)) ggX9_planned_X9_isIn
theorem dX9_planned_0 : decode cX9_planned 0 = .ok (.iload_n 1, 1) := by decide +kernel
theorem dX9_planned_1 : decode cX9_planned 1 = .ok (.aload_n 0, 1) := by decide +kernel
theorem dX9_planned_2 : decode cX9_planned 2 = .ok (.getfield 250, 3) := by decide +kernel
theorem dX9_planned_5 : decode cX9_planned 5 = .ok (.invokestatic 134, 3) := by decide +kernel
theorem dX9_planned_8 : decode cX9_planned 8 = .ok (.ifCond .eq 30, 3) := by decide +kernel
theorem dX9_planned_38 : decode cX9_planned 38 = .ok (.bipush (-9), 2) := by decide +kernel
theorem dX9_planned_40 : decode cX9_planned 40 = .ok (.ireturn, 1) := by decide +kernel
set_option maxRecDepth 20000 in
theorem ggX9_pieceOf_X9_isIn : GoodIn wsX9_pieceOf wsX9_isIn := goodIn_r _ [12] (by decide +kernel) (by decide +kernel)
set_option maxRecDepth 20000 in
theorem gX9_pieceOf_X9_isIn : GoodIn wsX9_pieceOf (va_wsS RX9 134 yX9_isIn wsX9_isIn) := goodIn_app (goodIn_of _ (by decide +kernel)) ggX9_pieceOf_X9_isIn
set_option maxRecDepth 20000 in
theorem ggX9_pieceOf_X9_refuse : GoodIn wsX9_pieceOf wsX9_refuse := goodIn_r _ [16, 17, 36, 37, 38, 39, 40, 41, 42, 43, 44, 45, 46, 47, 48, 49, 50, 51, 52, 53, 54, 55, 56, 57, 58, 59, 60, 61, 62, 63, 64, 65, 66, 67, 68, 69, 70, 71, 72, 73, 74, 75, 76, 77, 78, 79, 80, 81, 82, 83, 84, 85, 86] (by decide +kernel) (by decide +kernel)
set_option maxRecDepth 20000 in
theorem gX9_pieceOf_X9_refuse : GoodIn wsX9_pieceOf (wsV RX9 122 RX9 yX9_refuse wsX9_refuse) := goodIn_app (goodIn_of _ (by decide +kernel)) ggX9_pieceOf_X9_refuse
theorem dX9_pieceOf_0 : decode cX9_pieceOf 0 = .ok (.iload_n 1, 1) := by decide +kernel
theorem dX9_pieceOf_1 : decode cX9_pieceOf 1 = .ok (.aload_n 0, 1) := by decide +kernel
theorem dX9_pieceOf_2 : decode cX9_pieceOf 2 = .ok (.getfield 127, 3) := by decide +kernel
theorem dX9_pieceOf_5 : decode cX9_pieceOf 5 = .ok (.invokestatic 134, 3) := by decide +kernel
theorem dX9_pieceOf_8 : decode cX9_pieceOf 8 = .ok (.ifCond .ne 9, 3) := by decide +kernel
theorem dX9_pieceOf_11 : decode cX9_pieceOf 11 = .ok (.aload_n 0, 1) := by decide +kernel
theorem dX9_pieceOf_12 : decode cX9_pieceOf 12 = .ok (.iconst (-1), 1) := by decide +kernel
theorem dX9_pieceOf_13 : decode cX9_pieceOf 13 = .ok (.invokevirtual 122, 3) := by decide +kernel
theorem dX9_pieceOf_16 : decode cX9_pieceOf 16 = .ok (.ireturn, 1) := by decide +kernel
set_option maxRecDepth 20000 in
theorem ggX9_rightOf_X9_isIn : GoodIn wsX9_rightOf wsX9_isIn := goodIn_r _ [11] (by decide +kernel) (by decide +kernel)
set_option maxRecDepth 20000 in
theorem gX9_rightOf_X9_isIn : GoodIn wsX9_rightOf (va_wsS RX9 134 yX9_isIn wsX9_isIn) := goodIn_app (goodIn_of _ (by decide +kernel)) ggX9_rightOf_X9_isIn
set_option maxRecDepth 20000 in
theorem ggX9_rightOf_X9_refuse : GoodIn wsX9_rightOf wsX9_refuse := goodIn_r _ [15, 16, 33, 34, 35, 36, 37, 38, 39, 40, 41, 42, 43, 44, 45, 46, 47, 48, 49, 50, 51, 52, 53, 54, 55, 56, 57, 58, 59, 60, 61, 62, 63, 64, 65, 66, 67, 68, 69, 70, 71, 72, 73, 74, 75, 76, 77, 78, 79, 80, 81, 82, 83] (by decide +kernel) (by decide +kernel)
set_option maxRecDepth 20000 in
theorem gX9_rightOf_X9_refuse : GoodIn wsX9_rightOf (wsV RX9 122 RX9 yX9_refuse wsX9_refuse) := goodIn_app (goodIn_of _ (by decide +kernel)) ggX9_rightOf_X9_refuse
theorem dX9_rightOf_0 : decode cX9_rightOf 0 = .ok (.iload_n 1, 1) := by decide +kernel
theorem dX9_rightOf_1 : decode cX9_rightOf 1 = .ok (.aload_n 0, 1) := by decide +kernel
theorem dX9_rightOf_2 : decode cX9_rightOf 2 = .ok (.getfield 148, 3) := by decide +kernel
theorem dX9_rightOf_5 : decode cX9_rightOf 5 = .ok (.invokestatic 134, 3) := by decide +kernel
theorem dX9_rightOf_8 : decode cX9_rightOf 8 = .ok (.ifCond .ne 9, 3) := by decide +kernel
theorem dX9_rightOf_11 : decode cX9_rightOf 11 = .ok (.aload_n 0, 1) := by decide +kernel
theorem dX9_rightOf_12 : decode cX9_rightOf 12 = .ok (.iconst (-1), 1) := by decide +kernel
theorem dX9_rightOf_13 : decode cX9_rightOf 13 = .ok (.invokevirtual 122, 3) := by decide +kernel
theorem dX9_rightOf_16 : decode cX9_rightOf 16 = .ok (.ireturn, 1) := by decide +kernel
set_option maxRecDepth 20000 in
theorem ggX9_herdOf_X9_isIn : GoodIn wsX9_herdOf wsX9_isIn := goodIn_r _ [11] (by decide +kernel) (by decide +kernel)
set_option maxRecDepth 20000 in
theorem gX9_herdOf_X9_isIn : GoodIn wsX9_herdOf (va_wsS RX9 134 yX9_isIn wsX9_isIn) := goodIn_app (goodIn_of _ (by decide +kernel)) ggX9_herdOf_X9_isIn
set_option maxRecDepth 20000 in
theorem ggX9_herdOf_X9_refuse : GoodIn wsX9_herdOf wsX9_refuse := goodIn_r _ [15, 16, 23, 24, 25, 26, 27, 28, 29, 30, 31, 32, 33, 34, 35, 36, 37, 38, 39, 40, 41, 42, 43, 44, 45, 46, 47, 48, 49, 50, 51, 52, 53, 54, 55, 56, 57, 58, 59, 60, 61, 62, 63, 64, 65, 66, 67, 68, 69, 70, 71, 72, 73] (by decide +kernel) (by decide +kernel)
set_option maxRecDepth 20000 in
theorem gX9_herdOf_X9_refuse : GoodIn wsX9_herdOf (wsV RX9 122 RX9 yX9_refuse wsX9_refuse) := goodIn_app (goodIn_of _ (by decide +kernel)) ggX9_herdOf_X9_refuse
theorem dX9_herdOf_0 : decode cX9_herdOf 0 = .ok (.iload_n 1, 1) := by decide +kernel
theorem dX9_herdOf_1 : decode cX9_herdOf 1 = .ok (.aload_n 0, 1) := by decide +kernel
theorem dX9_herdOf_2 : decode cX9_herdOf 2 = .ok (.getfield 164, 3) := by decide +kernel
theorem dX9_herdOf_5 : decode cX9_herdOf 5 = .ok (.invokestatic 134, 3) := by decide +kernel
theorem dX9_herdOf_8 : decode cX9_herdOf 8 = .ok (.ifCond .ne 9, 3) := by decide +kernel
theorem dX9_herdOf_11 : decode cX9_herdOf 11 = .ok (.aload_n 0, 1) := by decide +kernel
theorem dX9_herdOf_12 : decode cX9_herdOf 12 = .ok (.iconst (-1), 1) := by decide +kernel
theorem dX9_herdOf_13 : decode cX9_herdOf 13 = .ok (.invokevirtual 122, 3) := by decide +kernel
theorem dX9_herdOf_16 : decode cX9_herdOf 16 = .ok (.ireturn, 1) := by decide +kernel
set_option maxRecDepth 20000 in
theorem ggX9_ownerOf_X9_isIn : GoodIn wsX9_ownerOf wsX9_isIn := goodIn_r _ [12] (by decide +kernel) (by decide +kernel)
set_option maxRecDepth 20000 in
theorem gX9_ownerOf_X9_isIn : GoodIn wsX9_ownerOf (va_wsS RX9 134 yX9_isIn wsX9_isIn) := goodIn_app (goodIn_of _ (by decide +kernel)) ggX9_ownerOf_X9_isIn
set_option maxRecDepth 20000 in
theorem ggX9_ownerOf_X9_refuse : GoodIn wsX9_ownerOf wsX9_refuse := goodIn_r _ [16, 17, 54, 55, 56, 57, 58, 59, 60, 61, 62, 63, 64, 65, 66, 67, 68, 69, 70, 71, 72, 73, 74, 75, 76, 77, 78, 79, 80, 81, 82, 83, 84, 85, 86, 87, 88, 89, 90, 91, 92, 93, 94, 95, 96, 97, 98, 99, 100, 101, 102, 103, 104] (by decide +kernel) (by decide +kernel)
set_option maxRecDepth 20000 in
theorem gX9_ownerOf_X9_refuse : GoodIn wsX9_ownerOf (wsV RX9 122 RX9 yX9_refuse wsX9_refuse) := goodIn_app (goodIn_of _ (by decide +kernel)) ggX9_ownerOf_X9_refuse
theorem dX9_ownerOf_0 : decode cX9_ownerOf 0 = .ok (.iload_n 1, 1) := by decide +kernel
theorem dX9_ownerOf_1 : decode cX9_ownerOf 1 = .ok (.iconst (-1), 1) := by decide +kernel
theorem dX9_ownerOf_2 : decode cX9_ownerOf 2 = .ok (.if_icmp .eq 20, 3) := by decide +kernel
theorem dX9_ownerOf_5 : decode cX9_ownerOf 5 = .ok (.iload_n 1, 1) := by decide +kernel
theorem dX9_ownerOf_6 : decode cX9_ownerOf 6 = .ok (.aload_n 0, 1) := by decide +kernel
theorem dX9_ownerOf_7 : decode cX9_ownerOf 7 = .ok (.getfield 131, 3) := by decide +kernel
theorem dX9_ownerOf_10 : decode cX9_ownerOf 10 = .ok (.invokestatic 134, 3) := by decide +kernel
theorem dX9_ownerOf_13 : decode cX9_ownerOf 13 = .ok (.ifCond .ne 9, 3) := by decide +kernel
theorem dX9_ownerOf_16 : decode cX9_ownerOf 16 = .ok (.aload_n 0, 1) := by decide +kernel
theorem dX9_ownerOf_17 : decode cX9_ownerOf 17 = .ok (.iconst (-1), 1) := by decide +kernel
theorem dX9_ownerOf_18 : decode cX9_ownerOf 18 = .ok (.invokevirtual 122, 3) := by decide +kernel
theorem dX9_ownerOf_21 : decode cX9_ownerOf 21 = .ok (.ireturn, 1) := by decide +kernel
theorem dX9_ownerOf_22 : decode cX9_ownerOf 22 = .ok (.iconst 0, 1) := by decide +kernel
theorem dX9_ownerOf_23 : decode cX9_ownerOf 23 = .ok (.istore_n 3, 1) := by decide +kernel
theorem dX9_ownerOf_24 : decode cX9_ownerOf 24 = .ok (.iload_n 2, 1) := by decide +kernel
theorem dX9_ownerOf_25 : decode cX9_ownerOf 25 = .ok (.tableswitch 163 0 3 #[31, 49, 67, 120], 31) := by decide +kernel
theorem dX9_ownerOf_56 : decode cX9_ownerOf 56 = .ok (.iload_n 1, 1) := by decide +kernel
theorem dX9_ownerOf_57 : decode cX9_ownerOf 57 = .ok (.ifCond .ge 10, 3) := by decide +kernel
theorem dX9_ownerOf_60 : decode cX9_ownerOf 60 = .ok (.aload_n 0, 1) := by decide +kernel
theorem dX9_ownerOf_61 : decode cX9_ownerOf 61 = .ok (.getfield 205, 3) := by decide +kernel
theorem dX9_ownerOf_64 : decode cX9_ownerOf 64 = .ok (.goto 9, 3) := by decide +kernel
theorem dX9_ownerOf_73 : decode cX9_ownerOf 73 = .ok (.ireturn, 1) := by decide +kernel
theorem dX9_ownerOf_74 : decode cX9_ownerOf 74 = .ok (.iload_n 1, 1) := by decide +kernel
theorem dX9_ownerOf_75 : decode cX9_ownerOf 75 = .ok (.ifCond .ge 10, 3) := by decide +kernel
theorem dX9_ownerOf_78 : decode cX9_ownerOf 78 = .ok (.aload_n 0, 1) := by decide +kernel
theorem dX9_ownerOf_79 : decode cX9_ownerOf 79 = .ok (.getfield 236, 3) := by decide +kernel
theorem dX9_ownerOf_82 : decode cX9_ownerOf 82 = .ok (.goto 9, 3) := by decide +kernel
theorem dX9_ownerOf_91 : decode cX9_ownerOf 91 = .ok (.ireturn, 1) := by decide +kernel
theorem dX9_ownerOf_92 : decode cX9_ownerOf 92 = .ok (.iconst 0, 1) := by decide +kernel
theorem dX9_ownerOf_93 : decode cX9_ownerOf 93 = .ok (.istore 4, 2) := by decide +kernel
theorem dX9_ownerOf_95 : decode cX9_ownerOf 95 = .ok (.iload 4, 2) := by decide +kernel
theorem dX9_ownerOf_97 : decode cX9_ownerOf 97 = .ok (.aload_n 0, 1) := by decide +kernel
theorem dX9_ownerOf_98 : decode cX9_ownerOf 98 = .ok (.getfield 164, 3) := by decide +kernel
theorem dX9_ownerOf_101 : decode cX9_ownerOf 101 = .ok (.if_icmp .ge 42, 3) := by decide +kernel
theorem dX9_ownerOf_143 : decode cX9_ownerOf 143 = .ok (.iload_n 3, 1) := by decide +kernel
theorem dX9_ownerOf_144 : decode cX9_ownerOf 144 = .ok (.ireturn, 1) := by decide +kernel
theorem dX9_ownerOf_145 : decode cX9_ownerOf 145 = .ok (.iconst 0, 1) := by decide +kernel
theorem dX9_ownerOf_146 : decode cX9_ownerOf 146 = .ok (.istore 4, 2) := by decide +kernel
theorem dX9_ownerOf_148 : decode cX9_ownerOf 148 = .ok (.iload 4, 2) := by decide +kernel
theorem dX9_ownerOf_150 : decode cX9_ownerOf 150 = .ok (.aload_n 0, 1) := by decide +kernel
theorem dX9_ownerOf_151 : decode cX9_ownerOf 151 = .ok (.getfield 148, 3) := by decide +kernel
theorem dX9_ownerOf_154 : decode cX9_ownerOf 154 = .ok (.if_icmp .ge 32, 3) := by decide +kernel
theorem dX9_ownerOf_186 : decode cX9_ownerOf 186 = .ok (.iload_n 3, 1) := by decide +kernel
theorem dX9_ownerOf_187 : decode cX9_ownerOf 187 = .ok (.ireturn, 1) := by decide +kernel
theorem dX9_ownerOf_188 : decode cX9_ownerOf 188 = .ok (.aload_n 0, 1) := by decide +kernel
theorem dX9_ownerOf_189 : decode cX9_ownerOf 189 = .ok (.bipush (-2), 2) := by decide +kernel
theorem dX9_ownerOf_191 : decode cX9_ownerOf 191 = .ok (.invokevirtual 122, 3) := by decide +kernel
theorem dX9_ownerOf_194 : decode cX9_ownerOf 194 = .ok (.ireturn, 1) := by decide +kernel
theorem dX9_count_0 : decode cX9_count 0 = .ok (.iload_n 1, 1) := by decide +kernel
theorem dX9_count_1 : decode cX9_count 1 = .ok (.bipush 10, 2) := by decide +kernel
theorem dX9_count_3 : decode cX9_count 3 = .ok (.if_icmp .le 19, 3) := by decide +kernel
theorem dX9_count_6 : decode cX9_count 6 = .ok (.iload_n 1, 1) := by decide +kernel
theorem dX9_count_7 : decode cX9_count 7 = .ok (.bipush 17, 2) := by decide +kernel
theorem dX9_count_9 : decode cX9_count 9 = .ok (.if_icmp .ge 13, 3) := by decide +kernel
theorem dX9_count_12 : decode cX9_count 12 = .ok (.aload_n 0, 1) := by decide +kernel
theorem dX9_count_13 : decode cX9_count 13 = .ok (.getfield 7, 3) := by decide +kernel
theorem dX9_count_16 : decode cX9_count 16 = .ok (.iload_n 1, 1) := by decide +kernel
theorem dX9_count_17 : decode cX9_count 17 = .ok (.bipush 10, 2) := by decide +kernel
theorem dX9_count_19 : decode cX9_count 19 = .ok (.isub, 1) := by decide +kernel
theorem dX9_count_20 : decode cX9_count 20 = .ok (.iaload, 1) := by decide +kernel
theorem dX9_count_21 : decode cX9_count 21 = .ok (.ireturn, 1) := by decide +kernel
theorem dX9_count_22 : decode cX9_count 22 = .ok (.iconst 0, 1) := by decide +kernel
theorem dX9_count_23 : decode cX9_count 23 = .ok (.istore_n 2, 1) := by decide +kernel
theorem dX9_count_24 : decode cX9_count 24 = .ok (.iload_n 1, 1) := by decide +kernel
theorem dX9_count_25 : decode cX9_count 25 = .ok (.tableswitch 187 0 9 #[55, 60, 65, 70, 75, 109, 145, 172, 177, 182], 55) := by decide +kernel
theorem dX9_count_80 : decode cX9_count 80 = .ok (.aload_n 0, 1) := by decide +kernel
theorem dX9_count_81 : decode cX9_count 81 = .ok (.getfield 141, 3) := by decide +kernel
theorem dX9_count_84 : decode cX9_count 84 = .ok (.ireturn, 1) := by decide +kernel
theorem dX9_count_85 : decode cX9_count 85 = .ok (.aload_n 0, 1) := by decide +kernel
theorem dX9_count_86 : decode cX9_count 86 = .ok (.getfield 127, 3) := by decide +kernel
theorem dX9_count_89 : decode cX9_count 89 = .ok (.ireturn, 1) := by decide +kernel
theorem dX9_count_90 : decode cX9_count 90 = .ok (.aload_n 0, 1) := by decide +kernel
theorem dX9_count_91 : decode cX9_count 91 = .ok (.getfield 131, 3) := by decide +kernel
theorem dX9_count_94 : decode cX9_count 94 = .ok (.ireturn, 1) := by decide +kernel
theorem dX9_count_95 : decode cX9_count 95 = .ok (.aload_n 0, 1) := by decide +kernel
theorem dX9_count_96 : decode cX9_count 96 = .ok (.getfield 138, 3) := by decide +kernel
theorem dX9_count_99 : decode cX9_count 99 = .ok (.ireturn, 1) := by decide +kernel
theorem dX9_count_100 : decode cX9_count 100 = .ok (.iconst 0, 1) := by decide +kernel
theorem dX9_count_101 : decode cX9_count 101 = .ok (.istore_n 3, 1) := by decide +kernel
theorem dX9_count_102 : decode cX9_count 102 = .ok (.iload_n 3, 1) := by decide +kernel
theorem dX9_count_103 : decode cX9_count 103 = .ok (.aload_n 0, 1) := by decide +kernel
theorem dX9_count_104 : decode cX9_count 104 = .ok (.getfield 148, 3) := by decide +kernel
theorem dX9_count_107 : decode cX9_count 107 = .ok (.if_icmp .ge 25, 3) := by decide +kernel
theorem dX9_count_132 : decode cX9_count 132 = .ok (.iload_n 2, 1) := by decide +kernel
theorem dX9_count_133 : decode cX9_count 133 = .ok (.ireturn, 1) := by decide +kernel
theorem dX9_count_134 : decode cX9_count 134 = .ok (.iconst 0, 1) := by decide +kernel
theorem dX9_count_135 : decode cX9_count 135 = .ok (.istore_n 3, 1) := by decide +kernel
theorem dX9_count_136 : decode cX9_count 136 = .ok (.iload_n 3, 1) := by decide +kernel
theorem dX9_count_137 : decode cX9_count 137 = .ok (.aload_n 0, 1) := by decide +kernel
theorem dX9_count_138 : decode cX9_count 138 = .ok (.getfield 164, 3) := by decide +kernel
theorem dX9_count_141 : decode cX9_count 141 = .ok (.if_icmp .ge 27, 3) := by decide +kernel
theorem dX9_count_168 : decode cX9_count 168 = .ok (.iload_n 2, 1) := by decide +kernel
theorem dX9_count_169 : decode cX9_count 169 = .ok (.ireturn, 1) := by decide +kernel
theorem dX9_count_170 : decode cX9_count 170 = .ok (.iconst 0, 1) := by decide +kernel
theorem dX9_count_171 : decode cX9_count 171 = .ok (.istore_n 3, 1) := by decide +kernel
theorem dX9_count_172 : decode cX9_count 172 = .ok (.iload_n 3, 1) := by decide +kernel
theorem dX9_count_173 : decode cX9_count 173 = .ok (.aload_n 0, 1) := by decide +kernel
theorem dX9_count_174 : decode cX9_count 174 = .ok (.getfield 127, 3) := by decide +kernel
theorem dX9_count_177 : decode cX9_count 177 = .ok (.if_icmp .ge 18, 3) := by decide +kernel
theorem dX9_count_195 : decode cX9_count 195 = .ok (.iload_n 2, 1) := by decide +kernel
theorem dX9_count_196 : decode cX9_count 196 = .ok (.ireturn, 1) := by decide +kernel
theorem dX9_count_197 : decode cX9_count 197 = .ok (.aload_n 0, 1) := by decide +kernel
theorem dX9_count_198 : decode cX9_count 198 = .ok (.getfield 230, 3) := by decide +kernel
theorem dX9_count_201 : decode cX9_count 201 = .ok (.ireturn, 1) := by decide +kernel
theorem dX9_count_202 : decode cX9_count 202 = .ok (.aload_n 0, 1) := by decide +kernel
theorem dX9_count_203 : decode cX9_count 203 = .ok (.getfield 221, 3) := by decide +kernel
theorem dX9_count_206 : decode cX9_count 206 = .ok (.ireturn, 1) := by decide +kernel
theorem dX9_count_207 : decode cX9_count 207 = .ok (.aload_n 0, 1) := by decide +kernel
theorem dX9_count_208 : decode cX9_count 208 = .ok (.getfield 211, 3) := by decide +kernel
theorem dX9_count_211 : decode cX9_count 211 = .ok (.ireturn, 1) := by decide +kernel
theorem dX9_count_212 : decode cX9_count 212 = .ok (.bipush (-9), 2) := by decide +kernel
theorem dX9_count_214 : decode cX9_count 214 = .ok (.ireturn, 1) := by decide +kernel
theorem dJ9_max_7cf53_0 : decode cJ9_max_7cf53 0 = .ok (.iload_n 0, 1) := by decide +kernel
theorem dJ9_max_7cf53_1 : decode cJ9_max_7cf53 1 = .ok (.iload_n 1, 1) := by decide +kernel
theorem dJ9_max_7cf53_2 : decode cJ9_max_7cf53 2 = .ok (.if_icmp .lt 7, 3) := by decide +kernel
theorem dJ9_max_7cf53_5 : decode cJ9_max_7cf53 5 = .ok (.iload_n 0, 1) := by decide +kernel
theorem dJ9_max_7cf53_6 : decode cJ9_max_7cf53 6 = .ok (.goto 4, 3) := by decide +kernel
theorem dJ9_max_7cf53_9 : decode cJ9_max_7cf53 9 = .ok (.iload_n 1, 1) := by decide +kernel
theorem dJ9_max_7cf53_10 : decode cJ9_max_7cf53 10 = .ok (.ireturn, 1) := by decide +kernel
theorem dJ9_max_f86c9_0 : decode cJ9_max_f86c9 0 = .ok (.lload_n 0, 1) := by decide +kernel
theorem dJ9_max_f86c9_1 : decode cJ9_max_f86c9 1 = .ok (.lload_n 2, 1) := by decide +kernel
theorem dJ9_max_f86c9_2 : decode cJ9_max_f86c9 2 = .ok (.lcmp, 1) := by decide +kernel
theorem dJ9_max_f86c9_3 : decode cJ9_max_f86c9 3 = .ok (.ifCond .lt 7, 3) := by decide +kernel
theorem dJ9_max_f86c9_6 : decode cJ9_max_f86c9 6 = .ok (.lload_n 0, 1) := by decide +kernel
theorem dJ9_max_f86c9_7 : decode cJ9_max_f86c9 7 = .ok (.goto 4, 3) := by decide +kernel
theorem dJ9_max_f86c9_10 : decode cJ9_max_f86c9 10 = .ok (.lload_n 2, 1) := by decide +kernel
theorem dJ9_max_f86c9_11 : decode cJ9_max_f86c9 11 = .ok (.lreturn, 1) := by decide +kernel
theorem dJ9_min_7cf53_0 : decode cJ9_min_7cf53 0 = .ok (.iload_n 0, 1) := by decide +kernel
theorem dJ9_min_7cf53_1 : decode cJ9_min_7cf53 1 = .ok (.iload_n 1, 1) := by decide +kernel
theorem dJ9_min_7cf53_2 : decode cJ9_min_7cf53 2 = .ok (.if_icmp .gt 7, 3) := by decide +kernel
theorem dJ9_min_7cf53_5 : decode cJ9_min_7cf53 5 = .ok (.iload_n 0, 1) := by decide +kernel
theorem dJ9_min_7cf53_6 : decode cJ9_min_7cf53 6 = .ok (.goto 4, 3) := by decide +kernel
theorem dJ9_min_7cf53_9 : decode cJ9_min_7cf53 9 = .ok (.iload_n 1, 1) := by decide +kernel
theorem dJ9_min_7cf53_10 : decode cJ9_min_7cf53 10 = .ok (.ireturn, 1) := by decide +kernel
theorem dJ9_min_f86c9_0 : decode cJ9_min_f86c9 0 = .ok (.lload_n 0, 1) := by decide +kernel
theorem dJ9_min_f86c9_1 : decode cJ9_min_f86c9 1 = .ok (.lload_n 2, 1) := by decide +kernel
theorem dJ9_min_f86c9_2 : decode cJ9_min_f86c9 2 = .ok (.lcmp, 1) := by decide +kernel
theorem dJ9_min_f86c9_3 : decode cJ9_min_f86c9 3 = .ok (.ifCond .gt 7, 3) := by decide +kernel
theorem dJ9_min_f86c9_6 : decode cJ9_min_f86c9 6 = .ok (.lload_n 0, 1) := by decide +kernel
theorem dJ9_min_f86c9_7 : decode cJ9_min_f86c9 7 = .ok (.goto 4, 3) := by decide +kernel
theorem dJ9_min_f86c9_10 : decode cJ9_min_f86c9 10 = .ok (.lload_n 2, 1) := by decide +kernel
theorem dJ9_min_f86c9_11 : decode cJ9_min_f86c9 11 = .ok (.lreturn, 1) := by decide +kernel
set_option maxRecDepth 20000 in
theorem ggL_law_X8_init : GoodIn wsL_law wsX8_init := goodIn_r _ [8, 9, 10, 11, 12, 13, 14, 15, 16, 17, 18, 19, 20, 21, 22, 23, 24, 25, 26, 27, 28, 29, 30, 31, 32, 33, 34, 35, 36, 37, 38, 39, 40, 41, 42, 43, 44, 45, 46, 47, 48, 49, 50, 51, 52, 53, 54, 55, 56, 57, 58, 59, 60, 61, 62, 63, 64, 65, 66, 67, 68, 69, 70, 71, 72, 73, 74, 75, 76, 77, 78, 79, 80, 81, 82, 83, 84, 85, 86, 87, 88, 89, 90, 91, 92, 825, 826, 827, 828, 829, 830, 831, 832, 833, 834, 835, 836, 837, 838, 839, 840, 841, 842, 843, 895, 896, 897, 898, 899, 900, 901, 902, 903, 904, 905, 906, 907, 908, 909, 910, 911, 912, 913, 914, 915, 916, 917, 918, 919, 920] (by decide +kernel) (by decide +kernel)
set_option maxRecDepth 20000 in
theorem gL_law_X8_init : GoodIn wsL_law (wsX8_init) := ggL_law_X8_init
set_option maxRecDepth 20000 in
theorem ggL_law_X9_init : GoodIn wsL_law wsX9_init := goodIn_r _ [95, 96, 10, 11, 19, 97, 98, 99, 100, 101, 102, 103, 104, 105, 106, 107, 108, 109, 110, 111, 112, 113, 114, 115, 116, 117, 118, 119, 120, 121, 122, 123, 124, 125, 126, 127, 128, 129, 130, 131, 132, 133, 134, 844, 845, 846, 847, 848, 849, 850, 851, 852, 853, 854, 855, 856, 857, 858, 859, 860, 861, 862, 863, 864, 865, 866, 867, 868, 869, 870, 871, 872, 873, 874, 875, 876, 877, 878, 879, 880, 881, 882, 883, 884, 885, 886, 887, 888, 889, 890, 891, 892, 893, 894] (by decide +kernel) (by decide +kernel)
set_option maxRecDepth 20000 in
theorem gL_law_X9_init : GoodIn wsL_law (wsX9_init) := ggL_law_X9_init
set_option maxRecDepth 20000 in
theorem ggL_law_X8_piece : GoodIn wsL_law wsX8_piece := goodIn_r _ [138, 139, 42, 13, 12, 140, 141, 142, 143, 144, 2, 145, 41, 146, 147, 148, 149, 10, 11, 150, 151, 152, 153, 154, 155, 825, 826, 827, 828, 829, 830, 831, 832, 833, 834, 835, 836, 837, 838, 839, 840, 841, 842, 843, 921, 922, 923, 924, 925, 926] (by decide +kernel) (by decide +kernel)
set_option maxRecDepth 20000 in
theorem gL_law_X8_piece : GoodIn wsL_law (wsV RL 13 RX8 yX8_piece wsX8_piece) := goodIn_app (goodIn_of _ (by decide +kernel)) ggL_law_X8_piece
set_option maxRecDepth 20000 in
theorem ggL_law_X9_piece : GoodIn wsL_law wsX9_piece := goodIn_r _ [159, 160, 161, 98, 99, 100, 104, 101, 162, 163, 164, 5, 165, 97, 844, 845, 846, 847, 848, 849, 850, 851, 852, 853, 854, 855, 856, 857, 858, 859, 860, 861, 862, 863, 864, 865, 866, 867, 868, 869, 870, 871, 872, 873, 874, 875, 876, 877, 878, 879, 880, 881, 882, 883, 884, 885, 886, 887, 888, 889, 890, 891, 892, 893, 894] (by decide +kernel) (by decide +kernel)
set_option maxRecDepth 20000 in
theorem gL_law_X9_piece : GoodIn wsL_law (wsV RL 17 RX9 yX9_piece wsX9_piece) := goodIn_app (goodIn_of _ (by decide +kernel)) ggL_law_X9_piece
set_option maxRecDepth 20000 in
theorem ggL_law_X8_owner : GoodIn wsL_law wsX8_owner := goodIn_r _ [169, 139, 43, 15, 14, 16, 17, 142, 143, 144, 2, 145, 41, 50, 51, 52, 53, 10, 11, 54, 55, 825, 826, 827, 828, 829, 830, 831, 832, 833, 834, 835, 836, 837, 838, 839, 840, 841, 842, 843, 895, 896] (by decide +kernel) (by decide +kernel)
set_option maxRecDepth 20000 in
theorem gL_law_X8_owner : GoodIn wsL_law (wsV RL 18 RX8 yX8_owner wsX8_owner) := goodIn_app (goodIn_of _ (by decide +kernel)) ggL_law_X8_owner
set_option maxRecDepth 20000 in
theorem ggL_law_X9_owner : GoodIn wsL_law wsX9_owner := goodIn_r _ [173, 160, 174, 105, 162, 163, 164, 5, 165, 97, 844, 845, 846, 847, 848, 849, 850, 851, 852, 853, 854, 855, 856, 857, 858, 859, 860, 861, 862, 863, 864, 865, 866, 867, 868, 869, 870, 871, 872, 873, 874, 875, 876, 877, 878, 879, 880, 881, 882, 883, 884, 885, 886, 887, 888, 889, 890, 891, 892, 893, 894] (by decide +kernel) (by decide +kernel)
set_option maxRecDepth 20000 in
theorem gL_law_X9_owner : GoodIn wsL_law (wsV RL 22 RX9 yX9_owner wsX9_owner) := goodIn_app (goodIn_of _ (by decide +kernel)) ggL_law_X9_owner
set_option maxRecDepth 20000 in
theorem ggL_law_X8_house : GoodIn wsL_law wsX8_house := goodIn_r _ [178, 44, 20, 179, 180, 181, 2, 182, 43, 142, 143, 144, 145, 41, 825, 826, 827, 828, 829, 830, 831, 832, 833, 834, 835, 836, 837, 838, 839, 840, 841, 842, 843] (by decide +kernel) (by decide +kernel)
set_option maxRecDepth 20000 in
theorem gL_law_X8_house : GoodIn wsL_law (wsV RL 23 RX8 yX8_house wsX8_house) := goodIn_app (goodIn_of _ (by decide +kernel)) ggL_law_X8_house
set_option maxRecDepth 20000 in
theorem ggL_law_X9_house : GoodIn wsL_law wsX9_house := goodIn_r _ [186, 174, 187, 107, 188, 189, 5, 190, 162, 163, 164, 165, 97, 844, 845, 846, 847, 848, 849, 850, 851, 852, 853, 854, 855, 856, 857, 858, 859, 860, 861, 862, 863, 864, 865, 866, 867, 868, 869, 870, 871, 872, 873, 874, 875, 876, 877, 878, 879, 880, 881, 882, 883, 884, 885, 886, 887, 888, 889, 890, 891, 892, 893, 894] (by decide +kernel) (by decide +kernel)
set_option maxRecDepth 20000 in
theorem gL_law_X9_house : GoodIn wsL_law (wsV RL 26 RX9 yX9_house wsX9_house) := goodIn_app (goodIn_of _ (by decide +kernel)) ggL_law_X9_house
set_option maxRecDepth 20000 in
theorem ggL_law_X8_rate : GoodIn wsL_law wsX8_rate := goodIn_r _ [194, 28, 195, 196, 27, 197, 142, 143, 144, 2, 145, 41, 198, 199, 200, 201, 59, 202, 825, 826, 827, 828, 829, 830, 831, 832, 833, 834, 835, 836, 837, 838, 839, 840, 841, 842, 843, 897, 898] (by decide +kernel) (by decide +kernel)
set_option maxRecDepth 20000 in
theorem gL_law_X8_rate : GoodIn wsL_law (wsV RL 27 RX8 yX8_rate wsX8_rate) := goodIn_app (goodIn_of _ (by decide +kernel)) ggL_law_X8_rate
set_option maxRecDepth 20000 in
theorem ggL_law_X9_rate : GoodIn wsL_law wsX9_rate := goodIn_r _ [206, 108, 188, 189, 5, 190, 162, 163, 164, 165, 97, 844, 845, 846, 847, 848, 849, 850, 851, 852, 853, 854, 855, 856, 857, 858, 859, 860, 861, 862, 863, 864, 865, 866, 867, 868, 869, 870, 871, 872, 873, 874, 875, 876, 877, 878, 879, 880, 881, 882, 883, 884, 885, 886, 887, 888, 889, 890, 891, 892, 893, 894] (by decide +kernel) (by decide +kernel)
set_option maxRecDepth 20000 in
theorem gL_law_X9_rate : GoodIn wsL_law (wsV RL 31 RX9 yX9_rate wsX9_rate) := goodIn_app (goodIn_of _ (by decide +kernel)) ggL_law_X9_rate
set_option maxRecDepth 20000 in
theorem ggL_law_X8_weather : GoodIn wsL_law wsX8_weather := goodIn_r _ [210, 28, 195, 196, 27, 197, 142, 143, 144, 2, 145, 41, 211, 212, 213, 214, 60, 202, 825, 826, 827, 828, 829, 830, 831, 832, 833, 834, 835, 836, 837, 838, 839, 840, 841, 842, 843, 897, 898] (by decide +kernel) (by decide +kernel)
set_option maxRecDepth 20000 in
theorem gL_law_X8_weather : GoodIn wsL_law (wsV RL 32 RX8 yX8_weather wsX8_weather) := goodIn_app (goodIn_of _ (by decide +kernel)) ggL_law_X8_weather
set_option maxRecDepth 20000 in
theorem ggL_law_X9_weather : GoodIn wsL_law wsX9_weather := goodIn_r _ [218, 109, 110, 188, 189, 5, 190, 162, 163, 164, 165, 97, 844, 845, 846, 847, 848, 849, 850, 851, 852, 853, 854, 855, 856, 857, 858, 859, 860, 861, 862, 863, 864, 865, 866, 867, 868, 869, 870, 871, 872, 873, 874, 875, 876, 877, 878, 879, 880, 881, 882, 883, 884, 885, 886, 887, 888, 889, 890, 891, 892, 893, 894] (by decide +kernel) (by decide +kernel)
set_option maxRecDepth 20000 in
theorem gL_law_X9_weather : GoodIn wsL_law (wsV RL 35 RX9 yX9_weather wsX9_weather) := goodIn_app (goodIn_of _ (by decide +kernel)) ggL_law_X9_weather
set_option maxRecDepth 20000 in
theorem ggL_law_X8_right : GoodIn wsL_law wsX8_right := goodIn_r _ [222, 47, 45, 21, 223, 224, 142, 143, 144, 2, 145, 41, 225, 226, 227, 228, 44, 179, 180, 181, 182, 43, 229, 230, 231, 232, 42, 233, 234, 235, 236, 10, 11, 237, 238, 239, 240, 241, 242, 243, 244, 245, 246, 247, 248, 249, 22, 825, 826, 827, 828, 829, 830, 831, 832, 833, 834, 835, 836, 837, 838, 839, 840, 841, 842, 843, 927, 928, 929, 930, 931, 932, 933, 934, 935] (by decide +kernel) (by decide +kernel)
set_option maxRecDepth 20000 in
theorem gL_law_X8_right : GoodIn wsL_law (wsV RL 36 RX8 yX8_right wsX8_right) := goodIn_app (goodIn_of _ (by decide +kernel)) ggL_law_X8_right
set_option maxRecDepth 20000 in
theorem ggL_law_X9_right : GoodIn wsL_law wsX9_right := goodIn_r _ [253, 187, 174, 161, 254, 255, 188, 189, 5, 190, 162, 163, 164, 165, 97, 256, 257, 258, 259, 111, 112, 113, 114, 115, 116, 117, 118, 844, 845, 846, 847, 848, 849, 850, 851, 852, 853, 854, 855, 856, 857, 858, 859, 860, 861, 862, 863, 864, 865, 866, 867, 868, 869, 870, 871, 872, 873, 874, 875, 876, 877, 878, 879, 880, 881, 882, 883, 884, 885, 886, 887, 888, 889, 890, 891, 892, 893, 894] (by decide +kernel) (by decide +kernel)
set_option maxRecDepth 20000 in
theorem gL_law_X9_right : GoodIn wsL_law (wsV RL 40 RX9 yX9_right wsX9_right) := goodIn_app (goodIn_of _ (by decide +kernel)) ggL_law_X9_right
set_option maxRecDepth 20000 in
theorem ggL_law_X8_lend : GoodIn wsL_law wsX8_lend := goodIn_r _ [263, 22, 264, 47, 265, 45, 21, 223, 224, 266, 267, 268, 2, 269, 270, 271, 272, 273, 179, 180, 181, 182, 43, 274, 275, 276, 277, 278, 20, 225, 226, 227, 228, 44, 142, 143, 144, 145, 41, 279, 280, 281, 282, 238, 242, 243, 283, 284, 285, 286, 287, 288, 233, 234, 235, 236, 10, 11, 237, 239, 240, 241, 244, 245, 246, 247, 248, 249, 825, 826, 827, 828, 829, 830, 831, 832, 833, 834, 835, 836, 837, 838, 839, 840, 841, 842, 843, 927, 928, 929, 930, 931, 932, 933, 934, 935] (by decide +kernel) (by decide +kernel)
set_option maxRecDepth 20000 in
theorem gL_law_X8_lend : GoodIn wsL_law (wsV RL 41 RX8 yX8_lend wsX8_lend) := goodIn_app (goodIn_of _ (by decide +kernel)) ggL_law_X8_lend
set_option maxRecDepth 20000 in
theorem ggL_law_X9_lend : GoodIn wsL_law wsX9_lend := goodIn_r _ [292, 255, 174, 111, 254, 115, 188, 189, 5, 190, 293, 294, 295, 296, 107, 112, 162, 163, 164, 165, 97, 297, 298, 299, 300, 119, 114, 301, 302, 303, 304, 113, 117, 256, 257, 258, 259, 116, 118, 844, 845, 846, 847, 848, 849, 850, 851, 852, 853, 854, 855, 856, 857, 858, 859, 860, 861, 862, 863, 864, 865, 866, 867, 868, 869, 870, 871, 872, 873, 874, 875, 876, 877, 878, 879, 880, 881, 882, 883, 884, 885, 886, 887, 888, 889, 890, 891, 892, 893, 894] (by decide +kernel) (by decide +kernel)
set_option maxRecDepth 20000 in
theorem gL_law_X9_lend : GoodIn wsL_law (wsV RL 45 RX9 yX9_lend wsX9_lend) := goodIn_app (goodIn_of _ (by decide +kernel)) ggL_law_X9_lend
set_option maxRecDepth 20000 in
theorem ggL_law_X8_sell : GoodIn wsL_law wsX8_sell := goodIn_r _ [308, 22, 264, 47, 278, 266, 267, 268, 2, 269, 270, 271, 272, 273, 45, 179, 180, 181, 182, 43, 274, 275, 276, 277, 20, 225, 226, 227, 228, 44, 142, 143, 144, 145, 41, 279, 280, 281, 224, 282, 238, 242, 243, 825, 826, 827, 828, 829, 830, 831, 832, 833, 834, 835, 836, 837, 838, 839, 840, 841, 842, 843, 927, 928, 929, 930, 931, 932, 933, 934, 935] (by decide +kernel) (by decide +kernel)
set_option maxRecDepth 20000 in
theorem gL_law_X8_sell : GoodIn wsL_law (wsV RL 46 RX8 yX8_sell wsX8_sell) := goodIn_app (goodIn_of _ (by decide +kernel)) ggL_law_X8_sell
set_option maxRecDepth 20000 in
theorem ggL_law_X9_sell : GoodIn wsL_law wsX9_sell := goodIn_r _ [312, 255, 174, 111, 112, 188, 189, 5, 190, 293, 294, 295, 296, 107, 162, 163, 164, 165, 97, 297, 298, 299, 300, 119, 114, 254, 115, 844, 845, 846, 847, 848, 849, 850, 851, 852, 853, 854, 855, 856, 857, 858, 859, 860, 861, 862, 863, 864, 865, 866, 867, 868, 869, 870, 871, 872, 873, 874, 875, 876, 877, 878, 879, 880, 881, 882, 883, 884, 885, 886, 887, 888, 889, 890, 891, 892, 893, 894] (by decide +kernel) (by decide +kernel)
set_option maxRecDepth 20000 in
theorem gL_law_X9_sell : GoodIn wsL_law (wsV RL 50 RX9 yX9_sell wsX9_sell) := goodIn_app (goodIn_of _ (by decide +kernel)) ggL_law_X9_sell
set_option maxRecDepth 20000 in
theorem ggL_law_X8_move : GoodIn wsL_law wsX8_move := goodIn_r _ [316, 20, 225, 226, 227, 2, 228, 44, 179, 180, 181, 182, 43, 142, 143, 144, 145, 41, 825, 826, 827, 828, 829, 830, 831, 832, 833, 834, 835, 836, 837, 838, 839, 840, 841, 842, 843] (by decide +kernel) (by decide +kernel)
set_option maxRecDepth 20000 in
theorem gL_law_X8_move : GoodIn wsL_law (wsV RL 51 RX8 yX8_move wsX8_move) := goodIn_app (goodIn_of _ (by decide +kernel)) ggL_law_X8_move
set_option maxRecDepth 20000 in
theorem ggL_law_X9_move : GoodIn wsL_law wsX9_move := goodIn_r _ [320, 187, 174, 107, 188, 189, 5, 190, 162, 163, 164, 165, 97, 844, 845, 846, 847, 848, 849, 850, 851, 852, 853, 854, 855, 856, 857, 858, 859, 860, 861, 862, 863, 864, 865, 866, 867, 868, 869, 870, 871, 872, 873, 874, 875, 876, 877, 878, 879, 880, 881, 882, 883, 884, 885, 886, 887, 888, 889, 890, 891, 892, 893, 894] (by decide +kernel) (by decide +kernel)
set_option maxRecDepth 20000 in
theorem gL_law_X9_move : GoodIn wsL_law (wsV RL 54 RX9 yX9_move wsX9_move) := goodIn_app (goodIn_of _ (by decide +kernel)) ggL_law_X9_move
set_option maxRecDepth 20000 in
theorem ggL_law_X8_herd : GoodIn wsL_law wsX8_herd := goodIn_r _ [324, 46, 24, 23, 325, 326, 179, 180, 181, 2, 182, 43, 142, 143, 144, 145, 41, 327, 328, 329, 330, 10, 11, 331, 332, 333, 334, 335, 336, 337, 338, 825, 826, 827, 828, 829, 830, 831, 832, 833, 834, 835, 836, 837, 838, 839, 840, 841, 842, 843, 936, 937, 938, 939, 940, 941, 942, 943] (by decide +kernel) (by decide +kernel)
set_option maxRecDepth 20000 in
theorem gL_law_X8_herd : GoodIn wsL_law (wsV RL 55 RX8 yX8_herd wsX8_herd) := goodIn_app (goodIn_of _ (by decide +kernel)) ggL_law_X8_herd
set_option maxRecDepth 20000 in
theorem ggL_law_X9_herd : GoodIn wsL_law wsX9_herd := goodIn_r _ [342, 174, 343, 121, 122, 123, 124, 188, 189, 5, 190, 162, 163, 164, 165, 97, 844, 845, 846, 847, 848, 849, 850, 851, 852, 853, 854, 855, 856, 857, 858, 859, 860, 861, 862, 863, 864, 865, 866, 867, 868, 869, 870, 871, 872, 873, 874, 875, 876, 877, 878, 879, 880, 881, 882, 883, 884, 885, 886, 887, 888, 889, 890, 891, 892, 893, 894] (by decide +kernel) (by decide +kernel)
set_option maxRecDepth 20000 in
theorem gL_law_X9_herd : GoodIn wsL_law (wsV RL 58 RX9 yX9_herd wsX9_herd) := goodIn_app (goodIn_of _ (by decide +kernel)) ggL_law_X9_herd
set_option maxRecDepth 20000 in
theorem ggL_law_X8_put : GoodIn wsL_law wsX8_put := goodIn_r _ [347, 24, 348, 349, 13, 47, 350, 48, 351, 352, 353, 354, 2, 355, 46, 229, 230, 231, 232, 42, 142, 143, 144, 145, 41, 356, 357, 358, 141, 359, 150, 360, 361, 362, 363, 364, 365, 366, 367, 32, 45, 22, 368, 369, 370, 31, 371, 64, 65, 66, 67, 68, 372, 373, 374, 375, 376, 377, 378, 379, 380, 326, 381, 337, 338, 274, 275, 276, 277, 264, 278, 20, 225, 226, 227, 228, 44, 283, 284, 285, 286, 287, 288, 279, 280, 281, 224, 282, 238, 242, 243, 382, 383, 384, 385, 386, 387, 388, 389, 390, 391, 392, 393, 394, 395, 825, 826, 827, 828, 829, 830, 831, 832, 833, 834, 835, 836, 837, 838, 839, 840, 841, 842, 843, 936, 937, 938, 939, 940, 941, 942, 943, 921, 922, 923, 924, 925, 926, 899, 900, 901, 902, 903, 927, 928, 929, 930, 931, 932, 933, 934, 935] (by decide +kernel) (by decide +kernel)
set_option maxRecDepth 20000 in
theorem gL_law_X8_put : GoodIn wsL_law (wsV RL 59 RX8 yX8_put wsX8_put) := goodIn_app (goodIn_of _ (by decide +kernel)) ggL_law_X8_put
set_option maxRecDepth 20000 in
theorem ggL_law_X9_put : GoodIn wsL_law wsX9_put := goodIn_r _ [399, 343, 161, 127, 124, 121, 125, 400, 188, 189, 5, 190, 162, 163, 164, 165, 97, 401, 402, 403, 404, 254, 101, 405, 406, 407, 408, 255, 111, 116, 122, 409, 410, 394, 411, 412, 393, 395, 293, 294, 295, 296, 107, 112, 301, 302, 303, 304, 113, 117, 297, 298, 299, 300, 119, 114, 115, 413, 414, 415, 416, 417, 418, 419, 420, 123, 421, 422, 423, 844, 845, 846, 847, 848, 849, 850, 851, 852, 853, 854, 855, 856, 857, 858, 859, 860, 861, 862, 863, 864, 865, 866, 867, 868, 869, 870, 871, 872, 873, 874, 875, 876, 877, 878, 879, 880, 881, 882, 883, 884, 885, 886, 887, 888, 889, 890, 891, 892, 893, 894] (by decide +kernel) (by decide +kernel)
set_option maxRecDepth 20000 in
theorem gL_law_X9_put : GoodIn wsL_law (wsV RL 62 RX9 yX9_put wsX9_put) := goodIn_app (goodIn_of _ (by decide +kernel)) ggL_law_X9_put
set_option maxRecDepth 20000 in
theorem ggL_law_X8_drive : GoodIn wsL_law wsX8_drive := goodIn_r _ [427, 24, 349, 13, 47, 48, 351, 352, 353, 354, 2, 355, 46, 229, 230, 231, 232, 42, 142, 143, 144, 145, 41, 356, 357, 358, 141, 359, 150, 825, 826, 827, 828, 829, 830, 831, 832, 833, 834, 835, 836, 837, 838, 839, 840, 841, 842, 843, 936, 937, 938, 939, 940, 941, 942, 943, 921, 922, 923, 924, 925, 926] (by decide +kernel) (by decide +kernel)
set_option maxRecDepth 20000 in
theorem gL_law_X8_drive : GoodIn wsL_law (wsV RL 63 RX8 yX8_drive wsX8_drive) := goodIn_app (goodIn_of _ (by decide +kernel)) ggL_law_X8_drive
set_option maxRecDepth 20000 in
theorem ggL_law_X9_drive : GoodIn wsL_law wsX9_drive := goodIn_r _ [431, 343, 161, 127, 124, 125, 400, 188, 189, 5, 190, 162, 163, 164, 165, 97, 401, 402, 403, 404, 254, 101, 844, 845, 846, 847, 848, 849, 850, 851, 852, 853, 854, 855, 856, 857, 858, 859, 860, 861, 862, 863, 864, 865, 866, 867, 868, 869, 870, 871, 872, 873, 874, 875, 876, 877, 878, 879, 880, 881, 882, 883, 884, 885, 886, 887, 888, 889, 890, 891, 892, 893, 894] (by decide +kernel) (by decide +kernel)
set_option maxRecDepth 20000 in
theorem gL_law_X9_drive : GoodIn wsL_law (wsV RL 66 RX9 yX9_drive wsX9_drive) := goodIn_app (goodIn_of _ (by decide +kernel)) ggL_law_X9_drive
set_option maxRecDepth 20000 in
theorem ggL_law_X8_covered : GoodIn wsL_law wsX8_covered := goodIn_r _ [435, 179, 180, 181, 2, 182, 43, 142, 143, 144, 145, 41, 360, 361, 362, 363, 364, 365, 366, 367, 32, 46, 24, 350, 45, 22, 368, 369, 370, 31, 371, 64, 65, 66, 67, 68, 372, 373, 374, 375, 376, 377, 378, 379, 380, 326, 381, 337, 338, 274, 275, 276, 277, 264, 278, 20, 225, 226, 227, 228, 44, 283, 284, 285, 286, 47, 287, 288, 279, 280, 281, 224, 282, 238, 242, 243, 382, 383, 384, 385, 386, 387, 388, 389, 390, 391, 392, 393, 394, 395, 825, 826, 827, 828, 829, 830, 831, 832, 833, 834, 835, 836, 837, 838, 839, 840, 841, 842, 843, 936, 937, 938, 939, 940, 941, 942, 943, 899, 900, 901, 902, 903, 927, 928, 929, 930, 931, 932, 933, 934, 935] (by decide +kernel) (by decide +kernel)
set_option maxRecDepth 20000 in
theorem gL_law_X8_covered : GoodIn wsL_law (wsV RL 67 RX8 yX8_covered wsX8_covered) := goodIn_app (goodIn_of _ (by decide +kernel)) ggL_law_X8_covered
set_option maxRecDepth 20000 in
theorem ggL_law_X9_covered : GoodIn wsL_law wsX9_covered := goodIn_r _ [439, 174, 188, 189, 5, 190, 405, 406, 407, 408, 161, 255, 111, 116, 343, 121, 124, 122, 409, 410, 394, 411, 412, 393, 395, 293, 294, 295, 296, 107, 112, 301, 302, 303, 304, 113, 117, 297, 298, 299, 300, 119, 114, 254, 115, 413, 414, 415, 416, 127, 417, 418, 419, 420, 123, 421, 422, 423, 162, 163, 164, 165, 97, 844, 845, 846, 847, 848, 849, 850, 851, 852, 853, 854, 855, 856, 857, 858, 859, 860, 861, 862, 863, 864, 865, 866, 867, 868, 869, 870, 871, 872, 873, 874, 875, 876, 877, 878, 879, 880, 881, 882, 883, 884, 885, 886, 887, 888, 889, 890, 891, 892, 893, 894] (by decide +kernel) (by decide +kernel)
set_option maxRecDepth 20000 in
theorem gL_law_X9_covered : GoodIn wsL_law (wsV RL 70 RX9 yX9_covered wsX9_covered) := goodIn_app (goodIn_of _ (by decide +kernel)) ggL_law_X9_covered
set_option maxRecDepth 20000 in
theorem ggL_law_X8_lacks : GoodIn wsL_law wsX8_lacks := goodIn_r _ [443, 179, 180, 181, 2, 182, 43, 142, 143, 144, 145, 41, 360, 361, 362, 363, 364, 365, 366, 367, 32, 46, 24, 350, 45, 22, 368, 369, 370, 31, 371, 64, 65, 66, 67, 68, 372, 373, 374, 375, 376, 377, 378, 379, 380, 326, 381, 337, 338, 274, 275, 276, 277, 264, 278, 20, 225, 226, 227, 228, 44, 283, 284, 285, 286, 47, 287, 288, 279, 280, 281, 224, 282, 238, 242, 243, 382, 383, 384, 385, 386, 387, 388, 389, 390, 391, 392, 393, 394, 395, 825, 826, 827, 828, 829, 830, 831, 832, 833, 834, 835, 836, 837, 838, 839, 840, 841, 842, 843, 936, 937, 938, 939, 940, 941, 942, 943, 899, 900, 901, 902, 903, 927, 928, 929, 930, 931, 932, 933, 934, 935] (by decide +kernel) (by decide +kernel)
set_option maxRecDepth 20000 in
theorem gL_law_X8_lacks : GoodIn wsL_law (wsV RL 71 RX8 yX8_lacks wsX8_lacks) := goodIn_app (goodIn_of _ (by decide +kernel)) ggL_law_X8_lacks
set_option maxRecDepth 20000 in
theorem ggL_law_X9_lacks : GoodIn wsL_law wsX9_lacks := goodIn_r _ [447, 174, 188, 189, 5, 190, 405, 406, 407, 408, 161, 255, 111, 116, 343, 121, 124, 122, 409, 410, 394, 411, 412, 393, 395, 293, 294, 295, 296, 107, 112, 301, 302, 303, 304, 113, 117, 297, 298, 299, 300, 119, 114, 254, 115, 413, 414, 415, 416, 127, 417, 418, 419, 420, 123, 421, 422, 423, 162, 163, 164, 165, 97, 844, 845, 846, 847, 848, 849, 850, 851, 852, 853, 854, 855, 856, 857, 858, 859, 860, 861, 862, 863, 864, 865, 866, 867, 868, 869, 870, 871, 872, 873, 874, 875, 876, 877, 878, 879, 880, 881, 882, 883, 884, 885, 886, 887, 888, 889, 890, 891, 892, 893, 894] (by decide +kernel) (by decide +kernel)
set_option maxRecDepth 20000 in
theorem gL_law_X9_lacks : GoodIn wsL_law (wsV RL 74 RX9 yX9_lacks wsX9_lacks) := goodIn_app (goodIn_of _ (by decide +kernel)) ggL_law_X9_lacks
set_option maxRecDepth 20000 in
theorem ggL_law_X8_over : GoodIn wsL_law wsX8_over := goodIn_r _ [451, 48, 24, 351, 13, 452, 229, 230, 231, 2, 232, 42, 142, 143, 144, 145, 41, 453, 454, 455, 456, 46, 349, 457, 379, 380, 326, 381, 337, 338, 458, 459, 460, 461, 825, 826, 827, 828, 829, 830, 831, 832, 833, 834, 835, 836, 837, 838, 839, 840, 841, 842, 843, 936, 937, 938, 939, 940, 941, 942, 943, 921, 922, 923, 924, 925, 926] (by decide +kernel) (by decide +kernel)
set_option maxRecDepth 20000 in
theorem gL_law_X8_over : GoodIn wsL_law (wsV RL 75 RX8 yX8_over wsX8_over) := goodIn_app (goodIn_of _ (by decide +kernel)) ggL_law_X8_over
set_option maxRecDepth 20000 in
theorem ggL_law_X9_over : GoodIn wsL_law wsX9_over := goodIn_r _ [465, 161, 400, 100, 343, 124, 125, 188, 189, 5, 190, 162, 163, 164, 165, 97, 466, 467, 468, 469, 413, 414, 415, 416, 127, 417, 418, 419, 420, 123, 122, 421, 422, 423, 844, 845, 846, 847, 848, 849, 850, 851, 852, 853, 854, 855, 856, 857, 858, 859, 860, 861, 862, 863, 864, 865, 866, 867, 868, 869, 870, 871, 872, 873, 874, 875, 876, 877, 878, 879, 880, 881, 882, 883, 884, 885, 886, 887, 888, 889, 890, 891, 892, 893, 894] (by decide +kernel) (by decide +kernel)
set_option maxRecDepth 20000 in
theorem gL_law_X9_over : GoodIn wsL_law (wsV RL 78 RX9 yX9_over wsX9_over) := goodIn_app (goodIn_of _ (by decide +kernel)) ggL_law_X9_over
set_option maxRecDepth 20000 in
theorem ggL_law_X8_pass : GoodIn wsL_law wsX8_pass := goodIn_r _ [473, 47, 142, 143, 144, 2, 145, 41, 474, 475, 476, 477, 42, 478, 479, 480, 481, 36, 46, 24, 349, 13, 482, 28, 483, 484, 485, 486, 487, 488, 35, 489, 76, 77, 78, 457, 379, 380, 326, 381, 337, 338, 490, 491, 492, 493, 72, 73, 74, 494, 495, 496, 27, 497, 60, 498, 499, 500, 501, 59, 502, 503, 504, 505, 506, 507, 410, 394, 411, 508, 509, 510, 511, 512, 513, 393, 395, 514, 515, 516, 517, 518, 519, 520, 75, 521, 522, 523, 524, 525, 526, 527, 528, 529, 530, 531, 532, 348, 533, 15, 350, 534, 18, 535, 536, 537, 538, 334, 335, 539, 540, 541, 542, 543, 544, 545, 546, 547, 45, 22, 548, 288, 279, 280, 281, 224, 282, 238, 242, 243, 549, 550, 551, 552, 274, 275, 276, 277, 264, 278, 20, 225, 226, 227, 228, 44, 553, 554, 555, 556, 557, 239, 558, 244, 283, 284, 285, 286, 287, 270, 271, 272, 273, 559, 560, 561, 562, 563, 564, 49, 825, 826, 827, 828, 829, 830, 831, 832, 833, 834, 835, 836, 837, 838, 839, 840, 841, 842, 843, 936, 937, 938, 939, 940, 941, 942, 943, 921, 922, 923, 924, 925, 926, 904, 905, 906, 907, 908, 909, 910, 897, 898, 895, 896, 927, 928, 929, 930, 931, 932, 933, 934, 935] (by decide +kernel) (by decide +kernel)
set_option maxRecDepth 20000 in
theorem gL_law_X8_pass : GoodIn wsL_law (wsV RL 79 RX8 yX8_pass wsX8_pass) := goodIn_app (goodIn_of _ (by decide +kernel)) ggL_law_X8_pass
set_option maxRecDepth 20000 in
theorem ggL_law_X9_pass : GoodIn wsL_law wsX9_pass := goodIn_r _ [568, 254, 132, 98, 131, 161, 102, 569, 343, 126, 129, 570, 162, 163, 164, 5, 165, 97, 571, 572, 573, 574, 124, 413, 414, 415, 416, 127, 575, 576, 577, 578, 109, 108, 110, 412, 393, 394, 395, 99, 579, 580, 581, 582, 583, 584, 585, 409, 410, 411, 104, 417, 418, 419, 420, 123, 122, 421, 422, 423, 586, 587, 588, 589, 590, 591, 592, 593, 128, 594, 105, 121, 595, 596, 597, 598, 255, 120, 117, 118, 114, 119, 599, 301, 302, 303, 304, 113, 297, 298, 299, 300, 115, 600, 601, 602, 603, 111, 116, 293, 294, 295, 296, 107, 112, 844, 845, 846, 847, 848, 849, 850, 851, 852, 853, 854, 855, 856, 857, 858, 859, 860, 861, 862, 863, 864, 865, 866, 867, 868, 869, 870, 871, 872, 873, 874, 875, 876, 877, 878, 879, 880, 881, 882, 883, 884, 885, 886, 887, 888, 889, 890, 891, 892, 893, 894] (by decide +kernel) (by decide +kernel)
set_option maxRecDepth 20000 in
theorem gL_law_X9_pass : GoodIn wsL_law (wsV RL 82 RX9 yX9_pass wsX9_pass) := goodIn_app (goodIn_of _ (by decide +kernel)) ggL_law_X9_pass
set_option maxRecDepth 20000 in
theorem ggL_law_X8_rest : GoodIn wsL_law wsX8_rest := goodIn_r _ [607, 47, 13, 608, 229, 230, 231, 2, 232, 42, 142, 143, 144, 145, 41, 825, 826, 827, 828, 829, 830, 831, 832, 833, 834, 835, 836, 837, 838, 839, 840, 841, 842, 843, 921, 922, 923, 924, 925, 926] (by decide +kernel) (by decide +kernel)
set_option maxRecDepth 20000 in
theorem gL_law_X8_rest : GoodIn wsL_law (wsV RL 83 RX8 yX8_rest wsX8_rest) := goodIn_app (goodIn_of _ (by decide +kernel)) ggL_law_X8_rest
set_option maxRecDepth 20000 in
theorem ggL_law_X9_rest : GoodIn wsL_law wsX9_rest := goodIn_r _ [612, 161, 254, 101, 188, 189, 5, 190, 162, 163, 164, 165, 97, 844, 845, 846, 847, 848, 849, 850, 851, 852, 853, 854, 855, 856, 857, 858, 859, 860, 861, 862, 863, 864, 865, 866, 867, 868, 869, 870, 871, 872, 873, 874, 875, 876, 877, 878, 879, 880, 881, 882, 883, 884, 885, 886, 887, 888, 889, 890, 891, 892, 893, 894] (by decide +kernel) (by decide +kernel)
set_option maxRecDepth 20000 in
theorem gL_law_X9_rest : GoodIn wsL_law (wsV RL 86 RX9 yX9_rest wsX9_rest) := goodIn_app (goodIn_of _ (by decide +kernel)) ggL_law_X9_rest
set_option maxRecDepth 20000 in
theorem ggL_law_X8_cut : GoodIn wsL_law wsX8_cut := goodIn_r _ [616, 13, 47, 482, 617, 393, 394, 395, 608, 229, 230, 231, 2, 232, 42, 142, 143, 144, 145, 41, 356, 357, 358, 141, 359, 150, 618, 619, 620, 621, 46, 24, 349, 622, 623, 624, 625, 43, 15, 626, 18, 364, 365, 366, 367, 32, 350, 45, 22, 368, 369, 370, 31, 371, 64, 65, 66, 67, 68, 372, 373, 374, 375, 376, 377, 378, 379, 380, 326, 381, 337, 338, 274, 275, 276, 277, 264, 278, 20, 225, 226, 227, 228, 44, 283, 284, 285, 286, 287, 288, 279, 280, 281, 224, 282, 238, 242, 243, 382, 383, 384, 385, 386, 387, 627, 628, 629, 630, 825, 826, 827, 828, 829, 830, 831, 832, 833, 834, 835, 836, 837, 838, 839, 840, 841, 842, 843, 921, 922, 923, 924, 925, 926, 936, 937, 938, 939, 940, 941, 942, 943, 895, 896, 899, 900, 901, 902, 903, 927, 928, 929, 930, 931, 932, 933, 934, 935] (by decide +kernel) (by decide +kernel)
set_option maxRecDepth 20000 in
theorem gL_law_X8_cut : GoodIn wsL_law (wsV RL 87 RX8 yX8_cut wsX8_cut) := goodIn_app (goodIn_of _ (by decide +kernel)) ggL_law_X8_cut
set_option maxRecDepth 20000 in
theorem ggL_law_X9_cut : GoodIn wsL_law wsX9_cut := goodIn_r _ [634, 161, 343, 124, 98, 412, 393, 394, 395, 101, 254, 255, 174, 106, 635, 188, 189, 5, 190, 162, 163, 164, 165, 97, 413, 414, 415, 416, 127, 401, 402, 403, 404, 636, 637, 638, 639, 111, 116, 301, 302, 303, 304, 113, 117, 297, 298, 299, 300, 119, 114, 115, 293, 294, 295, 296, 107, 112, 844, 845, 846, 847, 848, 849, 850, 851, 852, 853, 854, 855, 856, 857, 858, 859, 860, 861, 862, 863, 864, 865, 866, 867, 868, 869, 870, 871, 872, 873, 874, 875, 876, 877, 878, 879, 880, 881, 882, 883, 884, 885, 886, 887, 888, 889, 890, 891, 892, 893, 894] (by decide +kernel) (by decide +kernel)
set_option maxRecDepth 20000 in
theorem gL_law_X9_cut : GoodIn wsL_law (wsV RL 90 RX9 yX9_cut wsX9_cut) := goodIn_app (goodIn_of _ (by decide +kernel)) ggL_law_X9_cut
set_option maxRecDepth 20000 in
theorem ggL_law_X8_pound : GoodIn wsL_law wsX8_pound := goodIn_r _ [643, 24, 349, 350, 348, 47, 644, 352, 353, 354, 2, 355, 46, 142, 143, 144, 145, 41, 360, 361, 362, 363, 364, 365, 366, 367, 32, 45, 22, 368, 369, 370, 31, 371, 64, 65, 66, 67, 68, 372, 373, 374, 375, 376, 377, 378, 379, 380, 326, 381, 337, 338, 274, 275, 276, 277, 264, 278, 20, 225, 226, 227, 228, 44, 283, 284, 285, 286, 287, 288, 279, 280, 281, 224, 282, 238, 242, 243, 382, 383, 384, 385, 386, 387, 388, 389, 390, 391, 392, 393, 394, 395, 825, 826, 827, 828, 829, 830, 831, 832, 833, 834, 835, 836, 837, 838, 839, 840, 841, 842, 843, 936, 937, 938, 939, 940, 941, 942, 943, 899, 900, 901, 902, 903, 927, 928, 929, 930, 931, 932, 933, 934, 935] (by decide +kernel) (by decide +kernel)
set_option maxRecDepth 20000 in
theorem gL_law_X8_pound : GoodIn wsL_law (wsV RL 91 RX8 yX8_pound wsX8_pound) := goodIn_app (goodIn_of _ (by decide +kernel)) ggL_law_X8_pound
set_option maxRecDepth 20000 in
theorem ggL_law_X9_pound : GoodIn wsL_law wsX9_pound := goodIn_r _ [648, 343, 121, 124, 127, 128, 254, 188, 189, 5, 190, 162, 163, 164, 165, 97, 413, 414, 415, 416, 405, 406, 407, 408, 161, 255, 111, 116, 122, 409, 410, 394, 411, 412, 393, 395, 293, 294, 295, 296, 107, 112, 301, 302, 303, 304, 113, 117, 297, 298, 299, 300, 119, 114, 115, 417, 418, 419, 420, 123, 421, 422, 423, 844, 845, 846, 847, 848, 849, 850, 851, 852, 853, 854, 855, 856, 857, 858, 859, 860, 861, 862, 863, 864, 865, 866, 867, 868, 869, 870, 871, 872, 873, 874, 875, 876, 877, 878, 879, 880, 881, 882, 883, 884, 885, 886, 887, 888, 889, 890, 891, 892, 893, 894] (by decide +kernel) (by decide +kernel)
set_option maxRecDepth 20000 in
theorem gL_law_X9_pound : GoodIn wsL_law (wsV RL 94 RX9 yX9_pound wsX9_pound) := goodIn_app (goodIn_of _ (by decide +kernel)) ggL_law_X9_pound
set_option maxRecDepth 20000 in
theorem ggL_law_X8_free : GoodIn wsL_law wsX8_free := goodIn_r _ [652, 24, 348, 47, 15, 350, 534, 18, 352, 353, 354, 2, 355, 46, 142, 143, 144, 145, 41, 539, 540, 541, 326, 542, 338, 543, 536, 537, 538, 334, 335, 825, 826, 827, 828, 829, 830, 831, 832, 833, 834, 835, 836, 837, 838, 839, 840, 841, 842, 843, 936, 937, 938, 939, 940, 941, 942, 943, 895, 896] (by decide +kernel) (by decide +kernel)
set_option maxRecDepth 20000 in
theorem gL_law_X8_free : GoodIn wsL_law (wsV RL 95 RX8 yX8_free wsX8_free) := goodIn_app (goodIn_of _ (by decide +kernel)) ggL_law_X8_free
set_option maxRecDepth 20000 in
theorem ggL_law_X9_free : GoodIn wsL_law wsX9_free := goodIn_r _ [656, 343, 127, 105, 121, 594, 188, 189, 5, 190, 162, 163, 164, 165, 97, 657, 658, 659, 660, 254, 128, 123, 844, 845, 846, 847, 848, 849, 850, 851, 852, 853, 854, 855, 856, 857, 858, 859, 860, 861, 862, 863, 864, 865, 866, 867, 868, 869, 870, 871, 872, 873, 874, 875, 876, 877, 878, 879, 880, 881, 882, 883, 884, 885, 886, 887, 888, 889, 890, 891, 892, 893, 894] (by decide +kernel) (by decide +kernel)
set_option maxRecDepth 20000 in
theorem gL_law_X9_free : GoodIn wsL_law (wsV RL 98 RX9 yX9_free wsX9_free) := goodIn_app (goodIn_of _ (by decide +kernel)) ggL_law_X9_free
set_option maxRecDepth 20000 in
theorem ggL_law_X8_plan : GoodIn wsL_law wsX8_plan := goodIn_r _ [664, 24, 348, 47, 40, 42, 352, 353, 354, 2, 355, 46, 142, 143, 144, 145, 41, 665, 666, 667, 668, 13, 356, 357, 358, 141, 359, 150, 669, 670, 671, 39, 672, 88, 89, 90, 91, 92, 673, 674, 675, 676, 677, 678, 679, 680, 681, 682, 683, 684, 685, 686, 687, 688, 689, 410, 394, 411, 690, 691, 692, 693, 482, 36, 28, 694, 695, 696, 697, 698, 699, 349, 486, 487, 488, 35, 489, 76, 77, 78, 700, 701, 702, 703, 704, 705, 706, 707, 457, 379, 380, 326, 381, 337, 338, 490, 491, 492, 493, 72, 73, 74, 494, 495, 496, 27, 497, 60, 498, 499, 500, 501, 59, 502, 503, 504, 505, 506, 507, 508, 509, 510, 511, 512, 513, 393, 395, 514, 515, 516, 517, 518, 519, 520, 75, 521, 522, 523, 524, 525, 526, 527, 528, 708, 709, 710, 711, 85, 86, 712, 713, 714, 715, 716, 717, 718, 719, 84, 720, 721, 722, 723, 87, 83, 724, 725, 726, 727, 825, 826, 827, 828, 829, 830, 831, 832, 833, 834, 835, 836, 837, 838, 839, 840, 841, 842, 843, 936, 937, 938, 939, 940, 941, 942, 943, 921, 922, 923, 924, 925, 926, 911, 912, 913, 914, 915, 916, 917, 918, 919, 920, 904, 905, 906, 907, 908, 909, 910, 897, 898] (by decide +kernel) (by decide +kernel)
set_option maxRecDepth 20000 in
theorem gL_law_X8_plan : GoodIn wsL_law (wsV RL 99 RX8 yX8_plan wsX8_plan) := goodIn_app (goodIn_of _ (by decide +kernel)) ggL_law_X8_plan
set_option maxRecDepth 20000 in
theorem ggL_law_X9_plan : GoodIn wsL_law wsX9_plan := goodIn_r _ [731, 343, 127, 161, 254, 133, 134, 732, 733, 188, 189, 5, 190, 162, 163, 164, 165, 97, 734, 735, 736, 737, 101, 738, 739, 740, 741, 130, 98, 131, 132, 129, 571, 572, 573, 574, 124, 413, 414, 415, 416, 575, 576, 577, 578, 109, 108, 110, 412, 393, 394, 395, 99, 579, 580, 581, 582, 583, 584, 585, 409, 410, 411, 104, 417, 418, 419, 420, 123, 122, 421, 422, 423, 586, 587, 588, 589, 844, 845, 846, 847, 848, 849, 850, 851, 852, 853, 854, 855, 856, 857, 858, 859, 860, 861, 862, 863, 864, 865, 866, 867, 868, 869, 870, 871, 872, 873, 874, 875, 876, 877, 878, 879, 880, 881, 882, 883, 884, 885, 886, 887, 888, 889, 890, 891, 892, 893, 894] (by decide +kernel) (by decide +kernel)
set_option maxRecDepth 20000 in
theorem gL_law_X9_plan : GoodIn wsL_law (wsV RL 102 RX9 yX9_plan wsX9_plan) := goodIn_app (goodIn_of _ (by decide +kernel)) ggL_law_X9_plan
set_option maxRecDepth 20000 in
theorem ggL_law_X8_planned : GoodIn wsL_law wsX8_planned := goodIn_r _ [745, 40, 746, 747, 748, 39, 749, 91, 90, 86, 825, 826, 827, 828, 829, 830, 831, 832, 833, 834, 835, 836, 837, 838, 839, 840, 841, 842, 843, 911, 912, 913, 914, 915, 916, 917, 918, 919, 920] (by decide +kernel) (by decide +kernel)
set_option maxRecDepth 20000 in
theorem gL_law_X8_planned : GoodIn wsL_law (wsV RL 103 RX8 yX8_planned wsX8_planned) := goodIn_app (goodIn_of _ (by decide +kernel)) ggL_law_X8_planned
set_option maxRecDepth 20000 in
theorem ggL_law_X9_planned : GoodIn wsL_law wsX9_planned := goodIn_r _ [753, 732, 733, 134, 188, 189, 5, 190, 844, 845, 846, 847, 848, 849, 850, 851, 852, 853, 854, 855, 856, 857, 858, 859, 860, 861, 862, 863, 864, 865, 866, 867, 868, 869, 870, 871, 872, 873, 874, 875, 876, 877, 878, 879, 880, 881, 882, 883, 884, 885, 886, 887, 888, 889, 890, 891, 892, 893, 894] (by decide +kernel) (by decide +kernel)
set_option maxRecDepth 20000 in
theorem gL_law_X9_planned : GoodIn wsL_law (wsV RL 106 RX9 yX9_planned wsX9_planned) := goodIn_app (goodIn_of _ (by decide +kernel)) ggL_law_X9_planned
set_option maxRecDepth 20000 in
theorem ggL_law_X8_pieceOf : GoodIn wsL_law wsX8_pieceOf := goodIn_r _ [757, 13, 482, 758, 452, 608, 483, 229, 230, 231, 2, 232, 42, 142, 143, 144, 145, 41, 453, 454, 455, 456, 46, 24, 349, 457, 379, 380, 326, 381, 337, 338, 618, 619, 620, 621, 825, 826, 827, 828, 829, 830, 831, 832, 833, 834, 835, 836, 837, 838, 839, 840, 841, 842, 843, 921, 922, 923, 924, 925, 926, 936, 937, 938, 939, 940, 941, 942, 943] (by decide +kernel) (by decide +kernel)
set_option maxRecDepth 20000 in
theorem gL_law_X8_pieceOf : GoodIn wsL_law (wsV RL 107 RX8 yX8_pieceOf wsX8_pieceOf) := goodIn_app (goodIn_of _ (by decide +kernel)) ggL_law_X8_pieceOf
set_option maxRecDepth 20000 in
theorem ggL_law_X9_pieceOf : GoodIn wsL_law wsX9_pieceOf := goodIn_r _ [762, 161, 98, 99, 100, 101, 343, 124, 102, 188, 189, 5, 190, 162, 163, 164, 165, 97, 466, 467, 468, 469, 413, 414, 415, 416, 127, 417, 418, 419, 420, 123, 122, 421, 422, 423, 844, 845, 846, 847, 848, 849, 850, 851, 852, 853, 854, 855, 856, 857, 858, 859, 860, 861, 862, 863, 864, 865, 866, 867, 868, 869, 870, 871, 872, 873, 874, 875, 876, 877, 878, 879, 880, 881, 882, 883, 884, 885, 886, 887, 888, 889, 890, 891, 892, 893, 894] (by decide +kernel) (by decide +kernel)
set_option maxRecDepth 20000 in
theorem gL_law_X9_pieceOf : GoodIn wsL_law (wsV RL 110 RX9 yX9_pieceOf wsX9_pieceOf) := goodIn_app (goodIn_of _ (by decide +kernel)) ggL_law_X9_pieceOf
set_option maxRecDepth 20000 in
theorem ggL_law_X8_rightOf : GoodIn wsL_law wsX8_rightOf := goodIn_r _ [766, 22, 264, 563, 265, 564, 47, 288, 548, 270, 271, 272, 2, 273, 45, 142, 143, 144, 145, 41, 274, 275, 276, 277, 278, 20, 225, 226, 227, 228, 44, 283, 284, 285, 286, 287, 279, 280, 281, 224, 282, 238, 242, 243, 825, 826, 827, 828, 829, 830, 831, 832, 833, 834, 835, 836, 837, 838, 839, 840, 841, 842, 843, 927, 928, 929, 930, 931, 932, 933, 934, 935] (by decide +kernel) (by decide +kernel)
set_option maxRecDepth 20000 in
theorem gL_law_X8_rightOf : GoodIn wsL_law (wsV RL 111 RX8 yX8_rightOf wsX8_rightOf) := goodIn_app (goodIn_of _ (by decide +kernel)) ggL_law_X8_rightOf
set_option maxRecDepth 20000 in
theorem ggL_law_X9_rightOf : GoodIn wsL_law wsX9_rightOf := goodIn_r _ [770, 255, 111, 114, 115, 119, 117, 118, 188, 189, 5, 190, 162, 163, 164, 165, 97, 293, 294, 295, 296, 107, 112, 301, 302, 303, 304, 113, 297, 298, 299, 300, 254, 844, 845, 846, 847, 848, 849, 850, 851, 852, 853, 854, 855, 856, 857, 858, 859, 860, 861, 862, 863, 864, 865, 866, 867, 868, 869, 870, 871, 872, 873, 874, 875, 876, 877, 878, 879, 880, 881, 882, 883, 884, 885, 886, 887, 888, 889, 890, 891, 892, 893, 894] (by decide +kernel) (by decide +kernel)
set_option maxRecDepth 20000 in
theorem gL_law_X9_rightOf : GoodIn wsL_law (wsV RL 114 RX9 yX9_rightOf wsX9_rightOf) := goodIn_app (goodIn_of _ (by decide +kernel)) ggL_law_X9_rightOf
set_option maxRecDepth 20000 in
theorem ggL_law_X8_herdOf : GoodIn wsL_law wsX8_herdOf := goodIn_r _ [774, 24, 350, 775, 776, 349, 485, 348, 47, 352, 353, 354, 2, 355, 46, 142, 143, 144, 145, 41, 539, 540, 541, 326, 542, 338, 543, 536, 537, 538, 334, 335, 825, 826, 827, 828, 829, 830, 831, 832, 833, 834, 835, 836, 837, 838, 839, 840, 841, 842, 843, 936, 937, 938, 939, 940, 941, 942, 943] (by decide +kernel) (by decide +kernel)
set_option maxRecDepth 20000 in
theorem gL_law_X8_herdOf : GoodIn wsL_law (wsV RL 115 RX8 yX8_herdOf wsX8_herdOf) := goodIn_app (goodIn_of _ (by decide +kernel)) ggL_law_X8_herdOf
set_option maxRecDepth 20000 in
theorem ggL_law_X9_herdOf : GoodIn wsL_law wsX9_herdOf := goodIn_r _ [780, 343, 121, 122, 123, 124, 126, 127, 188, 189, 5, 190, 162, 163, 164, 165, 97, 657, 658, 659, 660, 254, 128, 844, 845, 846, 847, 848, 849, 850, 851, 852, 853, 854, 855, 856, 857, 858, 859, 860, 861, 862, 863, 864, 865, 866, 867, 868, 869, 870, 871, 872, 873, 874, 875, 876, 877, 878, 879, 880, 881, 882, 883, 884, 885, 886, 887, 888, 889, 890, 891, 892, 893, 894] (by decide +kernel) (by decide +kernel)
set_option maxRecDepth 20000 in
theorem gL_law_X9_herdOf : GoodIn wsL_law (wsV RL 118 RX9 yX9_herdOf wsX9_herdOf) := goodIn_app (goodIn_of _ (by decide +kernel)) ggL_law_X9_herdOf
set_option maxRecDepth 20000 in
theorem ggL_law_X8_ownerOf : GoodIn wsL_law wsX8_ownerOf := goodIn_r _ [784, 18, 15, 534, 626, 179, 180, 181, 2, 182, 43, 142, 143, 144, 145, 41, 364, 365, 366, 367, 32, 46, 24, 350, 45, 22, 368, 369, 370, 31, 371, 64, 65, 66, 67, 68, 372, 373, 374, 375, 376, 377, 378, 379, 380, 326, 381, 337, 338, 274, 275, 276, 277, 264, 278, 20, 225, 226, 227, 228, 44, 283, 284, 285, 286, 47, 287, 288, 279, 280, 281, 224, 282, 238, 242, 243, 382, 383, 384, 385, 386, 387, 785, 786, 787, 788, 789, 790, 791, 792, 825, 826, 827, 828, 829, 830, 831, 832, 833, 834, 835, 836, 837, 838, 839, 840, 841, 842, 843, 895, 896, 936, 937, 938, 939, 940, 941, 942, 943, 899, 900, 901, 902, 903, 927, 928, 929, 930, 931, 932, 933, 934, 935] (by decide +kernel) (by decide +kernel)
set_option maxRecDepth 20000 in
theorem gL_law_X8_ownerOf : GoodIn wsL_law (wsV RL 119 RX8 yX8_ownerOf wsX8_ownerOf) := goodIn_app (goodIn_of _ (by decide +kernel)) ggL_law_X8_ownerOf
set_option maxRecDepth 20000 in
theorem ggL_law_X9_ownerOf : GoodIn wsL_law wsX9_ownerOf := goodIn_r _ [796, 174, 594, 105, 635, 106, 343, 121, 255, 188, 189, 5, 190, 162, 163, 164, 165, 97, 413, 414, 415, 416, 127, 124, 417, 418, 419, 420, 123, 122, 421, 422, 423, 293, 294, 295, 296, 111, 107, 112, 301, 302, 303, 304, 113, 117, 297, 298, 299, 300, 119, 114, 254, 115, 844, 845, 846, 847, 848, 849, 850, 851, 852, 853, 854, 855, 856, 857, 858, 859, 860, 861, 862, 863, 864, 865, 866, 867, 868, 869, 870, 871, 872, 873, 874, 875, 876, 877, 878, 879, 880, 881, 882, 883, 884, 885, 886, 887, 888, 889, 890, 891, 892, 893, 894] (by decide +kernel) (by decide +kernel)
set_option maxRecDepth 20000 in
theorem gL_law_X9_ownerOf : GoodIn wsL_law (wsV RL 122 RX9 yX9_ownerOf wsX9_ownerOf) := goodIn_app (goodIn_of _ (by decide +kernel)) ggL_law_X9_ownerOf
set_option maxRecDepth 20000 in
theorem ggL_law_X8_count : GoodIn wsL_law wsX8_count := goodIn_r _ [800, 47, 42, 43, 44, 49, 41, 801, 802, 803, 2, 804, 45, 22, 279, 280, 281, 224, 282, 238, 242, 243, 805, 806, 807, 808, 46, 24, 348, 809, 810, 811, 812, 13, 482, 813, 814, 815, 816, 485, 817, 818, 819, 820, 483, 825, 826, 827, 828, 829, 830, 831, 832, 833, 834, 835, 836, 837, 838, 839, 840, 841, 842, 843, 927, 928, 929, 930, 931, 932, 933, 934, 935, 936, 937, 938, 939, 940, 941, 942, 943, 921, 922, 923, 924, 925, 926] (by decide +kernel) (by decide +kernel)
set_option maxRecDepth 20000 in
theorem gL_law_X8_count : GoodIn wsL_law (wsV RL 123 RX8 yX8_count wsX8_count) := goodIn_app (goodIn_of _ (by decide +kernel)) ggL_law_X8_count
set_option maxRecDepth 20000 in
theorem ggL_law_X9_count : GoodIn wsL_law wsX9_count := goodIn_r _ [824, 97, 254, 161, 174, 187, 255, 343, 127, 98, 570, 569, 599, 297, 298, 299, 5, 300, 119, 114, 115, 844, 845, 846, 847, 848, 849, 850, 851, 852, 853, 854, 855, 856, 857, 858, 859, 860, 861, 862, 863, 864, 865, 866, 867, 868, 869, 870, 871, 872, 873, 874, 875, 876, 877, 878, 879, 880, 881, 882, 883, 884, 885, 886, 887, 888, 889, 890, 891, 892, 893, 894] (by decide +kernel) (by decide +kernel)
set_option maxRecDepth 20000 in
theorem gL_law_X9_count : GoodIn wsL_law (wsV RL 126 RX9 yX9_count wsX9_count) := goodIn_app (goodIn_of _ (by decide +kernel)) ggL_law_X9_count
theorem dL_law_0 : decode cL_law 0 = .ok (.new 7, 3) := by decide +kernel
theorem dL_law_3 : decode cL_law 3 = .ok (.dup, 1) := by decide +kernel
theorem dL_law_4 : decode cL_law 4 = .ok (.invokespecial 9, 3) := by decide +kernel
theorem dL_law_7 : decode cL_law 7 = .ok (.astore_n 1, 1) := by decide +kernel
theorem dL_law_8 : decode cL_law 8 = .ok (.new 10, 3) := by decide +kernel
theorem dL_law_11 : decode cL_law 11 = .ok (.dup, 1) := by decide +kernel
theorem dL_law_12 : decode cL_law 12 = .ok (.invokespecial 12, 3) := by decide +kernel
theorem dL_law_15 : decode cL_law 15 = .ok (.astore_n 2, 1) := by decide +kernel
theorem dL_law_16 : decode cL_law 16 = .ok (.iconst 0, 1) := by decide +kernel
theorem dL_law_17 : decode cL_law 17 = .ok (.istore_n 3, 1) := by decide +kernel
theorem dL_law_18 : decode cL_law 18 = .ok (.iload_n 3, 1) := by decide +kernel
theorem dL_law_19 : decode cL_law 19 = .ok (.aload_n 0, 1) := by decide +kernel
theorem dL_law_20 : decode cL_law 20 = .ok (.arraylength, 1) := by decide +kernel
theorem dL_law_21 : decode cL_law 21 = .ok (.bipush 6, 2) := by decide +kernel
theorem dL_law_23 : decode cL_law 23 = .ok (.isub, 1) := by decide +kernel
theorem dL_law_24 : decode cL_law 24 = .ok (.if_icmp .gt 1075, 3) := by decide +kernel
theorem dL_law_27 : decode cL_law 27 = .ok (.aload_n 0, 1) := by decide +kernel
theorem dL_law_28 : decode cL_law 28 = .ok (.iload_n 3, 1) := by decide +kernel
theorem dL_law_29 : decode cL_law 29 = .ok (.iaload, 1) := by decide +kernel
theorem dL_law_30 : decode cL_law 30 = .ok (.bipush 31, 2) := by decide +kernel
theorem dL_law_32 : decode cL_law 32 = .ok (.iand, 1) := by decide +kernel
theorem dL_law_33 : decode cL_law 33 = .ok (.tableswitch 1060 0 26 #[123, 192, 215, 238, 281, 324, 387, 440, 473, 506, 549, 582, 615, 638, 661, 694, 717, 750, 773, 796, 819, 872, 905, 938, 971, 1004, 1037], 123) := by decide +kernel
theorem dL_law_156 : decode cL_law 156 = .ok (.aload_n 1, 1) := by decide +kernel
theorem dL_law_157 : decode cL_law 157 = .ok (.aload_n 0, 1) := by decide +kernel
theorem dL_law_158 : decode cL_law 158 = .ok (.iload_n 3, 1) := by decide +kernel
theorem dL_law_159 : decode cL_law 159 = .ok (.iconst 1, 1) := by decide +kernel
theorem dL_law_160 : decode cL_law 160 = .ok (.iadd, 1) := by decide +kernel
theorem dL_law_161 : decode cL_law 161 = .ok (.iaload, 1) := by decide +kernel
theorem dL_law_162 : decode cL_law 162 = .ok (.aload_n 0, 1) := by decide +kernel
theorem dL_law_163 : decode cL_law 163 = .ok (.iload_n 3, 1) := by decide +kernel
theorem dL_law_164 : decode cL_law 164 = .ok (.iconst 2, 1) := by decide +kernel
theorem dL_law_165 : decode cL_law 165 = .ok (.iadd, 1) := by decide +kernel
theorem dL_law_166 : decode cL_law 166 = .ok (.iaload, 1) := by decide +kernel
theorem dL_law_167 : decode cL_law 167 = .ok (.aload_n 0, 1) := by decide +kernel
theorem dL_law_168 : decode cL_law 168 = .ok (.iload_n 3, 1) := by decide +kernel
theorem dL_law_169 : decode cL_law 169 = .ok (.iconst 3, 1) := by decide +kernel
theorem dL_law_170 : decode cL_law 170 = .ok (.iadd, 1) := by decide +kernel
theorem dL_law_171 : decode cL_law 171 = .ok (.iaload, 1) := by decide +kernel
theorem dL_law_172 : decode cL_law 172 = .ok (.aload_n 0, 1) := by decide +kernel
theorem dL_law_173 : decode cL_law 173 = .ok (.iload_n 3, 1) := by decide +kernel
theorem dL_law_174 : decode cL_law 174 = .ok (.iconst 4, 1) := by decide +kernel
theorem dL_law_175 : decode cL_law 175 = .ok (.iadd, 1) := by decide +kernel
theorem dL_law_176 : decode cL_law 176 = .ok (.iaload, 1) := by decide +kernel
theorem dL_law_177 : decode cL_law 177 = .ok (.ifCond .eq 7, 3) := by decide +kernel
theorem dL_law_180 : decode cL_law 180 = .ok (.iconst 1, 1) := by decide +kernel
theorem dL_law_181 : decode cL_law 181 = .ok (.goto 4, 3) := by decide +kernel
theorem dL_law_184 : decode cL_law 184 = .ok (.iconst 0, 1) := by decide +kernel
theorem dL_law_185 : decode cL_law 185 = .ok (.invokevirtual 13, 3) := by decide +kernel
theorem dL_law_188 : decode cL_law 188 = .ok (.aload_n 2, 1) := by decide +kernel
theorem dL_law_189 : decode cL_law 189 = .ok (.aload_n 0, 1) := by decide +kernel
theorem dL_law_190 : decode cL_law 190 = .ok (.iload_n 3, 1) := by decide +kernel
theorem dL_law_191 : decode cL_law 191 = .ok (.iconst 1, 1) := by decide +kernel
theorem dL_law_192 : decode cL_law 192 = .ok (.iadd, 1) := by decide +kernel
theorem dL_law_193 : decode cL_law 193 = .ok (.iaload, 1) := by decide +kernel
theorem dL_law_194 : decode cL_law 194 = .ok (.aload_n 0, 1) := by decide +kernel
theorem dL_law_195 : decode cL_law 195 = .ok (.iload_n 3, 1) := by decide +kernel
theorem dL_law_196 : decode cL_law 196 = .ok (.iconst 2, 1) := by decide +kernel
theorem dL_law_197 : decode cL_law 197 = .ok (.iadd, 1) := by decide +kernel
theorem dL_law_198 : decode cL_law 198 = .ok (.iaload, 1) := by decide +kernel
theorem dL_law_199 : decode cL_law 199 = .ok (.aload_n 0, 1) := by decide +kernel
theorem dL_law_200 : decode cL_law 200 = .ok (.iload_n 3, 1) := by decide +kernel
theorem dL_law_201 : decode cL_law 201 = .ok (.iconst 3, 1) := by decide +kernel
theorem dL_law_202 : decode cL_law 202 = .ok (.iadd, 1) := by decide +kernel
theorem dL_law_203 : decode cL_law 203 = .ok (.iaload, 1) := by decide +kernel
theorem dL_law_204 : decode cL_law 204 = .ok (.aload_n 0, 1) := by decide +kernel
theorem dL_law_205 : decode cL_law 205 = .ok (.iload_n 3, 1) := by decide +kernel
theorem dL_law_206 : decode cL_law 206 = .ok (.iconst 4, 1) := by decide +kernel
theorem dL_law_207 : decode cL_law 207 = .ok (.iadd, 1) := by decide +kernel
theorem dL_law_208 : decode cL_law 208 = .ok (.iaload, 1) := by decide +kernel
theorem dL_law_209 : decode cL_law 209 = .ok (.ifCond .eq 7, 3) := by decide +kernel
theorem dL_law_212 : decode cL_law 212 = .ok (.iconst 1, 1) := by decide +kernel
theorem dL_law_213 : decode cL_law 213 = .ok (.goto 4, 3) := by decide +kernel
theorem dL_law_216 : decode cL_law 216 = .ok (.iconst 0, 1) := by decide +kernel
theorem dL_law_217 : decode cL_law 217 = .ok (.invokevirtual 17, 3) := by decide +kernel
theorem dL_law_220 : decode cL_law 220 = .ok (.if_icmp .eq 873, 3) := by decide +kernel
theorem dL_law_223 : decode cL_law 223 = .ok (.iconst 0, 1) := by decide +kernel
theorem dL_law_224 : decode cL_law 224 = .ok (.ireturn, 1) := by decide +kernel
theorem dL_law_225 : decode cL_law 225 = .ok (.aload_n 1, 1) := by decide +kernel
theorem dL_law_226 : decode cL_law 226 = .ok (.aload_n 0, 1) := by decide +kernel
theorem dL_law_227 : decode cL_law 227 = .ok (.iload_n 3, 1) := by decide +kernel
theorem dL_law_228 : decode cL_law 228 = .ok (.iconst 1, 1) := by decide +kernel
theorem dL_law_229 : decode cL_law 229 = .ok (.iadd, 1) := by decide +kernel
theorem dL_law_230 : decode cL_law 230 = .ok (.iaload, 1) := by decide +kernel
theorem dL_law_231 : decode cL_law 231 = .ok (.invokevirtual 18, 3) := by decide +kernel
theorem dL_law_234 : decode cL_law 234 = .ok (.aload_n 2, 1) := by decide +kernel
theorem dL_law_235 : decode cL_law 235 = .ok (.aload_n 0, 1) := by decide +kernel
theorem dL_law_236 : decode cL_law 236 = .ok (.iload_n 3, 1) := by decide +kernel
theorem dL_law_237 : decode cL_law 237 = .ok (.iconst 1, 1) := by decide +kernel
theorem dL_law_238 : decode cL_law 238 = .ok (.iadd, 1) := by decide +kernel
theorem dL_law_239 : decode cL_law 239 = .ok (.iaload, 1) := by decide +kernel
theorem dL_law_240 : decode cL_law 240 = .ok (.invokevirtual 22, 3) := by decide +kernel
theorem dL_law_243 : decode cL_law 243 = .ok (.if_icmp .eq 850, 3) := by decide +kernel
theorem dL_law_246 : decode cL_law 246 = .ok (.iconst 0, 1) := by decide +kernel
theorem dL_law_247 : decode cL_law 247 = .ok (.ireturn, 1) := by decide +kernel
theorem dL_law_248 : decode cL_law 248 = .ok (.aload_n 1, 1) := by decide +kernel
theorem dL_law_249 : decode cL_law 249 = .ok (.aload_n 0, 1) := by decide +kernel
theorem dL_law_250 : decode cL_law 250 = .ok (.iload_n 3, 1) := by decide +kernel
theorem dL_law_251 : decode cL_law 251 = .ok (.iconst 1, 1) := by decide +kernel
theorem dL_law_252 : decode cL_law 252 = .ok (.iadd, 1) := by decide +kernel
theorem dL_law_253 : decode cL_law 253 = .ok (.iaload, 1) := by decide +kernel
theorem dL_law_254 : decode cL_law 254 = .ok (.invokevirtual 23, 3) := by decide +kernel
theorem dL_law_257 : decode cL_law 257 = .ok (.aload_n 2, 1) := by decide +kernel
theorem dL_law_258 : decode cL_law 258 = .ok (.aload_n 0, 1) := by decide +kernel
theorem dL_law_259 : decode cL_law 259 = .ok (.iload_n 3, 1) := by decide +kernel
theorem dL_law_260 : decode cL_law 260 = .ok (.iconst 1, 1) := by decide +kernel
theorem dL_law_261 : decode cL_law 261 = .ok (.iadd, 1) := by decide +kernel
theorem dL_law_262 : decode cL_law 262 = .ok (.iaload, 1) := by decide +kernel
theorem dL_law_263 : decode cL_law 263 = .ok (.invokevirtual 26, 3) := by decide +kernel
theorem dL_law_266 : decode cL_law 266 = .ok (.if_icmp .eq 827, 3) := by decide +kernel
theorem dL_law_269 : decode cL_law 269 = .ok (.iconst 0, 1) := by decide +kernel
theorem dL_law_270 : decode cL_law 270 = .ok (.ireturn, 1) := by decide +kernel
theorem dL_law_271 : decode cL_law 271 = .ok (.aload_n 1, 1) := by decide +kernel
theorem dL_law_272 : decode cL_law 272 = .ok (.aload_n 0, 1) := by decide +kernel
theorem dL_law_273 : decode cL_law 273 = .ok (.iload_n 3, 1) := by decide +kernel
theorem dL_law_274 : decode cL_law 274 = .ok (.iconst 1, 1) := by decide +kernel
theorem dL_law_275 : decode cL_law 275 = .ok (.iadd, 1) := by decide +kernel
theorem dL_law_276 : decode cL_law 276 = .ok (.iaload, 1) := by decide +kernel
theorem dL_law_277 : decode cL_law 277 = .ok (.aload_n 0, 1) := by decide +kernel
theorem dL_law_278 : decode cL_law 278 = .ok (.iload_n 3, 1) := by decide +kernel
theorem dL_law_279 : decode cL_law 279 = .ok (.iconst 2, 1) := by decide +kernel
theorem dL_law_280 : decode cL_law 280 = .ok (.iadd, 1) := by decide +kernel
theorem dL_law_281 : decode cL_law 281 = .ok (.iaload, 1) := by decide +kernel
theorem dL_law_282 : decode cL_law 282 = .ok (.aload_n 0, 1) := by decide +kernel
theorem dL_law_283 : decode cL_law 283 = .ok (.iload_n 3, 1) := by decide +kernel
theorem dL_law_284 : decode cL_law 284 = .ok (.iconst 3, 1) := by decide +kernel
theorem dL_law_285 : decode cL_law 285 = .ok (.iadd, 1) := by decide +kernel
theorem dL_law_286 : decode cL_law 286 = .ok (.iaload, 1) := by decide +kernel
theorem dL_law_287 : decode cL_law 287 = .ok (.invokevirtual 27, 3) := by decide +kernel
theorem dL_law_290 : decode cL_law 290 = .ok (.aload_n 2, 1) := by decide +kernel
theorem dL_law_291 : decode cL_law 291 = .ok (.aload_n 0, 1) := by decide +kernel
theorem dL_law_292 : decode cL_law 292 = .ok (.iload_n 3, 1) := by decide +kernel
theorem dL_law_293 : decode cL_law 293 = .ok (.iconst 1, 1) := by decide +kernel
theorem dL_law_294 : decode cL_law 294 = .ok (.iadd, 1) := by decide +kernel
theorem dL_law_295 : decode cL_law 295 = .ok (.iaload, 1) := by decide +kernel
theorem dL_law_296 : decode cL_law 296 = .ok (.aload_n 0, 1) := by decide +kernel
theorem dL_law_297 : decode cL_law 297 = .ok (.iload_n 3, 1) := by decide +kernel
theorem dL_law_298 : decode cL_law 298 = .ok (.iconst 2, 1) := by decide +kernel
theorem dL_law_299 : decode cL_law 299 = .ok (.iadd, 1) := by decide +kernel
theorem dL_law_300 : decode cL_law 300 = .ok (.iaload, 1) := by decide +kernel
theorem dL_law_301 : decode cL_law 301 = .ok (.aload_n 0, 1) := by decide +kernel
theorem dL_law_302 : decode cL_law 302 = .ok (.iload_n 3, 1) := by decide +kernel
theorem dL_law_303 : decode cL_law 303 = .ok (.iconst 3, 1) := by decide +kernel
theorem dL_law_304 : decode cL_law 304 = .ok (.iadd, 1) := by decide +kernel
theorem dL_law_305 : decode cL_law 305 = .ok (.iaload, 1) := by decide +kernel
theorem dL_law_306 : decode cL_law 306 = .ok (.invokevirtual 31, 3) := by decide +kernel
theorem dL_law_309 : decode cL_law 309 = .ok (.if_icmp .eq 784, 3) := by decide +kernel
theorem dL_law_312 : decode cL_law 312 = .ok (.iconst 0, 1) := by decide +kernel
theorem dL_law_313 : decode cL_law 313 = .ok (.ireturn, 1) := by decide +kernel
theorem dL_law_314 : decode cL_law 314 = .ok (.aload_n 1, 1) := by decide +kernel
theorem dL_law_315 : decode cL_law 315 = .ok (.aload_n 0, 1) := by decide +kernel
theorem dL_law_316 : decode cL_law 316 = .ok (.iload_n 3, 1) := by decide +kernel
theorem dL_law_317 : decode cL_law 317 = .ok (.iconst 1, 1) := by decide +kernel
theorem dL_law_318 : decode cL_law 318 = .ok (.iadd, 1) := by decide +kernel
theorem dL_law_319 : decode cL_law 319 = .ok (.iaload, 1) := by decide +kernel
theorem dL_law_320 : decode cL_law 320 = .ok (.aload_n 0, 1) := by decide +kernel
theorem dL_law_321 : decode cL_law 321 = .ok (.iload_n 3, 1) := by decide +kernel
theorem dL_law_322 : decode cL_law 322 = .ok (.iconst 2, 1) := by decide +kernel
theorem dL_law_323 : decode cL_law 323 = .ok (.iadd, 1) := by decide +kernel
theorem dL_law_324 : decode cL_law 324 = .ok (.iaload, 1) := by decide +kernel
theorem dL_law_325 : decode cL_law 325 = .ok (.aload_n 0, 1) := by decide +kernel
theorem dL_law_326 : decode cL_law 326 = .ok (.iload_n 3, 1) := by decide +kernel
theorem dL_law_327 : decode cL_law 327 = .ok (.iconst 3, 1) := by decide +kernel
theorem dL_law_328 : decode cL_law 328 = .ok (.iadd, 1) := by decide +kernel
theorem dL_law_329 : decode cL_law 329 = .ok (.iaload, 1) := by decide +kernel
theorem dL_law_330 : decode cL_law 330 = .ok (.invokevirtual 32, 3) := by decide +kernel
theorem dL_law_333 : decode cL_law 333 = .ok (.aload_n 2, 1) := by decide +kernel
theorem dL_law_334 : decode cL_law 334 = .ok (.aload_n 0, 1) := by decide +kernel
theorem dL_law_335 : decode cL_law 335 = .ok (.iload_n 3, 1) := by decide +kernel
theorem dL_law_336 : decode cL_law 336 = .ok (.iconst 1, 1) := by decide +kernel
theorem dL_law_337 : decode cL_law 337 = .ok (.iadd, 1) := by decide +kernel
theorem dL_law_338 : decode cL_law 338 = .ok (.iaload, 1) := by decide +kernel
theorem dL_law_339 : decode cL_law 339 = .ok (.aload_n 0, 1) := by decide +kernel
theorem dL_law_340 : decode cL_law 340 = .ok (.iload_n 3, 1) := by decide +kernel
theorem dL_law_341 : decode cL_law 341 = .ok (.iconst 2, 1) := by decide +kernel
theorem dL_law_342 : decode cL_law 342 = .ok (.iadd, 1) := by decide +kernel
theorem dL_law_343 : decode cL_law 343 = .ok (.iaload, 1) := by decide +kernel
theorem dL_law_344 : decode cL_law 344 = .ok (.aload_n 0, 1) := by decide +kernel
theorem dL_law_345 : decode cL_law 345 = .ok (.iload_n 3, 1) := by decide +kernel
theorem dL_law_346 : decode cL_law 346 = .ok (.iconst 3, 1) := by decide +kernel
theorem dL_law_347 : decode cL_law 347 = .ok (.iadd, 1) := by decide +kernel
theorem dL_law_348 : decode cL_law 348 = .ok (.iaload, 1) := by decide +kernel
theorem dL_law_349 : decode cL_law 349 = .ok (.invokevirtual 35, 3) := by decide +kernel
theorem dL_law_352 : decode cL_law 352 = .ok (.if_icmp .eq 741, 3) := by decide +kernel
theorem dL_law_355 : decode cL_law 355 = .ok (.iconst 0, 1) := by decide +kernel
theorem dL_law_356 : decode cL_law 356 = .ok (.ireturn, 1) := by decide +kernel
theorem dL_law_357 : decode cL_law 357 = .ok (.aload_n 1, 1) := by decide +kernel
theorem dL_law_358 : decode cL_law 358 = .ok (.aload_n 0, 1) := by decide +kernel
theorem dL_law_359 : decode cL_law 359 = .ok (.iload_n 3, 1) := by decide +kernel
theorem dL_law_360 : decode cL_law 360 = .ok (.iconst 1, 1) := by decide +kernel
theorem dL_law_361 : decode cL_law 361 = .ok (.iadd, 1) := by decide +kernel
theorem dL_law_362 : decode cL_law 362 = .ok (.iaload, 1) := by decide +kernel
theorem dL_law_363 : decode cL_law 363 = .ok (.aload_n 0, 1) := by decide +kernel
theorem dL_law_364 : decode cL_law 364 = .ok (.iload_n 3, 1) := by decide +kernel
theorem dL_law_365 : decode cL_law 365 = .ok (.iconst 2, 1) := by decide +kernel
theorem dL_law_366 : decode cL_law 366 = .ok (.iadd, 1) := by decide +kernel
theorem dL_law_367 : decode cL_law 367 = .ok (.iaload, 1) := by decide +kernel
theorem dL_law_368 : decode cL_law 368 = .ok (.aload_n 0, 1) := by decide +kernel
theorem dL_law_369 : decode cL_law 369 = .ok (.iload_n 3, 1) := by decide +kernel
theorem dL_law_370 : decode cL_law 370 = .ok (.iconst 3, 1) := by decide +kernel
theorem dL_law_371 : decode cL_law 371 = .ok (.iadd, 1) := by decide +kernel
theorem dL_law_372 : decode cL_law 372 = .ok (.iaload, 1) := by decide +kernel
theorem dL_law_373 : decode cL_law 373 = .ok (.aload_n 0, 1) := by decide +kernel
theorem dL_law_374 : decode cL_law 374 = .ok (.iload_n 3, 1) := by decide +kernel
theorem dL_law_375 : decode cL_law 375 = .ok (.iconst 4, 1) := by decide +kernel
theorem dL_law_376 : decode cL_law 376 = .ok (.iadd, 1) := by decide +kernel
theorem dL_law_377 : decode cL_law 377 = .ok (.iaload, 1) := by decide +kernel
theorem dL_law_378 : decode cL_law 378 = .ok (.aload_n 0, 1) := by decide +kernel
theorem dL_law_379 : decode cL_law 379 = .ok (.iload_n 3, 1) := by decide +kernel
theorem dL_law_380 : decode cL_law 380 = .ok (.iconst 5, 1) := by decide +kernel
theorem dL_law_381 : decode cL_law 381 = .ok (.iadd, 1) := by decide +kernel
theorem dL_law_382 : decode cL_law 382 = .ok (.iaload, 1) := by decide +kernel
theorem dL_law_383 : decode cL_law 383 = .ok (.invokevirtual 36, 3) := by decide +kernel
theorem dL_law_386 : decode cL_law 386 = .ok (.aload_n 2, 1) := by decide +kernel
theorem dL_law_387 : decode cL_law 387 = .ok (.aload_n 0, 1) := by decide +kernel
theorem dL_law_388 : decode cL_law 388 = .ok (.iload_n 3, 1) := by decide +kernel
theorem dL_law_389 : decode cL_law 389 = .ok (.iconst 1, 1) := by decide +kernel
theorem dL_law_390 : decode cL_law 390 = .ok (.iadd, 1) := by decide +kernel
theorem dL_law_391 : decode cL_law 391 = .ok (.iaload, 1) := by decide +kernel
theorem dL_law_392 : decode cL_law 392 = .ok (.aload_n 0, 1) := by decide +kernel
theorem dL_law_393 : decode cL_law 393 = .ok (.iload_n 3, 1) := by decide +kernel
theorem dL_law_394 : decode cL_law 394 = .ok (.iconst 2, 1) := by decide +kernel
theorem dL_law_395 : decode cL_law 395 = .ok (.iadd, 1) := by decide +kernel
theorem dL_law_396 : decode cL_law 396 = .ok (.iaload, 1) := by decide +kernel
theorem dL_law_397 : decode cL_law 397 = .ok (.aload_n 0, 1) := by decide +kernel
theorem dL_law_398 : decode cL_law 398 = .ok (.iload_n 3, 1) := by decide +kernel
theorem dL_law_399 : decode cL_law 399 = .ok (.iconst 3, 1) := by decide +kernel
theorem dL_law_400 : decode cL_law 400 = .ok (.iadd, 1) := by decide +kernel
theorem dL_law_401 : decode cL_law 401 = .ok (.iaload, 1) := by decide +kernel
theorem dL_law_402 : decode cL_law 402 = .ok (.aload_n 0, 1) := by decide +kernel
theorem dL_law_403 : decode cL_law 403 = .ok (.iload_n 3, 1) := by decide +kernel
theorem dL_law_404 : decode cL_law 404 = .ok (.iconst 4, 1) := by decide +kernel
theorem dL_law_405 : decode cL_law 405 = .ok (.iadd, 1) := by decide +kernel
theorem dL_law_406 : decode cL_law 406 = .ok (.iaload, 1) := by decide +kernel
theorem dL_law_407 : decode cL_law 407 = .ok (.aload_n 0, 1) := by decide +kernel
theorem dL_law_408 : decode cL_law 408 = .ok (.iload_n 3, 1) := by decide +kernel
theorem dL_law_409 : decode cL_law 409 = .ok (.iconst 5, 1) := by decide +kernel
theorem dL_law_410 : decode cL_law 410 = .ok (.iadd, 1) := by decide +kernel
theorem dL_law_411 : decode cL_law 411 = .ok (.iaload, 1) := by decide +kernel
theorem dL_law_412 : decode cL_law 412 = .ok (.invokevirtual 40, 3) := by decide +kernel
theorem dL_law_415 : decode cL_law 415 = .ok (.if_icmp .eq 678, 3) := by decide +kernel
theorem dL_law_418 : decode cL_law 418 = .ok (.iconst 0, 1) := by decide +kernel
theorem dL_law_419 : decode cL_law 419 = .ok (.ireturn, 1) := by decide +kernel
theorem dL_law_420 : decode cL_law 420 = .ok (.aload_n 1, 1) := by decide +kernel
theorem dL_law_421 : decode cL_law 421 = .ok (.aload_n 0, 1) := by decide +kernel
theorem dL_law_422 : decode cL_law 422 = .ok (.iload_n 3, 1) := by decide +kernel
theorem dL_law_423 : decode cL_law 423 = .ok (.iconst 1, 1) := by decide +kernel
theorem dL_law_424 : decode cL_law 424 = .ok (.iadd, 1) := by decide +kernel
theorem dL_law_425 : decode cL_law 425 = .ok (.iaload, 1) := by decide +kernel
theorem dL_law_426 : decode cL_law 426 = .ok (.aload_n 0, 1) := by decide +kernel
theorem dL_law_427 : decode cL_law 427 = .ok (.iload_n 3, 1) := by decide +kernel
theorem dL_law_428 : decode cL_law 428 = .ok (.iconst 2, 1) := by decide +kernel
theorem dL_law_429 : decode cL_law 429 = .ok (.iadd, 1) := by decide +kernel
theorem dL_law_430 : decode cL_law 430 = .ok (.iaload, 1) := by decide +kernel
theorem dL_law_431 : decode cL_law 431 = .ok (.aload_n 0, 1) := by decide +kernel
theorem dL_law_432 : decode cL_law 432 = .ok (.iload_n 3, 1) := by decide +kernel
theorem dL_law_433 : decode cL_law 433 = .ok (.iconst 3, 1) := by decide +kernel
theorem dL_law_434 : decode cL_law 434 = .ok (.iadd, 1) := by decide +kernel
theorem dL_law_435 : decode cL_law 435 = .ok (.iaload, 1) := by decide +kernel
theorem dL_law_436 : decode cL_law 436 = .ok (.aload_n 0, 1) := by decide +kernel
theorem dL_law_437 : decode cL_law 437 = .ok (.iload_n 3, 1) := by decide +kernel
theorem dL_law_438 : decode cL_law 438 = .ok (.iconst 4, 1) := by decide +kernel
theorem dL_law_439 : decode cL_law 439 = .ok (.iadd, 1) := by decide +kernel
theorem dL_law_440 : decode cL_law 440 = .ok (.iaload, 1) := by decide +kernel
theorem dL_law_441 : decode cL_law 441 = .ok (.invokevirtual 41, 3) := by decide +kernel
theorem dL_law_444 : decode cL_law 444 = .ok (.aload_n 2, 1) := by decide +kernel
theorem dL_law_445 : decode cL_law 445 = .ok (.aload_n 0, 1) := by decide +kernel
theorem dL_law_446 : decode cL_law 446 = .ok (.iload_n 3, 1) := by decide +kernel
theorem dL_law_447 : decode cL_law 447 = .ok (.iconst 1, 1) := by decide +kernel
theorem dL_law_448 : decode cL_law 448 = .ok (.iadd, 1) := by decide +kernel
theorem dL_law_449 : decode cL_law 449 = .ok (.iaload, 1) := by decide +kernel
theorem dL_law_450 : decode cL_law 450 = .ok (.aload_n 0, 1) := by decide +kernel
theorem dL_law_451 : decode cL_law 451 = .ok (.iload_n 3, 1) := by decide +kernel
theorem dL_law_452 : decode cL_law 452 = .ok (.iconst 2, 1) := by decide +kernel
theorem dL_law_453 : decode cL_law 453 = .ok (.iadd, 1) := by decide +kernel
theorem dL_law_454 : decode cL_law 454 = .ok (.iaload, 1) := by decide +kernel
theorem dL_law_455 : decode cL_law 455 = .ok (.aload_n 0, 1) := by decide +kernel
theorem dL_law_456 : decode cL_law 456 = .ok (.iload_n 3, 1) := by decide +kernel
theorem dL_law_457 : decode cL_law 457 = .ok (.iconst 3, 1) := by decide +kernel
theorem dL_law_458 : decode cL_law 458 = .ok (.iadd, 1) := by decide +kernel
theorem dL_law_459 : decode cL_law 459 = .ok (.iaload, 1) := by decide +kernel
theorem dL_law_460 : decode cL_law 460 = .ok (.aload_n 0, 1) := by decide +kernel
theorem dL_law_461 : decode cL_law 461 = .ok (.iload_n 3, 1) := by decide +kernel
theorem dL_law_462 : decode cL_law 462 = .ok (.iconst 4, 1) := by decide +kernel
theorem dL_law_463 : decode cL_law 463 = .ok (.iadd, 1) := by decide +kernel
theorem dL_law_464 : decode cL_law 464 = .ok (.iaload, 1) := by decide +kernel
theorem dL_law_465 : decode cL_law 465 = .ok (.invokevirtual 45, 3) := by decide +kernel
theorem dL_law_468 : decode cL_law 468 = .ok (.if_icmp .eq 625, 3) := by decide +kernel
theorem dL_law_471 : decode cL_law 471 = .ok (.iconst 0, 1) := by decide +kernel
theorem dL_law_472 : decode cL_law 472 = .ok (.ireturn, 1) := by decide +kernel
theorem dL_law_473 : decode cL_law 473 = .ok (.aload_n 1, 1) := by decide +kernel
theorem dL_law_474 : decode cL_law 474 = .ok (.aload_n 0, 1) := by decide +kernel
theorem dL_law_475 : decode cL_law 475 = .ok (.iload_n 3, 1) := by decide +kernel
theorem dL_law_476 : decode cL_law 476 = .ok (.iconst 1, 1) := by decide +kernel
theorem dL_law_477 : decode cL_law 477 = .ok (.iadd, 1) := by decide +kernel
theorem dL_law_478 : decode cL_law 478 = .ok (.iaload, 1) := by decide +kernel
theorem dL_law_479 : decode cL_law 479 = .ok (.aload_n 0, 1) := by decide +kernel
theorem dL_law_480 : decode cL_law 480 = .ok (.iload_n 3, 1) := by decide +kernel
theorem dL_law_481 : decode cL_law 481 = .ok (.iconst 2, 1) := by decide +kernel
theorem dL_law_482 : decode cL_law 482 = .ok (.iadd, 1) := by decide +kernel
theorem dL_law_483 : decode cL_law 483 = .ok (.iaload, 1) := by decide +kernel
theorem dL_law_484 : decode cL_law 484 = .ok (.invokevirtual 46, 3) := by decide +kernel
theorem dL_law_487 : decode cL_law 487 = .ok (.aload_n 2, 1) := by decide +kernel
theorem dL_law_488 : decode cL_law 488 = .ok (.aload_n 0, 1) := by decide +kernel
theorem dL_law_489 : decode cL_law 489 = .ok (.iload_n 3, 1) := by decide +kernel
theorem dL_law_490 : decode cL_law 490 = .ok (.iconst 1, 1) := by decide +kernel
theorem dL_law_491 : decode cL_law 491 = .ok (.iadd, 1) := by decide +kernel
theorem dL_law_492 : decode cL_law 492 = .ok (.iaload, 1) := by decide +kernel
theorem dL_law_493 : decode cL_law 493 = .ok (.aload_n 0, 1) := by decide +kernel
theorem dL_law_494 : decode cL_law 494 = .ok (.iload_n 3, 1) := by decide +kernel
theorem dL_law_495 : decode cL_law 495 = .ok (.iconst 2, 1) := by decide +kernel
theorem dL_law_496 : decode cL_law 496 = .ok (.iadd, 1) := by decide +kernel
theorem dL_law_497 : decode cL_law 497 = .ok (.iaload, 1) := by decide +kernel
theorem dL_law_498 : decode cL_law 498 = .ok (.invokevirtual 50, 3) := by decide +kernel
theorem dL_law_501 : decode cL_law 501 = .ok (.if_icmp .eq 592, 3) := by decide +kernel
theorem dL_law_504 : decode cL_law 504 = .ok (.iconst 0, 1) := by decide +kernel
theorem dL_law_505 : decode cL_law 505 = .ok (.ireturn, 1) := by decide +kernel
theorem dL_law_506 : decode cL_law 506 = .ok (.aload_n 1, 1) := by decide +kernel
theorem dL_law_507 : decode cL_law 507 = .ok (.aload_n 0, 1) := by decide +kernel
theorem dL_law_508 : decode cL_law 508 = .ok (.iload_n 3, 1) := by decide +kernel
theorem dL_law_509 : decode cL_law 509 = .ok (.iconst 1, 1) := by decide +kernel
theorem dL_law_510 : decode cL_law 510 = .ok (.iadd, 1) := by decide +kernel
theorem dL_law_511 : decode cL_law 511 = .ok (.iaload, 1) := by decide +kernel
theorem dL_law_512 : decode cL_law 512 = .ok (.aload_n 0, 1) := by decide +kernel
theorem dL_law_513 : decode cL_law 513 = .ok (.iload_n 3, 1) := by decide +kernel
theorem dL_law_514 : decode cL_law 514 = .ok (.iconst 2, 1) := by decide +kernel
theorem dL_law_515 : decode cL_law 515 = .ok (.iadd, 1) := by decide +kernel
theorem dL_law_516 : decode cL_law 516 = .ok (.iaload, 1) := by decide +kernel
theorem dL_law_517 : decode cL_law 517 = .ok (.invokevirtual 51, 3) := by decide +kernel
theorem dL_law_520 : decode cL_law 520 = .ok (.aload_n 2, 1) := by decide +kernel
theorem dL_law_521 : decode cL_law 521 = .ok (.aload_n 0, 1) := by decide +kernel
theorem dL_law_522 : decode cL_law 522 = .ok (.iload_n 3, 1) := by decide +kernel
theorem dL_law_523 : decode cL_law 523 = .ok (.iconst 1, 1) := by decide +kernel
theorem dL_law_524 : decode cL_law 524 = .ok (.iadd, 1) := by decide +kernel
theorem dL_law_525 : decode cL_law 525 = .ok (.iaload, 1) := by decide +kernel
theorem dL_law_526 : decode cL_law 526 = .ok (.aload_n 0, 1) := by decide +kernel
theorem dL_law_527 : decode cL_law 527 = .ok (.iload_n 3, 1) := by decide +kernel
theorem dL_law_528 : decode cL_law 528 = .ok (.iconst 2, 1) := by decide +kernel
theorem dL_law_529 : decode cL_law 529 = .ok (.iadd, 1) := by decide +kernel
theorem dL_law_530 : decode cL_law 530 = .ok (.iaload, 1) := by decide +kernel
theorem dL_law_531 : decode cL_law 531 = .ok (.invokevirtual 54, 3) := by decide +kernel
theorem dL_law_534 : decode cL_law 534 = .ok (.if_icmp .eq 559, 3) := by decide +kernel
theorem dL_law_537 : decode cL_law 537 = .ok (.iconst 0, 1) := by decide +kernel
theorem dL_law_538 : decode cL_law 538 = .ok (.ireturn, 1) := by decide +kernel
theorem dL_law_539 : decode cL_law 539 = .ok (.aload_n 1, 1) := by decide +kernel
theorem dL_law_540 : decode cL_law 540 = .ok (.aload_n 0, 1) := by decide +kernel
theorem dL_law_541 : decode cL_law 541 = .ok (.iload_n 3, 1) := by decide +kernel
theorem dL_law_542 : decode cL_law 542 = .ok (.iconst 1, 1) := by decide +kernel
theorem dL_law_543 : decode cL_law 543 = .ok (.iadd, 1) := by decide +kernel
theorem dL_law_544 : decode cL_law 544 = .ok (.iaload, 1) := by decide +kernel
theorem dL_law_545 : decode cL_law 545 = .ok (.aload_n 0, 1) := by decide +kernel
theorem dL_law_546 : decode cL_law 546 = .ok (.iload_n 3, 1) := by decide +kernel
theorem dL_law_547 : decode cL_law 547 = .ok (.iconst 2, 1) := by decide +kernel
theorem dL_law_548 : decode cL_law 548 = .ok (.iadd, 1) := by decide +kernel
theorem dL_law_549 : decode cL_law 549 = .ok (.iaload, 1) := by decide +kernel
theorem dL_law_550 : decode cL_law 550 = .ok (.aload_n 0, 1) := by decide +kernel
theorem dL_law_551 : decode cL_law 551 = .ok (.iload_n 3, 1) := by decide +kernel
theorem dL_law_552 : decode cL_law 552 = .ok (.iconst 3, 1) := by decide +kernel
theorem dL_law_553 : decode cL_law 553 = .ok (.iadd, 1) := by decide +kernel
theorem dL_law_554 : decode cL_law 554 = .ok (.iaload, 1) := by decide +kernel
theorem dL_law_555 : decode cL_law 555 = .ok (.invokevirtual 55, 3) := by decide +kernel
theorem dL_law_558 : decode cL_law 558 = .ok (.aload_n 2, 1) := by decide +kernel
theorem dL_law_559 : decode cL_law 559 = .ok (.aload_n 0, 1) := by decide +kernel
theorem dL_law_560 : decode cL_law 560 = .ok (.iload_n 3, 1) := by decide +kernel
theorem dL_law_561 : decode cL_law 561 = .ok (.iconst 1, 1) := by decide +kernel
theorem dL_law_562 : decode cL_law 562 = .ok (.iadd, 1) := by decide +kernel
theorem dL_law_563 : decode cL_law 563 = .ok (.iaload, 1) := by decide +kernel
theorem dL_law_564 : decode cL_law 564 = .ok (.aload_n 0, 1) := by decide +kernel
theorem dL_law_565 : decode cL_law 565 = .ok (.iload_n 3, 1) := by decide +kernel
theorem dL_law_566 : decode cL_law 566 = .ok (.iconst 2, 1) := by decide +kernel
theorem dL_law_567 : decode cL_law 567 = .ok (.iadd, 1) := by decide +kernel
theorem dL_law_568 : decode cL_law 568 = .ok (.iaload, 1) := by decide +kernel
theorem dL_law_569 : decode cL_law 569 = .ok (.aload_n 0, 1) := by decide +kernel
theorem dL_law_570 : decode cL_law 570 = .ok (.iload_n 3, 1) := by decide +kernel
theorem dL_law_571 : decode cL_law 571 = .ok (.iconst 3, 1) := by decide +kernel
theorem dL_law_572 : decode cL_law 572 = .ok (.iadd, 1) := by decide +kernel
theorem dL_law_573 : decode cL_law 573 = .ok (.iaload, 1) := by decide +kernel
theorem dL_law_574 : decode cL_law 574 = .ok (.invokevirtual 58, 3) := by decide +kernel
theorem dL_law_577 : decode cL_law 577 = .ok (.if_icmp .eq 516, 3) := by decide +kernel
theorem dL_law_580 : decode cL_law 580 = .ok (.iconst 0, 1) := by decide +kernel
theorem dL_law_581 : decode cL_law 581 = .ok (.ireturn, 1) := by decide +kernel
theorem dL_law_582 : decode cL_law 582 = .ok (.aload_n 1, 1) := by decide +kernel
theorem dL_law_583 : decode cL_law 583 = .ok (.aload_n 0, 1) := by decide +kernel
theorem dL_law_584 : decode cL_law 584 = .ok (.iload_n 3, 1) := by decide +kernel
theorem dL_law_585 : decode cL_law 585 = .ok (.iconst 1, 1) := by decide +kernel
theorem dL_law_586 : decode cL_law 586 = .ok (.iadd, 1) := by decide +kernel
theorem dL_law_587 : decode cL_law 587 = .ok (.iaload, 1) := by decide +kernel
theorem dL_law_588 : decode cL_law 588 = .ok (.aload_n 0, 1) := by decide +kernel
theorem dL_law_589 : decode cL_law 589 = .ok (.iload_n 3, 1) := by decide +kernel
theorem dL_law_590 : decode cL_law 590 = .ok (.iconst 2, 1) := by decide +kernel
theorem dL_law_591 : decode cL_law 591 = .ok (.iadd, 1) := by decide +kernel
theorem dL_law_592 : decode cL_law 592 = .ok (.iaload, 1) := by decide +kernel
theorem dL_law_593 : decode cL_law 593 = .ok (.invokevirtual 59, 3) := by decide +kernel
theorem dL_law_596 : decode cL_law 596 = .ok (.aload_n 2, 1) := by decide +kernel
theorem dL_law_597 : decode cL_law 597 = .ok (.aload_n 0, 1) := by decide +kernel
theorem dL_law_598 : decode cL_law 598 = .ok (.iload_n 3, 1) := by decide +kernel
theorem dL_law_599 : decode cL_law 599 = .ok (.iconst 1, 1) := by decide +kernel
theorem dL_law_600 : decode cL_law 600 = .ok (.iadd, 1) := by decide +kernel
theorem dL_law_601 : decode cL_law 601 = .ok (.iaload, 1) := by decide +kernel
theorem dL_law_602 : decode cL_law 602 = .ok (.aload_n 0, 1) := by decide +kernel
theorem dL_law_603 : decode cL_law 603 = .ok (.iload_n 3, 1) := by decide +kernel
theorem dL_law_604 : decode cL_law 604 = .ok (.iconst 2, 1) := by decide +kernel
theorem dL_law_605 : decode cL_law 605 = .ok (.iadd, 1) := by decide +kernel
theorem dL_law_606 : decode cL_law 606 = .ok (.iaload, 1) := by decide +kernel
theorem dL_law_607 : decode cL_law 607 = .ok (.invokevirtual 62, 3) := by decide +kernel
theorem dL_law_610 : decode cL_law 610 = .ok (.if_icmp .eq 483, 3) := by decide +kernel
theorem dL_law_613 : decode cL_law 613 = .ok (.iconst 0, 1) := by decide +kernel
theorem dL_law_614 : decode cL_law 614 = .ok (.ireturn, 1) := by decide +kernel
theorem dL_law_615 : decode cL_law 615 = .ok (.aload_n 1, 1) := by decide +kernel
theorem dL_law_616 : decode cL_law 616 = .ok (.aload_n 0, 1) := by decide +kernel
theorem dL_law_617 : decode cL_law 617 = .ok (.iload_n 3, 1) := by decide +kernel
theorem dL_law_618 : decode cL_law 618 = .ok (.iconst 1, 1) := by decide +kernel
theorem dL_law_619 : decode cL_law 619 = .ok (.iadd, 1) := by decide +kernel
theorem dL_law_620 : decode cL_law 620 = .ok (.iaload, 1) := by decide +kernel
theorem dL_law_621 : decode cL_law 621 = .ok (.aload_n 0, 1) := by decide +kernel
theorem dL_law_622 : decode cL_law 622 = .ok (.iload_n 3, 1) := by decide +kernel
theorem dL_law_623 : decode cL_law 623 = .ok (.iconst 2, 1) := by decide +kernel
theorem dL_law_624 : decode cL_law 624 = .ok (.iadd, 1) := by decide +kernel
theorem dL_law_625 : decode cL_law 625 = .ok (.iaload, 1) := by decide +kernel
theorem dL_law_626 : decode cL_law 626 = .ok (.invokevirtual 63, 3) := by decide +kernel
theorem dL_law_629 : decode cL_law 629 = .ok (.aload_n 2, 1) := by decide +kernel
theorem dL_law_630 : decode cL_law 630 = .ok (.aload_n 0, 1) := by decide +kernel
theorem dL_law_631 : decode cL_law 631 = .ok (.iload_n 3, 1) := by decide +kernel
theorem dL_law_632 : decode cL_law 632 = .ok (.iconst 1, 1) := by decide +kernel
theorem dL_law_633 : decode cL_law 633 = .ok (.iadd, 1) := by decide +kernel
theorem dL_law_634 : decode cL_law 634 = .ok (.iaload, 1) := by decide +kernel
theorem dL_law_635 : decode cL_law 635 = .ok (.aload_n 0, 1) := by decide +kernel
theorem dL_law_636 : decode cL_law 636 = .ok (.iload_n 3, 1) := by decide +kernel
theorem dL_law_637 : decode cL_law 637 = .ok (.iconst 2, 1) := by decide +kernel
theorem dL_law_638 : decode cL_law 638 = .ok (.iadd, 1) := by decide +kernel
theorem dL_law_639 : decode cL_law 639 = .ok (.iaload, 1) := by decide +kernel
theorem dL_law_640 : decode cL_law 640 = .ok (.invokevirtual 66, 3) := by decide +kernel
theorem dL_law_643 : decode cL_law 643 = .ok (.if_icmp .eq 450, 3) := by decide +kernel
theorem dL_law_646 : decode cL_law 646 = .ok (.iconst 0, 1) := by decide +kernel
theorem dL_law_647 : decode cL_law 647 = .ok (.ireturn, 1) := by decide +kernel
theorem dL_law_648 : decode cL_law 648 = .ok (.aload_n 1, 1) := by decide +kernel
theorem dL_law_649 : decode cL_law 649 = .ok (.aload_n 0, 1) := by decide +kernel
theorem dL_law_650 : decode cL_law 650 = .ok (.iload_n 3, 1) := by decide +kernel
theorem dL_law_651 : decode cL_law 651 = .ok (.iconst 1, 1) := by decide +kernel
theorem dL_law_652 : decode cL_law 652 = .ok (.iadd, 1) := by decide +kernel
theorem dL_law_653 : decode cL_law 653 = .ok (.iaload, 1) := by decide +kernel
theorem dL_law_654 : decode cL_law 654 = .ok (.invokevirtual 67, 3) := by decide +kernel
theorem dL_law_657 : decode cL_law 657 = .ok (.aload_n 2, 1) := by decide +kernel
theorem dL_law_658 : decode cL_law 658 = .ok (.aload_n 0, 1) := by decide +kernel
theorem dL_law_659 : decode cL_law 659 = .ok (.iload_n 3, 1) := by decide +kernel
theorem dL_law_660 : decode cL_law 660 = .ok (.iconst 1, 1) := by decide +kernel
theorem dL_law_661 : decode cL_law 661 = .ok (.iadd, 1) := by decide +kernel
theorem dL_law_662 : decode cL_law 662 = .ok (.iaload, 1) := by decide +kernel
theorem dL_law_663 : decode cL_law 663 = .ok (.invokevirtual 70, 3) := by decide +kernel
theorem dL_law_666 : decode cL_law 666 = .ok (.if_icmp .eq 427, 3) := by decide +kernel
theorem dL_law_669 : decode cL_law 669 = .ok (.iconst 0, 1) := by decide +kernel
theorem dL_law_670 : decode cL_law 670 = .ok (.ireturn, 1) := by decide +kernel
theorem dL_law_671 : decode cL_law 671 = .ok (.aload_n 1, 1) := by decide +kernel
theorem dL_law_672 : decode cL_law 672 = .ok (.aload_n 0, 1) := by decide +kernel
theorem dL_law_673 : decode cL_law 673 = .ok (.iload_n 3, 1) := by decide +kernel
theorem dL_law_674 : decode cL_law 674 = .ok (.iconst 1, 1) := by decide +kernel
theorem dL_law_675 : decode cL_law 675 = .ok (.iadd, 1) := by decide +kernel
theorem dL_law_676 : decode cL_law 676 = .ok (.iaload, 1) := by decide +kernel
theorem dL_law_677 : decode cL_law 677 = .ok (.invokevirtual 71, 3) := by decide +kernel
theorem dL_law_680 : decode cL_law 680 = .ok (.aload_n 2, 1) := by decide +kernel
theorem dL_law_681 : decode cL_law 681 = .ok (.aload_n 0, 1) := by decide +kernel
theorem dL_law_682 : decode cL_law 682 = .ok (.iload_n 3, 1) := by decide +kernel
theorem dL_law_683 : decode cL_law 683 = .ok (.iconst 1, 1) := by decide +kernel
theorem dL_law_684 : decode cL_law 684 = .ok (.iadd, 1) := by decide +kernel
theorem dL_law_685 : decode cL_law 685 = .ok (.iaload, 1) := by decide +kernel
theorem dL_law_686 : decode cL_law 686 = .ok (.invokevirtual 74, 3) := by decide +kernel
theorem dL_law_689 : decode cL_law 689 = .ok (.if_icmp .eq 404, 3) := by decide +kernel
theorem dL_law_692 : decode cL_law 692 = .ok (.iconst 0, 1) := by decide +kernel
theorem dL_law_693 : decode cL_law 693 = .ok (.ireturn, 1) := by decide +kernel
theorem dL_law_694 : decode cL_law 694 = .ok (.aload_n 1, 1) := by decide +kernel
theorem dL_law_695 : decode cL_law 695 = .ok (.aload_n 0, 1) := by decide +kernel
theorem dL_law_696 : decode cL_law 696 = .ok (.iload_n 3, 1) := by decide +kernel
theorem dL_law_697 : decode cL_law 697 = .ok (.iconst 1, 1) := by decide +kernel
theorem dL_law_698 : decode cL_law 698 = .ok (.iadd, 1) := by decide +kernel
theorem dL_law_699 : decode cL_law 699 = .ok (.iaload, 1) := by decide +kernel
theorem dL_law_700 : decode cL_law 700 = .ok (.aload_n 0, 1) := by decide +kernel
theorem dL_law_701 : decode cL_law 701 = .ok (.iload_n 3, 1) := by decide +kernel
theorem dL_law_702 : decode cL_law 702 = .ok (.iconst 2, 1) := by decide +kernel
theorem dL_law_703 : decode cL_law 703 = .ok (.iadd, 1) := by decide +kernel
theorem dL_law_704 : decode cL_law 704 = .ok (.iaload, 1) := by decide +kernel
theorem dL_law_705 : decode cL_law 705 = .ok (.invokevirtual 75, 3) := by decide +kernel
theorem dL_law_708 : decode cL_law 708 = .ok (.aload_n 2, 1) := by decide +kernel
theorem dL_law_709 : decode cL_law 709 = .ok (.aload_n 0, 1) := by decide +kernel
theorem dL_law_710 : decode cL_law 710 = .ok (.iload_n 3, 1) := by decide +kernel
theorem dL_law_711 : decode cL_law 711 = .ok (.iconst 1, 1) := by decide +kernel
theorem dL_law_712 : decode cL_law 712 = .ok (.iadd, 1) := by decide +kernel
theorem dL_law_713 : decode cL_law 713 = .ok (.iaload, 1) := by decide +kernel
theorem dL_law_714 : decode cL_law 714 = .ok (.aload_n 0, 1) := by decide +kernel
theorem dL_law_715 : decode cL_law 715 = .ok (.iload_n 3, 1) := by decide +kernel
theorem dL_law_716 : decode cL_law 716 = .ok (.iconst 2, 1) := by decide +kernel
theorem dL_law_717 : decode cL_law 717 = .ok (.iadd, 1) := by decide +kernel
theorem dL_law_718 : decode cL_law 718 = .ok (.iaload, 1) := by decide +kernel
theorem dL_law_719 : decode cL_law 719 = .ok (.invokevirtual 78, 3) := by decide +kernel
theorem dL_law_722 : decode cL_law 722 = .ok (.if_icmp .eq 371, 3) := by decide +kernel
theorem dL_law_725 : decode cL_law 725 = .ok (.iconst 0, 1) := by decide +kernel
theorem dL_law_726 : decode cL_law 726 = .ok (.ireturn, 1) := by decide +kernel
theorem dL_law_727 : decode cL_law 727 = .ok (.aload_n 1, 1) := by decide +kernel
theorem dL_law_728 : decode cL_law 728 = .ok (.aload_n 0, 1) := by decide +kernel
theorem dL_law_729 : decode cL_law 729 = .ok (.iload_n 3, 1) := by decide +kernel
theorem dL_law_730 : decode cL_law 730 = .ok (.iconst 1, 1) := by decide +kernel
theorem dL_law_731 : decode cL_law 731 = .ok (.iadd, 1) := by decide +kernel
theorem dL_law_732 : decode cL_law 732 = .ok (.iaload, 1) := by decide +kernel
theorem dL_law_733 : decode cL_law 733 = .ok (.invokevirtual 79, 3) := by decide +kernel
theorem dL_law_736 : decode cL_law 736 = .ok (.aload_n 2, 1) := by decide +kernel
theorem dL_law_737 : decode cL_law 737 = .ok (.aload_n 0, 1) := by decide +kernel
theorem dL_law_738 : decode cL_law 738 = .ok (.iload_n 3, 1) := by decide +kernel
theorem dL_law_739 : decode cL_law 739 = .ok (.iconst 1, 1) := by decide +kernel
theorem dL_law_740 : decode cL_law 740 = .ok (.iadd, 1) := by decide +kernel
theorem dL_law_741 : decode cL_law 741 = .ok (.iaload, 1) := by decide +kernel
theorem dL_law_742 : decode cL_law 742 = .ok (.invokevirtual 82, 3) := by decide +kernel
theorem dL_law_745 : decode cL_law 745 = .ok (.if_icmp .eq 348, 3) := by decide +kernel
theorem dL_law_748 : decode cL_law 748 = .ok (.iconst 0, 1) := by decide +kernel
theorem dL_law_749 : decode cL_law 749 = .ok (.ireturn, 1) := by decide +kernel
theorem dL_law_750 : decode cL_law 750 = .ok (.aload_n 1, 1) := by decide +kernel
theorem dL_law_751 : decode cL_law 751 = .ok (.aload_n 0, 1) := by decide +kernel
theorem dL_law_752 : decode cL_law 752 = .ok (.iload_n 3, 1) := by decide +kernel
theorem dL_law_753 : decode cL_law 753 = .ok (.iconst 1, 1) := by decide +kernel
theorem dL_law_754 : decode cL_law 754 = .ok (.iadd, 1) := by decide +kernel
theorem dL_law_755 : decode cL_law 755 = .ok (.iaload, 1) := by decide +kernel
theorem dL_law_756 : decode cL_law 756 = .ok (.aload_n 0, 1) := by decide +kernel
theorem dL_law_757 : decode cL_law 757 = .ok (.iload_n 3, 1) := by decide +kernel
theorem dL_law_758 : decode cL_law 758 = .ok (.iconst 2, 1) := by decide +kernel
theorem dL_law_759 : decode cL_law 759 = .ok (.iadd, 1) := by decide +kernel
theorem dL_law_760 : decode cL_law 760 = .ok (.iaload, 1) := by decide +kernel
theorem dL_law_761 : decode cL_law 761 = .ok (.invokevirtual 83, 3) := by decide +kernel
theorem dL_law_764 : decode cL_law 764 = .ok (.aload_n 2, 1) := by decide +kernel
theorem dL_law_765 : decode cL_law 765 = .ok (.aload_n 0, 1) := by decide +kernel
theorem dL_law_766 : decode cL_law 766 = .ok (.iload_n 3, 1) := by decide +kernel
theorem dL_law_767 : decode cL_law 767 = .ok (.iconst 1, 1) := by decide +kernel
theorem dL_law_768 : decode cL_law 768 = .ok (.iadd, 1) := by decide +kernel
theorem dL_law_769 : decode cL_law 769 = .ok (.iaload, 1) := by decide +kernel
theorem dL_law_770 : decode cL_law 770 = .ok (.aload_n 0, 1) := by decide +kernel
theorem dL_law_771 : decode cL_law 771 = .ok (.iload_n 3, 1) := by decide +kernel
theorem dL_law_772 : decode cL_law 772 = .ok (.iconst 2, 1) := by decide +kernel
theorem dL_law_773 : decode cL_law 773 = .ok (.iadd, 1) := by decide +kernel
theorem dL_law_774 : decode cL_law 774 = .ok (.iaload, 1) := by decide +kernel
theorem dL_law_775 : decode cL_law 775 = .ok (.invokevirtual 86, 3) := by decide +kernel
theorem dL_law_778 : decode cL_law 778 = .ok (.if_icmp .eq 315, 3) := by decide +kernel
theorem dL_law_781 : decode cL_law 781 = .ok (.iconst 0, 1) := by decide +kernel
theorem dL_law_782 : decode cL_law 782 = .ok (.ireturn, 1) := by decide +kernel
theorem dL_law_783 : decode cL_law 783 = .ok (.aload_n 1, 1) := by decide +kernel
theorem dL_law_784 : decode cL_law 784 = .ok (.aload_n 0, 1) := by decide +kernel
theorem dL_law_785 : decode cL_law 785 = .ok (.iload_n 3, 1) := by decide +kernel
theorem dL_law_786 : decode cL_law 786 = .ok (.iconst 1, 1) := by decide +kernel
theorem dL_law_787 : decode cL_law 787 = .ok (.iadd, 1) := by decide +kernel
theorem dL_law_788 : decode cL_law 788 = .ok (.iaload, 1) := by decide +kernel
theorem dL_law_789 : decode cL_law 789 = .ok (.invokevirtual 87, 3) := by decide +kernel
theorem dL_law_792 : decode cL_law 792 = .ok (.aload_n 2, 1) := by decide +kernel
theorem dL_law_793 : decode cL_law 793 = .ok (.aload_n 0, 1) := by decide +kernel
theorem dL_law_794 : decode cL_law 794 = .ok (.iload_n 3, 1) := by decide +kernel
theorem dL_law_795 : decode cL_law 795 = .ok (.iconst 1, 1) := by decide +kernel
theorem dL_law_796 : decode cL_law 796 = .ok (.iadd, 1) := by decide +kernel
theorem dL_law_797 : decode cL_law 797 = .ok (.iaload, 1) := by decide +kernel
theorem dL_law_798 : decode cL_law 798 = .ok (.invokevirtual 90, 3) := by decide +kernel
theorem dL_law_801 : decode cL_law 801 = .ok (.if_icmp .eq 292, 3) := by decide +kernel
theorem dL_law_804 : decode cL_law 804 = .ok (.iconst 0, 1) := by decide +kernel
theorem dL_law_805 : decode cL_law 805 = .ok (.ireturn, 1) := by decide +kernel
theorem dL_law_806 : decode cL_law 806 = .ok (.aload_n 1, 1) := by decide +kernel
theorem dL_law_807 : decode cL_law 807 = .ok (.aload_n 0, 1) := by decide +kernel
theorem dL_law_808 : decode cL_law 808 = .ok (.iload_n 3, 1) := by decide +kernel
theorem dL_law_809 : decode cL_law 809 = .ok (.iconst 1, 1) := by decide +kernel
theorem dL_law_810 : decode cL_law 810 = .ok (.iadd, 1) := by decide +kernel
theorem dL_law_811 : decode cL_law 811 = .ok (.iaload, 1) := by decide +kernel
theorem dL_law_812 : decode cL_law 812 = .ok (.invokevirtual 91, 3) := by decide +kernel
theorem dL_law_815 : decode cL_law 815 = .ok (.aload_n 2, 1) := by decide +kernel
theorem dL_law_816 : decode cL_law 816 = .ok (.aload_n 0, 1) := by decide +kernel
theorem dL_law_817 : decode cL_law 817 = .ok (.iload_n 3, 1) := by decide +kernel
theorem dL_law_818 : decode cL_law 818 = .ok (.iconst 1, 1) := by decide +kernel
theorem dL_law_819 : decode cL_law 819 = .ok (.iadd, 1) := by decide +kernel
theorem dL_law_820 : decode cL_law 820 = .ok (.iaload, 1) := by decide +kernel
theorem dL_law_821 : decode cL_law 821 = .ok (.invokevirtual 94, 3) := by decide +kernel
theorem dL_law_824 : decode cL_law 824 = .ok (.if_icmp .eq 269, 3) := by decide +kernel
theorem dL_law_827 : decode cL_law 827 = .ok (.iconst 0, 1) := by decide +kernel
theorem dL_law_828 : decode cL_law 828 = .ok (.ireturn, 1) := by decide +kernel
theorem dL_law_829 : decode cL_law 829 = .ok (.aload_n 1, 1) := by decide +kernel
theorem dL_law_830 : decode cL_law 830 = .ok (.aload_n 0, 1) := by decide +kernel
theorem dL_law_831 : decode cL_law 831 = .ok (.iload_n 3, 1) := by decide +kernel
theorem dL_law_832 : decode cL_law 832 = .ok (.iconst 1, 1) := by decide +kernel
theorem dL_law_833 : decode cL_law 833 = .ok (.iadd, 1) := by decide +kernel
theorem dL_law_834 : decode cL_law 834 = .ok (.iaload, 1) := by decide +kernel
theorem dL_law_835 : decode cL_law 835 = .ok (.invokevirtual 95, 3) := by decide +kernel
theorem dL_law_838 : decode cL_law 838 = .ok (.aload_n 2, 1) := by decide +kernel
theorem dL_law_839 : decode cL_law 839 = .ok (.aload_n 0, 1) := by decide +kernel
theorem dL_law_840 : decode cL_law 840 = .ok (.iload_n 3, 1) := by decide +kernel
theorem dL_law_841 : decode cL_law 841 = .ok (.iconst 1, 1) := by decide +kernel
theorem dL_law_842 : decode cL_law 842 = .ok (.iadd, 1) := by decide +kernel
theorem dL_law_843 : decode cL_law 843 = .ok (.iaload, 1) := by decide +kernel
theorem dL_law_844 : decode cL_law 844 = .ok (.invokevirtual 98, 3) := by decide +kernel
theorem dL_law_847 : decode cL_law 847 = .ok (.if_icmp .eq 246, 3) := by decide +kernel
theorem dL_law_850 : decode cL_law 850 = .ok (.iconst 0, 1) := by decide +kernel
theorem dL_law_851 : decode cL_law 851 = .ok (.ireturn, 1) := by decide +kernel
theorem dL_law_852 : decode cL_law 852 = .ok (.aload_n 1, 1) := by decide +kernel
theorem dL_law_853 : decode cL_law 853 = .ok (.aload_n 0, 1) := by decide +kernel
theorem dL_law_854 : decode cL_law 854 = .ok (.iload_n 3, 1) := by decide +kernel
theorem dL_law_855 : decode cL_law 855 = .ok (.iconst 1, 1) := by decide +kernel
theorem dL_law_856 : decode cL_law 856 = .ok (.iadd, 1) := by decide +kernel
theorem dL_law_857 : decode cL_law 857 = .ok (.iaload, 1) := by decide +kernel
theorem dL_law_858 : decode cL_law 858 = .ok (.aload_n 0, 1) := by decide +kernel
theorem dL_law_859 : decode cL_law 859 = .ok (.iload_n 3, 1) := by decide +kernel
theorem dL_law_860 : decode cL_law 860 = .ok (.iconst 2, 1) := by decide +kernel
theorem dL_law_861 : decode cL_law 861 = .ok (.iadd, 1) := by decide +kernel
theorem dL_law_862 : decode cL_law 862 = .ok (.iaload, 1) := by decide +kernel
theorem dL_law_863 : decode cL_law 863 = .ok (.aload_n 0, 1) := by decide +kernel
theorem dL_law_864 : decode cL_law 864 = .ok (.iload_n 3, 1) := by decide +kernel
theorem dL_law_865 : decode cL_law 865 = .ok (.iconst 3, 1) := by decide +kernel
theorem dL_law_866 : decode cL_law 866 = .ok (.iadd, 1) := by decide +kernel
theorem dL_law_867 : decode cL_law 867 = .ok (.iaload, 1) := by decide +kernel
theorem dL_law_868 : decode cL_law 868 = .ok (.aload_n 0, 1) := by decide +kernel
theorem dL_law_869 : decode cL_law 869 = .ok (.iload_n 3, 1) := by decide +kernel
theorem dL_law_870 : decode cL_law 870 = .ok (.iconst 4, 1) := by decide +kernel
theorem dL_law_871 : decode cL_law 871 = .ok (.iadd, 1) := by decide +kernel
theorem dL_law_872 : decode cL_law 872 = .ok (.iaload, 1) := by decide +kernel
theorem dL_law_873 : decode cL_law 873 = .ok (.invokevirtual 99, 3) := by decide +kernel
theorem dL_law_876 : decode cL_law 876 = .ok (.aload_n 2, 1) := by decide +kernel
theorem dL_law_877 : decode cL_law 877 = .ok (.aload_n 0, 1) := by decide +kernel
theorem dL_law_878 : decode cL_law 878 = .ok (.iload_n 3, 1) := by decide +kernel
theorem dL_law_879 : decode cL_law 879 = .ok (.iconst 1, 1) := by decide +kernel
theorem dL_law_880 : decode cL_law 880 = .ok (.iadd, 1) := by decide +kernel
theorem dL_law_881 : decode cL_law 881 = .ok (.iaload, 1) := by decide +kernel
theorem dL_law_882 : decode cL_law 882 = .ok (.aload_n 0, 1) := by decide +kernel
theorem dL_law_883 : decode cL_law 883 = .ok (.iload_n 3, 1) := by decide +kernel
theorem dL_law_884 : decode cL_law 884 = .ok (.iconst 2, 1) := by decide +kernel
theorem dL_law_885 : decode cL_law 885 = .ok (.iadd, 1) := by decide +kernel
theorem dL_law_886 : decode cL_law 886 = .ok (.iaload, 1) := by decide +kernel
theorem dL_law_887 : decode cL_law 887 = .ok (.aload_n 0, 1) := by decide +kernel
theorem dL_law_888 : decode cL_law 888 = .ok (.iload_n 3, 1) := by decide +kernel
theorem dL_law_889 : decode cL_law 889 = .ok (.iconst 3, 1) := by decide +kernel
theorem dL_law_890 : decode cL_law 890 = .ok (.iadd, 1) := by decide +kernel
theorem dL_law_891 : decode cL_law 891 = .ok (.iaload, 1) := by decide +kernel
theorem dL_law_892 : decode cL_law 892 = .ok (.aload_n 0, 1) := by decide +kernel
theorem dL_law_893 : decode cL_law 893 = .ok (.iload_n 3, 1) := by decide +kernel
theorem dL_law_894 : decode cL_law 894 = .ok (.iconst 4, 1) := by decide +kernel
theorem dL_law_895 : decode cL_law 895 = .ok (.iadd, 1) := by decide +kernel
theorem dL_law_896 : decode cL_law 896 = .ok (.iaload, 1) := by decide +kernel
theorem dL_law_897 : decode cL_law 897 = .ok (.invokevirtual 102, 3) := by decide +kernel
theorem dL_law_900 : decode cL_law 900 = .ok (.if_icmp .eq 193, 3) := by decide +kernel
theorem dL_law_903 : decode cL_law 903 = .ok (.iconst 0, 1) := by decide +kernel
theorem dL_law_904 : decode cL_law 904 = .ok (.ireturn, 1) := by decide +kernel
theorem dL_law_905 : decode cL_law 905 = .ok (.aload_n 1, 1) := by decide +kernel
theorem dL_law_906 : decode cL_law 906 = .ok (.aload_n 0, 1) := by decide +kernel
theorem dL_law_907 : decode cL_law 907 = .ok (.iload_n 3, 1) := by decide +kernel
theorem dL_law_908 : decode cL_law 908 = .ok (.iconst 1, 1) := by decide +kernel
theorem dL_law_909 : decode cL_law 909 = .ok (.iadd, 1) := by decide +kernel
theorem dL_law_910 : decode cL_law 910 = .ok (.iaload, 1) := by decide +kernel
theorem dL_law_911 : decode cL_law 911 = .ok (.aload_n 0, 1) := by decide +kernel
theorem dL_law_912 : decode cL_law 912 = .ok (.iload_n 3, 1) := by decide +kernel
theorem dL_law_913 : decode cL_law 913 = .ok (.iconst 2, 1) := by decide +kernel
theorem dL_law_914 : decode cL_law 914 = .ok (.iadd, 1) := by decide +kernel
theorem dL_law_915 : decode cL_law 915 = .ok (.iaload, 1) := by decide +kernel
theorem dL_law_916 : decode cL_law 916 = .ok (.invokevirtual 103, 3) := by decide +kernel
theorem dL_law_919 : decode cL_law 919 = .ok (.aload_n 2, 1) := by decide +kernel
theorem dL_law_920 : decode cL_law 920 = .ok (.aload_n 0, 1) := by decide +kernel
theorem dL_law_921 : decode cL_law 921 = .ok (.iload_n 3, 1) := by decide +kernel
theorem dL_law_922 : decode cL_law 922 = .ok (.iconst 1, 1) := by decide +kernel
theorem dL_law_923 : decode cL_law 923 = .ok (.iadd, 1) := by decide +kernel
theorem dL_law_924 : decode cL_law 924 = .ok (.iaload, 1) := by decide +kernel
theorem dL_law_925 : decode cL_law 925 = .ok (.aload_n 0, 1) := by decide +kernel
theorem dL_law_926 : decode cL_law 926 = .ok (.iload_n 3, 1) := by decide +kernel
theorem dL_law_927 : decode cL_law 927 = .ok (.iconst 2, 1) := by decide +kernel
theorem dL_law_928 : decode cL_law 928 = .ok (.iadd, 1) := by decide +kernel
theorem dL_law_929 : decode cL_law 929 = .ok (.iaload, 1) := by decide +kernel
theorem dL_law_930 : decode cL_law 930 = .ok (.invokevirtual 106, 3) := by decide +kernel
theorem dL_law_933 : decode cL_law 933 = .ok (.if_icmp .eq 160, 3) := by decide +kernel
theorem dL_law_936 : decode cL_law 936 = .ok (.iconst 0, 1) := by decide +kernel
theorem dL_law_937 : decode cL_law 937 = .ok (.ireturn, 1) := by decide +kernel
theorem dL_law_938 : decode cL_law 938 = .ok (.aload_n 1, 1) := by decide +kernel
theorem dL_law_939 : decode cL_law 939 = .ok (.aload_n 0, 1) := by decide +kernel
theorem dL_law_940 : decode cL_law 940 = .ok (.iload_n 3, 1) := by decide +kernel
theorem dL_law_941 : decode cL_law 941 = .ok (.iconst 1, 1) := by decide +kernel
theorem dL_law_942 : decode cL_law 942 = .ok (.iadd, 1) := by decide +kernel
theorem dL_law_943 : decode cL_law 943 = .ok (.iaload, 1) := by decide +kernel
theorem dL_law_944 : decode cL_law 944 = .ok (.aload_n 0, 1) := by decide +kernel
theorem dL_law_945 : decode cL_law 945 = .ok (.iload_n 3, 1) := by decide +kernel
theorem dL_law_946 : decode cL_law 946 = .ok (.iconst 2, 1) := by decide +kernel
theorem dL_law_947 : decode cL_law 947 = .ok (.iadd, 1) := by decide +kernel
theorem dL_law_948 : decode cL_law 948 = .ok (.iaload, 1) := by decide +kernel
theorem dL_law_949 : decode cL_law 949 = .ok (.invokevirtual 107, 3) := by decide +kernel
theorem dL_law_952 : decode cL_law 952 = .ok (.aload_n 2, 1) := by decide +kernel
theorem dL_law_953 : decode cL_law 953 = .ok (.aload_n 0, 1) := by decide +kernel
theorem dL_law_954 : decode cL_law 954 = .ok (.iload_n 3, 1) := by decide +kernel
theorem dL_law_955 : decode cL_law 955 = .ok (.iconst 1, 1) := by decide +kernel
theorem dL_law_956 : decode cL_law 956 = .ok (.iadd, 1) := by decide +kernel
theorem dL_law_957 : decode cL_law 957 = .ok (.iaload, 1) := by decide +kernel
theorem dL_law_958 : decode cL_law 958 = .ok (.aload_n 0, 1) := by decide +kernel
theorem dL_law_959 : decode cL_law 959 = .ok (.iload_n 3, 1) := by decide +kernel
theorem dL_law_960 : decode cL_law 960 = .ok (.iconst 2, 1) := by decide +kernel
theorem dL_law_961 : decode cL_law 961 = .ok (.iadd, 1) := by decide +kernel
theorem dL_law_962 : decode cL_law 962 = .ok (.iaload, 1) := by decide +kernel
theorem dL_law_963 : decode cL_law 963 = .ok (.invokevirtual 110, 3) := by decide +kernel
theorem dL_law_966 : decode cL_law 966 = .ok (.if_icmp .eq 127, 3) := by decide +kernel
theorem dL_law_969 : decode cL_law 969 = .ok (.iconst 0, 1) := by decide +kernel
theorem dL_law_970 : decode cL_law 970 = .ok (.ireturn, 1) := by decide +kernel
theorem dL_law_971 : decode cL_law 971 = .ok (.aload_n 1, 1) := by decide +kernel
theorem dL_law_972 : decode cL_law 972 = .ok (.aload_n 0, 1) := by decide +kernel
theorem dL_law_973 : decode cL_law 973 = .ok (.iload_n 3, 1) := by decide +kernel
theorem dL_law_974 : decode cL_law 974 = .ok (.iconst 1, 1) := by decide +kernel
theorem dL_law_975 : decode cL_law 975 = .ok (.iadd, 1) := by decide +kernel
theorem dL_law_976 : decode cL_law 976 = .ok (.iaload, 1) := by decide +kernel
theorem dL_law_977 : decode cL_law 977 = .ok (.aload_n 0, 1) := by decide +kernel
theorem dL_law_978 : decode cL_law 978 = .ok (.iload_n 3, 1) := by decide +kernel
theorem dL_law_979 : decode cL_law 979 = .ok (.iconst 2, 1) := by decide +kernel
theorem dL_law_980 : decode cL_law 980 = .ok (.iadd, 1) := by decide +kernel
theorem dL_law_981 : decode cL_law 981 = .ok (.iaload, 1) := by decide +kernel
theorem dL_law_982 : decode cL_law 982 = .ok (.invokevirtual 111, 3) := by decide +kernel
theorem dL_law_985 : decode cL_law 985 = .ok (.aload_n 2, 1) := by decide +kernel
theorem dL_law_986 : decode cL_law 986 = .ok (.aload_n 0, 1) := by decide +kernel
theorem dL_law_987 : decode cL_law 987 = .ok (.iload_n 3, 1) := by decide +kernel
theorem dL_law_988 : decode cL_law 988 = .ok (.iconst 1, 1) := by decide +kernel
theorem dL_law_989 : decode cL_law 989 = .ok (.iadd, 1) := by decide +kernel
theorem dL_law_990 : decode cL_law 990 = .ok (.iaload, 1) := by decide +kernel
theorem dL_law_991 : decode cL_law 991 = .ok (.aload_n 0, 1) := by decide +kernel
theorem dL_law_992 : decode cL_law 992 = .ok (.iload_n 3, 1) := by decide +kernel
theorem dL_law_993 : decode cL_law 993 = .ok (.iconst 2, 1) := by decide +kernel
theorem dL_law_994 : decode cL_law 994 = .ok (.iadd, 1) := by decide +kernel
theorem dL_law_995 : decode cL_law 995 = .ok (.iaload, 1) := by decide +kernel
theorem dL_law_996 : decode cL_law 996 = .ok (.invokevirtual 114, 3) := by decide +kernel
theorem dL_law_999 : decode cL_law 999 = .ok (.if_icmp .eq 94, 3) := by decide +kernel
theorem dL_law_1002 : decode cL_law 1002 = .ok (.iconst 0, 1) := by decide +kernel
theorem dL_law_1003 : decode cL_law 1003 = .ok (.ireturn, 1) := by decide +kernel
theorem dL_law_1004 : decode cL_law 1004 = .ok (.aload_n 1, 1) := by decide +kernel
theorem dL_law_1005 : decode cL_law 1005 = .ok (.aload_n 0, 1) := by decide +kernel
theorem dL_law_1006 : decode cL_law 1006 = .ok (.iload_n 3, 1) := by decide +kernel
theorem dL_law_1007 : decode cL_law 1007 = .ok (.iconst 1, 1) := by decide +kernel
theorem dL_law_1008 : decode cL_law 1008 = .ok (.iadd, 1) := by decide +kernel
theorem dL_law_1009 : decode cL_law 1009 = .ok (.iaload, 1) := by decide +kernel
theorem dL_law_1010 : decode cL_law 1010 = .ok (.aload_n 0, 1) := by decide +kernel
theorem dL_law_1011 : decode cL_law 1011 = .ok (.iload_n 3, 1) := by decide +kernel
theorem dL_law_1012 : decode cL_law 1012 = .ok (.iconst 2, 1) := by decide +kernel
theorem dL_law_1013 : decode cL_law 1013 = .ok (.iadd, 1) := by decide +kernel
theorem dL_law_1014 : decode cL_law 1014 = .ok (.iaload, 1) := by decide +kernel
theorem dL_law_1015 : decode cL_law 1015 = .ok (.invokevirtual 115, 3) := by decide +kernel
theorem dL_law_1018 : decode cL_law 1018 = .ok (.aload_n 2, 1) := by decide +kernel
theorem dL_law_1019 : decode cL_law 1019 = .ok (.aload_n 0, 1) := by decide +kernel
theorem dL_law_1020 : decode cL_law 1020 = .ok (.iload_n 3, 1) := by decide +kernel
theorem dL_law_1021 : decode cL_law 1021 = .ok (.iconst 1, 1) := by decide +kernel
theorem dL_law_1022 : decode cL_law 1022 = .ok (.iadd, 1) := by decide +kernel
theorem dL_law_1023 : decode cL_law 1023 = .ok (.iaload, 1) := by decide +kernel
theorem dL_law_1024 : decode cL_law 1024 = .ok (.aload_n 0, 1) := by decide +kernel
theorem dL_law_1025 : decode cL_law 1025 = .ok (.iload_n 3, 1) := by decide +kernel
theorem dL_law_1026 : decode cL_law 1026 = .ok (.iconst 2, 1) := by decide +kernel
theorem dL_law_1027 : decode cL_law 1027 = .ok (.iadd, 1) := by decide +kernel
theorem dL_law_1028 : decode cL_law 1028 = .ok (.iaload, 1) := by decide +kernel
theorem dL_law_1029 : decode cL_law 1029 = .ok (.invokevirtual 118, 3) := by decide +kernel
theorem dL_law_1032 : decode cL_law 1032 = .ok (.if_icmp .eq 61, 3) := by decide +kernel
theorem dL_law_1035 : decode cL_law 1035 = .ok (.iconst 0, 1) := by decide +kernel
theorem dL_law_1036 : decode cL_law 1036 = .ok (.ireturn, 1) := by decide +kernel
theorem dL_law_1037 : decode cL_law 1037 = .ok (.aload_n 1, 1) := by decide +kernel
theorem dL_law_1038 : decode cL_law 1038 = .ok (.aload_n 0, 1) := by decide +kernel
theorem dL_law_1039 : decode cL_law 1039 = .ok (.iload_n 3, 1) := by decide +kernel
theorem dL_law_1040 : decode cL_law 1040 = .ok (.iconst 1, 1) := by decide +kernel
theorem dL_law_1041 : decode cL_law 1041 = .ok (.iadd, 1) := by decide +kernel
theorem dL_law_1042 : decode cL_law 1042 = .ok (.iaload, 1) := by decide +kernel
theorem dL_law_1043 : decode cL_law 1043 = .ok (.aload_n 0, 1) := by decide +kernel
theorem dL_law_1044 : decode cL_law 1044 = .ok (.iload_n 3, 1) := by decide +kernel
theorem dL_law_1045 : decode cL_law 1045 = .ok (.iconst 2, 1) := by decide +kernel
theorem dL_law_1046 : decode cL_law 1046 = .ok (.iadd, 1) := by decide +kernel
theorem dL_law_1047 : decode cL_law 1047 = .ok (.iaload, 1) := by decide +kernel
theorem dL_law_1048 : decode cL_law 1048 = .ok (.invokevirtual 119, 3) := by decide +kernel
theorem dL_law_1051 : decode cL_law 1051 = .ok (.aload_n 2, 1) := by decide +kernel
theorem dL_law_1052 : decode cL_law 1052 = .ok (.aload_n 0, 1) := by decide +kernel
theorem dL_law_1053 : decode cL_law 1053 = .ok (.iload_n 3, 1) := by decide +kernel
theorem dL_law_1054 : decode cL_law 1054 = .ok (.iconst 1, 1) := by decide +kernel
theorem dL_law_1055 : decode cL_law 1055 = .ok (.iadd, 1) := by decide +kernel
theorem dL_law_1056 : decode cL_law 1056 = .ok (.iaload, 1) := by decide +kernel
theorem dL_law_1057 : decode cL_law 1057 = .ok (.aload_n 0, 1) := by decide +kernel
theorem dL_law_1058 : decode cL_law 1058 = .ok (.iload_n 3, 1) := by decide +kernel
theorem dL_law_1059 : decode cL_law 1059 = .ok (.iconst 2, 1) := by decide +kernel
theorem dL_law_1060 : decode cL_law 1060 = .ok (.iadd, 1) := by decide +kernel
theorem dL_law_1061 : decode cL_law 1061 = .ok (.iaload, 1) := by decide +kernel
theorem dL_law_1062 : decode cL_law 1062 = .ok (.invokevirtual 122, 3) := by decide +kernel
theorem dL_law_1065 : decode cL_law 1065 = .ok (.if_icmp .eq 28, 3) := by decide +kernel
theorem dL_law_1068 : decode cL_law 1068 = .ok (.iconst 0, 1) := by decide +kernel
theorem dL_law_1069 : decode cL_law 1069 = .ok (.ireturn, 1) := by decide +kernel
theorem dL_law_1070 : decode cL_law 1070 = .ok (.aload_n 1, 1) := by decide +kernel
theorem dL_law_1071 : decode cL_law 1071 = .ok (.aload_n 0, 1) := by decide +kernel
theorem dL_law_1072 : decode cL_law 1072 = .ok (.iload_n 3, 1) := by decide +kernel
theorem dL_law_1073 : decode cL_law 1073 = .ok (.iconst 1, 1) := by decide +kernel
theorem dL_law_1074 : decode cL_law 1074 = .ok (.iadd, 1) := by decide +kernel
theorem dL_law_1075 : decode cL_law 1075 = .ok (.iaload, 1) := by decide +kernel
theorem dL_law_1076 : decode cL_law 1076 = .ok (.invokevirtual 123, 3) := by decide +kernel
theorem dL_law_1079 : decode cL_law 1079 = .ok (.aload_n 2, 1) := by decide +kernel
theorem dL_law_1080 : decode cL_law 1080 = .ok (.aload_n 0, 1) := by decide +kernel
theorem dL_law_1081 : decode cL_law 1081 = .ok (.iload_n 3, 1) := by decide +kernel
theorem dL_law_1082 : decode cL_law 1082 = .ok (.iconst 1, 1) := by decide +kernel
theorem dL_law_1083 : decode cL_law 1083 = .ok (.iadd, 1) := by decide +kernel
theorem dL_law_1084 : decode cL_law 1084 = .ok (.iaload, 1) := by decide +kernel
theorem dL_law_1085 : decode cL_law 1085 = .ok (.invokevirtual 126, 3) := by decide +kernel
theorem dL_law_1088 : decode cL_law 1088 = .ok (.if_icmp .eq 5, 3) := by decide +kernel
theorem dL_law_1091 : decode cL_law 1091 = .ok (.iconst 0, 1) := by decide +kernel
theorem dL_law_1092 : decode cL_law 1092 = .ok (.ireturn, 1) := by decide +kernel
theorem dL_law_1093 : decode cL_law 1093 = .ok (.iinc 3 6, 3) := by decide +kernel
theorem dL_law_1096 : decode cL_law 1096 = .ok (.goto (-1078), 3) := by decide +kernel
theorem dL_law_1099 : decode cL_law 1099 = .ok (.iconst 1, 1) := by decide +kernel
theorem dL_law_1100 : decode cL_law 1100 = .ok (.ireturn, 1) := by decide +kernel
abbrev vwCl : List vw_C := [(RX0, TX0, 9), (RX1, TX1, 5), (RX2, TX2, 8), (RX3, TX3, 7), (RX4, TX4, 6), (RX5, TX5, 2), (RX6, TX6, 10), (RX7, TX7, 2), (RX8, TX8, 19), (RX9, TX9, 51)]
