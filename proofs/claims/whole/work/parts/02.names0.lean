/-! ===== BEGIN words of one list among another's, by their places ===== -/
theorem goodIn_r {big : List Cond} (ws : List Cond) (ps : List Nat) (hp : ws = ps.filterMap (fun i => big[i]?)) (h : ws.all goodWord = true) : GoodIn big ws := by
  intro w hw
  have h1 := List.all_eq_true.mp h w hw
  rw [hp] at hw
  obtain ⟨i, -, hi⟩ := List.mem_filterMap.mp hw
  have hm : w ∈ big := by first | exact List.mem_of_getElem? hi | exact List.getElem?_mem hi
  exact ⟨hm, good_of_word h1⟩
theorem goodIn_app {big a b : List Cond} (ha : GoodIn big a) (hb : GoodIn big b) : GoodIn big (a ++ b) := fun w h => (List.mem_append.mp h).elim (ha w) (hb w)
theorem goodIn_ca {big a b : List Cond} {c : Cond} (ha : GoodIn big (c :: a)) (hb : GoodIn big b) : GoodIn big (c :: (a ++ b)) := fun w h => (List.mem_cons.mp h).elim (fun e => ha w (List.mem_cons.mpr (Or.inl e))) (fun h => (List.mem_append.mp h).elim (fun h => ha w (List.mem_cons.mpr (Or.inr h))) (hb w))
theorem goodIn_sub {big ws : List Cond} (hm : ∀ w ∈ ws, w ∈ big) (h : ws.all goodWord = true) : GoodIn big ws := fun w hw => ⟨hm w hw, good_of_word (List.all_eq_true.mp h w hw)⟩
/-! ===== END ===== -/

/-! ===== BEGIN printed: names, fields, word lists, decode rows ===== -/
def RX0 : String := "GongTide$Affairs"
def TX0 : u_T := fun k => match k with
  | 0 => ("GongTide$Affairs", "levels", "[I", true)
  | 1 => ("GongTide$Affairs", "strokes", "LGongTide$Strokes;", true)
  | 2 => ("GongTide$Affairs", "heard", "LGongTide$Heard;", true)
  | _ => ("GongTide$Affairs", "changes", "I", false)
def tyX0 : Nat → FieldType := fun k => match k with
  | 0 => .array .int
  | 1 => .object "GongTide$Strokes"
  | 2 => .object "GongTide$Heard"
  | _ => .int
abbrev wsX00 : List Cond := u_ws RX0 TX0 4
theorem nmX0 : ∀ a, a < 4 → ∀ b, b < 4 → a ≠ b → (TX0 a).2.1 ≠ (TX0 b).2.1 := by decide +kernel
theorem tyX0_ok : ∀ k, k < 4 → parseFieldDescriptor (TX0 k).2.2.1 = some (tyX0 k) := by decide +kernel
abbrev cX0_init : ByteArray := prog_2_method_1_code
def yX0_init : MethodName := ⟨RX0, "<init>", "()V"⟩
abbrev cX0_clear : ByteArray := prog_2_method_2_code
def yX0_clear : MethodName := ⟨RX0, "clear", "()V"⟩
abbrev cX0_level : ByteArray := prog_2_method_3_code
def yX0_level : MethodName := ⟨RX0, "level", "(I)I"⟩
abbrev cX0_setLevel : ByteArray := prog_2_method_4_code
def yX0_setLevel : MethodName := ⟨RX0, "setLevel", "(II)V"⟩
abbrev cX0_copyFrom : ByteArray := prog_2_method_5_code
def yX0_copyFrom : MethodName := ⟨RX0, "copyFrom", "(LGongTide$Affairs;)V"⟩
def RX1 : String := "GongTide$Heard"
def TX1 : u_T := fun k => match k with
  | 0 => ("GongTide$Heard", "houses", "[I", true)
  | 1 => ("GongTide$Heard", "hours", "[I", true)
  | 2 => ("GongTide$Heard", "louds", "[I", true)
  | 3 => ("GongTide$Heard", "hows", "[I", true)
  | _ => ("GongTide$Heard", "size", "I", false)
def tyX1 : Nat → FieldType := fun k => match k with
  | 0 => .array .int
  | 1 => .array .int
  | 2 => .array .int
  | 3 => .array .int
  | _ => .int
abbrev wsX10 : List Cond := u_ws RX1 TX1 5
theorem nmX1 : ∀ a, a < 5 → ∀ b, b < 5 → a ≠ b → (TX1 a).2.1 ≠ (TX1 b).2.1 := by decide +kernel
theorem tyX1_ok : ∀ k, k < 5 → parseFieldDescriptor (TX1 k).2.2.1 = some (tyX1 k) := by decide +kernel
abbrev cX1_init : ByteArray := prog_3_method_1_code
def yX1_init : MethodName := ⟨RX1, "<init>", "()V"⟩
abbrev cX1_size : ByteArray := prog_3_method_2_code
def yX1_size : MethodName := ⟨RX1, "size", "()I"⟩
abbrev cX1_clear : ByteArray := prog_3_method_3_code
def yX1_clear : MethodName := ⟨RX1, "clear", "()I"⟩
abbrev cX1_add : ByteArray := prog_3_method_4_code
def yX1_add : MethodName := ⟨RX1, "add", "(IIII)Z"⟩
abbrev cX1_has : ByteArray := prog_3_method_5_code
def yX1_has : MethodName := ⟨RX1, "has", "(I)Z"⟩
abbrev cX1_house : ByteArray := prog_3_method_6_code
def yX1_house : MethodName := ⟨RX1, "house", "(I)I"⟩
abbrev cX1_hour : ByteArray := prog_3_method_7_code
def yX1_hour : MethodName := ⟨RX1, "hour", "(I)I"⟩
abbrev cX1_loud : ByteArray := prog_3_method_8_code
def yX1_loud : MethodName := ⟨RX1, "loud", "(I)I"⟩
abbrev cX1_how : ByteArray := prog_3_method_9_code
def yX1_how : MethodName := ⟨RX1, "how", "(I)I"⟩
abbrev cX1_lastLoud : ByteArray := prog_3_method_10_code
def yX1_lastLoud : MethodName := ⟨RX1, "lastLoud", "()I"⟩
abbrev cX1_copyFrom : ByteArray := prog_3_method_11_code
def yX1_copyFrom : MethodName := ⟨RX1, "copyFrom", "(LGongTide$Heard;)V"⟩
def RX2 : String := "GongTide$Page"
def TX2 : u_T := fun k => match k with
  | 0 => ("GongTide$Page", "codes", "[I", true)
  | _ => ("GongTide$Page", "size", "I", false)
def tyX2 : Nat → FieldType := fun k => match k with
  | 0 => .array .int
  | _ => .int
abbrev wsX20 : List Cond := u_ws RX2 TX2 2
theorem nmX2 : ∀ a, a < 2 → ∀ b, b < 2 → a ≠ b → (TX2 a).2.1 ≠ (TX2 b).2.1 := by decide +kernel
theorem tyX2_ok : ∀ k, k < 2 → parseFieldDescriptor (TX2 k).2.2.1 = some (tyX2 k) := by decide +kernel
abbrev cX2_init : ByteArray := prog_4_method_1_code
def yX2_init : MethodName := ⟨RX2, "<init>", "()V"⟩
abbrev cX2_size : ByteArray := prog_4_method_2_code
def yX2_size : MethodName := ⟨RX2, "size", "()I"⟩
abbrev cX2_write : ByteArray := prog_4_method_3_code
def yX2_write : MethodName := ⟨RX2, "write", "(I)Z"⟩
abbrev cX2_wipe : ByteArray := prog_4_method_4_code
def yX2_wipe : MethodName := ⟨RX2, "wipe", "()I"⟩
abbrev cX2_at : ByteArray := prog_4_method_5_code
def yX2_at : MethodName := ⟨RX2, "at", "(I)I"⟩
abbrev cX2_digitAt : ByteArray := prog_4_method_6_code
def yX2_digitAt : MethodName := ⟨RX2, "digitAt", "(I)I"⟩
abbrev cX2_soundLetters : ByteArray := prog_4_method_7_code
def yX2_soundLetters : MethodName := ⟨RX2, "soundLetters", "()I"⟩
abbrev cX2_tellsColony : ByteArray := prog_4_method_8_code
def yX2_tellsColony : MethodName := ⟨RX2, "tellsColony", "()Z"⟩
abbrev cX2_houses : ByteArray := prog_4_method_9_code
def yX2_houses : MethodName := ⟨RX2, "houses", "()I"⟩
abbrev cX2_suitsHouses : ByteArray := prog_4_method_10_code
def yX2_suitsHouses : MethodName := ⟨RX2, "suitsHouses", "(II)Z"⟩
abbrev cX2_suitsStrokes : ByteArray := prog_4_method_11_code
def yX2_suitsStrokes : MethodName := ⟨RX2, "suitsStrokes", "(II)Z"⟩
def RX3 : String := "GongTide$Strokes"
def TX3 : u_T := fun k => match k with
  | 0 => ("GongTide$Strokes", "hours", "[I", true)
  | 1 => ("GongTide$Strokes", "louds", "[I", true)
  | _ => ("GongTide$Strokes", "size", "I", false)
def tyX3 : Nat → FieldType := fun k => match k with
  | 0 => .array .int
  | 1 => .array .int
  | _ => .int
abbrev wsX30 : List Cond := u_ws RX3 TX3 3
theorem nmX3 : ∀ a, a < 3 → ∀ b, b < 3 → a ≠ b → (TX3 a).2.1 ≠ (TX3 b).2.1 := by decide +kernel
theorem tyX3_ok : ∀ k, k < 3 → parseFieldDescriptor (TX3 k).2.2.1 = some (tyX3 k) := by decide +kernel
abbrev cX3_init : ByteArray := prog_5_method_1_code
def yX3_init : MethodName := ⟨RX3, "<init>", "()V"⟩
abbrev cX3_size : ByteArray := prog_5_method_2_code
def yX3_size : MethodName := ⟨RX3, "size", "()I"⟩
abbrev cX3_clear : ByteArray := prog_5_method_3_code
def yX3_clear : MethodName := ⟨RX3, "clear", "()V"⟩
abbrev cX3_has : ByteArray := prog_5_method_4_code
def yX3_has : MethodName := ⟨RX3, "has", "(I)Z"⟩
abbrev cX3_add : ByteArray := prog_5_method_5_code
def yX3_add : MethodName := ⟨RX3, "add", "(II)Z"⟩
abbrev cX3_hour : ByteArray := prog_5_method_6_code
def yX3_hour : MethodName := ⟨RX3, "hour", "(I)I"⟩
abbrev cX3_loud : ByteArray := prog_5_method_7_code
def yX3_loud : MethodName := ⟨RX3, "loud", "(I)I"⟩
abbrev cX3_setLoud : ByteArray := prog_5_method_8_code
def yX3_setLoud : MethodName := ⟨RX3, "setLoud", "(II)V"⟩
abbrev cX3_goneAt : ByteArray := prog_5_method_9_code
def yX3_goneAt : MethodName := ⟨RX3, "goneAt", "(I)I"⟩
abbrev cX3_copyFrom : ByteArray := prog_5_method_10_code
def yX3_copyFrom : MethodName := ⟨RX3, "copyFrom", "(LGongTide$Strokes;)V"⟩
def RX4 : String := "GongTide$Tide"
def TX4 : u_T := fun k => match k with
  | _ => ("GongTide$Tide", "sums", "[I", true)
def tyX4 : Nat → FieldType := fun k => match k with
  | _ => .array .int
abbrev wsX40 : List Cond := u_ws RX4 TX4 1
theorem nmX4 : ∀ a, a < 1 → ∀ b, b < 1 → a ≠ b → (TX4 a).2.1 ≠ (TX4 b).2.1 := by decide +kernel
theorem tyX4_ok : ∀ k, k < 1 → parseFieldDescriptor (TX4 k).2.2.1 = some (tyX4 k) := by decide +kernel
abbrev cX4_init : ByteArray := prog_6_method_1_code
def yX4_init : MethodName := ⟨RX4, "<init>", "()V"⟩
abbrev cX4_clear : ByteArray := prog_6_method_2_code
def yX4_clear : MethodName := ⟨RX4, "clear", "()V"⟩
abbrev cX4_add : ByteArray := prog_6_method_3_code
def yX4_add : MethodName := ⟨RX4, "add", "(II)V"⟩
abbrev cX4_copyFrom : ByteArray := prog_6_method_4_code
def yX4_copyFrom : MethodName := ⟨RX4, "copyFrom", "(LGongTide$Tide;)V"⟩
abbrev cX4_at : ByteArray := prog_6_method_5_code
def yX4_at : MethodName := ⟨RX4, "at", "(I)I"⟩
abbrev cX4_greatest : ByteArray := prog_6_method_6_code
def yX4_greatest : MethodName := ⟨RX4, "greatest", "()I"⟩
def RX5 : String := "GongTide"
def TX5 : u_T := fun k => match k with
  | 0 => ("GongTide", "page", "LGongTide$Page;", true)
  | 1 => ("GongTide", "kinds", "[I", true)
  | 2 => ("GongTide", "houseCount", "I", false)
  | 3 => ("GongTide", "readings", "I", false)
  | 4 => ("GongTide", "affairs", "LGongTide$Affairs;", true)
  | 5 => ("GongTide", "kept", "LGongTide$Affairs;", true)
  | 6 => ("GongTide", "isKept", "Z", false)
  | 7 => ("GongTide", "now", "LGongTide$Tide;", true)
  | _ => ("GongTide", "supposed", "LGongTide$Tide;", true)
def tyX5 : Nat → FieldType := fun k => match k with
  | 0 => .object "GongTide$Page"
  | 1 => .array .int
  | 2 => .int
  | 3 => .int
  | 4 => .object "GongTide$Affairs"
  | 5 => .object "GongTide$Affairs"
  | 6 => .boolean
  | 7 => .object "GongTide$Tide"
  | _ => .object "GongTide$Tide"
abbrev wsX50 : List Cond := u_ws RX5 TX5 9
theorem nmX5 : ∀ a, a < 9 → ∀ b, b < 9 → a ≠ b → (TX5 a).2.1 ≠ (TX5 b).2.1 := by decide +kernel
theorem tyX5_ok : ∀ k, k < 9 → parseFieldDescriptor (TX5 k).2.2.1 = some (tyX5 k) := by decide +kernel
abbrev cX5_init : ByteArray := prog_1_method_1_code
def yX5_init : MethodName := ⟨RX5, "<init>", "()V"⟩
abbrev cX5_letter : ByteArray := prog_1_method_2_code
def yX5_letter : MethodName := ⟨RX5, "letter", "(I)I"⟩
abbrev cX5_blank : ByteArray := prog_1_method_3_code
def yX5_blank : MethodName := ⟨RX5, "blank", "()I"⟩
abbrev cX5_fault : ByteArray := prog_1_method_4_code
def yX5_fault : MethodName := ⟨RX5, "fault", "()I"⟩
abbrev cX5_colony : ByteArray := prog_1_method_5_code
def yX5_colony : MethodName := ⟨RX5, "colony", "()I"⟩
abbrev cX5_about : ByteArray := prog_1_method_6_code
def yX5_about : MethodName := ⟨RX5, "about", "(II)I"⟩
abbrev cX5_as : ByteArray := prog_1_method_7_code
def yX5_as : MethodName := ⟨RX5, "as", "(II)I"⟩
abbrev cX5_raise : ByteArray := prog_1_method_8_code
def yX5_raise : MethodName := ⟨RX5, "raise", "(II)I"⟩
abbrev cX5_tide : ByteArray := prog_1_method_9_code
def yX5_tide : MethodName := ⟨RX5, "tide", "(I)I"⟩
abbrev cX5_strike : ByteArray := prog_1_method_10_code
def yX5_strike : MethodName := ⟨RX5, "strike", "(II)I"⟩
abbrev cX5_felt : ByteArray := prog_1_method_11_code
def yX5_felt : MethodName := ⟨RX5, "felt", "(II)I"⟩
abbrev cX5_stroke : ByteArray := prog_1_method_12_code
def yX5_stroke : MethodName := ⟨RX5, "stroke", "(II)I"⟩
abbrev cX5_dinner : ByteArray := prog_1_method_13_code
def yX5_dinner : MethodName := ⟨RX5, "dinner", "(II)I"⟩
abbrev cX5_best : ByteArray := prog_1_method_14_code
def yX5_best : MethodName := ⟨RX5, "best", "(II)I"⟩
abbrev cX5_hear : ByteArray := prog_1_method_15_code
def yX5_hear : MethodName := ⟨RX5, "hear", "(IIII)I"⟩
abbrev cX5_forget : ByteArray := prog_1_method_16_code
def yX5_forget : MethodName := ⟨RX5, "forget", "()I"⟩
abbrev cX5_hours : ByteArray := prog_1_method_17_code
def yX5_hours : MethodName := ⟨RX5, "hours", "()I"⟩
abbrev cX5_ask : ByteArray := prog_1_method_18_code
def yX5_ask : MethodName := ⟨RX5, "ask", "(I)I"⟩
abbrev cX5_weeks : ByteArray := prog_1_method_19_code
def yX5_weeks : MethodName := ⟨RX5, "weeks", "(III)I"⟩
abbrev cX5_image : ByteArray := prog_1_method_20_code
def yX5_image : MethodName := ⟨RX5, "image", "()I"⟩
abbrev cX5_restore : ByteArray := prog_1_method_21_code
def yX5_restore : MethodName := ⟨RX5, "restore", "()I"⟩
abbrev cX5_count : ByteArray := prog_1_method_22_code
def yX5_count : MethodName := ⟨RX5, "count", "(I)I"⟩
abbrev cX5_digest : ByteArray := prog_1_method_23_code
def yX5_digest : MethodName := ⟨RX5, "digest", "()J"⟩
abbrev cX5_digestHouses : ByteArray := prog_1_method_24_code
def yX5_digestHouses : MethodName := ⟨RX5, "digestHouses", "(J)J"⟩
abbrev cX5_digestStrokes : ByteArray := prog_1_method_25_code
def yX5_digestStrokes : MethodName := ⟨RX5, "digestStrokes", "(J)J"⟩
abbrev cX5_mix : ByteArray := prog_1_method_26_code
def yX5_mix : MethodName := ⟨RX5, "mix", "(JJ)J"⟩
abbrev cX5_isWithin : ByteArray := prog_1_method_27_code
def yX5_isWithin : MethodName := ⟨RX5, "isWithin", "(III)Z"⟩
abbrev cX5_isHourOfDay : ByteArray := prog_1_method_28_code
def yX5_isHourOfDay : MethodName := ⟨RX5, "isHourOfDay", "(I)Z"⟩
abbrev cX5_isHeardLoud : ByteArray := prog_1_method_29_code
def yX5_isHeardLoud : MethodName := ⟨RX5, "isHeardLoud", "(I)Z"⟩
abbrev cX5_hasColony : ByteArray := prog_1_method_30_code
def yX5_hasColony : MethodName := ⟨RX5, "hasColony", "()Z"⟩
abbrev cX5_isHouse : ByteArray := prog_1_method_31_code
def yX5_isHouse : MethodName := ⟨RX5, "isHouse", "(I)Z"⟩
abbrev cX5_allHouses : ByteArray := prog_1_method_32_code
def yX5_allHouses : MethodName := ⟨RX5, "allHouses", "()I"⟩
abbrev cX5_kindAt : ByteArray := prog_1_method_33_code
def yX5_kindAt : MethodName := ⟨RX5, "kindAt", "(I)I"⟩
abbrev cX5_kindOf : ByteArray := prog_1_method_34_code
def yX5_kindOf : MethodName := ⟨RX5, "kindOf", "(I)I"⟩
abbrev cX5_tideNow : ByteArray := prog_1_method_35_code
def yX5_tideNow : MethodName := ⟨RX5, "tideNow", "()LGongTide$Tide;"⟩
abbrev cX5_suppose : ByteArray := prog_1_method_36_code
def yX5_suppose : MethodName := ⟨RX5, "suppose", "(LGongTide$Tide;II)LGongTide$Tide;"⟩
abbrev cX5_drawDay : ByteArray := prog_1_method_37_code
def yX5_drawDay : MethodName := ⟨RX5, "drawDay", "(I)I"⟩
abbrev cX5_mannersAt : ByteArray := prog_1_method_38_code
def yX5_mannersAt : MethodName := ⟨RX5, "mannersAt", "(ILGongTide$Tide;I)I"⟩
abbrev cX5_above : ByteArray := prog_1_method_39_code
def yX5_above : MethodName := ⟨RX5, "above", "(II)I"⟩
abbrev cX5_howAt : ByteArray := prog_1_method_40_code
def yX5_howAt : MethodName := ⟨RX5, "howAt", "(I)I"⟩
abbrev cX5_hoursOf : ByteArray := prog_1_method_41_code
def yX5_hoursOf : MethodName := ⟨RX5, "hoursOf", "(IILGongTide$Tide;)I"⟩
abbrev cX5_hoursOfAll : ByteArray := prog_1_method_42_code
def yX5_hoursOfAll : MethodName := ⟨RX5, "hoursOfAll", "(ILGongTide$Tide;)I"⟩
abbrev cX5_hourOfMostManners : ByteArray := prog_1_method_43_code
def yX5_hourOfMostManners : MethodName := ⟨RX5, "hourOfMostManners", "(ILGongTide$Tide;)I"⟩
abbrev cX5_canDine : ByteArray := prog_1_method_44_code
def yX5_canDine : MethodName := ⟨RX5, "canDine", "(ILGongTide$Tide;II)Z"⟩
abbrev cX5_agreesWithHeard : ByteArray := prog_1_method_45_code
def yX5_agreesWithHeard : MethodName := ⟨RX5, "agreesWithHeard", "(LGongTide$Tide;I)Z"⟩
abbrev cX5_mostLeft : ByteArray := prog_1_method_46_code
def yX5_mostLeft : MethodName := ⟨RX5, "mostLeft", "(ILGongTide$Tide;II)I"⟩
def RX6 : String := "GongTideModel"
def TX6 : u_T := fun k => match k with
  | 0 => ("GongTideModel", "colonies", "I", false)
  | 1 => ("GongTideModel", "houses", "I", false)
  | 2 => ("GongTideModel", "kindOf", "[I", true)
  | 3 => ("GongTideModel", "levelOf", "[I", true)
  | 4 => ("GongTideModel", "strokes", "I", false)
  | 5 => ("GongTideModel", "hourOf", "[I", true)
  | 6 => ("GongTideModel", "loudOf", "[I", true)
  | 7 => ("GongTideModel", "changes", "I", false)
  | 8 => ("GongTideModel", "heard", "I", false)
  | 9 => ("GongTideModel", "heardHouse", "[I", true)
  | 10 => ("GongTideModel", "heardHour", "[I", true)
  | 11 => ("GongTideModel", "heardLoud", "[I", true)
  | 12 => ("GongTideModel", "heardHow", "[I", true)
  | 13 => ("GongTideModel", "pageLength", "I", false)
  | 14 => ("GongTideModel", "page", "[B", true)
  | 15 => ("GongTideModel", "isWhole", "Z", false)
  | 16 => ("GongTideModel", "newHouses", "I", false)
  | 17 => ("GongTideModel", "newStrokes", "I", false)
  | 18 => ("GongTideModel", "thought", "I", false)
  | 19 => ("GongTideModel", "seedNow", "J", false)
  | 20 => ("GongTideModel", "savedHour", "[I", true)
  | 21 => ("GongTideModel", "isKept", "Z", false)
  | 22 => ("GongTideModel", "keptColony", "I", false)
  | 23 => ("GongTideModel", "keptStrokes", "I", false)
  | 24 => ("GongTideModel", "keptChanges", "I", false)
  | 25 => ("GongTideModel", "keptHeard", "I", false)
  | 26 => ("GongTideModel", "keptLevel", "[I", true)
  | 27 => ("GongTideModel", "keptHour", "[I", true)
  | 28 => ("GongTideModel", "keptLoud", "[I", true)
  | 29 => ("GongTideModel", "keptHouse", "[I", true)
  | 30 => ("GongTideModel", "keptHeardHour", "[I", true)
  | 31 => ("GongTideModel", "keptHeardLoud", "[I", true)
  | 32 => ("GongTideModel", "keptHow", "[I", true)
  | _ => ("GongTideModel", "h", "J", false)
def tyX6 : Nat → FieldType := fun k => match k with
  | 0 => .int
  | 1 => .int
  | 2 => .array .int
  | 3 => .array .int
  | 4 => .int
  | 5 => .array .int
  | 6 => .array .int
  | 7 => .int
  | 8 => .int
  | 9 => .array .int
  | 10 => .array .int
  | 11 => .array .int
  | 12 => .array .int
  | 13 => .int
  | 14 => .array .byte
  | 15 => .boolean
  | 16 => .int
  | 17 => .int
  | 18 => .int
  | 19 => .long
  | 20 => .array .int
  | 21 => .boolean
  | 22 => .int
  | 23 => .int
  | 24 => .int
  | 25 => .int
  | 26 => .array .int
  | 27 => .array .int
  | 28 => .array .int
  | 29 => .array .int
  | 30 => .array .int
  | 31 => .array .int
  | 32 => .array .int
  | _ => .long
abbrev wsX60 : List Cond := u_ws RX6 TX6 34
theorem nmX6 : ∀ a, a < 34 → ∀ b, b < 34 → a ≠ b → (TX6 a).2.1 ≠ (TX6 b).2.1 := by decide +kernel
theorem tyX6_ok : ∀ k, k < 34 → parseFieldDescriptor (TX6 k).2.2.1 = some (tyX6 k) := by decide +kernel
abbrev cX6_init : ByteArray := prog_8_method_1_code
def yX6_init : MethodName := ⟨RX6, "<init>", "()V"⟩
abbrev cX6_within : ByteArray := prog_8_method_3_code
def yX6_within : MethodName := ⟨RX6, "within", "(III)Z"⟩
abbrev cX6_isIn : ByteArray := prog_8_method_4_code
def yX6_isIn : MethodName := ⟨RX6, "isIn", "(II)Z"⟩
abbrev cX6_letter : ByteArray := prog_8_method_5_code
def yX6_letter : MethodName := ⟨RX6, "letter", "(I)I"⟩
abbrev cX6_blank : ByteArray := prog_8_method_6_code
def yX6_blank : MethodName := ⟨RX6, "blank", "()I"⟩
abbrev cX6_kindBy : ByteArray := prog_8_method_7_code
def yX6_kindBy : MethodName := ⟨RX6, "kindBy", "(I)I"⟩
abbrev cX6_figure : ByteArray := prog_8_method_8_code
def yX6_figure : MethodName := ⟨RX6, "figure", "(I)I"⟩
abbrev cX6_readStrokes : ByteArray := prog_8_method_9_code
def yX6_readStrokes : MethodName := ⟨RX6, "readStrokes", "(I)I"⟩
abbrev cX6_read : ByteArray := prog_8_method_10_code
def yX6_read : MethodName := ⟨RX6, "read", "()I"⟩
abbrev cX6_fault : ByteArray := prog_8_method_11_code
def yX6_fault : MethodName := ⟨RX6, "fault", "()I"⟩
abbrev cX6_colony : ByteArray := prog_8_method_12_code
def yX6_colony : MethodName := ⟨RX6, "colony", "()I"⟩
abbrev cX6_isHouse : ByteArray := prog_8_method_13_code
def yX6_isHouse : MethodName := ⟨RX6, "isHouse", "(I)Z"⟩
abbrev cX6_isStroke : ByteArray := prog_8_method_14_code
def yX6_isStroke : MethodName := ⟨RX6, "isStroke", "(I)Z"⟩
abbrev cX6_isHour : ByteArray := prog_8_method_15_code
def yX6_isHour : MethodName := ⟨RX6, "isHour", "(I)Z"⟩
abbrev cX6_tideAt : ByteArray := prog_8_method_16_code
def yX6_tideAt : MethodName := ⟨RX6, "tideAt", "(I)I"⟩
abbrev cX6_tideBefore : ByteArray := prog_8_method_17_code
def yX6_tideBefore : MethodName := ⟨RX6, "tideBefore", "(I)I"⟩
abbrev cX6_less : ByteArray := prog_8_method_18_code
def yX6_less : MethodName := ⟨RX6, "less", "(II)I"⟩
abbrev cX6_mannersAt : ByteArray := prog_8_method_19_code
def yX6_mannersAt : MethodName := ⟨RX6, "mannersAt", "(II)I"⟩
abbrev cX6_howAt : ByteArray := prog_8_method_20_code
def yX6_howAt : MethodName := ⟨RX6, "howAt", "(II)I"⟩
abbrev cX6_hoursOf : ByteArray := prog_8_method_21_code
def yX6_hoursOf : MethodName := ⟨RX6, "hoursOf", "(II)I"⟩
abbrev cX6_hoursAll : ByteArray := prog_8_method_22_code
def yX6_hoursAll : MethodName := ⟨RX6, "hoursAll", "(I)I"⟩
abbrev cX6_greatestHour : ByteArray := prog_8_method_23_code
def yX6_greatestHour : MethodName := ⟨RX6, "greatestHour", "(I)I"⟩
abbrev cX6_houseNow : ByteArray := prog_8_method_24_code
def yX6_houseNow : MethodName := ⟨RX6, "houseNow", "(II)I"⟩
abbrev cX6_about : ByteArray := prog_8_method_25_code
def yX6_about : MethodName := ⟨RX6, "about", "(II)I"⟩
abbrev cX6_as : ByteArray := prog_8_method_26_code
def yX6_as : MethodName := ⟨RX6, "as", "(II)I"⟩
abbrev cX6_raise : ByteArray := prog_8_method_27_code
def yX6_raise : MethodName := ⟨RX6, "raise", "(II)I"⟩
abbrev cX6_tide : ByteArray := prog_8_method_28_code
def yX6_tide : MethodName := ⟨RX6, "tide", "(I)I"⟩
abbrev cX6_strike : ByteArray := prog_8_method_29_code
def yX6_strike : MethodName := ⟨RX6, "strike", "(II)I"⟩
abbrev cX6_felt : ByteArray := prog_8_method_30_code
def yX6_felt : MethodName := ⟨RX6, "felt", "(II)I"⟩
abbrev cX6_strokeNow : ByteArray := prog_8_method_31_code
def yX6_strokeNow : MethodName := ⟨RX6, "strokeNow", "(II)I"⟩
abbrev cX6_stroke : ByteArray := prog_8_method_32_code
def yX6_stroke : MethodName := ⟨RX6, "stroke", "(II)I"⟩
abbrev cX6_isPolite : ByteArray := prog_8_method_33_code
def yX6_isPolite : MethodName := ⟨RX6, "isPolite", "(III)Z"⟩
abbrev cX6_dinnerNow : ByteArray := prog_8_method_34_code
def yX6_dinnerNow : MethodName := ⟨RX6, "dinnerNow", "(II)I"⟩
abbrev cX6_dinner : ByteArray := prog_8_method_35_code
def yX6_dinner : MethodName := ⟨RX6, "dinner", "(II)I"⟩
abbrev cX6_think : ByteArray := prog_8_method_36_code
def yX6_think : MethodName := ⟨RX6, "think", "(II)V"⟩
abbrev cX6_bestNow : ByteArray := prog_8_method_37_code
def yX6_bestNow : MethodName := ⟨RX6, "bestNow", "(II)I"⟩
abbrev cX6_best : ByteArray := prog_8_method_38_code
def yX6_best : MethodName := ⟨RX6, "best", "(II)I"⟩
abbrev cX6_hear : ByteArray := prog_8_method_39_code
def yX6_hear : MethodName := ⟨RX6, "hear", "(IIII)I"⟩
abbrev cX6_forget : ByteArray := prog_8_method_40_code
def yX6_forget : MethodName := ⟨RX6, "forget", "()I"⟩
abbrev cX6_isHeard : ByteArray := prog_8_method_41_code
def yX6_isHeard : MethodName := ⟨RX6, "isHeard", "(I)Z"⟩
abbrev cX6_hoursNow : ByteArray := prog_8_method_42_code
def yX6_hoursNow : MethodName := ⟨RX6, "hoursNow", "()I"⟩
abbrev cX6_hours : ByteArray := prog_8_method_43_code
def yX6_hours : MethodName := ⟨RX6, "hours", "()I"⟩
abbrev cX6_worstIn : ByteArray := prog_8_method_44_code
def yX6_worstIn : MethodName := ⟨RX6, "worstIn", "(III)I"⟩
abbrev cX6_askNow : ByteArray := prog_8_method_45_code
def yX6_askNow : MethodName := ⟨RX6, "askNow", "(I)I"⟩
abbrev cX6_ask : ByteArray := prog_8_method_46_code
def yX6_ask : MethodName := ⟨RX6, "ask", "(I)I"⟩
abbrev cX6_draw : ByteArray := prog_8_method_47_code
def yX6_draw : MethodName := ⟨RX6, "draw", "(I)I"⟩
abbrev cX6_weeksNow : ByteArray := prog_8_method_48_code
def yX6_weeksNow : MethodName := ⟨RX6, "weeksNow", "(III)I"⟩
abbrev cX6_weeks : ByteArray := prog_8_method_49_code
def yX6_weeks : MethodName := ⟨RX6, "weeks", "(III)I"⟩
abbrev cX6_image : ByteArray := prog_8_method_50_code
def yX6_image : MethodName := ⟨RX6, "image", "()I"⟩
abbrev cX6_restore : ByteArray := prog_8_method_51_code
def yX6_restore : MethodName := ⟨RX6, "restore", "()I"⟩
abbrev cX6_highest : ByteArray := prog_8_method_52_code
def yX6_highest : MethodName := ⟨RX6, "highest", "()I"⟩
abbrev cX6_howMany : ByteArray := prog_8_method_53_code
def yX6_howMany : MethodName := ⟨RX6, "howMany", "(I)I"⟩
abbrev cX6_count : ByteArray := prog_8_method_54_code
def yX6_count : MethodName := ⟨RX6, "count", "(I)I"⟩
abbrev cX6_mix : ByteArray := prog_8_method_55_code
def yX6_mix : MethodName := ⟨RX6, "mix", "(J)V"⟩
abbrev cX6_digest : ByteArray := prog_8_method_56_code
def yX6_digest : MethodName := ⟨RX6, "digest", "()J"⟩
def RJ9 : String := "java/lang/Math"
def TJ9 : u_T := fun k => match k with
  | _ => ("", "", "", false)
def tyJ9 : Nat → FieldType := fun k => match k with
  | _ => .int
abbrev wsJ90 : List Cond := u_ws RJ9 TJ9 0
theorem nmJ9 : ∀ a, a < 0 → ∀ b, b < 0 → a ≠ b → (TJ9 a).2.1 ≠ (TJ9 b).2.1 := by decide +kernel
theorem tyJ9_ok : ∀ k, k < 0 → parseFieldDescriptor (TJ9 k).2.2.1 = some (tyJ9 k) := by decide +kernel
abbrev cJ9_max_7cf53 : ByteArray := prog_9_method_65_code
def yJ9_max_7cf53 : MethodName := ⟨RJ9, "max", "(II)I"⟩
abbrev cJ9_min_7cf53 : ByteArray := prog_9_method_69_code
def yJ9_min_7cf53 : MethodName := ⟨RJ9, "min", "(II)I"⟩
def RL : String := "GongTideLaw"
abbrev cL_law : ByteArray := code
def yL_law : MethodName := ⟨RL, "law", "([I)Z"⟩
def wsX3_init : List Cond := .code yX3_init cX3_init 1 none :: ([.methodLink RX3 3 objectInit, .instanceMethod objectInit, .code objectInit ⟨#[0xb1]⟩ 1 none, .arrayClass .int, .fieldLink RX3 9 "GongTide$Strokes" "hours" "[I", .fieldLink RX3 15 "GongTide$Strokes" "louds" "[I"] ++ wsX30)
def wsX1_init : List Cond := .code yX1_init cX1_init 1 none :: ([.methodLink RX1 3 objectInit, .instanceMethod objectInit, .code objectInit ⟨#[0xb1]⟩ 1 none, .arrayClass .int, .fieldLink RX1 9 "GongTide$Heard" "houses" "[I", .fieldLink RX1 15 "GongTide$Heard" "hours" "[I", .fieldLink RX1 18 "GongTide$Heard" "louds" "[I", .fieldLink RX1 21 "GongTide$Heard" "hows" "[I"] ++ wsX10)
def wsX0_init_r1 : List Cond := [Cond.methodLink RX0 3 objectInit, Cond.instanceMethod objectInit, Cond.code objectInit ⟨#[0xb1]⟩ 1 none, Cond.arrayClass .int, Cond.fieldLink RX0 9 "GongTide$Affairs" "levels" "[I", Cond.classLink RX0 15 RX3, Cond.instantiable RX3 3, Cond.initialized RX3, Cond.fieldLink RX0 18 "GongTide$Affairs" "strokes" "LGongTide$Strokes;", Cond.classLink RX0 22 RX1, Cond.instantiable RX1 5, Cond.initialized RX1, Cond.fieldLink RX0 25 "GongTide$Affairs" "heard" "LGongTide$Heard;", Cond.instanceMethod yX3_init, Cond.code yX3_init cX3_init 1 none, Cond.methodLink RX3 3 objectInit, Cond.fieldLink RX3 9 "GongTide$Strokes" "hours" "[I", Cond.fieldLink RX3 15 "GongTide$Strokes" "louds" "[I", Cond.instanceMethod yX1_init, Cond.code yX1_init cX1_init 1 none, Cond.methodLink RX1 3 objectInit, Cond.fieldLink RX1 9 "GongTide$Heard" "houses" "[I", Cond.fieldLink RX1 15 "GongTide$Heard" "hours" "[I", Cond.fieldLink RX1 18 "GongTide$Heard" "louds" "[I"]
def wsX0_init_r2 : List Cond := [Cond.fieldLink RX1 21 "GongTide$Heard" "hows" "[I"]
def wsX0_init : List Cond := .code yX0_init cX0_init 1 none :: ((wsX0_init_r1 ++ wsX0_init_r2) ++ wsX00 ++ wsX30 ++ wsX10)
def wsX3_clear : List Cond := .code yX3_clear cX3_clear 1 none :: ([.fieldLink RX3 18 "GongTide$Strokes" "size" "I"] ++ wsX30)
def wsX1_clear : List Cond := .code yX1_clear cX1_clear 2 (some .int) :: ([.fieldLink RX1 24 "GongTide$Heard" "size" "I"] ++ wsX10)
def wsX0_clear : List Cond := .code yX0_clear cX0_clear 1 none :: ([.fieldLink RX0 18 "GongTide$Affairs" "strokes" "LGongTide$Strokes;", .fieldLink RX0 25 "GongTide$Affairs" "heard" "LGongTide$Heard;", .fieldLink RX0 35 "GongTide$Affairs" "changes" "I", .methodLink RX0 29 yX3_clear, .instanceMethod yX3_clear, .selects RX3 yX3_clear yX3_clear, .initialized RX3, .code yX3_clear cX3_clear 1 none, .fieldLink RX3 18 "GongTide$Strokes" "size" "I", .methodLink RX0 32 yX1_clear, .instanceMethod yX1_clear, .selects RX1 yX1_clear yX1_clear, .initialized RX1, .code yX1_clear cX1_clear 2 (some .int), .fieldLink RX1 24 "GongTide$Heard" "size" "I"] ++ wsX00 ++ wsX30 ++ wsX10)
def wsX5_isWithin : List Cond := .code yX5_isWithin cX5_isWithin 3 (some .boolean) :: ([])
def wsX0_level : List Cond := .code yX0_level cX0_level 2 (some .int) :: ([.fieldLink RX0 9 "GongTide$Affairs" "levels" "[I", .static yX5_isWithin, .initialized RX5, .code yX5_isWithin cX5_isWithin 3 (some .boolean)] ++ wsX00)
def wsX0_setLevel : List Cond := .code yX0_setLevel cX0_setLevel 3 none :: ([.fieldLink RX0 9 "GongTide$Affairs" "levels" "[I", .static yX5_isWithin, .initialized RX5, .code yX5_isWithin cX5_isWithin 3 (some .boolean)] ++ wsX00)
def wsX3_copyFrom : List Cond := .code yX3_copyFrom cX3_copyFrom 3 none :: ([.fieldLink RX3 18 "GongTide$Strokes" "size" "I", .fieldLink RX3 9 "GongTide$Strokes" "hours" "[I", .fieldLink RX3 15 "GongTide$Strokes" "louds" "[I"] ++ wsX30)
def wsX1_copyFrom : List Cond := .code yX1_copyFrom cX1_copyFrom 3 none :: ([.fieldLink RX1 24 "GongTide$Heard" "size" "I", .fieldLink RX1 9 "GongTide$Heard" "houses" "[I", .fieldLink RX1 15 "GongTide$Heard" "hours" "[I", .fieldLink RX1 18 "GongTide$Heard" "louds" "[I", .fieldLink RX1 21 "GongTide$Heard" "hows" "[I"] ++ wsX10)
def wsX0_copyFrom : List Cond := .code yX0_copyFrom cX0_copyFrom 3 none :: ([.fieldLink RX0 9 "GongTide$Affairs" "levels" "[I", .fieldLink RX0 18 "GongTide$Affairs" "strokes" "LGongTide$Strokes;", .fieldLink RX0 25 "GongTide$Affairs" "heard" "LGongTide$Heard;", .fieldLink RX0 35 "GongTide$Affairs" "changes" "I", .methodLink RX0 43 yX3_copyFrom, .instanceMethod yX3_copyFrom, .selects RX3 yX3_copyFrom yX3_copyFrom, .initialized RX3, .code yX3_copyFrom cX3_copyFrom 3 none, .fieldLink RX3 18 "GongTide$Strokes" "size" "I", .fieldLink RX3 9 "GongTide$Strokes" "hours" "[I", .fieldLink RX3 15 "GongTide$Strokes" "louds" "[I", .methodLink RX0 47 yX1_copyFrom, .instanceMethod yX1_copyFrom, .selects RX1 yX1_copyFrom yX1_copyFrom, .initialized RX1, .code yX1_copyFrom cX1_copyFrom 3 none, .fieldLink RX1 24 "GongTide$Heard" "size" "I", .fieldLink RX1 9 "GongTide$Heard" "houses" "[I", .fieldLink RX1 15 "GongTide$Heard" "hours" "[I", .fieldLink RX1 18 "GongTide$Heard" "louds" "[I", .fieldLink RX1 21 "GongTide$Heard" "hows" "[I"] ++ wsX00 ++ wsX30 ++ wsX10)
def wsX1_size : List Cond := .code yX1_size cX1_size 1 (some .int) :: ([.fieldLink RX1 24 "GongTide$Heard" "size" "I"] ++ wsX10)
def wsX1_add : List Cond := .code yX1_add cX1_add 5 (some .boolean) :: ([.fieldLink RX1 24 "GongTide$Heard" "size" "I", .fieldLink RX1 9 "GongTide$Heard" "houses" "[I", .fieldLink RX1 15 "GongTide$Heard" "hours" "[I", .fieldLink RX1 18 "GongTide$Heard" "louds" "[I", .fieldLink RX1 21 "GongTide$Heard" "hows" "[I"] ++ wsX10)
def wsX1_has : List Cond := .code yX1_has cX1_has 2 (some .boolean) :: ([.fieldLink RX1 24 "GongTide$Heard" "size" "I", .static yX5_isWithin, .initialized RX5, .code yX5_isWithin cX5_isWithin 3 (some .boolean)] ++ wsX10)
def wsX1_house : List Cond := .code yX1_house cX1_house 2 (some .int) :: ([.fieldLink RX1 9 "GongTide$Heard" "houses" "[I", .methodLink RX1 32 yX1_has, .instanceMethod yX1_has, .selects RX1 yX1_has yX1_has, .initialized RX1, .code yX1_has cX1_has 2 (some .boolean), .fieldLink RX1 24 "GongTide$Heard" "size" "I", .static yX5_isWithin, .initialized RX5, .code yX5_isWithin cX5_isWithin 3 (some .boolean)] ++ wsX10)
def wsX1_hour : List Cond := .code yX1_hour cX1_hour 2 (some .int) :: ([.fieldLink RX1 15 "GongTide$Heard" "hours" "[I", .methodLink RX1 32 yX1_has, .instanceMethod yX1_has, .selects RX1 yX1_has yX1_has, .initialized RX1, .code yX1_has cX1_has 2 (some .boolean), .fieldLink RX1 24 "GongTide$Heard" "size" "I", .static yX5_isWithin, .initialized RX5, .code yX5_isWithin cX5_isWithin 3 (some .boolean)] ++ wsX10)
def wsX1_loud : List Cond := .code yX1_loud cX1_loud 2 (some .int) :: ([.fieldLink RX1 18 "GongTide$Heard" "louds" "[I", .methodLink RX1 32 yX1_has, .instanceMethod yX1_has, .selects RX1 yX1_has yX1_has, .initialized RX1, .code yX1_has cX1_has 2 (some .boolean), .fieldLink RX1 24 "GongTide$Heard" "size" "I", .static yX5_isWithin, .initialized RX5, .code yX5_isWithin cX5_isWithin 3 (some .boolean)] ++ wsX10)
def wsX1_how : List Cond := .code yX1_how cX1_how 2 (some .int) :: ([.fieldLink RX1 21 "GongTide$Heard" "hows" "[I", .methodLink RX1 32 yX1_has, .instanceMethod yX1_has, .selects RX1 yX1_has yX1_has, .initialized RX1, .code yX1_has cX1_has 2 (some .boolean), .fieldLink RX1 24 "GongTide$Heard" "size" "I", .static yX5_isWithin, .initialized RX5, .code yX5_isWithin cX5_isWithin 3 (some .boolean)] ++ wsX10)
def wsX1_lastLoud : List Cond := .code yX1_lastLoud cX1_lastLoud 1 (some .int) :: ([.fieldLink RX1 24 "GongTide$Heard" "size" "I", .methodLink RX1 36 yX1_loud, .instanceMethod yX1_loud, .selects RX1 yX1_loud yX1_loud, .initialized RX1, .code yX1_loud cX1_loud 2 (some .int), .fieldLink RX1 18 "GongTide$Heard" "louds" "[I", .methodLink RX1 32 yX1_has, .instanceMethod yX1_has, .selects RX1 yX1_has yX1_has, .code yX1_has cX1_has 2 (some .boolean), .static yX5_isWithin, .initialized RX5, .code yX5_isWithin cX5_isWithin 3 (some .boolean)] ++ wsX10)
def wsX2_init : List Cond := .code yX2_init cX2_init 1 none :: ([.methodLink RX2 3 objectInit, .instanceMethod objectInit, .code objectInit ⟨#[0xb1]⟩ 1 none, .arrayClass .int, .fieldLink RX2 9 "GongTide$Page" "codes" "[I"] ++ wsX20)
def wsX2_size : List Cond := .code yX2_size cX2_size 1 (some .int) :: ([.fieldLink RX2 15 "GongTide$Page" "size" "I"] ++ wsX20)
def wsX2_write : List Cond := .code yX2_write cX2_write 2 (some .boolean) :: ([.fieldLink RX2 15 "GongTide$Page" "size" "I", .fieldLink RX2 9 "GongTide$Page" "codes" "[I"] ++ wsX20)
def wsX2_wipe : List Cond := .code yX2_wipe cX2_wipe 2 (some .int) :: ([.fieldLink RX2 15 "GongTide$Page" "size" "I"] ++ wsX20)
def wsX2_at : List Cond := .code yX2_at cX2_at 2 (some .int) :: ([.fieldLink RX2 15 "GongTide$Page" "size" "I", .fieldLink RX2 9 "GongTide$Page" "codes" "[I", .static yX5_isWithin, .initialized RX5, .code yX5_isWithin cX5_isWithin 3 (some .boolean)] ++ wsX20)
def wsX2_digitAt : List Cond := .code yX2_digitAt cX2_digitAt 2 (some .int) :: ([.methodLink RX2 23 yX2_at, .instanceMethod yX2_at, .selects RX2 yX2_at yX2_at, .initialized RX2, .code yX2_at cX2_at 2 (some .int), .fieldLink RX2 15 "GongTide$Page" "size" "I", .fieldLink RX2 9 "GongTide$Page" "codes" "[I", .static yX5_isWithin, .initialized RX5, .code yX5_isWithin cX5_isWithin 3 (some .boolean)] ++ wsX20)
def wsX2_houses : List Cond := .code yX2_houses cX2_houses 2 (some .int) :: ([.methodLink RX2 23 yX2_at, .instanceMethod yX2_at, .selects RX2 yX2_at yX2_at, .initialized RX2, .code yX2_at cX2_at 2 (some .int), .fieldLink RX2 15 "GongTide$Page" "size" "I", .fieldLink RX2 9 "GongTide$Page" "codes" "[I", .static yX5_isWithin, .initialized RX5, .code yX5_isWithin cX5_isWithin 3 (some .boolean)] ++ wsX20)
def wsX5_kindOf : List Cond := .code yX5_kindOf cX5_kindOf 1 (some .int) :: ([])
def wsX2_suitsHouses : List Cond := .code yX2_suitsHouses cX2_suitsHouses 3 (some .boolean) :: ([.static yX5_kindOf, .initialized RX5, .code yX5_kindOf cX5_kindOf 1 (some .int), .static yX5_isWithin, .code yX5_isWithin cX5_isWithin 3 (some .boolean)])
def wsX2_suitsStrokes : List Cond := .code yX2_suitsStrokes cX2_suitsStrokes 3 (some .boolean) :: ([.static yX5_isWithin, .initialized RX5, .code yX5_isWithin cX5_isWithin 3 (some .boolean)])
def wsX2_soundLetters : List Cond := .code yX2_soundLetters cX2_soundLetters 5 (some .int) :: ([.fieldLink RX2 15 "GongTide$Page" "size" "I", .methodLink RX2 27 yX2_houses, .instanceMethod yX2_houses, .selects RX2 yX2_houses yX2_houses, .initialized RX2, .code yX2_houses cX2_houses 2 (some .int), .methodLink RX2 23 yX2_at, .instanceMethod yX2_at, .selects RX2 yX2_at yX2_at, .code yX2_at cX2_at 2 (some .int), .fieldLink RX2 9 "GongTide$Page" "codes" "[I", .static yX5_isWithin, .initialized RX5, .code yX5_isWithin cX5_isWithin 3 (some .boolean), .methodLink RX2 31 yX2_suitsHouses, .static yX2_suitsHouses, .code yX2_suitsHouses cX2_suitsHouses 3 (some .boolean), .static yX5_kindOf, .code yX5_kindOf cX5_kindOf 1 (some .int), .methodLink RX2 35 yX2_suitsStrokes, .static yX2_suitsStrokes, .code yX2_suitsStrokes cX2_suitsStrokes 3 (some .boolean)] ++ wsX20)
def wsX2_tellsColony_r1 : List Cond := [Cond.fieldLink RX2 15 "GongTide$Page" "size" "I", Cond.methodLink RX2 27 yX2_houses, Cond.instanceMethod yX2_houses, Cond.selects RX2 yX2_houses yX2_houses, Cond.initialized RX2, Cond.code yX2_houses cX2_houses 2 (some .int), Cond.methodLink RX2 23 yX2_at, Cond.instanceMethod yX2_at, Cond.selects RX2 yX2_at yX2_at, Cond.code yX2_at cX2_at 2 (some .int), Cond.fieldLink RX2 9 "GongTide$Page" "codes" "[I", Cond.static yX5_isWithin, Cond.initialized RX5, Cond.code yX5_isWithin cX5_isWithin 3 (some .boolean), Cond.methodLink RX2 38 yX2_soundLetters, Cond.instanceMethod yX2_soundLetters, Cond.selects RX2 yX2_soundLetters yX2_soundLetters, Cond.code yX2_soundLetters cX2_soundLetters 5 (some .int), Cond.methodLink RX2 31 yX2_suitsHouses, Cond.static yX2_suitsHouses, Cond.code yX2_suitsHouses cX2_suitsHouses 3 (some .boolean), Cond.static yX5_kindOf, Cond.code yX5_kindOf cX5_kindOf 1 (some .int), Cond.methodLink RX2 35 yX2_suitsStrokes]
def wsX2_tellsColony_r2 : List Cond := [Cond.static yX2_suitsStrokes, Cond.code yX2_suitsStrokes cX2_suitsStrokes 3 (some .boolean)]
def wsX2_tellsColony : List Cond := .code yX2_tellsColony cX2_tellsColony 3 (some .boolean) :: ((wsX2_tellsColony_r1 ++ wsX2_tellsColony_r2) ++ wsX20)
def wsX3_size : List Cond := .code yX3_size cX3_size 1 (some .int) :: ([.fieldLink RX3 18 "GongTide$Strokes" "size" "I"] ++ wsX30)
def wsX3_has : List Cond := .code yX3_has cX3_has 2 (some .boolean) :: ([.fieldLink RX3 18 "GongTide$Strokes" "size" "I", .static yX5_isWithin, .initialized RX5, .code yX5_isWithin cX5_isWithin 3 (some .boolean)] ++ wsX30)
def wsX3_add : List Cond := .code yX3_add cX3_add 3 (some .boolean) :: ([.fieldLink RX3 18 "GongTide$Strokes" "size" "I", .fieldLink RX3 9 "GongTide$Strokes" "hours" "[I", .fieldLink RX3 15 "GongTide$Strokes" "louds" "[I"] ++ wsX30)
def wsX3_hour : List Cond := .code yX3_hour cX3_hour 2 (some .int) :: ([.fieldLink RX3 9 "GongTide$Strokes" "hours" "[I", .methodLink RX3 26 yX3_has, .instanceMethod yX3_has, .selects RX3 yX3_has yX3_has, .initialized RX3, .code yX3_has cX3_has 2 (some .boolean), .fieldLink RX3 18 "GongTide$Strokes" "size" "I", .static yX5_isWithin, .initialized RX5, .code yX5_isWithin cX5_isWithin 3 (some .boolean)] ++ wsX30)
def wsX3_loud : List Cond := .code yX3_loud cX3_loud 2 (some .int) :: ([.fieldLink RX3 15 "GongTide$Strokes" "louds" "[I", .methodLink RX3 26 yX3_has, .instanceMethod yX3_has, .selects RX3 yX3_has yX3_has, .initialized RX3, .code yX3_has cX3_has 2 (some .boolean), .fieldLink RX3 18 "GongTide$Strokes" "size" "I", .static yX5_isWithin, .initialized RX5, .code yX5_isWithin cX5_isWithin 3 (some .boolean)] ++ wsX30)
def wsX3_setLoud : List Cond := .code yX3_setLoud cX3_setLoud 3 none :: ([.fieldLink RX3 15 "GongTide$Strokes" "louds" "[I", .methodLink RX3 26 yX3_has, .instanceMethod yX3_has, .selects RX3 yX3_has yX3_has, .initialized RX3, .code yX3_has cX3_has 2 (some .boolean), .fieldLink RX3 18 "GongTide$Strokes" "size" "I", .static yX5_isWithin, .initialized RX5, .code yX5_isWithin cX5_isWithin 3 (some .boolean)] ++ wsX30)
def wsX3_goneAt : List Cond := .code yX3_goneAt cX3_goneAt 3 (some .int) :: ([.methodLink RX3 30 yX3_hour, .instanceMethod yX3_hour, .selects RX3 yX3_hour yX3_hour, .initialized RX3, .code yX3_hour cX3_hour 2 (some .int), .fieldLink RX3 9 "GongTide$Strokes" "hours" "[I", .methodLink RX3 26 yX3_has, .instanceMethod yX3_has, .selects RX3 yX3_has yX3_has, .code yX3_has cX3_has 2 (some .boolean), .fieldLink RX3 18 "GongTide$Strokes" "size" "I", .static yX5_isWithin, .initialized RX5, .code yX5_isWithin cX5_isWithin 3 (some .boolean), .methodLink RX3 34 yX3_loud, .instanceMethod yX3_loud, .selects RX3 yX3_loud yX3_loud, .code yX3_loud cX3_loud 2 (some .int), .fieldLink RX3 15 "GongTide$Strokes" "louds" "[I"] ++ wsX30)
def wsX4_init : List Cond := .code yX4_init cX4_init 1 none :: ([.methodLink RX4 3 objectInit, .instanceMethod objectInit, .code objectInit ⟨#[0xb1]⟩ 1 none, .arrayClass .int, .fieldLink RX4 9 "GongTide$Tide" "sums" "[I"] ++ wsX40)
def wsX4_clear : List Cond := .code yX4_clear cX4_clear 2 none :: ([.fieldLink RX4 9 "GongTide$Tide" "sums" "[I"] ++ wsX40)
def wsX4_add : List Cond := .code yX4_add cX4_add 5 none :: ([.methodLink RX4 15 Lib.Math.max.name, .static Lib.Math.max.name, .initialized "java/lang/Math", .code Lib.Math.max.name Lib.Math.max.code 2 (some .int), .fieldLink RX4 9 "GongTide$Tide" "sums" "[I"] ++ wsX40)
def wsX4_copyFrom : List Cond := .code yX4_copyFrom cX4_copyFrom 3 none :: ([.fieldLink RX4 9 "GongTide$Tide" "sums" "[I"] ++ wsX40)
def wsX4_at : List Cond := .code yX4_at cX4_at 2 (some .int) :: ([.fieldLink RX4 9 "GongTide$Tide" "sums" "[I", .methodLink RX4 21 Lib.Math.min.name, .static Lib.Math.min.name, .initialized "java/lang/Math", .code Lib.Math.min.name Lib.Math.min.code 2 (some .int)] ++ wsX40)
def wsX4_greatest : List Cond := .code yX4_greatest cX4_greatest 3 (some .int) :: ([.methodLink RX4 15 Lib.Math.max.name, .static Lib.Math.max.name, .initialized "java/lang/Math", .code Lib.Math.max.name Lib.Math.max.code 2 (some .int), .methodLink RX4 24 yX4_at, .instanceMethod yX4_at, .selects RX4 yX4_at yX4_at, .initialized RX4, .code yX4_at cX4_at 2 (some .int), .fieldLink RX4 9 "GongTide$Tide" "sums" "[I", .methodLink RX4 21 Lib.Math.min.name, .static Lib.Math.min.name, .code Lib.Math.min.name Lib.Math.min.code 2 (some .int)] ++ wsX40)
def wsX5_init_r1 : List Cond := [Cond.methodLink RX5 1 objectInit, Cond.instanceMethod objectInit, Cond.code objectInit ⟨#[0xb1]⟩ 1 none, Cond.classLink RX5 7 RX2, Cond.instantiable RX2 2, Cond.initialized RX2, Cond.fieldLink RX5 10 "GongTide" "page" "LGongTide$Page;", Cond.arrayClass .int, Cond.fieldLink RX5 16 "GongTide" "kinds" "[I", Cond.classLink RX5 20 RX0, Cond.instantiable RX0 4, Cond.initialized RX0, Cond.fieldLink RX5 23 "GongTide" "affairs" "LGongTide$Affairs;", Cond.fieldLink RX5 27 "GongTide" "kept" "LGongTide$Affairs;", Cond.classLink RX5 30 RX4, Cond.instantiable RX4 1, Cond.initialized RX4, Cond.fieldLink RX5 33 "GongTide" "now" "LGongTide$Tide;", Cond.fieldLink RX5 37 "GongTide" "supposed" "LGongTide$Tide;", Cond.instanceMethod yX2_init, Cond.code yX2_init cX2_init 1 none, Cond.methodLink RX2 3 objectInit, Cond.fieldLink RX2 9 "GongTide$Page" "codes" "[I", Cond.instanceMethod yX0_init]
def wsX5_init_r2 : List Cond := [Cond.code yX0_init cX0_init 1 none, Cond.methodLink RX0 3 objectInit, Cond.fieldLink RX0 9 "GongTide$Affairs" "levels" "[I", Cond.classLink RX0 15 RX3, Cond.instantiable RX3 3, Cond.initialized RX3, Cond.fieldLink RX0 18 "GongTide$Affairs" "strokes" "LGongTide$Strokes;", Cond.classLink RX0 22 RX1, Cond.instantiable RX1 5, Cond.initialized RX1, Cond.fieldLink RX0 25 "GongTide$Affairs" "heard" "LGongTide$Heard;", Cond.instanceMethod yX3_init, Cond.code yX3_init cX3_init 1 none, Cond.methodLink RX3 3 objectInit, Cond.fieldLink RX3 9 "GongTide$Strokes" "hours" "[I", Cond.fieldLink RX3 15 "GongTide$Strokes" "louds" "[I", Cond.instanceMethod yX1_init, Cond.code yX1_init cX1_init 1 none, Cond.methodLink RX1 3 objectInit, Cond.fieldLink RX1 9 "GongTide$Heard" "houses" "[I", Cond.fieldLink RX1 15 "GongTide$Heard" "hours" "[I", Cond.fieldLink RX1 18 "GongTide$Heard" "louds" "[I", Cond.fieldLink RX1 21 "GongTide$Heard" "hows" "[I", Cond.instanceMethod yX4_init]
def wsX5_init_r3 : List Cond := [Cond.code yX4_init cX4_init 1 none, Cond.methodLink RX4 3 objectInit, Cond.fieldLink RX4 9 "GongTide$Tide" "sums" "[I"]
def wsX5_init : List Cond := .code yX5_init cX5_init 1 none :: ((wsX5_init_r1 ++ (wsX5_init_r2 ++ wsX5_init_r3)) ++ wsX20 ++ wsX50 ++ wsX00 ++ wsX40 ++ wsX30 ++ wsX10)
def wsX5_letter : List Cond := .code yX5_letter cX5_letter 2 (some .int) :: ([.fieldLink RX5 10 "GongTide" "page" "LGongTide$Page;", .methodLink RX5 40 yX5_isWithin, .static yX5_isWithin, .initialized RX5, .code yX5_isWithin cX5_isWithin 3 (some .boolean), .methodLink RX5 44 yX2_write, .instanceMethod yX2_write, .selects RX2 yX2_write yX2_write, .initialized RX2, .code yX2_write cX2_write 2 (some .boolean), .fieldLink RX2 15 "GongTide$Page" "size" "I", .fieldLink RX2 9 "GongTide$Page" "codes" "[I", .methodLink RX5 48 yX2_size, .instanceMethod yX2_size, .selects RX2 yX2_size yX2_size, .code yX2_size cX2_size 1 (some .int)] ++ wsX50 ++ wsX20)
def wsX5_blank : List Cond := .code yX5_blank cX5_blank 1 (some .int) :: ([.fieldLink RX5 10 "GongTide" "page" "LGongTide$Page;", .methodLink RX5 52 yX2_wipe, .instanceMethod yX2_wipe, .selects RX2 yX2_wipe yX2_wipe, .initialized RX2, .code yX2_wipe cX2_wipe 2 (some .int), .fieldLink RX2 15 "GongTide$Page" "size" "I"] ++ wsX50 ++ wsX20)
def wsX5_fault_r1 : List Cond := [Cond.fieldLink RX5 10 "GongTide" "page" "LGongTide$Page;", Cond.methodLink RX5 55 yX2_soundLetters, Cond.instanceMethod yX2_soundLetters, Cond.selects RX2 yX2_soundLetters yX2_soundLetters, Cond.initialized RX2, Cond.code yX2_soundLetters cX2_soundLetters 5 (some .int), Cond.fieldLink RX2 15 "GongTide$Page" "size" "I", Cond.methodLink RX2 27 yX2_houses, Cond.instanceMethod yX2_houses, Cond.selects RX2 yX2_houses yX2_houses, Cond.code yX2_houses cX2_houses 2 (some .int), Cond.methodLink RX2 23 yX2_at, Cond.instanceMethod yX2_at, Cond.selects RX2 yX2_at yX2_at, Cond.code yX2_at cX2_at 2 (some .int), Cond.fieldLink RX2 9 "GongTide$Page" "codes" "[I", Cond.static yX5_isWithin, Cond.initialized RX5, Cond.code yX5_isWithin cX5_isWithin 3 (some .boolean), Cond.methodLink RX2 31 yX2_suitsHouses, Cond.static yX2_suitsHouses, Cond.code yX2_suitsHouses cX2_suitsHouses 3 (some .boolean), Cond.static yX5_kindOf, Cond.code yX5_kindOf cX5_kindOf 1 (some .int)]
def wsX5_fault_r2 : List Cond := [Cond.methodLink RX2 35 yX2_suitsStrokes, Cond.static yX2_suitsStrokes, Cond.code yX2_suitsStrokes cX2_suitsStrokes 3 (some .boolean)]
def wsX5_fault : List Cond := .code yX5_fault cX5_fault 1 (some .int) :: ((wsX5_fault_r1 ++ wsX5_fault_r2) ++ wsX50 ++ wsX20)
def wsX5_colony_r1 : List Cond := [Cond.fieldLink RX5 10 "GongTide" "page" "LGongTide$Page;", Cond.fieldLink RX5 65 "GongTide" "houseCount" "I", Cond.fieldLink RX5 23 "GongTide" "affairs" "LGongTide$Affairs;", Cond.fieldLink RX5 16 "GongTide" "kinds" "[I", Cond.fieldLink RX5 86 "GongTide$Affairs" "strokes" "LGongTide$Strokes;", Cond.fieldLink RX5 96 "GongTide" "isKept" "Z", Cond.fieldLink RX5 100 "GongTide" "readings" "I", Cond.methodLink RX5 58 yX2_tellsColony, Cond.instanceMethod yX2_tellsColony, Cond.selects RX2 yX2_tellsColony yX2_tellsColony, Cond.initialized RX2, Cond.code yX2_tellsColony cX2_tellsColony 3 (some .boolean), Cond.fieldLink RX2 15 "GongTide$Page" "size" "I", Cond.methodLink RX2 27 yX2_houses, Cond.instanceMethod yX2_houses, Cond.selects RX2 yX2_houses yX2_houses, Cond.code yX2_houses cX2_houses 2 (some .int), Cond.methodLink RX2 23 yX2_at, Cond.instanceMethod yX2_at, Cond.selects RX2 yX2_at yX2_at, Cond.code yX2_at cX2_at 2 (some .int), Cond.fieldLink RX2 9 "GongTide$Page" "codes" "[I", Cond.static yX5_isWithin, Cond.initialized RX5]
def wsX5_colony_r2 : List Cond := [Cond.code yX5_isWithin cX5_isWithin 3 (some .boolean), Cond.methodLink RX2 38 yX2_soundLetters, Cond.instanceMethod yX2_soundLetters, Cond.selects RX2 yX2_soundLetters yX2_soundLetters, Cond.code yX2_soundLetters cX2_soundLetters 5 (some .int), Cond.methodLink RX2 31 yX2_suitsHouses, Cond.static yX2_suitsHouses, Cond.code yX2_suitsHouses cX2_suitsHouses 3 (some .boolean), Cond.static yX5_kindOf, Cond.code yX5_kindOf cX5_kindOf 1 (some .int), Cond.methodLink RX2 35 yX2_suitsStrokes, Cond.static yX2_suitsStrokes, Cond.code yX2_suitsStrokes cX2_suitsStrokes 3 (some .boolean), Cond.methodLink RX5 62 yX2_houses, Cond.methodLink RX5 69 yX0_clear, Cond.instanceMethod yX0_clear, Cond.selects RX0 yX0_clear yX0_clear, Cond.initialized RX0, Cond.code yX0_clear cX0_clear 1 none, Cond.fieldLink RX0 18 "GongTide$Affairs" "strokes" "LGongTide$Strokes;", Cond.fieldLink RX0 25 "GongTide$Affairs" "heard" "LGongTide$Heard;", Cond.fieldLink RX0 35 "GongTide$Affairs" "changes" "I", Cond.methodLink RX0 29 yX3_clear, Cond.instanceMethod yX3_clear]
def wsX5_colony_r3 : List Cond := [Cond.selects RX3 yX3_clear yX3_clear, Cond.initialized RX3, Cond.code yX3_clear cX3_clear 1 none, Cond.fieldLink RX3 18 "GongTide$Strokes" "size" "I", Cond.methodLink RX0 32 yX1_clear, Cond.instanceMethod yX1_clear, Cond.selects RX1 yX1_clear yX1_clear, Cond.initialized RX1, Cond.code yX1_clear cX1_clear 2 (some .int), Cond.fieldLink RX1 24 "GongTide$Heard" "size" "I", Cond.methodLink RX5 72 yX2_at, Cond.methodLink RX5 76 yX5_kindOf, Cond.methodLink RX5 79 yX2_digitAt, Cond.instanceMethod yX2_digitAt, Cond.selects RX2 yX2_digitAt yX2_digitAt, Cond.code yX2_digitAt cX2_digitAt 2 (some .int), Cond.methodLink RX5 82 yX0_setLevel, Cond.instanceMethod yX0_setLevel, Cond.selects RX0 yX0_setLevel yX0_setLevel, Cond.code yX0_setLevel cX0_setLevel 3 none, Cond.fieldLink RX0 9 "GongTide$Affairs" "levels" "[I", Cond.methodLink RX5 48 yX2_size, Cond.instanceMethod yX2_size, Cond.selects RX2 yX2_size yX2_size]
def wsX5_colony_r4 : List Cond := [Cond.code yX2_size cX2_size 1 (some .int), Cond.methodLink RX5 90 yX3_add, Cond.instanceMethod yX3_add, Cond.selects RX3 yX3_add yX3_add, Cond.code yX3_add cX3_add 3 (some .boolean), Cond.fieldLink RX3 9 "GongTide$Strokes" "hours" "[I", Cond.fieldLink RX3 15 "GongTide$Strokes" "louds" "[I", Cond.methodLink RX5 52 yX2_wipe, Cond.instanceMethod yX2_wipe, Cond.selects RX2 yX2_wipe yX2_wipe, Cond.code yX2_wipe cX2_wipe 2 (some .int)]
def wsX5_colony : List Cond := .code yX5_colony cX5_colony 3 (some .int) :: ((wsX5_colony_r1 ++ (wsX5_colony_r2 ++ (wsX5_colony_r3 ++ wsX5_colony_r4))) ++ wsX50 ++ wsX00 ++ wsX20 ++ wsX30 ++ wsX10)
def wsX5_isHouse : List Cond := .code yX5_isHouse cX5_isHouse 2 (some .boolean) :: ([.fieldLink RX5 65 "GongTide" "houseCount" "I", .methodLink RX5 40 yX5_isWithin, .static yX5_isWithin, .initialized RX5, .code yX5_isWithin cX5_isWithin 3 (some .boolean)] ++ wsX50)
def wsX5_tideNow_r1 : List Cond := [Cond.fieldLink RX5 33 "GongTide" "now" "LGongTide$Tide;", Cond.fieldLink RX5 23 "GongTide" "affairs" "LGongTide$Affairs;", Cond.fieldLink RX5 86 "GongTide$Affairs" "strokes" "LGongTide$Strokes;", Cond.methodLink RX5 241 yX4_clear, Cond.instanceMethod yX4_clear, Cond.selects RX4 yX4_clear yX4_clear, Cond.initialized RX4, Cond.code yX4_clear cX4_clear 2 none, Cond.fieldLink RX4 9 "GongTide$Tide" "sums" "[I", Cond.methodLink RX5 141 yX3_size, Cond.instanceMethod yX3_size, Cond.selects RX3 yX3_size yX3_size, Cond.initialized RX3, Cond.code yX3_size cX3_size 1 (some .int), Cond.fieldLink RX3 18 "GongTide$Strokes" "size" "I", Cond.methodLink RX5 151 yX3_hour, Cond.instanceMethod yX3_hour, Cond.selects RX3 yX3_hour yX3_hour, Cond.code yX3_hour cX3_hour 2 (some .int), Cond.fieldLink RX3 9 "GongTide$Strokes" "hours" "[I", Cond.methodLink RX3 26 yX3_has, Cond.instanceMethod yX3_has, Cond.selects RX3 yX3_has yX3_has, Cond.code yX3_has cX3_has 2 (some .boolean)]
def wsX5_tideNow_r2 : List Cond := [Cond.static yX5_isWithin, Cond.initialized RX5, Cond.code yX5_isWithin cX5_isWithin 3 (some .boolean), Cond.methodLink RX5 145 yX3_loud, Cond.instanceMethod yX3_loud, Cond.selects RX3 yX3_loud yX3_loud, Cond.code yX3_loud cX3_loud 2 (some .int), Cond.fieldLink RX3 15 "GongTide$Strokes" "louds" "[I", Cond.methodLink RX5 242 yX4_add, Cond.instanceMethod yX4_add, Cond.selects RX4 yX4_add yX4_add, Cond.code yX4_add cX4_add 5 none, Cond.methodLink RX4 15 Lib.Math.max.name, Cond.static Lib.Math.max.name, Cond.initialized "java/lang/Math", Cond.code Lib.Math.max.name Lib.Math.max.code 2 (some .int)]
def wsX5_tideNow : List Cond := .code yX5_tideNow cX5_tideNow 3 (some (.object "GongTide$Tide")) :: ((wsX5_tideNow_r1 ++ wsX5_tideNow_r2) ++ wsX50 ++ wsX00 ++ wsX40 ++ wsX30)
def wsX5_kindAt : List Cond := .code yX5_kindAt cX5_kindAt 2 (some .int) :: ([.fieldLink RX5 16 "GongTide" "kinds" "[I", .methodLink RX5 40 yX5_isWithin, .static yX5_isWithin, .initialized RX5, .code yX5_isWithin cX5_isWithin 3 (some .boolean)] ++ wsX50)
def wsX5_above : List Cond := .code yX5_above cX5_above 2 (some .int) :: ([.methodLink RX5 254 Lib.Math.max.name, .static Lib.Math.max.name, .initialized "java/lang/Math", .code Lib.Math.max.name Lib.Math.max.code 2 (some .int)])
def wsX5_mannersAt_r1 : List Cond := [Cond.fieldLink RX5 23 "GongTide" "affairs" "LGongTide$Affairs;", Cond.methodLink RX5 254 Lib.Math.max.name, Cond.static Lib.Math.max.name, Cond.initialized "java/lang/Math", Cond.code Lib.Math.max.name Lib.Math.max.code 2 (some .int), Cond.methodLink RX5 262 Lib.Math.min.name, Cond.static Lib.Math.min.name, Cond.code Lib.Math.min.name Lib.Math.min.code 2 (some .int), Cond.methodLink RX5 113 yX0_level, Cond.instanceMethod yX0_level, Cond.selects RX0 yX0_level yX0_level, Cond.initialized RX0, Cond.code yX0_level cX0_level 2 (some .int), Cond.fieldLink RX0 9 "GongTide$Affairs" "levels" "[I", Cond.static yX5_isWithin, Cond.initialized RX5, Cond.code yX5_isWithin cX5_isWithin 3 (some .boolean), Cond.methodLink RX5 110 yX5_kindAt, Cond.instanceMethod yX5_kindAt, Cond.selects RX5 yX5_kindAt yX5_kindAt, Cond.code yX5_kindAt cX5_kindAt 2 (some .int), Cond.fieldLink RX5 16 "GongTide" "kinds" "[I", Cond.methodLink RX5 40 yX5_isWithin, Cond.methodLink RX5 137 yX4_at]
def wsX5_mannersAt_r2 : List Cond := [Cond.instanceMethod yX4_at, Cond.selects RX4 yX4_at yX4_at, Cond.initialized RX4, Cond.code yX4_at cX4_at 2 (some .int), Cond.fieldLink RX4 9 "GongTide$Tide" "sums" "[I", Cond.methodLink RX4 21 Lib.Math.min.name, Cond.methodLink RX5 259 yX5_above, Cond.static yX5_above, Cond.code yX5_above cX5_above 2 (some .int)]
def wsX5_mannersAt : List Cond := .code yX5_mannersAt cX5_mannersAt 6 (some .int) :: ((wsX5_mannersAt_r1 ++ wsX5_mannersAt_r2) ++ wsX50 ++ wsX00 ++ wsX40)
def wsX5_howAt : List Cond := .code yX5_howAt cX5_howAt 1 (some .int) :: ([])
def wsX5_hoursOf_r1 : List Cond := [Cond.methodLink RX5 124 yX5_mannersAt, Cond.instanceMethod yX5_mannersAt, Cond.selects RX5 yX5_mannersAt yX5_mannersAt, Cond.initialized RX5, Cond.code yX5_mannersAt cX5_mannersAt 6 (some .int), Cond.fieldLink RX5 23 "GongTide" "affairs" "LGongTide$Affairs;", Cond.methodLink RX5 254 Lib.Math.max.name, Cond.static Lib.Math.max.name, Cond.initialized "java/lang/Math", Cond.code Lib.Math.max.name Lib.Math.max.code 2 (some .int), Cond.methodLink RX5 262 Lib.Math.min.name, Cond.static Lib.Math.min.name, Cond.code Lib.Math.min.name Lib.Math.min.code 2 (some .int), Cond.methodLink RX5 113 yX0_level, Cond.instanceMethod yX0_level, Cond.selects RX0 yX0_level yX0_level, Cond.initialized RX0, Cond.code yX0_level cX0_level 2 (some .int), Cond.fieldLink RX0 9 "GongTide$Affairs" "levels" "[I", Cond.static yX5_isWithin, Cond.code yX5_isWithin cX5_isWithin 3 (some .boolean), Cond.methodLink RX5 110 yX5_kindAt, Cond.instanceMethod yX5_kindAt, Cond.selects RX5 yX5_kindAt yX5_kindAt]
def wsX5_hoursOf_r2 : List Cond := [Cond.code yX5_kindAt cX5_kindAt 2 (some .int), Cond.fieldLink RX5 16 "GongTide" "kinds" "[I", Cond.methodLink RX5 40 yX5_isWithin, Cond.methodLink RX5 137 yX4_at, Cond.instanceMethod yX4_at, Cond.selects RX4 yX4_at yX4_at, Cond.initialized RX4, Cond.code yX4_at cX4_at 2 (some .int), Cond.fieldLink RX4 9 "GongTide$Tide" "sums" "[I", Cond.methodLink RX4 21 Lib.Math.min.name, Cond.methodLink RX5 259 yX5_above, Cond.static yX5_above, Cond.code yX5_above cX5_above 2 (some .int), Cond.methodLink RX5 265 yX5_howAt, Cond.static yX5_howAt, Cond.code yX5_howAt cX5_howAt 1 (some .int)]
def wsX5_hoursOf : List Cond := .code yX5_hoursOf cX5_hoursOf 6 (some .int) :: ((wsX5_hoursOf_r1 ++ wsX5_hoursOf_r2) ++ wsX50 ++ wsX00 ++ wsX40)
def wsX5_hourOfMostManners_r1 : List Cond := [Cond.methodLink RX5 124 yX5_mannersAt, Cond.instanceMethod yX5_mannersAt, Cond.selects RX5 yX5_mannersAt yX5_mannersAt, Cond.initialized RX5, Cond.code yX5_mannersAt cX5_mannersAt 6 (some .int), Cond.fieldLink RX5 23 "GongTide" "affairs" "LGongTide$Affairs;", Cond.methodLink RX5 254 Lib.Math.max.name, Cond.static Lib.Math.max.name, Cond.initialized "java/lang/Math", Cond.code Lib.Math.max.name Lib.Math.max.code 2 (some .int), Cond.methodLink RX5 262 Lib.Math.min.name, Cond.static Lib.Math.min.name, Cond.code Lib.Math.min.name Lib.Math.min.code 2 (some .int), Cond.methodLink RX5 113 yX0_level, Cond.instanceMethod yX0_level, Cond.selects RX0 yX0_level yX0_level, Cond.initialized RX0, Cond.code yX0_level cX0_level 2 (some .int), Cond.fieldLink RX0 9 "GongTide$Affairs" "levels" "[I", Cond.static yX5_isWithin, Cond.code yX5_isWithin cX5_isWithin 3 (some .boolean), Cond.methodLink RX5 110 yX5_kindAt, Cond.instanceMethod yX5_kindAt, Cond.selects RX5 yX5_kindAt yX5_kindAt]
def wsX5_hourOfMostManners_r2 : List Cond := [Cond.code yX5_kindAt cX5_kindAt 2 (some .int), Cond.fieldLink RX5 16 "GongTide" "kinds" "[I", Cond.methodLink RX5 40 yX5_isWithin, Cond.methodLink RX5 137 yX4_at, Cond.instanceMethod yX4_at, Cond.selects RX4 yX4_at yX4_at, Cond.initialized RX4, Cond.code yX4_at cX4_at 2 (some .int), Cond.fieldLink RX4 9 "GongTide$Tide" "sums" "[I", Cond.methodLink RX4 21 Lib.Math.min.name, Cond.methodLink RX5 259 yX5_above, Cond.static yX5_above, Cond.code yX5_above cX5_above 2 (some .int)]
def wsX5_hourOfMostManners : List Cond := .code yX5_hourOfMostManners cX5_hourOfMostManners 5 (some .int) :: ((wsX5_hourOfMostManners_r1 ++ wsX5_hourOfMostManners_r2) ++ wsX50 ++ wsX00 ++ wsX40)
def wsX5_about_r1 : List Cond := [Cond.fieldLink RX5 23 "GongTide" "affairs" "LGongTide$Affairs;", Cond.methodLink RX5 103 yX5_isHouse, Cond.instanceMethod yX5_isHouse, Cond.selects RX5 yX5_isHouse yX5_isHouse, Cond.initialized RX5, Cond.code yX5_isHouse cX5_isHouse 2 (some .boolean), Cond.fieldLink RX5 65 "GongTide" "houseCount" "I", Cond.methodLink RX5 40 yX5_isWithin, Cond.static yX5_isWithin, Cond.code yX5_isWithin cX5_isWithin 3 (some .boolean), Cond.methodLink RX5 106 yX5_tideNow, Cond.instanceMethod yX5_tideNow, Cond.selects RX5 yX5_tideNow yX5_tideNow, Cond.code yX5_tideNow cX5_tideNow 3 (some (.object "GongTide$Tide")), Cond.fieldLink RX5 33 "GongTide" "now" "LGongTide$Tide;", Cond.fieldLink RX5 86 "GongTide$Affairs" "strokes" "LGongTide$Strokes;", Cond.methodLink RX5 241 yX4_clear, Cond.instanceMethod yX4_clear, Cond.selects RX4 yX4_clear yX4_clear, Cond.initialized RX4, Cond.code yX4_clear cX4_clear 2 none, Cond.fieldLink RX4 9 "GongTide$Tide" "sums" "[I", Cond.methodLink RX5 141 yX3_size, Cond.instanceMethod yX3_size]
def wsX5_about_r2 : List Cond := [Cond.selects RX3 yX3_size yX3_size, Cond.initialized RX3, Cond.code yX3_size cX3_size 1 (some .int), Cond.fieldLink RX3 18 "GongTide$Strokes" "size" "I", Cond.methodLink RX5 151 yX3_hour, Cond.instanceMethod yX3_hour, Cond.selects RX3 yX3_hour yX3_hour, Cond.code yX3_hour cX3_hour 2 (some .int), Cond.fieldLink RX3 9 "GongTide$Strokes" "hours" "[I", Cond.methodLink RX3 26 yX3_has, Cond.instanceMethod yX3_has, Cond.selects RX3 yX3_has yX3_has, Cond.code yX3_has cX3_has 2 (some .boolean), Cond.methodLink RX5 145 yX3_loud, Cond.instanceMethod yX3_loud, Cond.selects RX3 yX3_loud yX3_loud, Cond.code yX3_loud cX3_loud 2 (some .int), Cond.fieldLink RX3 15 "GongTide$Strokes" "louds" "[I", Cond.methodLink RX5 242 yX4_add, Cond.instanceMethod yX4_add, Cond.selects RX4 yX4_add yX4_add, Cond.code yX4_add cX4_add 5 none, Cond.methodLink RX4 15 Lib.Math.max.name, Cond.static Lib.Math.max.name]
def wsX5_about_r3 : List Cond := [Cond.initialized "java/lang/Math", Cond.code Lib.Math.max.name Lib.Math.max.code 2 (some .int), Cond.methodLink RX5 110 yX5_kindAt, Cond.instanceMethod yX5_kindAt, Cond.selects RX5 yX5_kindAt yX5_kindAt, Cond.code yX5_kindAt cX5_kindAt 2 (some .int), Cond.fieldLink RX5 16 "GongTide" "kinds" "[I", Cond.methodLink RX5 113 yX0_level, Cond.instanceMethod yX0_level, Cond.selects RX0 yX0_level yX0_level, Cond.initialized RX0, Cond.code yX0_level cX0_level 2 (some .int), Cond.fieldLink RX0 9 "GongTide$Affairs" "levels" "[I", Cond.methodLink RX5 116 yX5_hoursOf, Cond.instanceMethod yX5_hoursOf, Cond.selects RX5 yX5_hoursOf yX5_hoursOf, Cond.code yX5_hoursOf cX5_hoursOf 6 (some .int), Cond.methodLink RX5 124 yX5_mannersAt, Cond.instanceMethod yX5_mannersAt, Cond.selects RX5 yX5_mannersAt yX5_mannersAt, Cond.code yX5_mannersAt cX5_mannersAt 6 (some .int), Cond.methodLink RX5 254 Lib.Math.max.name, Cond.methodLink RX5 262 Lib.Math.min.name, Cond.static Lib.Math.min.name]
def wsX5_about_r4 : List Cond := [Cond.code Lib.Math.min.name Lib.Math.min.code 2 (some .int), Cond.methodLink RX5 137 yX4_at, Cond.instanceMethod yX4_at, Cond.selects RX4 yX4_at yX4_at, Cond.code yX4_at cX4_at 2 (some .int), Cond.methodLink RX4 21 Lib.Math.min.name, Cond.methodLink RX5 259 yX5_above, Cond.static yX5_above, Cond.code yX5_above cX5_above 2 (some .int), Cond.methodLink RX5 265 yX5_howAt, Cond.static yX5_howAt, Cond.code yX5_howAt cX5_howAt 1 (some .int), Cond.methodLink RX5 120 yX5_hourOfMostManners, Cond.instanceMethod yX5_hourOfMostManners, Cond.selects RX5 yX5_hourOfMostManners yX5_hourOfMostManners, Cond.code yX5_hourOfMostManners cX5_hourOfMostManners 5 (some .int)]
def wsX5_about : List Cond := .code yX5_about cX5_about 4 (some .int) :: ((wsX5_about_r1 ++ (wsX5_about_r2 ++ (wsX5_about_r3 ++ wsX5_about_r4))) ++ wsX50 ++ wsX00 ++ wsX40 ++ wsX30)
def wsX5_as : List Cond := .code yX5_as cX5_as 5 (some .int) :: ([.methodLink RX5 103 yX5_isHouse, .instanceMethod yX5_isHouse, .selects RX5 yX5_isHouse yX5_isHouse, .initialized RX5, .code yX5_isHouse cX5_isHouse 2 (some .boolean), .fieldLink RX5 65 "GongTide" "houseCount" "I", .methodLink RX5 40 yX5_isWithin, .static yX5_isWithin, .code yX5_isWithin cX5_isWithin 3 (some .boolean), .methodLink RX5 110 yX5_kindAt, .instanceMethod yX5_kindAt, .selects RX5 yX5_kindAt yX5_kindAt, .code yX5_kindAt cX5_kindAt 2 (some .int), .fieldLink RX5 16 "GongTide" "kinds" "[I"] ++ wsX50)
def wsX5_raise : List Cond := .code yX5_raise cX5_raise 4 (some .int) :: ([.fieldLink RX5 23 "GongTide" "affairs" "LGongTide$Affairs;", .fieldLink RX5 128 "GongTide$Affairs" "changes" "I", .methodLink RX5 103 yX5_isHouse, .instanceMethod yX5_isHouse, .selects RX5 yX5_isHouse yX5_isHouse, .initialized RX5, .code yX5_isHouse cX5_isHouse 2 (some .boolean), .fieldLink RX5 65 "GongTide" "houseCount" "I", .methodLink RX5 40 yX5_isWithin, .static yX5_isWithin, .code yX5_isWithin cX5_isWithin 3 (some .boolean), .methodLink RX5 113 yX0_level, .instanceMethod yX0_level, .selects RX0 yX0_level yX0_level, .initialized RX0, .code yX0_level cX0_level 2 (some .int), .fieldLink RX0 9 "GongTide$Affairs" "levels" "[I", .methodLink RX5 82 yX0_setLevel, .instanceMethod yX0_setLevel, .selects RX0 yX0_setLevel yX0_setLevel, .code yX0_setLevel cX0_setLevel 3 none] ++ wsX50 ++ wsX00)
def wsX5_isHourOfDay : List Cond := .code yX5_isHourOfDay cX5_isHourOfDay 1 (some .boolean) :: ([.methodLink RX5 40 yX5_isWithin, .static yX5_isWithin, .initialized RX5, .code yX5_isWithin cX5_isWithin 3 (some .boolean)])
def wsX5_hasColony : List Cond := .code yX5_hasColony cX5_hasColony 1 (some .boolean) :: ([.fieldLink RX5 65 "GongTide" "houseCount" "I"] ++ wsX50)
def wsX5_tide_r1 : List Cond := [Cond.methodLink RX5 131 yX5_isHourOfDay, Cond.static yX5_isHourOfDay, Cond.initialized RX5, Cond.code yX5_isHourOfDay cX5_isHourOfDay 1 (some .boolean), Cond.methodLink RX5 40 yX5_isWithin, Cond.static yX5_isWithin, Cond.code yX5_isWithin cX5_isWithin 3 (some .boolean), Cond.methodLink RX5 134 yX5_hasColony, Cond.instanceMethod yX5_hasColony, Cond.selects RX5 yX5_hasColony yX5_hasColony, Cond.code yX5_hasColony cX5_hasColony 1 (some .boolean), Cond.fieldLink RX5 65 "GongTide" "houseCount" "I", Cond.methodLink RX5 106 yX5_tideNow, Cond.instanceMethod yX5_tideNow, Cond.selects RX5 yX5_tideNow yX5_tideNow, Cond.code yX5_tideNow cX5_tideNow 3 (some (.object "GongTide$Tide")), Cond.fieldLink RX5 33 "GongTide" "now" "LGongTide$Tide;", Cond.fieldLink RX5 23 "GongTide" "affairs" "LGongTide$Affairs;", Cond.fieldLink RX5 86 "GongTide$Affairs" "strokes" "LGongTide$Strokes;", Cond.methodLink RX5 241 yX4_clear, Cond.instanceMethod yX4_clear, Cond.selects RX4 yX4_clear yX4_clear, Cond.initialized RX4, Cond.code yX4_clear cX4_clear 2 none]
def wsX5_tide_r2 : List Cond := [Cond.fieldLink RX4 9 "GongTide$Tide" "sums" "[I", Cond.methodLink RX5 141 yX3_size, Cond.instanceMethod yX3_size, Cond.selects RX3 yX3_size yX3_size, Cond.initialized RX3, Cond.code yX3_size cX3_size 1 (some .int), Cond.fieldLink RX3 18 "GongTide$Strokes" "size" "I", Cond.methodLink RX5 151 yX3_hour, Cond.instanceMethod yX3_hour, Cond.selects RX3 yX3_hour yX3_hour, Cond.code yX3_hour cX3_hour 2 (some .int), Cond.fieldLink RX3 9 "GongTide$Strokes" "hours" "[I", Cond.methodLink RX3 26 yX3_has, Cond.instanceMethod yX3_has, Cond.selects RX3 yX3_has yX3_has, Cond.code yX3_has cX3_has 2 (some .boolean), Cond.methodLink RX5 145 yX3_loud, Cond.instanceMethod yX3_loud, Cond.selects RX3 yX3_loud yX3_loud, Cond.code yX3_loud cX3_loud 2 (some .int), Cond.fieldLink RX3 15 "GongTide$Strokes" "louds" "[I", Cond.methodLink RX5 242 yX4_add, Cond.instanceMethod yX4_add, Cond.selects RX4 yX4_add yX4_add]
def wsX5_tide_r3 : List Cond := [Cond.code yX4_add cX4_add 5 none, Cond.methodLink RX4 15 Lib.Math.max.name, Cond.static Lib.Math.max.name, Cond.initialized "java/lang/Math", Cond.code Lib.Math.max.name Lib.Math.max.code 2 (some .int), Cond.methodLink RX5 137 yX4_at, Cond.instanceMethod yX4_at, Cond.selects RX4 yX4_at yX4_at, Cond.code yX4_at cX4_at 2 (some .int), Cond.methodLink RX4 21 Lib.Math.min.name, Cond.static Lib.Math.min.name, Cond.code Lib.Math.min.name Lib.Math.min.code 2 (some .int)]
def wsX5_tide : List Cond := .code yX5_tide cX5_tide 2 (some .int) :: ((wsX5_tide_r1 ++ (wsX5_tide_r2 ++ wsX5_tide_r3)) ++ wsX50 ++ wsX00 ++ wsX40 ++ wsX30)
def wsX5_isHeardLoud : List Cond := .code yX5_isHeardLoud cX5_isHeardLoud 1 (some .boolean) :: ([.methodLink RX5 40 yX5_isWithin, .static yX5_isWithin, .initialized RX5, .code yX5_isWithin cX5_isWithin 3 (some .boolean)])
def wsX5_strike_r1 : List Cond := [Cond.fieldLink RX5 23 "GongTide" "affairs" "LGongTide$Affairs;", Cond.fieldLink RX5 86 "GongTide$Affairs" "strokes" "LGongTide$Strokes;", Cond.fieldLink RX5 128 "GongTide$Affairs" "changes" "I", Cond.methodLink RX5 40 yX5_isWithin, Cond.static yX5_isWithin, Cond.initialized RX5, Cond.code yX5_isWithin cX5_isWithin 3 (some .boolean), Cond.methodLink RX5 138 yX5_isHeardLoud, Cond.static yX5_isHeardLoud, Cond.code yX5_isHeardLoud cX5_isHeardLoud 1 (some .boolean), Cond.methodLink RX5 134 yX5_hasColony, Cond.instanceMethod yX5_hasColony, Cond.selects RX5 yX5_hasColony yX5_hasColony, Cond.code yX5_hasColony cX5_hasColony 1 (some .boolean), Cond.fieldLink RX5 65 "GongTide" "houseCount" "I", Cond.methodLink RX5 90 yX3_add, Cond.instanceMethod yX3_add, Cond.selects RX3 yX3_add yX3_add, Cond.initialized RX3, Cond.code yX3_add cX3_add 3 (some .boolean), Cond.fieldLink RX3 18 "GongTide$Strokes" "size" "I", Cond.fieldLink RX3 9 "GongTide$Strokes" "hours" "[I", Cond.fieldLink RX3 15 "GongTide$Strokes" "louds" "[I", Cond.methodLink RX5 141 yX3_size]
def wsX5_strike_r2 : List Cond := [Cond.instanceMethod yX3_size, Cond.selects RX3 yX3_size yX3_size, Cond.code yX3_size cX3_size 1 (some .int)]
def wsX5_strike : List Cond := .code yX5_strike cX5_strike 3 (some .int) :: ((wsX5_strike_r1 ++ wsX5_strike_r2) ++ wsX50 ++ wsX00 ++ wsX30)
def wsX5_felt : List Cond := .code yX5_felt cX5_felt 4 (some .int) :: ([.fieldLink RX5 23 "GongTide" "affairs" "LGongTide$Affairs;", .fieldLink RX5 86 "GongTide$Affairs" "strokes" "LGongTide$Strokes;", .fieldLink RX5 128 "GongTide$Affairs" "changes" "I", .methodLink RX5 142 yX3_has, .instanceMethod yX3_has, .selects RX3 yX3_has yX3_has, .initialized RX3, .code yX3_has cX3_has 2 (some .boolean), .fieldLink RX3 18 "GongTide$Strokes" "size" "I", .static yX5_isWithin, .initialized RX5, .code yX5_isWithin cX5_isWithin 3 (some .boolean), .methodLink RX5 40 yX5_isWithin, .methodLink RX5 145 yX3_loud, .instanceMethod yX3_loud, .selects RX3 yX3_loud yX3_loud, .code yX3_loud cX3_loud 2 (some .int), .fieldLink RX3 15 "GongTide$Strokes" "louds" "[I", .methodLink RX3 26 yX3_has, .methodLink RX5 148 yX3_setLoud, .instanceMethod yX3_setLoud, .selects RX3 yX3_setLoud yX3_setLoud, .code yX3_setLoud cX3_setLoud 3 none] ++ wsX50 ++ wsX00 ++ wsX30)
def wsX5_stroke_r1 : List Cond := [Cond.fieldLink RX5 23 "GongTide" "affairs" "LGongTide$Affairs;", Cond.fieldLink RX5 86 "GongTide$Affairs" "strokes" "LGongTide$Strokes;", Cond.methodLink RX5 142 yX3_has, Cond.instanceMethod yX3_has, Cond.selects RX3 yX3_has yX3_has, Cond.initialized RX3, Cond.code yX3_has cX3_has 2 (some .boolean), Cond.fieldLink RX3 18 "GongTide$Strokes" "size" "I", Cond.static yX5_isWithin, Cond.initialized RX5, Cond.code yX5_isWithin cX5_isWithin 3 (some .boolean), Cond.methodLink RX5 151 yX3_hour, Cond.instanceMethod yX3_hour, Cond.selects RX3 yX3_hour yX3_hour, Cond.code yX3_hour cX3_hour 2 (some .int), Cond.fieldLink RX3 9 "GongTide$Strokes" "hours" "[I", Cond.methodLink RX3 26 yX3_has, Cond.methodLink RX5 145 yX3_loud, Cond.instanceMethod yX3_loud, Cond.selects RX3 yX3_loud yX3_loud, Cond.code yX3_loud cX3_loud 2 (some .int), Cond.fieldLink RX3 15 "GongTide$Strokes" "louds" "[I", Cond.methodLink RX5 154 yX3_goneAt, Cond.instanceMethod yX3_goneAt]
def wsX5_stroke_r2 : List Cond := [Cond.selects RX3 yX3_goneAt yX3_goneAt, Cond.code yX3_goneAt cX3_goneAt 3 (some .int), Cond.methodLink RX3 30 yX3_hour, Cond.methodLink RX3 34 yX3_loud]
def wsX5_stroke : List Cond := .code yX5_stroke cX5_stroke 3 (some .int) :: ((wsX5_stroke_r1 ++ wsX5_stroke_r2) ++ wsX50 ++ wsX00 ++ wsX30)
def wsX5_allHouses : List Cond := .code yX5_allHouses cX5_allHouses 1 (some .int) :: ([.fieldLink RX5 65 "GongTide" "houseCount" "I"] ++ wsX50)
def wsX5_canDine_r1 : List Cond := [Cond.fieldLink RX5 65 "GongTide" "houseCount" "I", Cond.methodLink RX5 124 yX5_mannersAt, Cond.instanceMethod yX5_mannersAt, Cond.selects RX5 yX5_mannersAt yX5_mannersAt, Cond.initialized RX5, Cond.code yX5_mannersAt cX5_mannersAt 6 (some .int), Cond.fieldLink RX5 23 "GongTide" "affairs" "LGongTide$Affairs;", Cond.methodLink RX5 254 Lib.Math.max.name, Cond.static Lib.Math.max.name, Cond.initialized "java/lang/Math", Cond.code Lib.Math.max.name Lib.Math.max.code 2 (some .int), Cond.methodLink RX5 262 Lib.Math.min.name, Cond.static Lib.Math.min.name, Cond.code Lib.Math.min.name Lib.Math.min.code 2 (some .int), Cond.methodLink RX5 113 yX0_level, Cond.instanceMethod yX0_level, Cond.selects RX0 yX0_level yX0_level, Cond.initialized RX0, Cond.code yX0_level cX0_level 2 (some .int), Cond.fieldLink RX0 9 "GongTide$Affairs" "levels" "[I", Cond.static yX5_isWithin, Cond.code yX5_isWithin cX5_isWithin 3 (some .boolean), Cond.methodLink RX5 110 yX5_kindAt, Cond.instanceMethod yX5_kindAt]
def wsX5_canDine_r2 : List Cond := [Cond.selects RX5 yX5_kindAt yX5_kindAt, Cond.code yX5_kindAt cX5_kindAt 2 (some .int), Cond.fieldLink RX5 16 "GongTide" "kinds" "[I", Cond.methodLink RX5 40 yX5_isWithin, Cond.methodLink RX5 137 yX4_at, Cond.instanceMethod yX4_at, Cond.selects RX4 yX4_at yX4_at, Cond.initialized RX4, Cond.code yX4_at cX4_at 2 (some .int), Cond.fieldLink RX4 9 "GongTide$Tide" "sums" "[I", Cond.methodLink RX4 21 Lib.Math.min.name, Cond.methodLink RX5 259 yX5_above, Cond.static yX5_above, Cond.code yX5_above cX5_above 2 (some .int), Cond.methodLink RX5 265 yX5_howAt, Cond.static yX5_howAt, Cond.code yX5_howAt cX5_howAt 1 (some .int)]
def wsX5_canDine : List Cond := .code yX5_canDine cX5_canDine 8 (some .boolean) :: ((wsX5_canDine_r1 ++ wsX5_canDine_r2) ++ wsX50 ++ wsX00 ++ wsX40)
def wsX5_dinner_r1 : List Cond := [Cond.methodLink RX5 157 yX5_allHouses, Cond.instanceMethod yX5_allHouses, Cond.selects RX5 yX5_allHouses yX5_allHouses, Cond.initialized RX5, Cond.code yX5_allHouses cX5_allHouses 1 (some .int), Cond.fieldLink RX5 65 "GongTide" "houseCount" "I", Cond.methodLink RX5 40 yX5_isWithin, Cond.static yX5_isWithin, Cond.code yX5_isWithin cX5_isWithin 3 (some .boolean), Cond.methodLink RX5 106 yX5_tideNow, Cond.instanceMethod yX5_tideNow, Cond.selects RX5 yX5_tideNow yX5_tideNow, Cond.code yX5_tideNow cX5_tideNow 3 (some (.object "GongTide$Tide")), Cond.fieldLink RX5 33 "GongTide" "now" "LGongTide$Tide;", Cond.fieldLink RX5 23 "GongTide" "affairs" "LGongTide$Affairs;", Cond.fieldLink RX5 86 "GongTide$Affairs" "strokes" "LGongTide$Strokes;", Cond.methodLink RX5 241 yX4_clear, Cond.instanceMethod yX4_clear, Cond.selects RX4 yX4_clear yX4_clear, Cond.initialized RX4, Cond.code yX4_clear cX4_clear 2 none, Cond.fieldLink RX4 9 "GongTide$Tide" "sums" "[I", Cond.methodLink RX5 141 yX3_size, Cond.instanceMethod yX3_size]
def wsX5_dinner_r2 : List Cond := [Cond.selects RX3 yX3_size yX3_size, Cond.initialized RX3, Cond.code yX3_size cX3_size 1 (some .int), Cond.fieldLink RX3 18 "GongTide$Strokes" "size" "I", Cond.methodLink RX5 151 yX3_hour, Cond.instanceMethod yX3_hour, Cond.selects RX3 yX3_hour yX3_hour, Cond.code yX3_hour cX3_hour 2 (some .int), Cond.fieldLink RX3 9 "GongTide$Strokes" "hours" "[I", Cond.methodLink RX3 26 yX3_has, Cond.instanceMethod yX3_has, Cond.selects RX3 yX3_has yX3_has, Cond.code yX3_has cX3_has 2 (some .boolean), Cond.methodLink RX5 145 yX3_loud, Cond.instanceMethod yX3_loud, Cond.selects RX3 yX3_loud yX3_loud, Cond.code yX3_loud cX3_loud 2 (some .int), Cond.fieldLink RX3 15 "GongTide$Strokes" "louds" "[I", Cond.methodLink RX5 242 yX4_add, Cond.instanceMethod yX4_add, Cond.selects RX4 yX4_add yX4_add, Cond.code yX4_add cX4_add 5 none, Cond.methodLink RX4 15 Lib.Math.max.name, Cond.static Lib.Math.max.name]
def wsX5_dinner_r3 : List Cond := [Cond.initialized "java/lang/Math", Cond.code Lib.Math.max.name Lib.Math.max.code 2 (some .int), Cond.methodLink RX5 160 yX5_canDine, Cond.instanceMethod yX5_canDine, Cond.selects RX5 yX5_canDine yX5_canDine, Cond.code yX5_canDine cX5_canDine 8 (some .boolean), Cond.methodLink RX5 124 yX5_mannersAt, Cond.instanceMethod yX5_mannersAt, Cond.selects RX5 yX5_mannersAt yX5_mannersAt, Cond.code yX5_mannersAt cX5_mannersAt 6 (some .int), Cond.methodLink RX5 254 Lib.Math.max.name, Cond.methodLink RX5 262 Lib.Math.min.name, Cond.static Lib.Math.min.name, Cond.code Lib.Math.min.name Lib.Math.min.code 2 (some .int), Cond.methodLink RX5 113 yX0_level, Cond.instanceMethod yX0_level, Cond.selects RX0 yX0_level yX0_level, Cond.initialized RX0, Cond.code yX0_level cX0_level 2 (some .int), Cond.fieldLink RX0 9 "GongTide$Affairs" "levels" "[I", Cond.methodLink RX5 110 yX5_kindAt, Cond.instanceMethod yX5_kindAt, Cond.selects RX5 yX5_kindAt yX5_kindAt, Cond.code yX5_kindAt cX5_kindAt 2 (some .int)]
def wsX5_dinner_r4 : List Cond := [Cond.fieldLink RX5 16 "GongTide" "kinds" "[I", Cond.methodLink RX5 137 yX4_at, Cond.instanceMethod yX4_at, Cond.selects RX4 yX4_at yX4_at, Cond.code yX4_at cX4_at 2 (some .int), Cond.methodLink RX4 21 Lib.Math.min.name, Cond.methodLink RX5 259 yX5_above, Cond.static yX5_above, Cond.code yX5_above cX5_above 2 (some .int), Cond.methodLink RX5 265 yX5_howAt, Cond.static yX5_howAt, Cond.code yX5_howAt cX5_howAt 1 (some .int)]
def wsX5_dinner : List Cond := .code yX5_dinner cX5_dinner 5 (some .int) :: ((wsX5_dinner_r1 ++ (wsX5_dinner_r2 ++ (wsX5_dinner_r3 ++ wsX5_dinner_r4))) ++ wsX50 ++ wsX00 ++ wsX40 ++ wsX30)
def wsX5_suppose : List Cond := .code yX5_suppose cX5_suppose 4 (some (.object "GongTide$Tide")) :: ([.fieldLink RX5 37 "GongTide" "supposed" "LGongTide$Tide;", .methodLink RX5 244 yX4_copyFrom, .instanceMethod yX4_copyFrom, .selects RX4 yX4_copyFrom yX4_copyFrom, .initialized RX4, .code yX4_copyFrom cX4_copyFrom 3 none, .fieldLink RX4 9 "GongTide$Tide" "sums" "[I", .methodLink RX5 242 yX4_add, .instanceMethod yX4_add, .selects RX4 yX4_add yX4_add, .code yX4_add cX4_add 5 none, .methodLink RX4 15 Lib.Math.max.name, .static Lib.Math.max.name, .initialized "java/lang/Math", .code Lib.Math.max.name Lib.Math.max.code 2 (some .int)] ++ wsX50 ++ wsX40)
def wsX5_hoursOfAll_r1 : List Cond := [Cond.fieldLink RX5 65 "GongTide" "houseCount" "I", Cond.methodLink RX5 116 yX5_hoursOf, Cond.instanceMethod yX5_hoursOf, Cond.selects RX5 yX5_hoursOf yX5_hoursOf, Cond.initialized RX5, Cond.code yX5_hoursOf cX5_hoursOf 6 (some .int), Cond.methodLink RX5 124 yX5_mannersAt, Cond.instanceMethod yX5_mannersAt, Cond.selects RX5 yX5_mannersAt yX5_mannersAt, Cond.code yX5_mannersAt cX5_mannersAt 6 (some .int), Cond.fieldLink RX5 23 "GongTide" "affairs" "LGongTide$Affairs;", Cond.methodLink RX5 254 Lib.Math.max.name, Cond.static Lib.Math.max.name, Cond.initialized "java/lang/Math", Cond.code Lib.Math.max.name Lib.Math.max.code 2 (some .int), Cond.methodLink RX5 262 Lib.Math.min.name, Cond.static Lib.Math.min.name, Cond.code Lib.Math.min.name Lib.Math.min.code 2 (some .int), Cond.methodLink RX5 113 yX0_level, Cond.instanceMethod yX0_level, Cond.selects RX0 yX0_level yX0_level, Cond.initialized RX0, Cond.code yX0_level cX0_level 2 (some .int), Cond.fieldLink RX0 9 "GongTide$Affairs" "levels" "[I"]
def wsX5_hoursOfAll_r2 : List Cond := [Cond.static yX5_isWithin, Cond.code yX5_isWithin cX5_isWithin 3 (some .boolean), Cond.methodLink RX5 110 yX5_kindAt, Cond.instanceMethod yX5_kindAt, Cond.selects RX5 yX5_kindAt yX5_kindAt, Cond.code yX5_kindAt cX5_kindAt 2 (some .int), Cond.fieldLink RX5 16 "GongTide" "kinds" "[I", Cond.methodLink RX5 40 yX5_isWithin, Cond.methodLink RX5 137 yX4_at, Cond.instanceMethod yX4_at, Cond.selects RX4 yX4_at yX4_at, Cond.initialized RX4, Cond.code yX4_at cX4_at 2 (some .int), Cond.fieldLink RX4 9 "GongTide$Tide" "sums" "[I", Cond.methodLink RX4 21 Lib.Math.min.name, Cond.methodLink RX5 259 yX5_above, Cond.static yX5_above, Cond.code yX5_above cX5_above 2 (some .int), Cond.methodLink RX5 265 yX5_howAt, Cond.static yX5_howAt, Cond.code yX5_howAt cX5_howAt 1 (some .int)]
def wsX5_hoursOfAll : List Cond := .code yX5_hoursOfAll cX5_hoursOfAll 5 (some .int) :: ((wsX5_hoursOfAll_r1 ++ wsX5_hoursOfAll_r2) ++ wsX50 ++ wsX00 ++ wsX40)
def wsX5_best_r1 : List Cond := [Cond.fieldLink RX5 65 "GongTide" "houseCount" "I", Cond.methodLink RX5 138 yX5_isHeardLoud, Cond.static yX5_isHeardLoud, Cond.initialized RX5, Cond.code yX5_isHeardLoud cX5_isHeardLoud 1 (some .boolean), Cond.methodLink RX5 40 yX5_isWithin, Cond.static yX5_isWithin, Cond.code yX5_isWithin cX5_isWithin 3 (some .boolean), Cond.methodLink RX5 134 yX5_hasColony, Cond.instanceMethod yX5_hasColony, Cond.selects RX5 yX5_hasColony yX5_hasColony, Cond.code yX5_hasColony cX5_hasColony 1 (some .boolean), Cond.methodLink RX5 106 yX5_tideNow, Cond.instanceMethod yX5_tideNow, Cond.selects RX5 yX5_tideNow yX5_tideNow, Cond.code yX5_tideNow cX5_tideNow 3 (some (.object "GongTide$Tide")), Cond.fieldLink RX5 33 "GongTide" "now" "LGongTide$Tide;", Cond.fieldLink RX5 23 "GongTide" "affairs" "LGongTide$Affairs;", Cond.fieldLink RX5 86 "GongTide$Affairs" "strokes" "LGongTide$Strokes;", Cond.methodLink RX5 241 yX4_clear, Cond.instanceMethod yX4_clear, Cond.selects RX4 yX4_clear yX4_clear, Cond.initialized RX4, Cond.code yX4_clear cX4_clear 2 none]
def wsX5_best_r2 : List Cond := [Cond.fieldLink RX4 9 "GongTide$Tide" "sums" "[I", Cond.methodLink RX5 141 yX3_size, Cond.instanceMethod yX3_size, Cond.selects RX3 yX3_size yX3_size, Cond.initialized RX3, Cond.code yX3_size cX3_size 1 (some .int), Cond.fieldLink RX3 18 "GongTide$Strokes" "size" "I", Cond.methodLink RX5 151 yX3_hour, Cond.instanceMethod yX3_hour, Cond.selects RX3 yX3_hour yX3_hour, Cond.code yX3_hour cX3_hour 2 (some .int), Cond.fieldLink RX3 9 "GongTide$Strokes" "hours" "[I", Cond.methodLink RX3 26 yX3_has, Cond.instanceMethod yX3_has, Cond.selects RX3 yX3_has yX3_has, Cond.code yX3_has cX3_has 2 (some .boolean), Cond.methodLink RX5 145 yX3_loud, Cond.instanceMethod yX3_loud, Cond.selects RX3 yX3_loud yX3_loud, Cond.code yX3_loud cX3_loud 2 (some .int), Cond.fieldLink RX3 15 "GongTide$Strokes" "louds" "[I", Cond.methodLink RX5 242 yX4_add, Cond.instanceMethod yX4_add, Cond.selects RX4 yX4_add yX4_add]
def wsX5_best_r3 : List Cond := [Cond.code yX4_add cX4_add 5 none, Cond.methodLink RX4 15 Lib.Math.max.name, Cond.static Lib.Math.max.name, Cond.initialized "java/lang/Math", Cond.code Lib.Math.max.name Lib.Math.max.code 2 (some .int), Cond.methodLink RX5 164 yX5_suppose, Cond.instanceMethod yX5_suppose, Cond.selects RX5 yX5_suppose yX5_suppose, Cond.code yX5_suppose cX5_suppose 4 (some (.object "GongTide$Tide")), Cond.fieldLink RX5 37 "GongTide" "supposed" "LGongTide$Tide;", Cond.methodLink RX5 244 yX4_copyFrom, Cond.instanceMethod yX4_copyFrom, Cond.selects RX4 yX4_copyFrom yX4_copyFrom, Cond.code yX4_copyFrom cX4_copyFrom 3 none, Cond.methodLink RX5 168 yX5_hoursOfAll, Cond.instanceMethod yX5_hoursOfAll, Cond.selects RX5 yX5_hoursOfAll yX5_hoursOfAll, Cond.code yX5_hoursOfAll cX5_hoursOfAll 5 (some .int), Cond.methodLink RX5 116 yX5_hoursOf, Cond.instanceMethod yX5_hoursOf, Cond.selects RX5 yX5_hoursOf yX5_hoursOf, Cond.code yX5_hoursOf cX5_hoursOf 6 (some .int), Cond.methodLink RX5 124 yX5_mannersAt, Cond.instanceMethod yX5_mannersAt]
def wsX5_best_r4 : List Cond := [Cond.selects RX5 yX5_mannersAt yX5_mannersAt, Cond.code yX5_mannersAt cX5_mannersAt 6 (some .int), Cond.methodLink RX5 254 Lib.Math.max.name, Cond.methodLink RX5 262 Lib.Math.min.name, Cond.static Lib.Math.min.name, Cond.code Lib.Math.min.name Lib.Math.min.code 2 (some .int), Cond.methodLink RX5 113 yX0_level, Cond.instanceMethod yX0_level, Cond.selects RX0 yX0_level yX0_level, Cond.initialized RX0, Cond.code yX0_level cX0_level 2 (some .int), Cond.fieldLink RX0 9 "GongTide$Affairs" "levels" "[I", Cond.methodLink RX5 110 yX5_kindAt, Cond.instanceMethod yX5_kindAt, Cond.selects RX5 yX5_kindAt yX5_kindAt, Cond.code yX5_kindAt cX5_kindAt 2 (some .int), Cond.fieldLink RX5 16 "GongTide" "kinds" "[I", Cond.methodLink RX5 137 yX4_at, Cond.instanceMethod yX4_at, Cond.selects RX4 yX4_at yX4_at, Cond.code yX4_at cX4_at 2 (some .int), Cond.methodLink RX4 21 Lib.Math.min.name, Cond.methodLink RX5 259 yX5_above, Cond.static yX5_above]
def wsX5_best_r5 : List Cond := [Cond.code yX5_above cX5_above 2 (some .int), Cond.methodLink RX5 265 yX5_howAt, Cond.static yX5_howAt, Cond.code yX5_howAt cX5_howAt 1 (some .int)]
def wsX5_best : List Cond := .code yX5_best cX5_best 8 (some .int) :: ((wsX5_best_r1 ++ (wsX5_best_r2 ++ (wsX5_best_r3 ++ (wsX5_best_r4 ++ wsX5_best_r5)))) ++ wsX50 ++ wsX00 ++ wsX40 ++ wsX30)
def wsX5_hear_r1 : List Cond := [Cond.fieldLink RX5 23 "GongTide" "affairs" "LGongTide$Affairs;", Cond.fieldLink RX5 171 "GongTide$Affairs" "heard" "LGongTide$Heard;", Cond.methodLink RX5 103 yX5_isHouse, Cond.instanceMethod yX5_isHouse, Cond.selects RX5 yX5_isHouse yX5_isHouse, Cond.initialized RX5, Cond.code yX5_isHouse cX5_isHouse 2 (some .boolean), Cond.fieldLink RX5 65 "GongTide" "houseCount" "I", Cond.methodLink RX5 40 yX5_isWithin, Cond.static yX5_isWithin, Cond.code yX5_isWithin cX5_isWithin 3 (some .boolean), Cond.methodLink RX5 131 yX5_isHourOfDay, Cond.static yX5_isHourOfDay, Cond.code yX5_isHourOfDay cX5_isHourOfDay 1 (some .boolean), Cond.methodLink RX5 138 yX5_isHeardLoud, Cond.static yX5_isHeardLoud, Cond.code yX5_isHeardLoud cX5_isHeardLoud 1 (some .boolean), Cond.methodLink RX5 175 yX1_add, Cond.instanceMethod yX1_add, Cond.selects RX1 yX1_add yX1_add, Cond.initialized RX1, Cond.code yX1_add cX1_add 5 (some .boolean), Cond.fieldLink RX1 24 "GongTide$Heard" "size" "I", Cond.fieldLink RX1 9 "GongTide$Heard" "houses" "[I"]
def wsX5_hear_r2 : List Cond := [Cond.fieldLink RX1 15 "GongTide$Heard" "hours" "[I", Cond.fieldLink RX1 18 "GongTide$Heard" "louds" "[I", Cond.fieldLink RX1 21 "GongTide$Heard" "hows" "[I", Cond.methodLink RX5 180 yX1_size, Cond.instanceMethod yX1_size, Cond.selects RX1 yX1_size yX1_size, Cond.code yX1_size cX1_size 1 (some .int)]
def wsX5_hear : List Cond := .code yX5_hear cX5_hear 5 (some .int) :: ((wsX5_hear_r1 ++ wsX5_hear_r2) ++ wsX50 ++ wsX00 ++ wsX10)
def wsX5_forget : List Cond := .code yX5_forget cX5_forget 1 (some .int) :: ([.fieldLink RX5 23 "GongTide" "affairs" "LGongTide$Affairs;", .fieldLink RX5 171 "GongTide$Affairs" "heard" "LGongTide$Heard;", .methodLink RX5 181 yX1_clear, .instanceMethod yX1_clear, .selects RX1 yX1_clear yX1_clear, .initialized RX1, .code yX1_clear cX1_clear 2 (some .int), .fieldLink RX1 24 "GongTide$Heard" "size" "I"] ++ wsX50 ++ wsX00 ++ wsX10)
def wsX5_agreesWithHeard_r1 : List Cond := [Cond.fieldLink RX5 23 "GongTide" "affairs" "LGongTide$Affairs;", Cond.fieldLink RX5 171 "GongTide$Affairs" "heard" "LGongTide$Heard;", Cond.methodLink RX5 180 yX1_size, Cond.instanceMethod yX1_size, Cond.selects RX1 yX1_size yX1_size, Cond.initialized RX1, Cond.code yX1_size cX1_size 1 (some .int), Cond.fieldLink RX1 24 "GongTide$Heard" "size" "I", Cond.methodLink RX5 268 yX1_loud, Cond.instanceMethod yX1_loud, Cond.selects RX1 yX1_loud yX1_loud, Cond.code yX1_loud cX1_loud 2 (some .int), Cond.fieldLink RX1 18 "GongTide$Heard" "louds" "[I", Cond.methodLink RX1 32 yX1_has, Cond.instanceMethod yX1_has, Cond.selects RX1 yX1_has yX1_has, Cond.code yX1_has cX1_has 2 (some .boolean), Cond.static yX5_isWithin, Cond.initialized RX5, Cond.code yX5_isWithin cX5_isWithin 3 (some .boolean), Cond.methodLink RX5 164 yX5_suppose, Cond.instanceMethod yX5_suppose, Cond.selects RX5 yX5_suppose yX5_suppose, Cond.code yX5_suppose cX5_suppose 4 (some (.object "GongTide$Tide"))]
def wsX5_agreesWithHeard_r2 : List Cond := [Cond.fieldLink RX5 37 "GongTide" "supposed" "LGongTide$Tide;", Cond.methodLink RX5 244 yX4_copyFrom, Cond.instanceMethod yX4_copyFrom, Cond.selects RX4 yX4_copyFrom yX4_copyFrom, Cond.initialized RX4, Cond.code yX4_copyFrom cX4_copyFrom 3 none, Cond.fieldLink RX4 9 "GongTide$Tide" "sums" "[I", Cond.methodLink RX5 242 yX4_add, Cond.instanceMethod yX4_add, Cond.selects RX4 yX4_add yX4_add, Cond.code yX4_add cX4_add 5 none, Cond.methodLink RX4 15 Lib.Math.max.name, Cond.static Lib.Math.max.name, Cond.initialized "java/lang/Math", Cond.code Lib.Math.max.name Lib.Math.max.code 2 (some .int), Cond.methodLink RX5 269 yX1_house, Cond.instanceMethod yX1_house, Cond.selects RX1 yX1_house yX1_house, Cond.code yX1_house cX1_house 2 (some .int), Cond.fieldLink RX1 9 "GongTide$Heard" "houses" "[I", Cond.methodLink RX5 272 yX1_hour, Cond.instanceMethod yX1_hour, Cond.selects RX1 yX1_hour yX1_hour, Cond.code yX1_hour cX1_hour 2 (some .int)]
def wsX5_agreesWithHeard_r3 : List Cond := [Cond.fieldLink RX1 15 "GongTide$Heard" "hours" "[I", Cond.methodLink RX5 124 yX5_mannersAt, Cond.instanceMethod yX5_mannersAt, Cond.selects RX5 yX5_mannersAt yX5_mannersAt, Cond.code yX5_mannersAt cX5_mannersAt 6 (some .int), Cond.methodLink RX5 254 Lib.Math.max.name, Cond.methodLink RX5 262 Lib.Math.min.name, Cond.static Lib.Math.min.name, Cond.code Lib.Math.min.name Lib.Math.min.code 2 (some .int), Cond.methodLink RX5 113 yX0_level, Cond.instanceMethod yX0_level, Cond.selects RX0 yX0_level yX0_level, Cond.initialized RX0, Cond.code yX0_level cX0_level 2 (some .int), Cond.fieldLink RX0 9 "GongTide$Affairs" "levels" "[I", Cond.methodLink RX5 110 yX5_kindAt, Cond.instanceMethod yX5_kindAt, Cond.selects RX5 yX5_kindAt yX5_kindAt, Cond.code yX5_kindAt cX5_kindAt 2 (some .int), Cond.fieldLink RX5 16 "GongTide" "kinds" "[I", Cond.methodLink RX5 40 yX5_isWithin, Cond.methodLink RX5 137 yX4_at, Cond.instanceMethod yX4_at, Cond.selects RX4 yX4_at yX4_at]
def wsX5_agreesWithHeard_r4 : List Cond := [Cond.code yX4_at cX4_at 2 (some .int), Cond.methodLink RX4 21 Lib.Math.min.name, Cond.methodLink RX5 259 yX5_above, Cond.static yX5_above, Cond.code yX5_above cX5_above 2 (some .int), Cond.methodLink RX5 265 yX5_howAt, Cond.static yX5_howAt, Cond.code yX5_howAt cX5_howAt 1 (some .int), Cond.methodLink RX5 273 yX1_how, Cond.instanceMethod yX1_how, Cond.selects RX1 yX1_how yX1_how, Cond.code yX1_how cX1_how 2 (some .int), Cond.fieldLink RX1 21 "GongTide$Heard" "hows" "[I"]
def wsX5_agreesWithHeard : List Cond := .code yX5_agreesWithHeard cX5_agreesWithHeard 7 (some .boolean) :: ((wsX5_agreesWithHeard_r1 ++ (wsX5_agreesWithHeard_r2 ++ (wsX5_agreesWithHeard_r3 ++ wsX5_agreesWithHeard_r4))) ++ wsX50 ++ wsX00 ++ wsX10 ++ wsX40)
def wsX5_hours_r1 : List Cond := [Cond.methodLink RX5 134 yX5_hasColony, Cond.instanceMethod yX5_hasColony, Cond.selects RX5 yX5_hasColony yX5_hasColony, Cond.initialized RX5, Cond.code yX5_hasColony cX5_hasColony 1 (some .boolean), Cond.fieldLink RX5 65 "GongTide" "houseCount" "I", Cond.methodLink RX5 106 yX5_tideNow, Cond.instanceMethod yX5_tideNow, Cond.selects RX5 yX5_tideNow yX5_tideNow, Cond.code yX5_tideNow cX5_tideNow 3 (some (.object "GongTide$Tide")), Cond.fieldLink RX5 33 "GongTide" "now" "LGongTide$Tide;", Cond.fieldLink RX5 23 "GongTide" "affairs" "LGongTide$Affairs;", Cond.fieldLink RX5 86 "GongTide$Affairs" "strokes" "LGongTide$Strokes;", Cond.methodLink RX5 241 yX4_clear, Cond.instanceMethod yX4_clear, Cond.selects RX4 yX4_clear yX4_clear, Cond.initialized RX4, Cond.code yX4_clear cX4_clear 2 none, Cond.fieldLink RX4 9 "GongTide$Tide" "sums" "[I", Cond.methodLink RX5 141 yX3_size, Cond.instanceMethod yX3_size, Cond.selects RX3 yX3_size yX3_size, Cond.initialized RX3, Cond.code yX3_size cX3_size 1 (some .int)]
def wsX5_hours_r2 : List Cond := [Cond.fieldLink RX3 18 "GongTide$Strokes" "size" "I", Cond.methodLink RX5 151 yX3_hour, Cond.instanceMethod yX3_hour, Cond.selects RX3 yX3_hour yX3_hour, Cond.code yX3_hour cX3_hour 2 (some .int), Cond.fieldLink RX3 9 "GongTide$Strokes" "hours" "[I", Cond.methodLink RX3 26 yX3_has, Cond.instanceMethod yX3_has, Cond.selects RX3 yX3_has yX3_has, Cond.code yX3_has cX3_has 2 (some .boolean), Cond.static yX5_isWithin, Cond.code yX5_isWithin cX5_isWithin 3 (some .boolean), Cond.methodLink RX5 145 yX3_loud, Cond.instanceMethod yX3_loud, Cond.selects RX3 yX3_loud yX3_loud, Cond.code yX3_loud cX3_loud 2 (some .int), Cond.fieldLink RX3 15 "GongTide$Strokes" "louds" "[I", Cond.methodLink RX5 242 yX4_add, Cond.instanceMethod yX4_add, Cond.selects RX4 yX4_add yX4_add, Cond.code yX4_add cX4_add 5 none, Cond.methodLink RX4 15 Lib.Math.max.name, Cond.static Lib.Math.max.name, Cond.initialized "java/lang/Math"]
def wsX5_hours_r3 : List Cond := [Cond.code Lib.Math.max.name Lib.Math.max.code 2 (some .int), Cond.methodLink RX5 183 yX5_agreesWithHeard, Cond.instanceMethod yX5_agreesWithHeard, Cond.selects RX5 yX5_agreesWithHeard yX5_agreesWithHeard, Cond.code yX5_agreesWithHeard cX5_agreesWithHeard 7 (some .boolean), Cond.fieldLink RX5 171 "GongTide$Affairs" "heard" "LGongTide$Heard;", Cond.methodLink RX5 180 yX1_size, Cond.instanceMethod yX1_size, Cond.selects RX1 yX1_size yX1_size, Cond.initialized RX1, Cond.code yX1_size cX1_size 1 (some .int), Cond.fieldLink RX1 24 "GongTide$Heard" "size" "I", Cond.methodLink RX5 268 yX1_loud, Cond.instanceMethod yX1_loud, Cond.selects RX1 yX1_loud yX1_loud, Cond.code yX1_loud cX1_loud 2 (some .int), Cond.fieldLink RX1 18 "GongTide$Heard" "louds" "[I", Cond.methodLink RX1 32 yX1_has, Cond.instanceMethod yX1_has, Cond.selects RX1 yX1_has yX1_has, Cond.code yX1_has cX1_has 2 (some .boolean), Cond.methodLink RX5 164 yX5_suppose, Cond.instanceMethod yX5_suppose, Cond.selects RX5 yX5_suppose yX5_suppose]
def wsX5_hours_r4 : List Cond := [Cond.code yX5_suppose cX5_suppose 4 (some (.object "GongTide$Tide")), Cond.fieldLink RX5 37 "GongTide" "supposed" "LGongTide$Tide;", Cond.methodLink RX5 244 yX4_copyFrom, Cond.instanceMethod yX4_copyFrom, Cond.selects RX4 yX4_copyFrom yX4_copyFrom, Cond.code yX4_copyFrom cX4_copyFrom 3 none, Cond.methodLink RX5 269 yX1_house, Cond.instanceMethod yX1_house, Cond.selects RX1 yX1_house yX1_house, Cond.code yX1_house cX1_house 2 (some .int), Cond.fieldLink RX1 9 "GongTide$Heard" "houses" "[I", Cond.methodLink RX5 272 yX1_hour, Cond.instanceMethod yX1_hour, Cond.selects RX1 yX1_hour yX1_hour, Cond.code yX1_hour cX1_hour 2 (some .int), Cond.fieldLink RX1 15 "GongTide$Heard" "hours" "[I", Cond.methodLink RX5 124 yX5_mannersAt, Cond.instanceMethod yX5_mannersAt, Cond.selects RX5 yX5_mannersAt yX5_mannersAt, Cond.code yX5_mannersAt cX5_mannersAt 6 (some .int), Cond.methodLink RX5 254 Lib.Math.max.name, Cond.methodLink RX5 262 Lib.Math.min.name, Cond.static Lib.Math.min.name, Cond.code Lib.Math.min.name Lib.Math.min.code 2 (some .int)]
def wsX5_hours_r5 : List Cond := [Cond.methodLink RX5 113 yX0_level, Cond.instanceMethod yX0_level, Cond.selects RX0 yX0_level yX0_level, Cond.initialized RX0, Cond.code yX0_level cX0_level 2 (some .int), Cond.fieldLink RX0 9 "GongTide$Affairs" "levels" "[I", Cond.methodLink RX5 110 yX5_kindAt, Cond.instanceMethod yX5_kindAt, Cond.selects RX5 yX5_kindAt yX5_kindAt, Cond.code yX5_kindAt cX5_kindAt 2 (some .int), Cond.fieldLink RX5 16 "GongTide" "kinds" "[I", Cond.methodLink RX5 40 yX5_isWithin, Cond.methodLink RX5 137 yX4_at, Cond.instanceMethod yX4_at, Cond.selects RX4 yX4_at yX4_at, Cond.code yX4_at cX4_at 2 (some .int), Cond.methodLink RX4 21 Lib.Math.min.name, Cond.methodLink RX5 259 yX5_above, Cond.static yX5_above, Cond.code yX5_above cX5_above 2 (some .int), Cond.methodLink RX5 265 yX5_howAt, Cond.static yX5_howAt, Cond.code yX5_howAt cX5_howAt 1 (some .int), Cond.methodLink RX5 273 yX1_how]
def wsX5_hours_r6 : List Cond := [Cond.instanceMethod yX1_how, Cond.selects RX1 yX1_how yX1_how, Cond.code yX1_how cX1_how 2 (some .int), Cond.fieldLink RX1 21 "GongTide$Heard" "hows" "[I"]
def wsX5_hours : List Cond := .code yX5_hours cX5_hours 4 (some .int) :: ((wsX5_hours_r1 ++ (wsX5_hours_r2 ++ (wsX5_hours_r3 ++ (wsX5_hours_r4 ++ (wsX5_hours_r5 ++ wsX5_hours_r6))))) ++ wsX50 ++ wsX00 ++ wsX40 ++ wsX30 ++ wsX10)
def wsX5_mostLeft_r1 : List Cond := [Cond.fieldLink RX5 23 "GongTide" "affairs" "LGongTide$Affairs;", Cond.fieldLink RX5 171 "GongTide$Affairs" "heard" "LGongTide$Heard;", Cond.methodLink RX5 254 Lib.Math.max.name, Cond.static Lib.Math.max.name, Cond.initialized "java/lang/Math", Cond.code Lib.Math.max.name Lib.Math.max.code 2 (some .int), Cond.methodLink RX5 276 yX1_lastLoud, Cond.instanceMethod yX1_lastLoud, Cond.selects RX1 yX1_lastLoud yX1_lastLoud, Cond.initialized RX1, Cond.code yX1_lastLoud cX1_lastLoud 1 (some .int), Cond.fieldLink RX1 24 "GongTide$Heard" "size" "I", Cond.methodLink RX1 36 yX1_loud, Cond.instanceMethod yX1_loud, Cond.selects RX1 yX1_loud yX1_loud, Cond.code yX1_loud cX1_loud 2 (some .int), Cond.fieldLink RX1 18 "GongTide$Heard" "louds" "[I", Cond.methodLink RX1 32 yX1_has, Cond.instanceMethod yX1_has, Cond.selects RX1 yX1_has yX1_has, Cond.code yX1_has cX1_has 2 (some .boolean), Cond.static yX5_isWithin, Cond.initialized RX5, Cond.code yX5_isWithin cX5_isWithin 3 (some .boolean)]
def wsX5_mostLeft_r2 : List Cond := [Cond.methodLink RX5 164 yX5_suppose, Cond.instanceMethod yX5_suppose, Cond.selects RX5 yX5_suppose yX5_suppose, Cond.code yX5_suppose cX5_suppose 4 (some (.object "GongTide$Tide")), Cond.fieldLink RX5 37 "GongTide" "supposed" "LGongTide$Tide;", Cond.methodLink RX5 244 yX4_copyFrom, Cond.instanceMethod yX4_copyFrom, Cond.selects RX4 yX4_copyFrom yX4_copyFrom, Cond.initialized RX4, Cond.code yX4_copyFrom cX4_copyFrom 3 none, Cond.fieldLink RX4 9 "GongTide$Tide" "sums" "[I", Cond.methodLink RX5 242 yX4_add, Cond.instanceMethod yX4_add, Cond.selects RX4 yX4_add yX4_add, Cond.code yX4_add cX4_add 5 none, Cond.methodLink RX4 15 Lib.Math.max.name, Cond.methodLink RX5 124 yX5_mannersAt, Cond.instanceMethod yX5_mannersAt, Cond.selects RX5 yX5_mannersAt yX5_mannersAt, Cond.code yX5_mannersAt cX5_mannersAt 6 (some .int), Cond.methodLink RX5 262 Lib.Math.min.name, Cond.static Lib.Math.min.name, Cond.code Lib.Math.min.name Lib.Math.min.code 2 (some .int), Cond.methodLink RX5 113 yX0_level]
def wsX5_mostLeft_r3 : List Cond := [Cond.instanceMethod yX0_level, Cond.selects RX0 yX0_level yX0_level, Cond.initialized RX0, Cond.code yX0_level cX0_level 2 (some .int), Cond.fieldLink RX0 9 "GongTide$Affairs" "levels" "[I", Cond.methodLink RX5 110 yX5_kindAt, Cond.instanceMethod yX5_kindAt, Cond.selects RX5 yX5_kindAt yX5_kindAt, Cond.code yX5_kindAt cX5_kindAt 2 (some .int), Cond.fieldLink RX5 16 "GongTide" "kinds" "[I", Cond.methodLink RX5 40 yX5_isWithin, Cond.methodLink RX5 137 yX4_at, Cond.instanceMethod yX4_at, Cond.selects RX4 yX4_at yX4_at, Cond.code yX4_at cX4_at 2 (some .int), Cond.methodLink RX4 21 Lib.Math.min.name, Cond.methodLink RX5 259 yX5_above, Cond.static yX5_above, Cond.code yX5_above cX5_above 2 (some .int), Cond.methodLink RX5 265 yX5_howAt, Cond.static yX5_howAt, Cond.code yX5_howAt cX5_howAt 1 (some .int)]
def wsX5_mostLeft : List Cond := .code yX5_mostLeft cX5_mostLeft 10 (some .int) :: ((wsX5_mostLeft_r1 ++ (wsX5_mostLeft_r2 ++ wsX5_mostLeft_r3)) ++ wsX50 ++ wsX00 ++ wsX10 ++ wsX40)
def wsX5_ask_r1 : List Cond := [Cond.fieldLink RX5 23 "GongTide" "affairs" "LGongTide$Affairs;", Cond.fieldLink RX5 171 "GongTide$Affairs" "heard" "LGongTide$Heard;", Cond.fieldLink RX5 65 "GongTide" "houseCount" "I", Cond.methodLink RX5 131 yX5_isHourOfDay, Cond.static yX5_isHourOfDay, Cond.initialized RX5, Cond.code yX5_isHourOfDay cX5_isHourOfDay 1 (some .boolean), Cond.methodLink RX5 40 yX5_isWithin, Cond.static yX5_isWithin, Cond.code yX5_isWithin cX5_isWithin 3 (some .boolean), Cond.methodLink RX5 134 yX5_hasColony, Cond.instanceMethod yX5_hasColony, Cond.selects RX5 yX5_hasColony yX5_hasColony, Cond.code yX5_hasColony cX5_hasColony 1 (some .boolean), Cond.methodLink RX5 187 yX5_hours, Cond.instanceMethod yX5_hours, Cond.selects RX5 yX5_hours yX5_hours, Cond.code yX5_hours cX5_hours 4 (some .int), Cond.methodLink RX5 106 yX5_tideNow, Cond.instanceMethod yX5_tideNow, Cond.selects RX5 yX5_tideNow yX5_tideNow, Cond.code yX5_tideNow cX5_tideNow 3 (some (.object "GongTide$Tide")), Cond.fieldLink RX5 33 "GongTide" "now" "LGongTide$Tide;", Cond.fieldLink RX5 86 "GongTide$Affairs" "strokes" "LGongTide$Strokes;"]
def wsX5_ask_r2 : List Cond := [Cond.methodLink RX5 241 yX4_clear, Cond.instanceMethod yX4_clear, Cond.selects RX4 yX4_clear yX4_clear, Cond.initialized RX4, Cond.code yX4_clear cX4_clear 2 none, Cond.fieldLink RX4 9 "GongTide$Tide" "sums" "[I", Cond.methodLink RX5 141 yX3_size, Cond.instanceMethod yX3_size, Cond.selects RX3 yX3_size yX3_size, Cond.initialized RX3, Cond.code yX3_size cX3_size 1 (some .int), Cond.fieldLink RX3 18 "GongTide$Strokes" "size" "I", Cond.methodLink RX5 151 yX3_hour, Cond.instanceMethod yX3_hour, Cond.selects RX3 yX3_hour yX3_hour, Cond.code yX3_hour cX3_hour 2 (some .int), Cond.fieldLink RX3 9 "GongTide$Strokes" "hours" "[I", Cond.methodLink RX3 26 yX3_has, Cond.instanceMethod yX3_has, Cond.selects RX3 yX3_has yX3_has, Cond.code yX3_has cX3_has 2 (some .boolean), Cond.methodLink RX5 145 yX3_loud, Cond.instanceMethod yX3_loud, Cond.selects RX3 yX3_loud yX3_loud]
def wsX5_ask_r3 : List Cond := [Cond.code yX3_loud cX3_loud 2 (some .int), Cond.fieldLink RX3 15 "GongTide$Strokes" "louds" "[I", Cond.methodLink RX5 242 yX4_add, Cond.instanceMethod yX4_add, Cond.selects RX4 yX4_add yX4_add, Cond.code yX4_add cX4_add 5 none, Cond.methodLink RX4 15 Lib.Math.max.name, Cond.static Lib.Math.max.name, Cond.initialized "java/lang/Math", Cond.code Lib.Math.max.name Lib.Math.max.code 2 (some .int), Cond.methodLink RX5 183 yX5_agreesWithHeard, Cond.instanceMethod yX5_agreesWithHeard, Cond.selects RX5 yX5_agreesWithHeard yX5_agreesWithHeard, Cond.code yX5_agreesWithHeard cX5_agreesWithHeard 7 (some .boolean), Cond.methodLink RX5 180 yX1_size, Cond.instanceMethod yX1_size, Cond.selects RX1 yX1_size yX1_size, Cond.initialized RX1, Cond.code yX1_size cX1_size 1 (some .int), Cond.fieldLink RX1 24 "GongTide$Heard" "size" "I", Cond.methodLink RX5 268 yX1_loud, Cond.instanceMethod yX1_loud, Cond.selects RX1 yX1_loud yX1_loud, Cond.code yX1_loud cX1_loud 2 (some .int)]
def wsX5_ask_r4 : List Cond := [Cond.fieldLink RX1 18 "GongTide$Heard" "louds" "[I", Cond.methodLink RX1 32 yX1_has, Cond.instanceMethod yX1_has, Cond.selects RX1 yX1_has yX1_has, Cond.code yX1_has cX1_has 2 (some .boolean), Cond.methodLink RX5 164 yX5_suppose, Cond.instanceMethod yX5_suppose, Cond.selects RX5 yX5_suppose yX5_suppose, Cond.code yX5_suppose cX5_suppose 4 (some (.object "GongTide$Tide")), Cond.fieldLink RX5 37 "GongTide" "supposed" "LGongTide$Tide;", Cond.methodLink RX5 244 yX4_copyFrom, Cond.instanceMethod yX4_copyFrom, Cond.selects RX4 yX4_copyFrom yX4_copyFrom, Cond.code yX4_copyFrom cX4_copyFrom 3 none, Cond.methodLink RX5 269 yX1_house, Cond.instanceMethod yX1_house, Cond.selects RX1 yX1_house yX1_house, Cond.code yX1_house cX1_house 2 (some .int), Cond.fieldLink RX1 9 "GongTide$Heard" "houses" "[I", Cond.methodLink RX5 272 yX1_hour, Cond.instanceMethod yX1_hour, Cond.selects RX1 yX1_hour yX1_hour, Cond.code yX1_hour cX1_hour 2 (some .int), Cond.fieldLink RX1 15 "GongTide$Heard" "hours" "[I"]
def wsX5_ask_r5 : List Cond := [Cond.methodLink RX5 124 yX5_mannersAt, Cond.instanceMethod yX5_mannersAt, Cond.selects RX5 yX5_mannersAt yX5_mannersAt, Cond.code yX5_mannersAt cX5_mannersAt 6 (some .int), Cond.methodLink RX5 254 Lib.Math.max.name, Cond.methodLink RX5 262 Lib.Math.min.name, Cond.static Lib.Math.min.name, Cond.code Lib.Math.min.name Lib.Math.min.code 2 (some .int), Cond.methodLink RX5 113 yX0_level, Cond.instanceMethod yX0_level, Cond.selects RX0 yX0_level yX0_level, Cond.initialized RX0, Cond.code yX0_level cX0_level 2 (some .int), Cond.fieldLink RX0 9 "GongTide$Affairs" "levels" "[I", Cond.methodLink RX5 110 yX5_kindAt, Cond.instanceMethod yX5_kindAt, Cond.selects RX5 yX5_kindAt yX5_kindAt, Cond.code yX5_kindAt cX5_kindAt 2 (some .int), Cond.fieldLink RX5 16 "GongTide" "kinds" "[I", Cond.methodLink RX5 137 yX4_at, Cond.instanceMethod yX4_at, Cond.selects RX4 yX4_at yX4_at, Cond.code yX4_at cX4_at 2 (some .int), Cond.methodLink RX4 21 Lib.Math.min.name]
def wsX5_ask_r6 : List Cond := [Cond.methodLink RX5 259 yX5_above, Cond.static yX5_above, Cond.code yX5_above cX5_above 2 (some .int), Cond.methodLink RX5 265 yX5_howAt, Cond.static yX5_howAt, Cond.code yX5_howAt cX5_howAt 1 (some .int), Cond.methodLink RX5 273 yX1_how, Cond.instanceMethod yX1_how, Cond.selects RX1 yX1_how yX1_how, Cond.code yX1_how cX1_how 2 (some .int), Cond.fieldLink RX1 21 "GongTide$Heard" "hows" "[I", Cond.methodLink RX5 190 yX5_mostLeft, Cond.instanceMethod yX5_mostLeft, Cond.selects RX5 yX5_mostLeft yX5_mostLeft, Cond.code yX5_mostLeft cX5_mostLeft 10 (some .int), Cond.methodLink RX5 276 yX1_lastLoud, Cond.instanceMethod yX1_lastLoud, Cond.selects RX1 yX1_lastLoud yX1_lastLoud, Cond.code yX1_lastLoud cX1_lastLoud 1 (some .int), Cond.methodLink RX1 36 yX1_loud]
def wsX5_ask : List Cond := .code yX5_ask cX5_ask 8 (some .int) :: ((wsX5_ask_r1 ++ (wsX5_ask_r2 ++ (wsX5_ask_r3 ++ (wsX5_ask_r4 ++ (wsX5_ask_r5 ++ wsX5_ask_r6))))) ++ wsX50 ++ wsX00 ++ wsX40 ++ wsX30 ++ wsX10)
def wsX5_drawDay_r1 : List Cond := [Cond.fieldLink RX5 23 "GongTide" "affairs" "LGongTide$Affairs;", Cond.fieldLink RX5 86 "GongTide$Affairs" "strokes" "LGongTide$Strokes;", Cond.fieldLink RX5 37 "GongTide" "supposed" "LGongTide$Tide;", Cond.constantLong RX5 247 (1103515245), Cond.constantLong RX5 249 (12345), Cond.constantLong RX5 251 (2147483648), Cond.constant RX5 253 (65536), Cond.methodLink RX5 241 yX4_clear, Cond.instanceMethod yX4_clear, Cond.selects RX4 yX4_clear yX4_clear, Cond.initialized RX4, Cond.code yX4_clear cX4_clear 2 none, Cond.fieldLink RX4 9 "GongTide$Tide" "sums" "[I", Cond.methodLink RX5 141 yX3_size, Cond.instanceMethod yX3_size, Cond.selects RX3 yX3_size yX3_size, Cond.initialized RX3, Cond.code yX3_size cX3_size 1 (some .int), Cond.fieldLink RX3 18 "GongTide$Strokes" "size" "I", Cond.methodLink RX5 145 yX3_loud, Cond.instanceMethod yX3_loud, Cond.selects RX3 yX3_loud yX3_loud, Cond.code yX3_loud cX3_loud 2 (some .int), Cond.fieldLink RX3 15 "GongTide$Strokes" "louds" "[I"]
def wsX5_drawDay_r2 : List Cond := [Cond.methodLink RX3 26 yX3_has, Cond.instanceMethod yX3_has, Cond.selects RX3 yX3_has yX3_has, Cond.code yX3_has cX3_has 2 (some .boolean), Cond.static yX5_isWithin, Cond.initialized RX5, Cond.code yX5_isWithin cX5_isWithin 3 (some .boolean), Cond.methodLink RX5 242 yX4_add, Cond.instanceMethod yX4_add, Cond.selects RX4 yX4_add yX4_add, Cond.code yX4_add cX4_add 5 none, Cond.methodLink RX4 15 Lib.Math.max.name, Cond.static Lib.Math.max.name, Cond.initialized "java/lang/Math", Cond.code Lib.Math.max.name Lib.Math.max.code 2 (some .int)]
def wsX5_drawDay : List Cond := .code yX5_drawDay cX5_drawDay 5 (some .int) :: ((wsX5_drawDay_r1 ++ wsX5_drawDay_r2) ++ wsX50 ++ wsX00 ++ wsX40 ++ wsX30)
def wsX5_weeks_r1 : List Cond := [Cond.fieldLink RX5 37 "GongTide" "supposed" "LGongTide$Tide;", Cond.methodLink RX5 40 yX5_isWithin, Cond.static yX5_isWithin, Cond.initialized RX5, Cond.code yX5_isWithin cX5_isWithin 3 (some .boolean), Cond.methodLink RX5 134 yX5_hasColony, Cond.instanceMethod yX5_hasColony, Cond.selects RX5 yX5_hasColony yX5_hasColony, Cond.code yX5_hasColony cX5_hasColony 1 (some .boolean), Cond.fieldLink RX5 65 "GongTide" "houseCount" "I", Cond.methodLink RX5 194 yX5_drawDay, Cond.instanceMethod yX5_drawDay, Cond.selects RX5 yX5_drawDay yX5_drawDay, Cond.code yX5_drawDay cX5_drawDay 5 (some .int), Cond.fieldLink RX5 23 "GongTide" "affairs" "LGongTide$Affairs;", Cond.fieldLink RX5 86 "GongTide$Affairs" "strokes" "LGongTide$Strokes;", Cond.constantLong RX5 247 (1103515245), Cond.constantLong RX5 249 (12345), Cond.constantLong RX5 251 (2147483648), Cond.constant RX5 253 (65536), Cond.methodLink RX5 241 yX4_clear, Cond.instanceMethod yX4_clear, Cond.selects RX4 yX4_clear yX4_clear, Cond.initialized RX4]
def wsX5_weeks_r2 : List Cond := [Cond.code yX4_clear cX4_clear 2 none, Cond.fieldLink RX4 9 "GongTide$Tide" "sums" "[I", Cond.methodLink RX5 141 yX3_size, Cond.instanceMethod yX3_size, Cond.selects RX3 yX3_size yX3_size, Cond.initialized RX3, Cond.code yX3_size cX3_size 1 (some .int), Cond.fieldLink RX3 18 "GongTide$Strokes" "size" "I", Cond.methodLink RX5 145 yX3_loud, Cond.instanceMethod yX3_loud, Cond.selects RX3 yX3_loud yX3_loud, Cond.code yX3_loud cX3_loud 2 (some .int), Cond.fieldLink RX3 15 "GongTide$Strokes" "louds" "[I", Cond.methodLink RX3 26 yX3_has, Cond.instanceMethod yX3_has, Cond.selects RX3 yX3_has yX3_has, Cond.code yX3_has cX3_has 2 (some .boolean), Cond.methodLink RX5 242 yX4_add, Cond.instanceMethod yX4_add, Cond.selects RX4 yX4_add yX4_add, Cond.code yX4_add cX4_add 5 none, Cond.methodLink RX4 15 Lib.Math.max.name, Cond.static Lib.Math.max.name, Cond.initialized "java/lang/Math"]
def wsX5_weeks_r3 : List Cond := [Cond.code Lib.Math.max.name Lib.Math.max.code 2 (some .int), Cond.methodLink RX5 168 yX5_hoursOfAll, Cond.instanceMethod yX5_hoursOfAll, Cond.selects RX5 yX5_hoursOfAll yX5_hoursOfAll, Cond.code yX5_hoursOfAll cX5_hoursOfAll 5 (some .int), Cond.methodLink RX5 116 yX5_hoursOf, Cond.instanceMethod yX5_hoursOf, Cond.selects RX5 yX5_hoursOf yX5_hoursOf, Cond.code yX5_hoursOf cX5_hoursOf 6 (some .int), Cond.methodLink RX5 124 yX5_mannersAt, Cond.instanceMethod yX5_mannersAt, Cond.selects RX5 yX5_mannersAt yX5_mannersAt, Cond.code yX5_mannersAt cX5_mannersAt 6 (some .int), Cond.methodLink RX5 254 Lib.Math.max.name, Cond.methodLink RX5 262 Lib.Math.min.name, Cond.static Lib.Math.min.name, Cond.code Lib.Math.min.name Lib.Math.min.code 2 (some .int), Cond.methodLink RX5 113 yX0_level, Cond.instanceMethod yX0_level, Cond.selects RX0 yX0_level yX0_level, Cond.initialized RX0, Cond.code yX0_level cX0_level 2 (some .int), Cond.fieldLink RX0 9 "GongTide$Affairs" "levels" "[I", Cond.methodLink RX5 110 yX5_kindAt]
def wsX5_weeks_r4 : List Cond := [Cond.instanceMethod yX5_kindAt, Cond.selects RX5 yX5_kindAt yX5_kindAt, Cond.code yX5_kindAt cX5_kindAt 2 (some .int), Cond.fieldLink RX5 16 "GongTide" "kinds" "[I", Cond.methodLink RX5 137 yX4_at, Cond.instanceMethod yX4_at, Cond.selects RX4 yX4_at yX4_at, Cond.code yX4_at cX4_at 2 (some .int), Cond.methodLink RX4 21 Lib.Math.min.name, Cond.methodLink RX5 259 yX5_above, Cond.static yX5_above, Cond.code yX5_above cX5_above 2 (some .int), Cond.methodLink RX5 265 yX5_howAt, Cond.static yX5_howAt, Cond.code yX5_howAt cX5_howAt 1 (some .int)]
def wsX5_weeks : List Cond := .code yX5_weeks cX5_weeks 8 (some .int) :: ((wsX5_weeks_r1 ++ (wsX5_weeks_r2 ++ (wsX5_weeks_r3 ++ wsX5_weeks_r4))) ++ wsX50 ++ wsX00 ++ wsX40 ++ wsX30)
def wsX5_image_r1 : List Cond := [Cond.fieldLink RX5 27 "GongTide" "kept" "LGongTide$Affairs;", Cond.fieldLink RX5 23 "GongTide" "affairs" "LGongTide$Affairs;", Cond.fieldLink RX5 96 "GongTide" "isKept" "Z", Cond.fieldLink RX5 128 "GongTide$Affairs" "changes" "I", Cond.methodLink RX5 134 yX5_hasColony, Cond.instanceMethod yX5_hasColony, Cond.selects RX5 yX5_hasColony yX5_hasColony, Cond.initialized RX5, Cond.code yX5_hasColony cX5_hasColony 1 (some .boolean), Cond.fieldLink RX5 65 "GongTide" "houseCount" "I", Cond.methodLink RX5 197 yX0_copyFrom, Cond.instanceMethod yX0_copyFrom, Cond.selects RX0 yX0_copyFrom yX0_copyFrom, Cond.initialized RX0, Cond.code yX0_copyFrom cX0_copyFrom 3 none, Cond.fieldLink RX0 9 "GongTide$Affairs" "levels" "[I", Cond.fieldLink RX0 18 "GongTide$Affairs" "strokes" "LGongTide$Strokes;", Cond.fieldLink RX0 25 "GongTide$Affairs" "heard" "LGongTide$Heard;", Cond.fieldLink RX0 35 "GongTide$Affairs" "changes" "I", Cond.methodLink RX0 43 yX3_copyFrom, Cond.instanceMethod yX3_copyFrom, Cond.selects RX3 yX3_copyFrom yX3_copyFrom, Cond.initialized RX3, Cond.code yX3_copyFrom cX3_copyFrom 3 none]
def wsX5_image_r2 : List Cond := [Cond.fieldLink RX3 18 "GongTide$Strokes" "size" "I", Cond.fieldLink RX3 9 "GongTide$Strokes" "hours" "[I", Cond.fieldLink RX3 15 "GongTide$Strokes" "louds" "[I", Cond.methodLink RX0 47 yX1_copyFrom, Cond.instanceMethod yX1_copyFrom, Cond.selects RX1 yX1_copyFrom yX1_copyFrom, Cond.initialized RX1, Cond.code yX1_copyFrom cX1_copyFrom 3 none, Cond.fieldLink RX1 24 "GongTide$Heard" "size" "I", Cond.fieldLink RX1 9 "GongTide$Heard" "houses" "[I", Cond.fieldLink RX1 15 "GongTide$Heard" "hours" "[I", Cond.fieldLink RX1 18 "GongTide$Heard" "louds" "[I", Cond.fieldLink RX1 21 "GongTide$Heard" "hows" "[I"]
def wsX5_image : List Cond := .code yX5_image cX5_image 1 (some .int) :: ((wsX5_image_r1 ++ wsX5_image_r2) ++ wsX50 ++ wsX00 ++ wsX30 ++ wsX10)
def wsX5_restore_r1 : List Cond := [Cond.fieldLink RX5 96 "GongTide" "isKept" "Z", Cond.fieldLink RX5 23 "GongTide" "affairs" "LGongTide$Affairs;", Cond.fieldLink RX5 27 "GongTide" "kept" "LGongTide$Affairs;", Cond.fieldLink RX5 128 "GongTide$Affairs" "changes" "I", Cond.methodLink RX5 197 yX0_copyFrom, Cond.instanceMethod yX0_copyFrom, Cond.selects RX0 yX0_copyFrom yX0_copyFrom, Cond.initialized RX0, Cond.code yX0_copyFrom cX0_copyFrom 3 none, Cond.fieldLink RX0 9 "GongTide$Affairs" "levels" "[I", Cond.fieldLink RX0 18 "GongTide$Affairs" "strokes" "LGongTide$Strokes;", Cond.fieldLink RX0 25 "GongTide$Affairs" "heard" "LGongTide$Heard;", Cond.fieldLink RX0 35 "GongTide$Affairs" "changes" "I", Cond.methodLink RX0 43 yX3_copyFrom, Cond.instanceMethod yX3_copyFrom, Cond.selects RX3 yX3_copyFrom yX3_copyFrom, Cond.initialized RX3, Cond.code yX3_copyFrom cX3_copyFrom 3 none, Cond.fieldLink RX3 18 "GongTide$Strokes" "size" "I", Cond.fieldLink RX3 9 "GongTide$Strokes" "hours" "[I", Cond.fieldLink RX3 15 "GongTide$Strokes" "louds" "[I", Cond.methodLink RX0 47 yX1_copyFrom, Cond.instanceMethod yX1_copyFrom, Cond.selects RX1 yX1_copyFrom yX1_copyFrom]
def wsX5_restore_r2 : List Cond := [Cond.initialized RX1, Cond.code yX1_copyFrom cX1_copyFrom 3 none, Cond.fieldLink RX1 24 "GongTide$Heard" "size" "I", Cond.fieldLink RX1 9 "GongTide$Heard" "houses" "[I", Cond.fieldLink RX1 15 "GongTide$Heard" "hours" "[I", Cond.fieldLink RX1 18 "GongTide$Heard" "louds" "[I", Cond.fieldLink RX1 21 "GongTide$Heard" "hows" "[I"]
def wsX5_restore : List Cond := .code yX5_restore cX5_restore 1 (some .int) :: ((wsX5_restore_r1 ++ wsX5_restore_r2) ++ wsX50 ++ wsX00 ++ wsX30 ++ wsX10)
def wsX5_count_r1 : List Cond := [Cond.fieldLink RX5 65 "GongTide" "houseCount" "I", Cond.fieldLink RX5 23 "GongTide" "affairs" "LGongTide$Affairs;", Cond.fieldLink RX5 86 "GongTide$Affairs" "strokes" "LGongTide$Strokes;", Cond.fieldLink RX5 128 "GongTide$Affairs" "changes" "I", Cond.fieldLink RX5 171 "GongTide$Affairs" "heard" "LGongTide$Heard;", Cond.fieldLink RX5 10 "GongTide" "page" "LGongTide$Page;", Cond.fieldLink RX5 100 "GongTide" "readings" "I", Cond.methodLink RX5 141 yX3_size, Cond.instanceMethod yX3_size, Cond.selects RX3 yX3_size yX3_size, Cond.initialized RX3, Cond.code yX3_size cX3_size 1 (some .int), Cond.fieldLink RX3 18 "GongTide$Strokes" "size" "I", Cond.methodLink RX5 106 yX5_tideNow, Cond.instanceMethod yX5_tideNow, Cond.selects RX5 yX5_tideNow yX5_tideNow, Cond.initialized RX5, Cond.code yX5_tideNow cX5_tideNow 3 (some (.object "GongTide$Tide")), Cond.fieldLink RX5 33 "GongTide" "now" "LGongTide$Tide;", Cond.methodLink RX5 241 yX4_clear, Cond.instanceMethod yX4_clear, Cond.selects RX4 yX4_clear yX4_clear, Cond.initialized RX4, Cond.code yX4_clear cX4_clear 2 none]
def wsX5_count_r2 : List Cond := [Cond.fieldLink RX4 9 "GongTide$Tide" "sums" "[I", Cond.methodLink RX5 151 yX3_hour, Cond.instanceMethod yX3_hour, Cond.selects RX3 yX3_hour yX3_hour, Cond.code yX3_hour cX3_hour 2 (some .int), Cond.fieldLink RX3 9 "GongTide$Strokes" "hours" "[I", Cond.methodLink RX3 26 yX3_has, Cond.instanceMethod yX3_has, Cond.selects RX3 yX3_has yX3_has, Cond.code yX3_has cX3_has 2 (some .boolean), Cond.static yX5_isWithin, Cond.code yX5_isWithin cX5_isWithin 3 (some .boolean), Cond.methodLink RX5 145 yX3_loud, Cond.instanceMethod yX3_loud, Cond.selects RX3 yX3_loud yX3_loud, Cond.code yX3_loud cX3_loud 2 (some .int), Cond.fieldLink RX3 15 "GongTide$Strokes" "louds" "[I", Cond.methodLink RX5 242 yX4_add, Cond.instanceMethod yX4_add, Cond.selects RX4 yX4_add yX4_add, Cond.code yX4_add cX4_add 5 none, Cond.methodLink RX4 15 Lib.Math.max.name, Cond.static Lib.Math.max.name, Cond.initialized "java/lang/Math"]
def wsX5_count_r3 : List Cond := [Cond.code Lib.Math.max.name Lib.Math.max.code 2 (some .int), Cond.methodLink RX5 201 yX4_greatest, Cond.instanceMethod yX4_greatest, Cond.selects RX4 yX4_greatest yX4_greatest, Cond.code yX4_greatest cX4_greatest 3 (some .int), Cond.methodLink RX4 24 yX4_at, Cond.instanceMethod yX4_at, Cond.selects RX4 yX4_at yX4_at, Cond.code yX4_at cX4_at 2 (some .int), Cond.methodLink RX4 21 Lib.Math.min.name, Cond.static Lib.Math.min.name, Cond.code Lib.Math.min.name Lib.Math.min.code 2 (some .int), Cond.methodLink RX5 168 yX5_hoursOfAll, Cond.instanceMethod yX5_hoursOfAll, Cond.selects RX5 yX5_hoursOfAll yX5_hoursOfAll, Cond.code yX5_hoursOfAll cX5_hoursOfAll 5 (some .int), Cond.methodLink RX5 116 yX5_hoursOf, Cond.instanceMethod yX5_hoursOf, Cond.selects RX5 yX5_hoursOf yX5_hoursOf, Cond.code yX5_hoursOf cX5_hoursOf 6 (some .int), Cond.methodLink RX5 124 yX5_mannersAt, Cond.instanceMethod yX5_mannersAt, Cond.selects RX5 yX5_mannersAt yX5_mannersAt, Cond.code yX5_mannersAt cX5_mannersAt 6 (some .int)]
def wsX5_count_r4 : List Cond := [Cond.methodLink RX5 254 Lib.Math.max.name, Cond.methodLink RX5 262 Lib.Math.min.name, Cond.methodLink RX5 113 yX0_level, Cond.instanceMethod yX0_level, Cond.selects RX0 yX0_level yX0_level, Cond.initialized RX0, Cond.code yX0_level cX0_level 2 (some .int), Cond.fieldLink RX0 9 "GongTide$Affairs" "levels" "[I", Cond.methodLink RX5 110 yX5_kindAt, Cond.instanceMethod yX5_kindAt, Cond.selects RX5 yX5_kindAt yX5_kindAt, Cond.code yX5_kindAt cX5_kindAt 2 (some .int), Cond.fieldLink RX5 16 "GongTide" "kinds" "[I", Cond.methodLink RX5 40 yX5_isWithin, Cond.methodLink RX5 137 yX4_at, Cond.methodLink RX5 259 yX5_above, Cond.static yX5_above, Cond.code yX5_above cX5_above 2 (some .int), Cond.methodLink RX5 265 yX5_howAt, Cond.static yX5_howAt, Cond.code yX5_howAt cX5_howAt 1 (some .int), Cond.methodLink RX5 180 yX1_size, Cond.instanceMethod yX1_size, Cond.selects RX1 yX1_size yX1_size]
def wsX5_count_r5 : List Cond := [Cond.initialized RX1, Cond.code yX1_size cX1_size 1 (some .int), Cond.fieldLink RX1 24 "GongTide$Heard" "size" "I", Cond.methodLink RX5 48 yX2_size, Cond.instanceMethod yX2_size, Cond.selects RX2 yX2_size yX2_size, Cond.initialized RX2, Cond.code yX2_size cX2_size 1 (some .int), Cond.fieldLink RX2 15 "GongTide$Page" "size" "I"]
def wsX5_count : List Cond := .code yX5_count cX5_count 2 (some .int) :: ((wsX5_count_r1 ++ (wsX5_count_r2 ++ (wsX5_count_r3 ++ (wsX5_count_r4 ++ wsX5_count_r5)))) ++ wsX50 ++ wsX00 ++ wsX30 ++ wsX40 ++ wsX10 ++ wsX20)
def wsX5_mix : List Cond := .code yX5_mix cX5_mix 4 (some .long) :: ([.constantLong RX5 239 (31)])
def wsX5_digestHouses_r1 : List Cond := [Cond.fieldLink RX5 65 "GongTide" "houseCount" "I", Cond.methodLink RX5 233 yX5_about, Cond.instanceMethod yX5_about, Cond.selects RX5 yX5_about yX5_about, Cond.initialized RX5, Cond.code yX5_about cX5_about 4 (some .int), Cond.fieldLink RX5 23 "GongTide" "affairs" "LGongTide$Affairs;", Cond.methodLink RX5 103 yX5_isHouse, Cond.instanceMethod yX5_isHouse, Cond.selects RX5 yX5_isHouse yX5_isHouse, Cond.code yX5_isHouse cX5_isHouse 2 (some .boolean), Cond.methodLink RX5 40 yX5_isWithin, Cond.static yX5_isWithin, Cond.code yX5_isWithin cX5_isWithin 3 (some .boolean), Cond.methodLink RX5 106 yX5_tideNow, Cond.instanceMethod yX5_tideNow, Cond.selects RX5 yX5_tideNow yX5_tideNow, Cond.code yX5_tideNow cX5_tideNow 3 (some (.object "GongTide$Tide")), Cond.fieldLink RX5 33 "GongTide" "now" "LGongTide$Tide;", Cond.fieldLink RX5 86 "GongTide$Affairs" "strokes" "LGongTide$Strokes;", Cond.methodLink RX5 241 yX4_clear, Cond.instanceMethod yX4_clear, Cond.selects RX4 yX4_clear yX4_clear, Cond.initialized RX4]
def wsX5_digestHouses_r2 : List Cond := [Cond.code yX4_clear cX4_clear 2 none, Cond.fieldLink RX4 9 "GongTide$Tide" "sums" "[I", Cond.methodLink RX5 141 yX3_size, Cond.instanceMethod yX3_size, Cond.selects RX3 yX3_size yX3_size, Cond.initialized RX3, Cond.code yX3_size cX3_size 1 (some .int), Cond.fieldLink RX3 18 "GongTide$Strokes" "size" "I", Cond.methodLink RX5 151 yX3_hour, Cond.instanceMethod yX3_hour, Cond.selects RX3 yX3_hour yX3_hour, Cond.code yX3_hour cX3_hour 2 (some .int), Cond.fieldLink RX3 9 "GongTide$Strokes" "hours" "[I", Cond.methodLink RX3 26 yX3_has, Cond.instanceMethod yX3_has, Cond.selects RX3 yX3_has yX3_has, Cond.code yX3_has cX3_has 2 (some .boolean), Cond.methodLink RX5 145 yX3_loud, Cond.instanceMethod yX3_loud, Cond.selects RX3 yX3_loud yX3_loud, Cond.code yX3_loud cX3_loud 2 (some .int), Cond.fieldLink RX3 15 "GongTide$Strokes" "louds" "[I", Cond.methodLink RX5 242 yX4_add, Cond.instanceMethod yX4_add]
def wsX5_digestHouses_r3 : List Cond := [Cond.selects RX4 yX4_add yX4_add, Cond.code yX4_add cX4_add 5 none, Cond.methodLink RX4 15 Lib.Math.max.name, Cond.static Lib.Math.max.name, Cond.initialized "java/lang/Math", Cond.code Lib.Math.max.name Lib.Math.max.code 2 (some .int), Cond.methodLink RX5 110 yX5_kindAt, Cond.instanceMethod yX5_kindAt, Cond.selects RX5 yX5_kindAt yX5_kindAt, Cond.code yX5_kindAt cX5_kindAt 2 (some .int), Cond.fieldLink RX5 16 "GongTide" "kinds" "[I", Cond.methodLink RX5 113 yX0_level, Cond.instanceMethod yX0_level, Cond.selects RX0 yX0_level yX0_level, Cond.initialized RX0, Cond.code yX0_level cX0_level 2 (some .int), Cond.fieldLink RX0 9 "GongTide$Affairs" "levels" "[I", Cond.methodLink RX5 116 yX5_hoursOf, Cond.instanceMethod yX5_hoursOf, Cond.selects RX5 yX5_hoursOf yX5_hoursOf, Cond.code yX5_hoursOf cX5_hoursOf 6 (some .int), Cond.methodLink RX5 124 yX5_mannersAt, Cond.instanceMethod yX5_mannersAt, Cond.selects RX5 yX5_mannersAt yX5_mannersAt]
def wsX5_digestHouses_r4 : List Cond := [Cond.code yX5_mannersAt cX5_mannersAt 6 (some .int), Cond.methodLink RX5 254 Lib.Math.max.name, Cond.methodLink RX5 262 Lib.Math.min.name, Cond.static Lib.Math.min.name, Cond.code Lib.Math.min.name Lib.Math.min.code 2 (some .int), Cond.methodLink RX5 137 yX4_at, Cond.instanceMethod yX4_at, Cond.selects RX4 yX4_at yX4_at, Cond.code yX4_at cX4_at 2 (some .int), Cond.methodLink RX4 21 Lib.Math.min.name, Cond.methodLink RX5 259 yX5_above, Cond.static yX5_above, Cond.code yX5_above cX5_above 2 (some .int), Cond.methodLink RX5 265 yX5_howAt, Cond.static yX5_howAt, Cond.code yX5_howAt cX5_howAt 1 (some .int), Cond.methodLink RX5 120 yX5_hourOfMostManners, Cond.instanceMethod yX5_hourOfMostManners, Cond.selects RX5 yX5_hourOfMostManners yX5_hourOfMostManners, Cond.code yX5_hourOfMostManners cX5_hourOfMostManners 5 (some .int), Cond.methodLink RX5 216 yX5_mix, Cond.static yX5_mix, Cond.code yX5_mix cX5_mix 4 (some .long), Cond.constantLong RX5 239 (31)]
def wsX5_digestHouses : List Cond := .code yX5_digestHouses cX5_digestHouses 7 (some .long) :: ((wsX5_digestHouses_r1 ++ (wsX5_digestHouses_r2 ++ (wsX5_digestHouses_r3 ++ wsX5_digestHouses_r4))) ++ wsX50 ++ wsX00 ++ wsX40 ++ wsX30)
def wsX5_digestStrokes_r1 : List Cond := [Cond.fieldLink RX5 23 "GongTide" "affairs" "LGongTide$Affairs;", Cond.fieldLink RX5 86 "GongTide$Affairs" "strokes" "LGongTide$Strokes;", Cond.methodLink RX5 141 yX3_size, Cond.instanceMethod yX3_size, Cond.selects RX3 yX3_size yX3_size, Cond.initialized RX3, Cond.code yX3_size cX3_size 1 (some .int), Cond.fieldLink RX3 18 "GongTide$Strokes" "size" "I", Cond.methodLink RX5 236 yX5_stroke, Cond.instanceMethod yX5_stroke, Cond.selects RX5 yX5_stroke yX5_stroke, Cond.initialized RX5, Cond.code yX5_stroke cX5_stroke 3 (some .int), Cond.methodLink RX5 142 yX3_has, Cond.instanceMethod yX3_has, Cond.selects RX3 yX3_has yX3_has, Cond.code yX3_has cX3_has 2 (some .boolean), Cond.static yX5_isWithin, Cond.code yX5_isWithin cX5_isWithin 3 (some .boolean), Cond.methodLink RX5 151 yX3_hour, Cond.instanceMethod yX3_hour, Cond.selects RX3 yX3_hour yX3_hour, Cond.code yX3_hour cX3_hour 2 (some .int), Cond.fieldLink RX3 9 "GongTide$Strokes" "hours" "[I"]
def wsX5_digestStrokes_r2 : List Cond := [Cond.methodLink RX3 26 yX3_has, Cond.methodLink RX5 145 yX3_loud, Cond.instanceMethod yX3_loud, Cond.selects RX3 yX3_loud yX3_loud, Cond.code yX3_loud cX3_loud 2 (some .int), Cond.fieldLink RX3 15 "GongTide$Strokes" "louds" "[I", Cond.methodLink RX5 154 yX3_goneAt, Cond.instanceMethod yX3_goneAt, Cond.selects RX3 yX3_goneAt yX3_goneAt, Cond.code yX3_goneAt cX3_goneAt 3 (some .int), Cond.methodLink RX3 30 yX3_hour, Cond.methodLink RX3 34 yX3_loud, Cond.methodLink RX5 216 yX5_mix, Cond.static yX5_mix, Cond.code yX5_mix cX5_mix 4 (some .long), Cond.constantLong RX5 239 (31)]
def wsX5_digestStrokes : List Cond := .code yX5_digestStrokes cX5_digestStrokes 7 (some .long) :: ((wsX5_digestStrokes_r1 ++ wsX5_digestStrokes_r2) ++ wsX50 ++ wsX00 ++ wsX30)
def wsX5_digest_r1 : List Cond := [Cond.constantLong RX5 204 (1091), Cond.fieldLink RX5 10 "GongTide" "page" "LGongTide$Page;", Cond.methodLink RX5 206 yX5_digestHouses, Cond.instanceMethod yX5_digestHouses, Cond.selects RX5 yX5_digestHouses yX5_digestHouses, Cond.initialized RX5, Cond.code yX5_digestHouses cX5_digestHouses 7 (some .long), Cond.fieldLink RX5 65 "GongTide" "houseCount" "I", Cond.methodLink RX5 233 yX5_about, Cond.instanceMethod yX5_about, Cond.selects RX5 yX5_about yX5_about, Cond.code yX5_about cX5_about 4 (some .int), Cond.fieldLink RX5 23 "GongTide" "affairs" "LGongTide$Affairs;", Cond.methodLink RX5 103 yX5_isHouse, Cond.instanceMethod yX5_isHouse, Cond.selects RX5 yX5_isHouse yX5_isHouse, Cond.code yX5_isHouse cX5_isHouse 2 (some .boolean), Cond.methodLink RX5 40 yX5_isWithin, Cond.static yX5_isWithin, Cond.code yX5_isWithin cX5_isWithin 3 (some .boolean), Cond.methodLink RX5 106 yX5_tideNow, Cond.instanceMethod yX5_tideNow, Cond.selects RX5 yX5_tideNow yX5_tideNow, Cond.code yX5_tideNow cX5_tideNow 3 (some (.object "GongTide$Tide"))]
def wsX5_digest_r2 : List Cond := [Cond.fieldLink RX5 33 "GongTide" "now" "LGongTide$Tide;", Cond.fieldLink RX5 86 "GongTide$Affairs" "strokes" "LGongTide$Strokes;", Cond.methodLink RX5 241 yX4_clear, Cond.instanceMethod yX4_clear, Cond.selects RX4 yX4_clear yX4_clear, Cond.initialized RX4, Cond.code yX4_clear cX4_clear 2 none, Cond.fieldLink RX4 9 "GongTide$Tide" "sums" "[I", Cond.methodLink RX5 141 yX3_size, Cond.instanceMethod yX3_size, Cond.selects RX3 yX3_size yX3_size, Cond.initialized RX3, Cond.code yX3_size cX3_size 1 (some .int), Cond.fieldLink RX3 18 "GongTide$Strokes" "size" "I", Cond.methodLink RX5 151 yX3_hour, Cond.instanceMethod yX3_hour, Cond.selects RX3 yX3_hour yX3_hour, Cond.code yX3_hour cX3_hour 2 (some .int), Cond.fieldLink RX3 9 "GongTide$Strokes" "hours" "[I", Cond.methodLink RX3 26 yX3_has, Cond.instanceMethod yX3_has, Cond.selects RX3 yX3_has yX3_has, Cond.code yX3_has cX3_has 2 (some .boolean), Cond.methodLink RX5 145 yX3_loud]
def wsX5_digest_r3 : List Cond := [Cond.instanceMethod yX3_loud, Cond.selects RX3 yX3_loud yX3_loud, Cond.code yX3_loud cX3_loud 2 (some .int), Cond.fieldLink RX3 15 "GongTide$Strokes" "louds" "[I", Cond.methodLink RX5 242 yX4_add, Cond.instanceMethod yX4_add, Cond.selects RX4 yX4_add yX4_add, Cond.code yX4_add cX4_add 5 none, Cond.methodLink RX4 15 Lib.Math.max.name, Cond.static Lib.Math.max.name, Cond.initialized "java/lang/Math", Cond.code Lib.Math.max.name Lib.Math.max.code 2 (some .int), Cond.methodLink RX5 110 yX5_kindAt, Cond.instanceMethod yX5_kindAt, Cond.selects RX5 yX5_kindAt yX5_kindAt, Cond.code yX5_kindAt cX5_kindAt 2 (some .int), Cond.fieldLink RX5 16 "GongTide" "kinds" "[I", Cond.methodLink RX5 113 yX0_level, Cond.instanceMethod yX0_level, Cond.selects RX0 yX0_level yX0_level, Cond.initialized RX0, Cond.code yX0_level cX0_level 2 (some .int), Cond.fieldLink RX0 9 "GongTide$Affairs" "levels" "[I", Cond.methodLink RX5 116 yX5_hoursOf]
def wsX5_digest_r4 : List Cond := [Cond.instanceMethod yX5_hoursOf, Cond.selects RX5 yX5_hoursOf yX5_hoursOf, Cond.code yX5_hoursOf cX5_hoursOf 6 (some .int), Cond.methodLink RX5 124 yX5_mannersAt, Cond.instanceMethod yX5_mannersAt, Cond.selects RX5 yX5_mannersAt yX5_mannersAt, Cond.code yX5_mannersAt cX5_mannersAt 6 (some .int), Cond.methodLink RX5 254 Lib.Math.max.name, Cond.methodLink RX5 262 Lib.Math.min.name, Cond.static Lib.Math.min.name, Cond.code Lib.Math.min.name Lib.Math.min.code 2 (some .int), Cond.methodLink RX5 137 yX4_at, Cond.instanceMethod yX4_at, Cond.selects RX4 yX4_at yX4_at, Cond.code yX4_at cX4_at 2 (some .int), Cond.methodLink RX4 21 Lib.Math.min.name, Cond.methodLink RX5 259 yX5_above, Cond.static yX5_above, Cond.code yX5_above cX5_above 2 (some .int), Cond.methodLink RX5 265 yX5_howAt, Cond.static yX5_howAt, Cond.code yX5_howAt cX5_howAt 1 (some .int), Cond.methodLink RX5 120 yX5_hourOfMostManners, Cond.instanceMethod yX5_hourOfMostManners]
def wsX5_digest_r5 : List Cond := [Cond.selects RX5 yX5_hourOfMostManners yX5_hourOfMostManners, Cond.code yX5_hourOfMostManners cX5_hourOfMostManners 5 (some .int), Cond.methodLink RX5 216 yX5_mix, Cond.static yX5_mix, Cond.code yX5_mix cX5_mix 4 (some .long), Cond.constantLong RX5 239 (31), Cond.methodLink RX5 210 yX5_digestStrokes, Cond.instanceMethod yX5_digestStrokes, Cond.selects RX5 yX5_digestStrokes yX5_digestStrokes, Cond.code yX5_digestStrokes cX5_digestStrokes 7 (some .long), Cond.methodLink RX5 236 yX5_stroke, Cond.instanceMethod yX5_stroke, Cond.selects RX5 yX5_stroke yX5_stroke, Cond.code yX5_stroke cX5_stroke 3 (some .int), Cond.methodLink RX5 142 yX3_has, Cond.methodLink RX5 154 yX3_goneAt, Cond.instanceMethod yX3_goneAt, Cond.selects RX3 yX3_goneAt yX3_goneAt, Cond.code yX3_goneAt cX3_goneAt 3 (some .int), Cond.methodLink RX3 30 yX3_hour, Cond.methodLink RX3 34 yX3_loud, Cond.methodLink RX5 134 yX5_hasColony, Cond.instanceMethod yX5_hasColony, Cond.selects RX5 yX5_hasColony yX5_hasColony]
def wsX5_digest_r6 : List Cond := [Cond.code yX5_hasColony cX5_hasColony 1 (some .boolean), Cond.methodLink RX5 213 yX5_tide, Cond.instanceMethod yX5_tide, Cond.selects RX5 yX5_tide yX5_tide, Cond.code yX5_tide cX5_tide 2 (some .int), Cond.methodLink RX5 131 yX5_isHourOfDay, Cond.static yX5_isHourOfDay, Cond.code yX5_isHourOfDay cX5_isHourOfDay 1 (some .boolean), Cond.methodLink RX5 157 yX5_allHouses, Cond.instanceMethod yX5_allHouses, Cond.selects RX5 yX5_allHouses yX5_allHouses, Cond.code yX5_allHouses cX5_allHouses 1 (some .int), Cond.methodLink RX5 220 yX5_dinner, Cond.instanceMethod yX5_dinner, Cond.selects RX5 yX5_dinner yX5_dinner, Cond.code yX5_dinner cX5_dinner 5 (some .int), Cond.methodLink RX5 160 yX5_canDine, Cond.instanceMethod yX5_canDine, Cond.selects RX5 yX5_canDine yX5_canDine, Cond.code yX5_canDine cX5_canDine 8 (some .boolean), Cond.methodLink RX5 224 yX5_best, Cond.instanceMethod yX5_best, Cond.selects RX5 yX5_best yX5_best, Cond.code yX5_best cX5_best 8 (some .int)]
def wsX5_digest_r7 : List Cond := [Cond.methodLink RX5 138 yX5_isHeardLoud, Cond.static yX5_isHeardLoud, Cond.code yX5_isHeardLoud cX5_isHeardLoud 1 (some .boolean), Cond.methodLink RX5 164 yX5_suppose, Cond.instanceMethod yX5_suppose, Cond.selects RX5 yX5_suppose yX5_suppose, Cond.code yX5_suppose cX5_suppose 4 (some (.object "GongTide$Tide")), Cond.fieldLink RX5 37 "GongTide" "supposed" "LGongTide$Tide;", Cond.methodLink RX5 244 yX4_copyFrom, Cond.instanceMethod yX4_copyFrom, Cond.selects RX4 yX4_copyFrom yX4_copyFrom, Cond.code yX4_copyFrom cX4_copyFrom 3 none, Cond.methodLink RX5 168 yX5_hoursOfAll, Cond.instanceMethod yX5_hoursOfAll, Cond.selects RX5 yX5_hoursOfAll yX5_hoursOfAll, Cond.code yX5_hoursOfAll cX5_hoursOfAll 5 (some .int), Cond.methodLink RX5 187 yX5_hours, Cond.instanceMethod yX5_hours, Cond.selects RX5 yX5_hours yX5_hours, Cond.code yX5_hours cX5_hours 4 (some .int), Cond.methodLink RX5 183 yX5_agreesWithHeard, Cond.instanceMethod yX5_agreesWithHeard, Cond.selects RX5 yX5_agreesWithHeard yX5_agreesWithHeard, Cond.code yX5_agreesWithHeard cX5_agreesWithHeard 7 (some .boolean)]
def wsX5_digest_r8 : List Cond := [Cond.fieldLink RX5 171 "GongTide$Affairs" "heard" "LGongTide$Heard;", Cond.methodLink RX5 180 yX1_size, Cond.instanceMethod yX1_size, Cond.selects RX1 yX1_size yX1_size, Cond.initialized RX1, Cond.code yX1_size cX1_size 1 (some .int), Cond.fieldLink RX1 24 "GongTide$Heard" "size" "I", Cond.methodLink RX5 268 yX1_loud, Cond.instanceMethod yX1_loud, Cond.selects RX1 yX1_loud yX1_loud, Cond.code yX1_loud cX1_loud 2 (some .int), Cond.fieldLink RX1 18 "GongTide$Heard" "louds" "[I", Cond.methodLink RX1 32 yX1_has, Cond.instanceMethod yX1_has, Cond.selects RX1 yX1_has yX1_has, Cond.code yX1_has cX1_has 2 (some .boolean), Cond.methodLink RX5 269 yX1_house, Cond.instanceMethod yX1_house, Cond.selects RX1 yX1_house yX1_house, Cond.code yX1_house cX1_house 2 (some .int), Cond.fieldLink RX1 9 "GongTide$Heard" "houses" "[I", Cond.methodLink RX5 272 yX1_hour, Cond.instanceMethod yX1_hour, Cond.selects RX1 yX1_hour yX1_hour]
def wsX5_digest_r9 : List Cond := [Cond.code yX1_hour cX1_hour 2 (some .int), Cond.fieldLink RX1 15 "GongTide$Heard" "hours" "[I", Cond.methodLink RX5 273 yX1_how, Cond.instanceMethod yX1_how, Cond.selects RX1 yX1_how yX1_how, Cond.code yX1_how cX1_how 2 (some .int), Cond.fieldLink RX1 21 "GongTide$Heard" "hows" "[I", Cond.methodLink RX5 227 yX5_ask, Cond.instanceMethod yX5_ask, Cond.selects RX5 yX5_ask yX5_ask, Cond.code yX5_ask cX5_ask 8 (some .int), Cond.methodLink RX5 190 yX5_mostLeft, Cond.instanceMethod yX5_mostLeft, Cond.selects RX5 yX5_mostLeft yX5_mostLeft, Cond.code yX5_mostLeft cX5_mostLeft 10 (some .int), Cond.methodLink RX5 276 yX1_lastLoud, Cond.instanceMethod yX1_lastLoud, Cond.selects RX1 yX1_lastLoud yX1_lastLoud, Cond.code yX1_lastLoud cX1_lastLoud 1 (some .int), Cond.methodLink RX1 36 yX1_loud, Cond.methodLink RX5 48 yX2_size, Cond.instanceMethod yX2_size, Cond.selects RX2 yX2_size yX2_size, Cond.initialized RX2]
def wsX5_digest_r10 : List Cond := [Cond.code yX2_size cX2_size 1 (some .int), Cond.fieldLink RX2 15 "GongTide$Page" "size" "I", Cond.methodLink RX5 72 yX2_at, Cond.instanceMethod yX2_at, Cond.selects RX2 yX2_at yX2_at, Cond.code yX2_at cX2_at 2 (some .int), Cond.fieldLink RX2 9 "GongTide$Page" "codes" "[I", Cond.methodLink RX5 230 yX5_count, Cond.instanceMethod yX5_count, Cond.selects RX5 yX5_count yX5_count, Cond.code yX5_count cX5_count 2 (some .int), Cond.fieldLink RX5 128 "GongTide$Affairs" "changes" "I", Cond.fieldLink RX5 100 "GongTide" "readings" "I", Cond.methodLink RX5 201 yX4_greatest, Cond.instanceMethod yX4_greatest, Cond.selects RX4 yX4_greatest yX4_greatest, Cond.code yX4_greatest cX4_greatest 3 (some .int), Cond.methodLink RX4 24 yX4_at]
def wsX5_digest : List Cond := .code yX5_digest cX5_digest 4 (some .long) :: ((wsX5_digest_r1 ++ (wsX5_digest_r2 ++ (wsX5_digest_r3 ++ (wsX5_digest_r4 ++ (wsX5_digest_r5 ++ (wsX5_digest_r6 ++ (wsX5_digest_r7 ++ (wsX5_digest_r8 ++ (wsX5_digest_r9 ++ wsX5_digest_r10))))))))) ++ wsX50 ++ wsX00 ++ wsX40 ++ wsX30 ++ wsX10 ++ wsX20)
def wsX6_init : List Cond := .code yX6_init cX6_init 1 none :: ([.methodLink RX6 1 objectInit, .instanceMethod objectInit, .code objectInit ⟨#[0xb1]⟩ 1 none, .arrayClass .int, .fieldLink RX6 7 "GongTideModel" "kindOf" "[I", .fieldLink RX6 13 "GongTideModel" "levelOf" "[I", .fieldLink RX6 16 "GongTideModel" "hourOf" "[I", .fieldLink RX6 19 "GongTideModel" "loudOf" "[I", .fieldLink RX6 22 "GongTideModel" "heardHouse" "[I", .fieldLink RX6 25 "GongTideModel" "heardHour" "[I", .fieldLink RX6 28 "GongTideModel" "heardLoud" "[I", .fieldLink RX6 31 "GongTideModel" "heardHow" "[I", .arrayClass .byte, .fieldLink RX6 34 "GongTideModel" "page" "[B", .fieldLink RX6 38 "GongTideModel" "savedHour" "[I", .fieldLink RX6 41 "GongTideModel" "keptLevel" "[I", .fieldLink RX6 44 "GongTideModel" "keptHour" "[I", .fieldLink RX6 47 "GongTideModel" "keptLoud" "[I", .fieldLink RX6 50 "GongTideModel" "keptHouse" "[I", .fieldLink RX6 53 "GongTideModel" "keptHeardHour" "[I", .fieldLink RX6 56 "GongTideModel" "keptHeardLoud" "[I", .fieldLink RX6 59 "GongTideModel" "keptHow" "[I"] ++ wsX60)
def wsX6_within : List Cond := .code yX6_within cX6_within 3 (some .boolean) :: ([])
def wsX6_isIn : List Cond := .code yX6_isIn cX6_isIn 2 (some .boolean) :: ([])
def wsX6_letter : List Cond := .code yX6_letter cX6_letter 2 (some .int) :: ([.fieldLink RX6 66 "GongTideModel" "pageLength" "I", .fieldLink RX6 34 "GongTideModel" "page" "[B", .methodLink RX6 62 yX6_within, .static yX6_within, .initialized RX6, .code yX6_within cX6_within 3 (some .boolean)] ++ wsX60)
def wsX6_blank : List Cond := .code yX6_blank cX6_blank 2 (some .int) :: ([.fieldLink RX6 66 "GongTideModel" "pageLength" "I"] ++ wsX60)
def wsX6_kindBy : List Cond := .code yX6_kindBy cX6_kindBy 1 (some .int) :: ([])
def wsX6_figure : List Cond := .code yX6_figure cX6_figure 2 (some .int) :: ([.fieldLink RX6 66 "GongTideModel" "pageLength" "I", .fieldLink RX6 34 "GongTideModel" "page" "[B"] ++ wsX60)
def wsX6_readStrokes : List Cond := .code yX6_readStrokes cX6_readStrokes 3 (some .int) :: ([.fieldLink RX6 70 "GongTideModel" "newStrokes" "I", .fieldLink RX6 66 "GongTideModel" "pageLength" "I", .fieldLink RX6 73 "GongTideModel" "isWhole" "Z", .methodLink RX6 77 yX6_figure, .instanceMethod yX6_figure, .selects RX6 yX6_figure yX6_figure, .initialized RX6, .code yX6_figure cX6_figure 2 (some .int), .fieldLink RX6 34 "GongTideModel" "page" "[B", .methodLink RX6 62 yX6_within, .static yX6_within, .code yX6_within cX6_within 3 (some .boolean)] ++ wsX60)
def wsX6_read : List Cond := .code yX6_read cX6_read 2 (some .int) :: ([.fieldLink RX6 73 "GongTideModel" "isWhole" "Z", .fieldLink RX6 81 "GongTideModel" "newHouses" "I", .fieldLink RX6 70 "GongTideModel" "newStrokes" "I", .fieldLink RX6 66 "GongTideModel" "pageLength" "I", .fieldLink RX6 34 "GongTideModel" "page" "[B", .methodLink RX6 84 yX6_kindBy, .static yX6_kindBy, .initialized RX6, .code yX6_kindBy cX6_kindBy 1 (some .int), .methodLink RX6 77 yX6_figure, .instanceMethod yX6_figure, .selects RX6 yX6_figure yX6_figure, .code yX6_figure cX6_figure 2 (some .int), .methodLink RX6 62 yX6_within, .static yX6_within, .code yX6_within cX6_within 3 (some .boolean), .methodLink RX6 87 yX6_readStrokes, .instanceMethod yX6_readStrokes, .selects RX6 yX6_readStrokes yX6_readStrokes, .code yX6_readStrokes cX6_readStrokes 3 (some .int)] ++ wsX60)
def wsX6_fault : List Cond := .code yX6_fault cX6_fault 1 (some .int) :: ([.methodLink RX6 90 yX6_read, .instanceMethod yX6_read, .selects RX6 yX6_read yX6_read, .initialized RX6, .code yX6_read cX6_read 2 (some .int), .fieldLink RX6 73 "GongTideModel" "isWhole" "Z", .fieldLink RX6 81 "GongTideModel" "newHouses" "I", .fieldLink RX6 70 "GongTideModel" "newStrokes" "I", .fieldLink RX6 66 "GongTideModel" "pageLength" "I", .fieldLink RX6 34 "GongTideModel" "page" "[B", .methodLink RX6 84 yX6_kindBy, .static yX6_kindBy, .code yX6_kindBy cX6_kindBy 1 (some .int), .methodLink RX6 77 yX6_figure, .instanceMethod yX6_figure, .selects RX6 yX6_figure yX6_figure, .code yX6_figure cX6_figure 2 (some .int), .methodLink RX6 62 yX6_within, .static yX6_within, .code yX6_within cX6_within 3 (some .boolean), .methodLink RX6 87 yX6_readStrokes, .instanceMethod yX6_readStrokes, .selects RX6 yX6_readStrokes yX6_readStrokes, .code yX6_readStrokes cX6_readStrokes 3 (some .int)] ++ wsX60)
def wsX6_colony_r1 : List Cond := [Cond.fieldLink RX6 73 "GongTideModel" "isWhole" "Z", Cond.fieldLink RX6 81 "GongTideModel" "newHouses" "I", Cond.fieldLink RX6 94 "GongTideModel" "houses" "I", Cond.fieldLink RX6 70 "GongTideModel" "newStrokes" "I", Cond.fieldLink RX6 97 "GongTideModel" "strokes" "I", Cond.fieldLink RX6 7 "GongTideModel" "kindOf" "[I", Cond.fieldLink RX6 34 "GongTideModel" "page" "[B", Cond.fieldLink RX6 13 "GongTideModel" "levelOf" "[I", Cond.fieldLink RX6 16 "GongTideModel" "hourOf" "[I", Cond.fieldLink RX6 19 "GongTideModel" "loudOf" "[I", Cond.fieldLink RX6 100 "GongTideModel" "colonies" "I", Cond.fieldLink RX6 103 "GongTideModel" "changes" "I", Cond.fieldLink RX6 106 "GongTideModel" "heard" "I", Cond.fieldLink RX6 66 "GongTideModel" "pageLength" "I", Cond.methodLink RX6 90 yX6_read, Cond.instanceMethod yX6_read, Cond.selects RX6 yX6_read yX6_read, Cond.initialized RX6, Cond.code yX6_read cX6_read 2 (some .int), Cond.methodLink RX6 84 yX6_kindBy, Cond.static yX6_kindBy, Cond.code yX6_kindBy cX6_kindBy 1 (some .int), Cond.methodLink RX6 77 yX6_figure, Cond.instanceMethod yX6_figure]
def wsX6_colony_r2 : List Cond := [Cond.selects RX6 yX6_figure yX6_figure, Cond.code yX6_figure cX6_figure 2 (some .int), Cond.methodLink RX6 62 yX6_within, Cond.static yX6_within, Cond.code yX6_within cX6_within 3 (some .boolean), Cond.methodLink RX6 87 yX6_readStrokes, Cond.instanceMethod yX6_readStrokes, Cond.selects RX6 yX6_readStrokes yX6_readStrokes, Cond.code yX6_readStrokes cX6_readStrokes 3 (some .int)]
def wsX6_colony : List Cond := .code yX6_colony cX6_colony 2 (some .int) :: ((wsX6_colony_r1 ++ wsX6_colony_r2) ++ wsX60)
def wsX6_isHouse : List Cond := .code yX6_isHouse cX6_isHouse 2 (some .boolean) :: ([.fieldLink RX6 94 "GongTideModel" "houses" "I", .methodLink RX6 62 yX6_within, .static yX6_within, .initialized RX6, .code yX6_within cX6_within 3 (some .boolean)] ++ wsX60)
def wsX6_isStroke : List Cond := .code yX6_isStroke cX6_isStroke 2 (some .boolean) :: ([.fieldLink RX6 97 "GongTideModel" "strokes" "I", .methodLink RX6 62 yX6_within, .static yX6_within, .initialized RX6, .code yX6_within cX6_within 3 (some .boolean)] ++ wsX60)
def wsX6_isHour : List Cond := .code yX6_isHour cX6_isHour 1 (some .boolean) :: ([.methodLink RX6 62 yX6_within, .static yX6_within, .initialized RX6, .code yX6_within cX6_within 3 (some .boolean)])
def wsX6_tideAt : List Cond := .code yX6_tideAt cX6_tideAt 6 (some .int) :: ([.fieldLink RX6 97 "GongTideModel" "strokes" "I", .fieldLink RX6 109 "GongTideModel" "thought" "I", .fieldLink RX6 16 "GongTideModel" "hourOf" "[I", .fieldLink RX6 19 "GongTideModel" "loudOf" "[I"] ++ wsX60)
def wsX6_tideBefore : List Cond := .code yX6_tideBefore cX6_tideBefore 2 (some .int) :: ([.methodLink RX6 112 yX6_tideAt, .instanceMethod yX6_tideAt, .selects RX6 yX6_tideAt yX6_tideAt, .initialized RX6, .code yX6_tideAt cX6_tideAt 6 (some .int), .fieldLink RX6 97 "GongTideModel" "strokes" "I", .fieldLink RX6 109 "GongTideModel" "thought" "I", .fieldLink RX6 16 "GongTideModel" "hourOf" "[I", .fieldLink RX6 19 "GongTideModel" "loudOf" "[I"] ++ wsX60)
def wsX6_less : List Cond := .code yX6_less cX6_less 2 (some .int) :: ([])
def wsX6_mannersAt : List Cond := .code yX6_mannersAt cX6_mannersAt 4 (some .int) :: ([.fieldLink RX6 13 "GongTideModel" "levelOf" "[I", .fieldLink RX6 7 "GongTideModel" "kindOf" "[I", .methodLink RX6 112 yX6_tideAt, .instanceMethod yX6_tideAt, .selects RX6 yX6_tideAt yX6_tideAt, .initialized RX6, .code yX6_tideAt cX6_tideAt 6 (some .int), .fieldLink RX6 97 "GongTideModel" "strokes" "I", .fieldLink RX6 109 "GongTideModel" "thought" "I", .fieldLink RX6 16 "GongTideModel" "hourOf" "[I", .fieldLink RX6 19 "GongTideModel" "loudOf" "[I", .methodLink RX6 115 yX6_less, .static yX6_less, .code yX6_less cX6_less 2 (some .int), .methodLink RX6 119 yX6_tideBefore, .instanceMethod yX6_tideBefore, .selects RX6 yX6_tideBefore yX6_tideBefore, .code yX6_tideBefore cX6_tideBefore 2 (some .int)] ++ wsX60)
def wsX6_howAt : List Cond := .code yX6_howAt cX6_howAt 4 (some .int) :: ([.methodLink RX6 122 yX6_mannersAt, .instanceMethod yX6_mannersAt, .selects RX6 yX6_mannersAt yX6_mannersAt, .initialized RX6, .code yX6_mannersAt cX6_mannersAt 4 (some .int), .fieldLink RX6 13 "GongTideModel" "levelOf" "[I", .fieldLink RX6 7 "GongTideModel" "kindOf" "[I", .methodLink RX6 112 yX6_tideAt, .instanceMethod yX6_tideAt, .selects RX6 yX6_tideAt yX6_tideAt, .code yX6_tideAt cX6_tideAt 6 (some .int), .fieldLink RX6 97 "GongTideModel" "strokes" "I", .fieldLink RX6 109 "GongTideModel" "thought" "I", .fieldLink RX6 16 "GongTideModel" "hourOf" "[I", .fieldLink RX6 19 "GongTideModel" "loudOf" "[I", .methodLink RX6 115 yX6_less, .static yX6_less, .code yX6_less cX6_less 2 (some .int), .methodLink RX6 119 yX6_tideBefore, .instanceMethod yX6_tideBefore, .selects RX6 yX6_tideBefore yX6_tideBefore, .code yX6_tideBefore cX6_tideBefore 2 (some .int)] ++ wsX60)
def wsX6_hoursOf_r1 : List Cond := [Cond.methodLink RX6 125 yX6_howAt, Cond.instanceMethod yX6_howAt, Cond.selects RX6 yX6_howAt yX6_howAt, Cond.initialized RX6, Cond.code yX6_howAt cX6_howAt 4 (some .int), Cond.methodLink RX6 122 yX6_mannersAt, Cond.instanceMethod yX6_mannersAt, Cond.selects RX6 yX6_mannersAt yX6_mannersAt, Cond.code yX6_mannersAt cX6_mannersAt 4 (some .int), Cond.fieldLink RX6 13 "GongTideModel" "levelOf" "[I", Cond.fieldLink RX6 7 "GongTideModel" "kindOf" "[I", Cond.methodLink RX6 112 yX6_tideAt, Cond.instanceMethod yX6_tideAt, Cond.selects RX6 yX6_tideAt yX6_tideAt, Cond.code yX6_tideAt cX6_tideAt 6 (some .int), Cond.fieldLink RX6 97 "GongTideModel" "strokes" "I", Cond.fieldLink RX6 109 "GongTideModel" "thought" "I", Cond.fieldLink RX6 16 "GongTideModel" "hourOf" "[I", Cond.fieldLink RX6 19 "GongTideModel" "loudOf" "[I", Cond.methodLink RX6 115 yX6_less, Cond.static yX6_less, Cond.code yX6_less cX6_less 2 (some .int), Cond.methodLink RX6 119 yX6_tideBefore, Cond.instanceMethod yX6_tideBefore]
def wsX6_hoursOf_r2 : List Cond := [Cond.selects RX6 yX6_tideBefore yX6_tideBefore, Cond.code yX6_tideBefore cX6_tideBefore 2 (some .int)]
def wsX6_hoursOf : List Cond := .code yX6_hoursOf cX6_hoursOf 5 (some .int) :: ((wsX6_hoursOf_r1 ++ wsX6_hoursOf_r2) ++ wsX60)
def wsX6_hoursAll_r1 : List Cond := [Cond.fieldLink RX6 94 "GongTideModel" "houses" "I", Cond.methodLink RX6 128 yX6_hoursOf, Cond.instanceMethod yX6_hoursOf, Cond.selects RX6 yX6_hoursOf yX6_hoursOf, Cond.initialized RX6, Cond.code yX6_hoursOf cX6_hoursOf 5 (some .int), Cond.methodLink RX6 125 yX6_howAt, Cond.instanceMethod yX6_howAt, Cond.selects RX6 yX6_howAt yX6_howAt, Cond.code yX6_howAt cX6_howAt 4 (some .int), Cond.methodLink RX6 122 yX6_mannersAt, Cond.instanceMethod yX6_mannersAt, Cond.selects RX6 yX6_mannersAt yX6_mannersAt, Cond.code yX6_mannersAt cX6_mannersAt 4 (some .int), Cond.fieldLink RX6 13 "GongTideModel" "levelOf" "[I", Cond.fieldLink RX6 7 "GongTideModel" "kindOf" "[I", Cond.methodLink RX6 112 yX6_tideAt, Cond.instanceMethod yX6_tideAt, Cond.selects RX6 yX6_tideAt yX6_tideAt, Cond.code yX6_tideAt cX6_tideAt 6 (some .int), Cond.fieldLink RX6 97 "GongTideModel" "strokes" "I", Cond.fieldLink RX6 109 "GongTideModel" "thought" "I", Cond.fieldLink RX6 16 "GongTideModel" "hourOf" "[I", Cond.fieldLink RX6 19 "GongTideModel" "loudOf" "[I"]
def wsX6_hoursAll_r2 : List Cond := [Cond.methodLink RX6 115 yX6_less, Cond.static yX6_less, Cond.code yX6_less cX6_less 2 (some .int), Cond.methodLink RX6 119 yX6_tideBefore, Cond.instanceMethod yX6_tideBefore, Cond.selects RX6 yX6_tideBefore yX6_tideBefore, Cond.code yX6_tideBefore cX6_tideBefore 2 (some .int)]
def wsX6_hoursAll : List Cond := .code yX6_hoursAll cX6_hoursAll 4 (some .int) :: ((wsX6_hoursAll_r1 ++ wsX6_hoursAll_r2) ++ wsX60)
def wsX6_greatestHour : List Cond := .code yX6_greatestHour cX6_greatestHour 4 (some .int) :: ([.methodLink RX6 122 yX6_mannersAt, .instanceMethod yX6_mannersAt, .selects RX6 yX6_mannersAt yX6_mannersAt, .initialized RX6, .code yX6_mannersAt cX6_mannersAt 4 (some .int), .fieldLink RX6 13 "GongTideModel" "levelOf" "[I", .fieldLink RX6 7 "GongTideModel" "kindOf" "[I", .methodLink RX6 112 yX6_tideAt, .instanceMethod yX6_tideAt, .selects RX6 yX6_tideAt yX6_tideAt, .code yX6_tideAt cX6_tideAt 6 (some .int), .fieldLink RX6 97 "GongTideModel" "strokes" "I", .fieldLink RX6 109 "GongTideModel" "thought" "I", .fieldLink RX6 16 "GongTideModel" "hourOf" "[I", .fieldLink RX6 19 "GongTideModel" "loudOf" "[I", .methodLink RX6 115 yX6_less, .static yX6_less, .code yX6_less cX6_less 2 (some .int), .methodLink RX6 119 yX6_tideBefore, .instanceMethod yX6_tideBefore, .selects RX6 yX6_tideBefore yX6_tideBefore, .code yX6_tideBefore cX6_tideBefore 2 (some .int)] ++ wsX60)
def wsX6_houseNow_r1 : List Cond := [Cond.fieldLink RX6 7 "GongTideModel" "kindOf" "[I", Cond.fieldLink RX6 13 "GongTideModel" "levelOf" "[I", Cond.methodLink RX6 128 yX6_hoursOf, Cond.instanceMethod yX6_hoursOf, Cond.selects RX6 yX6_hoursOf yX6_hoursOf, Cond.initialized RX6, Cond.code yX6_hoursOf cX6_hoursOf 5 (some .int), Cond.methodLink RX6 125 yX6_howAt, Cond.instanceMethod yX6_howAt, Cond.selects RX6 yX6_howAt yX6_howAt, Cond.code yX6_howAt cX6_howAt 4 (some .int), Cond.methodLink RX6 122 yX6_mannersAt, Cond.instanceMethod yX6_mannersAt, Cond.selects RX6 yX6_mannersAt yX6_mannersAt, Cond.code yX6_mannersAt cX6_mannersAt 4 (some .int), Cond.methodLink RX6 112 yX6_tideAt, Cond.instanceMethod yX6_tideAt, Cond.selects RX6 yX6_tideAt yX6_tideAt, Cond.code yX6_tideAt cX6_tideAt 6 (some .int), Cond.fieldLink RX6 97 "GongTideModel" "strokes" "I", Cond.fieldLink RX6 109 "GongTideModel" "thought" "I", Cond.fieldLink RX6 16 "GongTideModel" "hourOf" "[I", Cond.fieldLink RX6 19 "GongTideModel" "loudOf" "[I", Cond.methodLink RX6 115 yX6_less]
def wsX6_houseNow_r2 : List Cond := [Cond.static yX6_less, Cond.code yX6_less cX6_less 2 (some .int), Cond.methodLink RX6 119 yX6_tideBefore, Cond.instanceMethod yX6_tideBefore, Cond.selects RX6 yX6_tideBefore yX6_tideBefore, Cond.code yX6_tideBefore cX6_tideBefore 2 (some .int), Cond.methodLink RX6 131 yX6_greatestHour, Cond.instanceMethod yX6_greatestHour, Cond.selects RX6 yX6_greatestHour yX6_greatestHour, Cond.code yX6_greatestHour cX6_greatestHour 4 (some .int)]
def wsX6_houseNow : List Cond := .code yX6_houseNow cX6_houseNow 3 (some .int) :: ((wsX6_houseNow_r1 ++ wsX6_houseNow_r2) ++ wsX60)
def wsX6_about_r1 : List Cond := [Cond.methodLink RX6 134 yX6_isHouse, Cond.instanceMethod yX6_isHouse, Cond.selects RX6 yX6_isHouse yX6_isHouse, Cond.initialized RX6, Cond.code yX6_isHouse cX6_isHouse 2 (some .boolean), Cond.fieldLink RX6 94 "GongTideModel" "houses" "I", Cond.methodLink RX6 62 yX6_within, Cond.static yX6_within, Cond.code yX6_within cX6_within 3 (some .boolean), Cond.methodLink RX6 138 yX6_houseNow, Cond.instanceMethod yX6_houseNow, Cond.selects RX6 yX6_houseNow yX6_houseNow, Cond.code yX6_houseNow cX6_houseNow 3 (some .int), Cond.fieldLink RX6 7 "GongTideModel" "kindOf" "[I", Cond.fieldLink RX6 13 "GongTideModel" "levelOf" "[I", Cond.methodLink RX6 128 yX6_hoursOf, Cond.instanceMethod yX6_hoursOf, Cond.selects RX6 yX6_hoursOf yX6_hoursOf, Cond.code yX6_hoursOf cX6_hoursOf 5 (some .int), Cond.methodLink RX6 125 yX6_howAt, Cond.instanceMethod yX6_howAt, Cond.selects RX6 yX6_howAt yX6_howAt, Cond.code yX6_howAt cX6_howAt 4 (some .int), Cond.methodLink RX6 122 yX6_mannersAt]
def wsX6_about_r2 : List Cond := [Cond.instanceMethod yX6_mannersAt, Cond.selects RX6 yX6_mannersAt yX6_mannersAt, Cond.code yX6_mannersAt cX6_mannersAt 4 (some .int), Cond.methodLink RX6 112 yX6_tideAt, Cond.instanceMethod yX6_tideAt, Cond.selects RX6 yX6_tideAt yX6_tideAt, Cond.code yX6_tideAt cX6_tideAt 6 (some .int), Cond.fieldLink RX6 97 "GongTideModel" "strokes" "I", Cond.fieldLink RX6 109 "GongTideModel" "thought" "I", Cond.fieldLink RX6 16 "GongTideModel" "hourOf" "[I", Cond.fieldLink RX6 19 "GongTideModel" "loudOf" "[I", Cond.methodLink RX6 115 yX6_less, Cond.static yX6_less, Cond.code yX6_less cX6_less 2 (some .int), Cond.methodLink RX6 119 yX6_tideBefore, Cond.instanceMethod yX6_tideBefore, Cond.selects RX6 yX6_tideBefore yX6_tideBefore, Cond.code yX6_tideBefore cX6_tideBefore 2 (some .int), Cond.methodLink RX6 131 yX6_greatestHour, Cond.instanceMethod yX6_greatestHour, Cond.selects RX6 yX6_greatestHour yX6_greatestHour, Cond.code yX6_greatestHour cX6_greatestHour 4 (some .int)]
def wsX6_about : List Cond := .code yX6_about cX6_about 3 (some .int) :: ((wsX6_about_r1 ++ wsX6_about_r2) ++ wsX60)
def wsX6_as : List Cond := .code yX6_as cX6_as 4 (some .int) :: ([.fieldLink RX6 7 "GongTideModel" "kindOf" "[I", .methodLink RX6 134 yX6_isHouse, .instanceMethod yX6_isHouse, .selects RX6 yX6_isHouse yX6_isHouse, .initialized RX6, .code yX6_isHouse cX6_isHouse 2 (some .boolean), .fieldLink RX6 94 "GongTideModel" "houses" "I", .methodLink RX6 62 yX6_within, .static yX6_within, .code yX6_within cX6_within 3 (some .boolean)] ++ wsX60)
def wsX6_raise : List Cond := .code yX6_raise cX6_raise 4 (some .int) :: ([.fieldLink RX6 13 "GongTideModel" "levelOf" "[I", .fieldLink RX6 103 "GongTideModel" "changes" "I", .methodLink RX6 134 yX6_isHouse, .instanceMethod yX6_isHouse, .selects RX6 yX6_isHouse yX6_isHouse, .initialized RX6, .code yX6_isHouse cX6_isHouse 2 (some .boolean), .fieldLink RX6 94 "GongTideModel" "houses" "I", .methodLink RX6 62 yX6_within, .static yX6_within, .code yX6_within cX6_within 3 (some .boolean)] ++ wsX60)
def wsX6_tide : List Cond := .code yX6_tide cX6_tide 2 (some .int) :: ([.fieldLink RX6 94 "GongTideModel" "houses" "I", .methodLink RX6 141 yX6_isHour, .static yX6_isHour, .initialized RX6, .code yX6_isHour cX6_isHour 1 (some .boolean), .methodLink RX6 62 yX6_within, .static yX6_within, .code yX6_within cX6_within 3 (some .boolean), .methodLink RX6 112 yX6_tideAt, .instanceMethod yX6_tideAt, .selects RX6 yX6_tideAt yX6_tideAt, .code yX6_tideAt cX6_tideAt 6 (some .int), .fieldLink RX6 97 "GongTideModel" "strokes" "I", .fieldLink RX6 109 "GongTideModel" "thought" "I", .fieldLink RX6 16 "GongTideModel" "hourOf" "[I", .fieldLink RX6 19 "GongTideModel" "loudOf" "[I"] ++ wsX60)
def wsX6_strike : List Cond := .code yX6_strike cX6_strike 3 (some .int) :: ([.fieldLink RX6 94 "GongTideModel" "houses" "I", .fieldLink RX6 97 "GongTideModel" "strokes" "I", .fieldLink RX6 16 "GongTideModel" "hourOf" "[I", .fieldLink RX6 19 "GongTideModel" "loudOf" "[I", .fieldLink RX6 103 "GongTideModel" "changes" "I", .methodLink RX6 62 yX6_within, .static yX6_within, .initialized RX6, .code yX6_within cX6_within 3 (some .boolean)] ++ wsX60)
def wsX6_felt : List Cond := .code yX6_felt cX6_felt 4 (some .int) :: ([.fieldLink RX6 19 "GongTideModel" "loudOf" "[I", .fieldLink RX6 103 "GongTideModel" "changes" "I", .methodLink RX6 144 yX6_isStroke, .instanceMethod yX6_isStroke, .selects RX6 yX6_isStroke yX6_isStroke, .initialized RX6, .code yX6_isStroke cX6_isStroke 2 (some .boolean), .fieldLink RX6 97 "GongTideModel" "strokes" "I", .methodLink RX6 62 yX6_within, .static yX6_within, .code yX6_within cX6_within 3 (some .boolean)] ++ wsX60)
def wsX6_strokeNow : List Cond := .code yX6_strokeNow cX6_strokeNow 4 (some .int) :: ([.fieldLink RX6 16 "GongTideModel" "hourOf" "[I", .fieldLink RX6 19 "GongTideModel" "loudOf" "[I", .methodLink RX6 141 yX6_isHour, .static yX6_isHour, .initialized RX6, .code yX6_isHour cX6_isHour 1 (some .boolean), .methodLink RX6 62 yX6_within, .static yX6_within, .code yX6_within cX6_within 3 (some .boolean)] ++ wsX60)
def wsX6_stroke : List Cond := .code yX6_stroke cX6_stroke 3 (some .int) :: ([.methodLink RX6 144 yX6_isStroke, .instanceMethod yX6_isStroke, .selects RX6 yX6_isStroke yX6_isStroke, .initialized RX6, .code yX6_isStroke cX6_isStroke 2 (some .boolean), .fieldLink RX6 97 "GongTideModel" "strokes" "I", .methodLink RX6 62 yX6_within, .static yX6_within, .code yX6_within cX6_within 3 (some .boolean), .methodLink RX6 147 yX6_strokeNow, .instanceMethod yX6_strokeNow, .selects RX6 yX6_strokeNow yX6_strokeNow, .code yX6_strokeNow cX6_strokeNow 4 (some .int), .fieldLink RX6 16 "GongTideModel" "hourOf" "[I", .fieldLink RX6 19 "GongTideModel" "loudOf" "[I", .methodLink RX6 141 yX6_isHour, .static yX6_isHour, .code yX6_isHour cX6_isHour 1 (some .boolean)] ++ wsX60)
def wsX6_isPolite_r1 : List Cond := [Cond.fieldLink RX6 94 "GongTideModel" "houses" "I", Cond.methodLink RX6 150 yX6_isIn, Cond.static yX6_isIn, Cond.initialized RX6, Cond.code yX6_isIn cX6_isIn 2 (some .boolean), Cond.methodLink RX6 125 yX6_howAt, Cond.instanceMethod yX6_howAt, Cond.selects RX6 yX6_howAt yX6_howAt, Cond.code yX6_howAt cX6_howAt 4 (some .int), Cond.methodLink RX6 122 yX6_mannersAt, Cond.instanceMethod yX6_mannersAt, Cond.selects RX6 yX6_mannersAt yX6_mannersAt, Cond.code yX6_mannersAt cX6_mannersAt 4 (some .int), Cond.fieldLink RX6 13 "GongTideModel" "levelOf" "[I", Cond.fieldLink RX6 7 "GongTideModel" "kindOf" "[I", Cond.methodLink RX6 112 yX6_tideAt, Cond.instanceMethod yX6_tideAt, Cond.selects RX6 yX6_tideAt yX6_tideAt, Cond.code yX6_tideAt cX6_tideAt 6 (some .int), Cond.fieldLink RX6 97 "GongTideModel" "strokes" "I", Cond.fieldLink RX6 109 "GongTideModel" "thought" "I", Cond.fieldLink RX6 16 "GongTideModel" "hourOf" "[I", Cond.fieldLink RX6 19 "GongTideModel" "loudOf" "[I", Cond.methodLink RX6 115 yX6_less]
def wsX6_isPolite_r2 : List Cond := [Cond.static yX6_less, Cond.code yX6_less cX6_less 2 (some .int), Cond.methodLink RX6 119 yX6_tideBefore, Cond.instanceMethod yX6_tideBefore, Cond.selects RX6 yX6_tideBefore yX6_tideBefore, Cond.code yX6_tideBefore cX6_tideBefore 2 (some .int)]
def wsX6_isPolite : List Cond := .code yX6_isPolite cX6_isPolite 7 (some .boolean) :: ((wsX6_isPolite_r1 ++ wsX6_isPolite_r2) ++ wsX60)
def wsX6_dinnerNow_r1 : List Cond := [Cond.methodLink RX6 154 yX6_isPolite, Cond.instanceMethod yX6_isPolite, Cond.selects RX6 yX6_isPolite yX6_isPolite, Cond.initialized RX6, Cond.code yX6_isPolite cX6_isPolite 7 (some .boolean), Cond.fieldLink RX6 94 "GongTideModel" "houses" "I", Cond.methodLink RX6 150 yX6_isIn, Cond.static yX6_isIn, Cond.code yX6_isIn cX6_isIn 2 (some .boolean), Cond.methodLink RX6 125 yX6_howAt, Cond.instanceMethod yX6_howAt, Cond.selects RX6 yX6_howAt yX6_howAt, Cond.code yX6_howAt cX6_howAt 4 (some .int), Cond.methodLink RX6 122 yX6_mannersAt, Cond.instanceMethod yX6_mannersAt, Cond.selects RX6 yX6_mannersAt yX6_mannersAt, Cond.code yX6_mannersAt cX6_mannersAt 4 (some .int), Cond.fieldLink RX6 13 "GongTideModel" "levelOf" "[I", Cond.fieldLink RX6 7 "GongTideModel" "kindOf" "[I", Cond.methodLink RX6 112 yX6_tideAt, Cond.instanceMethod yX6_tideAt, Cond.selects RX6 yX6_tideAt yX6_tideAt, Cond.code yX6_tideAt cX6_tideAt 6 (some .int), Cond.fieldLink RX6 97 "GongTideModel" "strokes" "I"]
def wsX6_dinnerNow_r2 : List Cond := [Cond.fieldLink RX6 109 "GongTideModel" "thought" "I", Cond.fieldLink RX6 16 "GongTideModel" "hourOf" "[I", Cond.fieldLink RX6 19 "GongTideModel" "loudOf" "[I", Cond.methodLink RX6 115 yX6_less, Cond.static yX6_less, Cond.code yX6_less cX6_less 2 (some .int), Cond.methodLink RX6 119 yX6_tideBefore, Cond.instanceMethod yX6_tideBefore, Cond.selects RX6 yX6_tideBefore yX6_tideBefore, Cond.code yX6_tideBefore cX6_tideBefore 2 (some .int)]
def wsX6_dinnerNow : List Cond := .code yX6_dinnerNow cX6_dinnerNow 4 (some .int) :: ((wsX6_dinnerNow_r1 ++ wsX6_dinnerNow_r2) ++ wsX60)
def wsX6_dinner_r1 : List Cond := [Cond.fieldLink RX6 94 "GongTideModel" "houses" "I", Cond.methodLink RX6 62 yX6_within, Cond.static yX6_within, Cond.initialized RX6, Cond.code yX6_within cX6_within 3 (some .boolean), Cond.methodLink RX6 157 yX6_dinnerNow, Cond.instanceMethod yX6_dinnerNow, Cond.selects RX6 yX6_dinnerNow yX6_dinnerNow, Cond.code yX6_dinnerNow cX6_dinnerNow 4 (some .int), Cond.methodLink RX6 154 yX6_isPolite, Cond.instanceMethod yX6_isPolite, Cond.selects RX6 yX6_isPolite yX6_isPolite, Cond.code yX6_isPolite cX6_isPolite 7 (some .boolean), Cond.methodLink RX6 150 yX6_isIn, Cond.static yX6_isIn, Cond.code yX6_isIn cX6_isIn 2 (some .boolean), Cond.methodLink RX6 125 yX6_howAt, Cond.instanceMethod yX6_howAt, Cond.selects RX6 yX6_howAt yX6_howAt, Cond.code yX6_howAt cX6_howAt 4 (some .int), Cond.methodLink RX6 122 yX6_mannersAt, Cond.instanceMethod yX6_mannersAt, Cond.selects RX6 yX6_mannersAt yX6_mannersAt, Cond.code yX6_mannersAt cX6_mannersAt 4 (some .int)]
def wsX6_dinner_r2 : List Cond := [Cond.fieldLink RX6 13 "GongTideModel" "levelOf" "[I", Cond.fieldLink RX6 7 "GongTideModel" "kindOf" "[I", Cond.methodLink RX6 112 yX6_tideAt, Cond.instanceMethod yX6_tideAt, Cond.selects RX6 yX6_tideAt yX6_tideAt, Cond.code yX6_tideAt cX6_tideAt 6 (some .int), Cond.fieldLink RX6 97 "GongTideModel" "strokes" "I", Cond.fieldLink RX6 109 "GongTideModel" "thought" "I", Cond.fieldLink RX6 16 "GongTideModel" "hourOf" "[I", Cond.fieldLink RX6 19 "GongTideModel" "loudOf" "[I", Cond.methodLink RX6 115 yX6_less, Cond.static yX6_less, Cond.code yX6_less cX6_less 2 (some .int), Cond.methodLink RX6 119 yX6_tideBefore, Cond.instanceMethod yX6_tideBefore, Cond.selects RX6 yX6_tideBefore yX6_tideBefore, Cond.code yX6_tideBefore cX6_tideBefore 2 (some .int)]
def wsX6_dinner : List Cond := .code yX6_dinner cX6_dinner 3 (some .int) :: ((wsX6_dinner_r1 ++ wsX6_dinner_r2) ++ wsX60)
def wsX6_think : List Cond := .code yX6_think cX6_think 3 none :: ([.fieldLink RX6 16 "GongTideModel" "hourOf" "[I", .fieldLink RX6 97 "GongTideModel" "strokes" "I", .fieldLink RX6 19 "GongTideModel" "loudOf" "[I", .fieldLink RX6 109 "GongTideModel" "thought" "I"] ++ wsX60)
def wsX6_bestNow_r1 : List Cond := [Cond.fieldLink RX6 109 "GongTideModel" "thought" "I", Cond.methodLink RX6 160 yX6_think, Cond.instanceMethod yX6_think, Cond.selects RX6 yX6_think yX6_think, Cond.initialized RX6, Cond.code yX6_think cX6_think 3 none, Cond.fieldLink RX6 16 "GongTideModel" "hourOf" "[I", Cond.fieldLink RX6 97 "GongTideModel" "strokes" "I", Cond.fieldLink RX6 19 "GongTideModel" "loudOf" "[I", Cond.methodLink RX6 164 yX6_hoursAll, Cond.instanceMethod yX6_hoursAll, Cond.selects RX6 yX6_hoursAll yX6_hoursAll, Cond.code yX6_hoursAll cX6_hoursAll 4 (some .int), Cond.fieldLink RX6 94 "GongTideModel" "houses" "I", Cond.methodLink RX6 128 yX6_hoursOf, Cond.instanceMethod yX6_hoursOf, Cond.selects RX6 yX6_hoursOf yX6_hoursOf, Cond.code yX6_hoursOf cX6_hoursOf 5 (some .int), Cond.methodLink RX6 125 yX6_howAt, Cond.instanceMethod yX6_howAt, Cond.selects RX6 yX6_howAt yX6_howAt, Cond.code yX6_howAt cX6_howAt 4 (some .int), Cond.methodLink RX6 122 yX6_mannersAt, Cond.instanceMethod yX6_mannersAt]
def wsX6_bestNow_r2 : List Cond := [Cond.selects RX6 yX6_mannersAt yX6_mannersAt, Cond.code yX6_mannersAt cX6_mannersAt 4 (some .int), Cond.fieldLink RX6 13 "GongTideModel" "levelOf" "[I", Cond.fieldLink RX6 7 "GongTideModel" "kindOf" "[I", Cond.methodLink RX6 112 yX6_tideAt, Cond.instanceMethod yX6_tideAt, Cond.selects RX6 yX6_tideAt yX6_tideAt, Cond.code yX6_tideAt cX6_tideAt 6 (some .int), Cond.methodLink RX6 115 yX6_less, Cond.static yX6_less, Cond.code yX6_less cX6_less 2 (some .int), Cond.methodLink RX6 119 yX6_tideBefore, Cond.instanceMethod yX6_tideBefore, Cond.selects RX6 yX6_tideBefore yX6_tideBefore, Cond.code yX6_tideBefore cX6_tideBefore 2 (some .int)]
def wsX6_bestNow : List Cond := .code yX6_bestNow cX6_bestNow 7 (some .int) :: ((wsX6_bestNow_r1 ++ wsX6_bestNow_r2) ++ wsX60)
def wsX6_best_r1 : List Cond := [Cond.fieldLink RX6 94 "GongTideModel" "houses" "I", Cond.methodLink RX6 62 yX6_within, Cond.static yX6_within, Cond.initialized RX6, Cond.code yX6_within cX6_within 3 (some .boolean), Cond.methodLink RX6 167 yX6_bestNow, Cond.instanceMethod yX6_bestNow, Cond.selects RX6 yX6_bestNow yX6_bestNow, Cond.code yX6_bestNow cX6_bestNow 7 (some .int), Cond.fieldLink RX6 109 "GongTideModel" "thought" "I", Cond.methodLink RX6 160 yX6_think, Cond.instanceMethod yX6_think, Cond.selects RX6 yX6_think yX6_think, Cond.code yX6_think cX6_think 3 none, Cond.fieldLink RX6 16 "GongTideModel" "hourOf" "[I", Cond.fieldLink RX6 97 "GongTideModel" "strokes" "I", Cond.fieldLink RX6 19 "GongTideModel" "loudOf" "[I", Cond.methodLink RX6 164 yX6_hoursAll, Cond.instanceMethod yX6_hoursAll, Cond.selects RX6 yX6_hoursAll yX6_hoursAll, Cond.code yX6_hoursAll cX6_hoursAll 4 (some .int), Cond.methodLink RX6 128 yX6_hoursOf, Cond.instanceMethod yX6_hoursOf, Cond.selects RX6 yX6_hoursOf yX6_hoursOf]
def wsX6_best_r2 : List Cond := [Cond.code yX6_hoursOf cX6_hoursOf 5 (some .int), Cond.methodLink RX6 125 yX6_howAt, Cond.instanceMethod yX6_howAt, Cond.selects RX6 yX6_howAt yX6_howAt, Cond.code yX6_howAt cX6_howAt 4 (some .int), Cond.methodLink RX6 122 yX6_mannersAt, Cond.instanceMethod yX6_mannersAt, Cond.selects RX6 yX6_mannersAt yX6_mannersAt, Cond.code yX6_mannersAt cX6_mannersAt 4 (some .int), Cond.fieldLink RX6 13 "GongTideModel" "levelOf" "[I", Cond.fieldLink RX6 7 "GongTideModel" "kindOf" "[I", Cond.methodLink RX6 112 yX6_tideAt, Cond.instanceMethod yX6_tideAt, Cond.selects RX6 yX6_tideAt yX6_tideAt, Cond.code yX6_tideAt cX6_tideAt 6 (some .int), Cond.methodLink RX6 115 yX6_less, Cond.static yX6_less, Cond.code yX6_less cX6_less 2 (some .int), Cond.methodLink RX6 119 yX6_tideBefore, Cond.instanceMethod yX6_tideBefore, Cond.selects RX6 yX6_tideBefore yX6_tideBefore, Cond.code yX6_tideBefore cX6_tideBefore 2 (some .int)]
def wsX6_best : List Cond := .code yX6_best cX6_best 3 (some .int) :: ((wsX6_best_r1 ++ wsX6_best_r2) ++ wsX60)
def wsX6_hear : List Cond := .code yX6_hear cX6_hear 5 (some .int) :: ([.fieldLink RX6 106 "GongTideModel" "heard" "I", .fieldLink RX6 22 "GongTideModel" "heardHouse" "[I", .fieldLink RX6 25 "GongTideModel" "heardHour" "[I", .fieldLink RX6 28 "GongTideModel" "heardLoud" "[I", .fieldLink RX6 31 "GongTideModel" "heardHow" "[I", .methodLink RX6 134 yX6_isHouse, .instanceMethod yX6_isHouse, .selects RX6 yX6_isHouse yX6_isHouse, .initialized RX6, .code yX6_isHouse cX6_isHouse 2 (some .boolean), .fieldLink RX6 94 "GongTideModel" "houses" "I", .methodLink RX6 62 yX6_within, .static yX6_within, .code yX6_within cX6_within 3 (some .boolean), .methodLink RX6 141 yX6_isHour, .static yX6_isHour, .code yX6_isHour cX6_isHour 1 (some .boolean)] ++ wsX60)
def wsX6_forget : List Cond := .code yX6_forget cX6_forget 2 (some .int) :: ([.fieldLink RX6 106 "GongTideModel" "heard" "I"] ++ wsX60)
def wsX6_isHeard_r1 : List Cond := [Cond.fieldLink RX6 106 "GongTideModel" "heard" "I", Cond.fieldLink RX6 28 "GongTideModel" "heardLoud" "[I", Cond.fieldLink RX6 22 "GongTideModel" "heardHouse" "[I", Cond.fieldLink RX6 25 "GongTideModel" "heardHour" "[I", Cond.fieldLink RX6 31 "GongTideModel" "heardHow" "[I", Cond.fieldLink RX6 109 "GongTideModel" "thought" "I", Cond.methodLink RX6 160 yX6_think, Cond.instanceMethod yX6_think, Cond.selects RX6 yX6_think yX6_think, Cond.initialized RX6, Cond.code yX6_think cX6_think 3 none, Cond.fieldLink RX6 16 "GongTideModel" "hourOf" "[I", Cond.fieldLink RX6 97 "GongTideModel" "strokes" "I", Cond.fieldLink RX6 19 "GongTideModel" "loudOf" "[I", Cond.methodLink RX6 125 yX6_howAt, Cond.instanceMethod yX6_howAt, Cond.selects RX6 yX6_howAt yX6_howAt, Cond.code yX6_howAt cX6_howAt 4 (some .int), Cond.methodLink RX6 122 yX6_mannersAt, Cond.instanceMethod yX6_mannersAt, Cond.selects RX6 yX6_mannersAt yX6_mannersAt, Cond.code yX6_mannersAt cX6_mannersAt 4 (some .int), Cond.fieldLink RX6 13 "GongTideModel" "levelOf" "[I", Cond.fieldLink RX6 7 "GongTideModel" "kindOf" "[I"]
def wsX6_isHeard_r2 : List Cond := [Cond.methodLink RX6 112 yX6_tideAt, Cond.instanceMethod yX6_tideAt, Cond.selects RX6 yX6_tideAt yX6_tideAt, Cond.code yX6_tideAt cX6_tideAt 6 (some .int), Cond.methodLink RX6 115 yX6_less, Cond.static yX6_less, Cond.code yX6_less cX6_less 2 (some .int), Cond.methodLink RX6 119 yX6_tideBefore, Cond.instanceMethod yX6_tideBefore, Cond.selects RX6 yX6_tideBefore yX6_tideBefore, Cond.code yX6_tideBefore cX6_tideBefore 2 (some .int)]
def wsX6_isHeard : List Cond := .code yX6_isHeard cX6_isHeard 4 (some .boolean) :: ((wsX6_isHeard_r1 ++ wsX6_isHeard_r2) ++ wsX60)
def wsX6_hoursNow_r1 : List Cond := [Cond.methodLink RX6 170 yX6_isHeard, Cond.instanceMethod yX6_isHeard, Cond.selects RX6 yX6_isHeard yX6_isHeard, Cond.initialized RX6, Cond.code yX6_isHeard cX6_isHeard 4 (some .boolean), Cond.fieldLink RX6 106 "GongTideModel" "heard" "I", Cond.fieldLink RX6 28 "GongTideModel" "heardLoud" "[I", Cond.fieldLink RX6 22 "GongTideModel" "heardHouse" "[I", Cond.fieldLink RX6 25 "GongTideModel" "heardHour" "[I", Cond.fieldLink RX6 31 "GongTideModel" "heardHow" "[I", Cond.fieldLink RX6 109 "GongTideModel" "thought" "I", Cond.methodLink RX6 160 yX6_think, Cond.instanceMethod yX6_think, Cond.selects RX6 yX6_think yX6_think, Cond.code yX6_think cX6_think 3 none, Cond.fieldLink RX6 16 "GongTideModel" "hourOf" "[I", Cond.fieldLink RX6 97 "GongTideModel" "strokes" "I", Cond.fieldLink RX6 19 "GongTideModel" "loudOf" "[I", Cond.methodLink RX6 125 yX6_howAt, Cond.instanceMethod yX6_howAt, Cond.selects RX6 yX6_howAt yX6_howAt, Cond.code yX6_howAt cX6_howAt 4 (some .int), Cond.methodLink RX6 122 yX6_mannersAt, Cond.instanceMethod yX6_mannersAt]
def wsX6_hoursNow_r2 : List Cond := [Cond.selects RX6 yX6_mannersAt yX6_mannersAt, Cond.code yX6_mannersAt cX6_mannersAt 4 (some .int), Cond.fieldLink RX6 13 "GongTideModel" "levelOf" "[I", Cond.fieldLink RX6 7 "GongTideModel" "kindOf" "[I", Cond.methodLink RX6 112 yX6_tideAt, Cond.instanceMethod yX6_tideAt, Cond.selects RX6 yX6_tideAt yX6_tideAt, Cond.code yX6_tideAt cX6_tideAt 6 (some .int), Cond.methodLink RX6 115 yX6_less, Cond.static yX6_less, Cond.code yX6_less cX6_less 2 (some .int), Cond.methodLink RX6 119 yX6_tideBefore, Cond.instanceMethod yX6_tideBefore, Cond.selects RX6 yX6_tideBefore yX6_tideBefore, Cond.code yX6_tideBefore cX6_tideBefore 2 (some .int)]
def wsX6_hoursNow : List Cond := .code yX6_hoursNow cX6_hoursNow 3 (some .int) :: ((wsX6_hoursNow_r1 ++ wsX6_hoursNow_r2) ++ wsX60)
def wsX6_hours_r1 : List Cond := [Cond.fieldLink RX6 94 "GongTideModel" "houses" "I", Cond.methodLink RX6 173 yX6_hoursNow, Cond.instanceMethod yX6_hoursNow, Cond.selects RX6 yX6_hoursNow yX6_hoursNow, Cond.initialized RX6, Cond.code yX6_hoursNow cX6_hoursNow 3 (some .int), Cond.methodLink RX6 170 yX6_isHeard, Cond.instanceMethod yX6_isHeard, Cond.selects RX6 yX6_isHeard yX6_isHeard, Cond.code yX6_isHeard cX6_isHeard 4 (some .boolean), Cond.fieldLink RX6 106 "GongTideModel" "heard" "I", Cond.fieldLink RX6 28 "GongTideModel" "heardLoud" "[I", Cond.fieldLink RX6 22 "GongTideModel" "heardHouse" "[I", Cond.fieldLink RX6 25 "GongTideModel" "heardHour" "[I", Cond.fieldLink RX6 31 "GongTideModel" "heardHow" "[I", Cond.fieldLink RX6 109 "GongTideModel" "thought" "I", Cond.methodLink RX6 160 yX6_think, Cond.instanceMethod yX6_think, Cond.selects RX6 yX6_think yX6_think, Cond.code yX6_think cX6_think 3 none, Cond.fieldLink RX6 16 "GongTideModel" "hourOf" "[I", Cond.fieldLink RX6 97 "GongTideModel" "strokes" "I", Cond.fieldLink RX6 19 "GongTideModel" "loudOf" "[I", Cond.methodLink RX6 125 yX6_howAt]
def wsX6_hours_r2 : List Cond := [Cond.instanceMethod yX6_howAt, Cond.selects RX6 yX6_howAt yX6_howAt, Cond.code yX6_howAt cX6_howAt 4 (some .int), Cond.methodLink RX6 122 yX6_mannersAt, Cond.instanceMethod yX6_mannersAt, Cond.selects RX6 yX6_mannersAt yX6_mannersAt, Cond.code yX6_mannersAt cX6_mannersAt 4 (some .int), Cond.fieldLink RX6 13 "GongTideModel" "levelOf" "[I", Cond.fieldLink RX6 7 "GongTideModel" "kindOf" "[I", Cond.methodLink RX6 112 yX6_tideAt, Cond.instanceMethod yX6_tideAt, Cond.selects RX6 yX6_tideAt yX6_tideAt, Cond.code yX6_tideAt cX6_tideAt 6 (some .int), Cond.methodLink RX6 115 yX6_less, Cond.static yX6_less, Cond.code yX6_less cX6_less 2 (some .int), Cond.methodLink RX6 119 yX6_tideBefore, Cond.instanceMethod yX6_tideBefore, Cond.selects RX6 yX6_tideBefore yX6_tideBefore, Cond.code yX6_tideBefore cX6_tideBefore 2 (some .int)]
def wsX6_hours : List Cond := .code yX6_hours cX6_hours 1 (some .int) :: ((wsX6_hours_r1 ++ wsX6_hours_r2) ++ wsX60)
def wsX6_worstIn_r1 : List Cond := [Cond.fieldLink RX6 28 "GongTideModel" "heardLoud" "[I", Cond.fieldLink RX6 106 "GongTideModel" "heard" "I", Cond.fieldLink RX6 109 "GongTideModel" "thought" "I", Cond.methodLink RX6 160 yX6_think, Cond.instanceMethod yX6_think, Cond.selects RX6 yX6_think yX6_think, Cond.initialized RX6, Cond.code yX6_think cX6_think 3 none, Cond.fieldLink RX6 16 "GongTideModel" "hourOf" "[I", Cond.fieldLink RX6 97 "GongTideModel" "strokes" "I", Cond.fieldLink RX6 19 "GongTideModel" "loudOf" "[I", Cond.methodLink RX6 125 yX6_howAt, Cond.instanceMethod yX6_howAt, Cond.selects RX6 yX6_howAt yX6_howAt, Cond.code yX6_howAt cX6_howAt 4 (some .int), Cond.methodLink RX6 122 yX6_mannersAt, Cond.instanceMethod yX6_mannersAt, Cond.selects RX6 yX6_mannersAt yX6_mannersAt, Cond.code yX6_mannersAt cX6_mannersAt 4 (some .int), Cond.fieldLink RX6 13 "GongTideModel" "levelOf" "[I", Cond.fieldLink RX6 7 "GongTideModel" "kindOf" "[I", Cond.methodLink RX6 112 yX6_tideAt, Cond.instanceMethod yX6_tideAt, Cond.selects RX6 yX6_tideAt yX6_tideAt]
def wsX6_worstIn_r2 : List Cond := [Cond.code yX6_tideAt cX6_tideAt 6 (some .int), Cond.methodLink RX6 115 yX6_less, Cond.static yX6_less, Cond.code yX6_less cX6_less 2 (some .int), Cond.methodLink RX6 119 yX6_tideBefore, Cond.instanceMethod yX6_tideBefore, Cond.selects RX6 yX6_tideBefore yX6_tideBefore, Cond.code yX6_tideBefore cX6_tideBefore 2 (some .int), Cond.methodLink RX6 150 yX6_isIn, Cond.static yX6_isIn, Cond.code yX6_isIn cX6_isIn 2 (some .boolean)]
def wsX6_worstIn : List Cond := .code yX6_worstIn cX6_worstIn 9 (some .int) :: ((wsX6_worstIn_r1 ++ wsX6_worstIn_r2) ++ wsX60)
def wsX6_askNow_r1 : List Cond := [Cond.fieldLink RX6 106 "GongTideModel" "heard" "I", Cond.constant RX6 176 (268435456), Cond.fieldLink RX6 94 "GongTideModel" "houses" "I", Cond.methodLink RX6 173 yX6_hoursNow, Cond.instanceMethod yX6_hoursNow, Cond.selects RX6 yX6_hoursNow yX6_hoursNow, Cond.initialized RX6, Cond.code yX6_hoursNow cX6_hoursNow 3 (some .int), Cond.methodLink RX6 170 yX6_isHeard, Cond.instanceMethod yX6_isHeard, Cond.selects RX6 yX6_isHeard yX6_isHeard, Cond.code yX6_isHeard cX6_isHeard 4 (some .boolean), Cond.fieldLink RX6 28 "GongTideModel" "heardLoud" "[I", Cond.fieldLink RX6 22 "GongTideModel" "heardHouse" "[I", Cond.fieldLink RX6 25 "GongTideModel" "heardHour" "[I", Cond.fieldLink RX6 31 "GongTideModel" "heardHow" "[I", Cond.fieldLink RX6 109 "GongTideModel" "thought" "I", Cond.methodLink RX6 160 yX6_think, Cond.instanceMethod yX6_think, Cond.selects RX6 yX6_think yX6_think, Cond.code yX6_think cX6_think 3 none, Cond.fieldLink RX6 16 "GongTideModel" "hourOf" "[I", Cond.fieldLink RX6 97 "GongTideModel" "strokes" "I", Cond.fieldLink RX6 19 "GongTideModel" "loudOf" "[I"]
def wsX6_askNow_r2 : List Cond := [Cond.methodLink RX6 125 yX6_howAt, Cond.instanceMethod yX6_howAt, Cond.selects RX6 yX6_howAt yX6_howAt, Cond.code yX6_howAt cX6_howAt 4 (some .int), Cond.methodLink RX6 122 yX6_mannersAt, Cond.instanceMethod yX6_mannersAt, Cond.selects RX6 yX6_mannersAt yX6_mannersAt, Cond.code yX6_mannersAt cX6_mannersAt 4 (some .int), Cond.fieldLink RX6 13 "GongTideModel" "levelOf" "[I", Cond.fieldLink RX6 7 "GongTideModel" "kindOf" "[I", Cond.methodLink RX6 112 yX6_tideAt, Cond.instanceMethod yX6_tideAt, Cond.selects RX6 yX6_tideAt yX6_tideAt, Cond.code yX6_tideAt cX6_tideAt 6 (some .int), Cond.methodLink RX6 115 yX6_less, Cond.static yX6_less, Cond.code yX6_less cX6_less 2 (some .int), Cond.methodLink RX6 119 yX6_tideBefore, Cond.instanceMethod yX6_tideBefore, Cond.selects RX6 yX6_tideBefore yX6_tideBefore, Cond.code yX6_tideBefore cX6_tideBefore 2 (some .int), Cond.methodLink RX6 177 yX6_worstIn, Cond.instanceMethod yX6_worstIn, Cond.selects RX6 yX6_worstIn yX6_worstIn]
def wsX6_askNow_r3 : List Cond := [Cond.code yX6_worstIn cX6_worstIn 9 (some .int), Cond.methodLink RX6 150 yX6_isIn, Cond.static yX6_isIn, Cond.code yX6_isIn cX6_isIn 2 (some .boolean)]
def wsX6_askNow : List Cond := .code yX6_askNow cX6_askNow 7 (some .int) :: ((wsX6_askNow_r1 ++ (wsX6_askNow_r2 ++ wsX6_askNow_r3)) ++ wsX60)
def wsX6_ask_r1 : List Cond := [Cond.fieldLink RX6 94 "GongTideModel" "houses" "I", Cond.methodLink RX6 141 yX6_isHour, Cond.static yX6_isHour, Cond.initialized RX6, Cond.code yX6_isHour cX6_isHour 1 (some .boolean), Cond.methodLink RX6 62 yX6_within, Cond.static yX6_within, Cond.code yX6_within cX6_within 3 (some .boolean), Cond.methodLink RX6 181 yX6_askNow, Cond.instanceMethod yX6_askNow, Cond.selects RX6 yX6_askNow yX6_askNow, Cond.code yX6_askNow cX6_askNow 7 (some .int), Cond.fieldLink RX6 106 "GongTideModel" "heard" "I", Cond.constant RX6 176 (268435456), Cond.methodLink RX6 173 yX6_hoursNow, Cond.instanceMethod yX6_hoursNow, Cond.selects RX6 yX6_hoursNow yX6_hoursNow, Cond.code yX6_hoursNow cX6_hoursNow 3 (some .int), Cond.methodLink RX6 170 yX6_isHeard, Cond.instanceMethod yX6_isHeard, Cond.selects RX6 yX6_isHeard yX6_isHeard, Cond.code yX6_isHeard cX6_isHeard 4 (some .boolean), Cond.fieldLink RX6 28 "GongTideModel" "heardLoud" "[I", Cond.fieldLink RX6 22 "GongTideModel" "heardHouse" "[I"]
def wsX6_ask_r2 : List Cond := [Cond.fieldLink RX6 25 "GongTideModel" "heardHour" "[I", Cond.fieldLink RX6 31 "GongTideModel" "heardHow" "[I", Cond.fieldLink RX6 109 "GongTideModel" "thought" "I", Cond.methodLink RX6 160 yX6_think, Cond.instanceMethod yX6_think, Cond.selects RX6 yX6_think yX6_think, Cond.code yX6_think cX6_think 3 none, Cond.fieldLink RX6 16 "GongTideModel" "hourOf" "[I", Cond.fieldLink RX6 97 "GongTideModel" "strokes" "I", Cond.fieldLink RX6 19 "GongTideModel" "loudOf" "[I", Cond.methodLink RX6 125 yX6_howAt, Cond.instanceMethod yX6_howAt, Cond.selects RX6 yX6_howAt yX6_howAt, Cond.code yX6_howAt cX6_howAt 4 (some .int), Cond.methodLink RX6 122 yX6_mannersAt, Cond.instanceMethod yX6_mannersAt, Cond.selects RX6 yX6_mannersAt yX6_mannersAt, Cond.code yX6_mannersAt cX6_mannersAt 4 (some .int), Cond.fieldLink RX6 13 "GongTideModel" "levelOf" "[I", Cond.fieldLink RX6 7 "GongTideModel" "kindOf" "[I", Cond.methodLink RX6 112 yX6_tideAt, Cond.instanceMethod yX6_tideAt, Cond.selects RX6 yX6_tideAt yX6_tideAt, Cond.code yX6_tideAt cX6_tideAt 6 (some .int)]
def wsX6_ask_r3 : List Cond := [Cond.methodLink RX6 115 yX6_less, Cond.static yX6_less, Cond.code yX6_less cX6_less 2 (some .int), Cond.methodLink RX6 119 yX6_tideBefore, Cond.instanceMethod yX6_tideBefore, Cond.selects RX6 yX6_tideBefore yX6_tideBefore, Cond.code yX6_tideBefore cX6_tideBefore 2 (some .int), Cond.methodLink RX6 177 yX6_worstIn, Cond.instanceMethod yX6_worstIn, Cond.selects RX6 yX6_worstIn yX6_worstIn, Cond.code yX6_worstIn cX6_worstIn 9 (some .int), Cond.methodLink RX6 150 yX6_isIn, Cond.static yX6_isIn, Cond.code yX6_isIn cX6_isIn 2 (some .boolean)]
def wsX6_ask : List Cond := .code yX6_ask cX6_ask 2 (some .int) :: ((wsX6_ask_r1 ++ (wsX6_ask_r2 ++ wsX6_ask_r3)) ++ wsX60)
def wsX6_draw : List Cond := .code yX6_draw cX6_draw 2 (some .int) :: ([.constantLong RX6 184 (1103515245), .fieldLink RX6 186 "GongTideModel" "seedNow" "J", .constantLong RX6 190 (12345), .constantLong RX6 192 (2147483647), .constantLong RX6 194 (65536)] ++ wsX60)
def wsX6_weeksNow_r1 : List Cond := [Cond.fieldLink RX6 38 "GongTideModel" "savedHour" "[I", Cond.fieldLink RX6 16 "GongTideModel" "hourOf" "[I", Cond.fieldLink RX6 186 "GongTideModel" "seedNow" "J", Cond.fieldLink RX6 97 "GongTideModel" "strokes" "I", Cond.methodLink RX6 196 yX6_draw, Cond.instanceMethod yX6_draw, Cond.selects RX6 yX6_draw yX6_draw, Cond.initialized RX6, Cond.code yX6_draw cX6_draw 2 (some .int), Cond.constantLong RX6 184 (1103515245), Cond.constantLong RX6 190 (12345), Cond.constantLong RX6 192 (2147483647), Cond.constantLong RX6 194 (65536), Cond.methodLink RX6 164 yX6_hoursAll, Cond.instanceMethod yX6_hoursAll, Cond.selects RX6 yX6_hoursAll yX6_hoursAll, Cond.code yX6_hoursAll cX6_hoursAll 4 (some .int), Cond.fieldLink RX6 94 "GongTideModel" "houses" "I", Cond.methodLink RX6 128 yX6_hoursOf, Cond.instanceMethod yX6_hoursOf, Cond.selects RX6 yX6_hoursOf yX6_hoursOf, Cond.code yX6_hoursOf cX6_hoursOf 5 (some .int), Cond.methodLink RX6 125 yX6_howAt, Cond.instanceMethod yX6_howAt]
def wsX6_weeksNow_r2 : List Cond := [Cond.selects RX6 yX6_howAt yX6_howAt, Cond.code yX6_howAt cX6_howAt 4 (some .int), Cond.methodLink RX6 122 yX6_mannersAt, Cond.instanceMethod yX6_mannersAt, Cond.selects RX6 yX6_mannersAt yX6_mannersAt, Cond.code yX6_mannersAt cX6_mannersAt 4 (some .int), Cond.fieldLink RX6 13 "GongTideModel" "levelOf" "[I", Cond.fieldLink RX6 7 "GongTideModel" "kindOf" "[I", Cond.methodLink RX6 112 yX6_tideAt, Cond.instanceMethod yX6_tideAt, Cond.selects RX6 yX6_tideAt yX6_tideAt, Cond.code yX6_tideAt cX6_tideAt 6 (some .int), Cond.fieldLink RX6 109 "GongTideModel" "thought" "I", Cond.fieldLink RX6 19 "GongTideModel" "loudOf" "[I", Cond.methodLink RX6 115 yX6_less, Cond.static yX6_less, Cond.code yX6_less cX6_less 2 (some .int), Cond.methodLink RX6 119 yX6_tideBefore, Cond.instanceMethod yX6_tideBefore, Cond.selects RX6 yX6_tideBefore yX6_tideBefore, Cond.code yX6_tideBefore cX6_tideBefore 2 (some .int)]
def wsX6_weeksNow : List Cond := .code yX6_weeksNow cX6_weeksNow 8 (some .int) :: ((wsX6_weeksNow_r1 ++ wsX6_weeksNow_r2) ++ wsX60)
def wsX6_weeks_r1 : List Cond := [Cond.fieldLink RX6 94 "GongTideModel" "houses" "I", Cond.methodLink RX6 62 yX6_within, Cond.static yX6_within, Cond.initialized RX6, Cond.code yX6_within cX6_within 3 (some .boolean), Cond.methodLink RX6 199 yX6_weeksNow, Cond.instanceMethod yX6_weeksNow, Cond.selects RX6 yX6_weeksNow yX6_weeksNow, Cond.code yX6_weeksNow cX6_weeksNow 8 (some .int), Cond.fieldLink RX6 38 "GongTideModel" "savedHour" "[I", Cond.fieldLink RX6 16 "GongTideModel" "hourOf" "[I", Cond.fieldLink RX6 186 "GongTideModel" "seedNow" "J", Cond.fieldLink RX6 97 "GongTideModel" "strokes" "I", Cond.methodLink RX6 196 yX6_draw, Cond.instanceMethod yX6_draw, Cond.selects RX6 yX6_draw yX6_draw, Cond.code yX6_draw cX6_draw 2 (some .int), Cond.constantLong RX6 184 (1103515245), Cond.constantLong RX6 190 (12345), Cond.constantLong RX6 192 (2147483647), Cond.constantLong RX6 194 (65536), Cond.methodLink RX6 164 yX6_hoursAll, Cond.instanceMethod yX6_hoursAll, Cond.selects RX6 yX6_hoursAll yX6_hoursAll]
def wsX6_weeks_r2 : List Cond := [Cond.code yX6_hoursAll cX6_hoursAll 4 (some .int), Cond.methodLink RX6 128 yX6_hoursOf, Cond.instanceMethod yX6_hoursOf, Cond.selects RX6 yX6_hoursOf yX6_hoursOf, Cond.code yX6_hoursOf cX6_hoursOf 5 (some .int), Cond.methodLink RX6 125 yX6_howAt, Cond.instanceMethod yX6_howAt, Cond.selects RX6 yX6_howAt yX6_howAt, Cond.code yX6_howAt cX6_howAt 4 (some .int), Cond.methodLink RX6 122 yX6_mannersAt, Cond.instanceMethod yX6_mannersAt, Cond.selects RX6 yX6_mannersAt yX6_mannersAt, Cond.code yX6_mannersAt cX6_mannersAt 4 (some .int), Cond.fieldLink RX6 13 "GongTideModel" "levelOf" "[I", Cond.fieldLink RX6 7 "GongTideModel" "kindOf" "[I", Cond.methodLink RX6 112 yX6_tideAt, Cond.instanceMethod yX6_tideAt, Cond.selects RX6 yX6_tideAt yX6_tideAt, Cond.code yX6_tideAt cX6_tideAt 6 (some .int), Cond.fieldLink RX6 109 "GongTideModel" "thought" "I", Cond.fieldLink RX6 19 "GongTideModel" "loudOf" "[I", Cond.methodLink RX6 115 yX6_less, Cond.static yX6_less, Cond.code yX6_less cX6_less 2 (some .int)]
def wsX6_weeks_r3 : List Cond := [Cond.methodLink RX6 119 yX6_tideBefore, Cond.instanceMethod yX6_tideBefore, Cond.selects RX6 yX6_tideBefore yX6_tideBefore, Cond.code yX6_tideBefore cX6_tideBefore 2 (some .int)]
def wsX6_weeks : List Cond := .code yX6_weeks cX6_weeks 4 (some .int) :: ((wsX6_weeks_r1 ++ (wsX6_weeks_r2 ++ wsX6_weeks_r3)) ++ wsX60)
def wsX6_image : List Cond := .code yX6_image cX6_image 2 (some .int) :: ([.fieldLink RX6 94 "GongTideModel" "houses" "I", .fieldLink RX6 202 "GongTideModel" "isKept" "Z", .fieldLink RX6 100 "GongTideModel" "colonies" "I", .fieldLink RX6 205 "GongTideModel" "keptColony" "I", .fieldLink RX6 97 "GongTideModel" "strokes" "I", .fieldLink RX6 208 "GongTideModel" "keptStrokes" "I", .fieldLink RX6 103 "GongTideModel" "changes" "I", .fieldLink RX6 211 "GongTideModel" "keptChanges" "I", .fieldLink RX6 106 "GongTideModel" "heard" "I", .fieldLink RX6 214 "GongTideModel" "keptHeard" "I", .fieldLink RX6 41 "GongTideModel" "keptLevel" "[I", .fieldLink RX6 13 "GongTideModel" "levelOf" "[I", .fieldLink RX6 44 "GongTideModel" "keptHour" "[I", .fieldLink RX6 16 "GongTideModel" "hourOf" "[I", .fieldLink RX6 47 "GongTideModel" "keptLoud" "[I", .fieldLink RX6 19 "GongTideModel" "loudOf" "[I", .fieldLink RX6 50 "GongTideModel" "keptHouse" "[I", .fieldLink RX6 22 "GongTideModel" "heardHouse" "[I", .fieldLink RX6 53 "GongTideModel" "keptHeardHour" "[I", .fieldLink RX6 25 "GongTideModel" "heardHour" "[I", .fieldLink RX6 56 "GongTideModel" "keptHeardLoud" "[I", .fieldLink RX6 28 "GongTideModel" "heardLoud" "[I", .fieldLink RX6 59 "GongTideModel" "keptHow" "[I", .fieldLink RX6 31 "GongTideModel" "heardHow" "[I"] ++ wsX60)
def wsX6_restore : List Cond := .code yX6_restore cX6_restore 2 (some .int) :: ([.fieldLink RX6 202 "GongTideModel" "isKept" "Z", .fieldLink RX6 205 "GongTideModel" "keptColony" "I", .fieldLink RX6 100 "GongTideModel" "colonies" "I", .fieldLink RX6 208 "GongTideModel" "keptStrokes" "I", .fieldLink RX6 97 "GongTideModel" "strokes" "I", .fieldLink RX6 211 "GongTideModel" "keptChanges" "I", .fieldLink RX6 103 "GongTideModel" "changes" "I", .fieldLink RX6 214 "GongTideModel" "keptHeard" "I", .fieldLink RX6 106 "GongTideModel" "heard" "I", .fieldLink RX6 13 "GongTideModel" "levelOf" "[I", .fieldLink RX6 41 "GongTideModel" "keptLevel" "[I", .fieldLink RX6 16 "GongTideModel" "hourOf" "[I", .fieldLink RX6 44 "GongTideModel" "keptHour" "[I", .fieldLink RX6 19 "GongTideModel" "loudOf" "[I", .fieldLink RX6 47 "GongTideModel" "keptLoud" "[I", .fieldLink RX6 22 "GongTideModel" "heardHouse" "[I", .fieldLink RX6 50 "GongTideModel" "keptHouse" "[I", .fieldLink RX6 25 "GongTideModel" "heardHour" "[I", .fieldLink RX6 53 "GongTideModel" "keptHeardHour" "[I", .fieldLink RX6 28 "GongTideModel" "heardLoud" "[I", .fieldLink RX6 56 "GongTideModel" "keptHeardLoud" "[I", .fieldLink RX6 31 "GongTideModel" "heardHow" "[I", .fieldLink RX6 59 "GongTideModel" "keptHow" "[I"] ++ wsX60)
def wsX6_highest : List Cond := .code yX6_highest cX6_highest 3 (some .int) :: ([.fieldLink RX6 94 "GongTideModel" "houses" "I", .methodLink RX6 112 yX6_tideAt, .instanceMethod yX6_tideAt, .selects RX6 yX6_tideAt yX6_tideAt, .initialized RX6, .code yX6_tideAt cX6_tideAt 6 (some .int), .fieldLink RX6 97 "GongTideModel" "strokes" "I", .fieldLink RX6 109 "GongTideModel" "thought" "I", .fieldLink RX6 16 "GongTideModel" "hourOf" "[I", .fieldLink RX6 19 "GongTideModel" "loudOf" "[I"] ++ wsX60)
def wsX6_howMany_r1 : List Cond := [Cond.fieldLink RX6 94 "GongTideModel" "houses" "I", Cond.fieldLink RX6 97 "GongTideModel" "strokes" "I", Cond.fieldLink RX6 103 "GongTideModel" "changes" "I", Cond.fieldLink RX6 106 "GongTideModel" "heard" "I", Cond.fieldLink RX6 66 "GongTideModel" "pageLength" "I", Cond.fieldLink RX6 100 "GongTideModel" "colonies" "I", Cond.methodLink RX6 217 yX6_highest, Cond.instanceMethod yX6_highest, Cond.selects RX6 yX6_highest yX6_highest, Cond.initialized RX6, Cond.code yX6_highest cX6_highest 3 (some .int), Cond.methodLink RX6 112 yX6_tideAt, Cond.instanceMethod yX6_tideAt, Cond.selects RX6 yX6_tideAt yX6_tideAt, Cond.code yX6_tideAt cX6_tideAt 6 (some .int), Cond.fieldLink RX6 109 "GongTideModel" "thought" "I", Cond.fieldLink RX6 16 "GongTideModel" "hourOf" "[I", Cond.fieldLink RX6 19 "GongTideModel" "loudOf" "[I", Cond.methodLink RX6 164 yX6_hoursAll, Cond.instanceMethod yX6_hoursAll, Cond.selects RX6 yX6_hoursAll yX6_hoursAll, Cond.code yX6_hoursAll cX6_hoursAll 4 (some .int), Cond.methodLink RX6 128 yX6_hoursOf, Cond.instanceMethod yX6_hoursOf]
def wsX6_howMany_r2 : List Cond := [Cond.selects RX6 yX6_hoursOf yX6_hoursOf, Cond.code yX6_hoursOf cX6_hoursOf 5 (some .int), Cond.methodLink RX6 125 yX6_howAt, Cond.instanceMethod yX6_howAt, Cond.selects RX6 yX6_howAt yX6_howAt, Cond.code yX6_howAt cX6_howAt 4 (some .int), Cond.methodLink RX6 122 yX6_mannersAt, Cond.instanceMethod yX6_mannersAt, Cond.selects RX6 yX6_mannersAt yX6_mannersAt, Cond.code yX6_mannersAt cX6_mannersAt 4 (some .int), Cond.fieldLink RX6 13 "GongTideModel" "levelOf" "[I", Cond.fieldLink RX6 7 "GongTideModel" "kindOf" "[I", Cond.methodLink RX6 115 yX6_less, Cond.static yX6_less, Cond.code yX6_less cX6_less 2 (some .int), Cond.methodLink RX6 119 yX6_tideBefore, Cond.instanceMethod yX6_tideBefore, Cond.selects RX6 yX6_tideBefore yX6_tideBefore, Cond.code yX6_tideBefore cX6_tideBefore 2 (some .int)]
def wsX6_howMany : List Cond := .code yX6_howMany cX6_howMany 2 (some .int) :: ((wsX6_howMany_r1 ++ wsX6_howMany_r2) ++ wsX60)
def wsX6_count_r1 : List Cond := [Cond.methodLink RX6 220 yX6_howMany, Cond.instanceMethod yX6_howMany, Cond.selects RX6 yX6_howMany yX6_howMany, Cond.initialized RX6, Cond.code yX6_howMany cX6_howMany 2 (some .int), Cond.fieldLink RX6 94 "GongTideModel" "houses" "I", Cond.fieldLink RX6 97 "GongTideModel" "strokes" "I", Cond.fieldLink RX6 103 "GongTideModel" "changes" "I", Cond.fieldLink RX6 106 "GongTideModel" "heard" "I", Cond.fieldLink RX6 66 "GongTideModel" "pageLength" "I", Cond.fieldLink RX6 100 "GongTideModel" "colonies" "I", Cond.methodLink RX6 217 yX6_highest, Cond.instanceMethod yX6_highest, Cond.selects RX6 yX6_highest yX6_highest, Cond.code yX6_highest cX6_highest 3 (some .int), Cond.methodLink RX6 112 yX6_tideAt, Cond.instanceMethod yX6_tideAt, Cond.selects RX6 yX6_tideAt yX6_tideAt, Cond.code yX6_tideAt cX6_tideAt 6 (some .int), Cond.fieldLink RX6 109 "GongTideModel" "thought" "I", Cond.fieldLink RX6 16 "GongTideModel" "hourOf" "[I", Cond.fieldLink RX6 19 "GongTideModel" "loudOf" "[I", Cond.methodLink RX6 164 yX6_hoursAll, Cond.instanceMethod yX6_hoursAll]
def wsX6_count_r2 : List Cond := [Cond.selects RX6 yX6_hoursAll yX6_hoursAll, Cond.code yX6_hoursAll cX6_hoursAll 4 (some .int), Cond.methodLink RX6 128 yX6_hoursOf, Cond.instanceMethod yX6_hoursOf, Cond.selects RX6 yX6_hoursOf yX6_hoursOf, Cond.code yX6_hoursOf cX6_hoursOf 5 (some .int), Cond.methodLink RX6 125 yX6_howAt, Cond.instanceMethod yX6_howAt, Cond.selects RX6 yX6_howAt yX6_howAt, Cond.code yX6_howAt cX6_howAt 4 (some .int), Cond.methodLink RX6 122 yX6_mannersAt, Cond.instanceMethod yX6_mannersAt, Cond.selects RX6 yX6_mannersAt yX6_mannersAt, Cond.code yX6_mannersAt cX6_mannersAt 4 (some .int), Cond.fieldLink RX6 13 "GongTideModel" "levelOf" "[I", Cond.fieldLink RX6 7 "GongTideModel" "kindOf" "[I", Cond.methodLink RX6 115 yX6_less, Cond.static yX6_less, Cond.code yX6_less cX6_less 2 (some .int), Cond.methodLink RX6 119 yX6_tideBefore, Cond.instanceMethod yX6_tideBefore, Cond.selects RX6 yX6_tideBefore yX6_tideBefore, Cond.code yX6_tideBefore cX6_tideBefore 2 (some .int)]
def wsX6_count : List Cond := .code yX6_count cX6_count 2 (some .int) :: ((wsX6_count_r1 ++ wsX6_count_r2) ++ wsX60)
def wsX6_mix : List Cond := .code yX6_mix cX6_mix 3 none :: ([.constantLong RX6 223 (31), .fieldLink RX6 225 "GongTideModel" "h" "J"] ++ wsX60)
def wsX6_digest_r1 : List Cond := [Cond.constantLong RX6 228 (1091), Cond.fieldLink RX6 225 "GongTideModel" "h" "J", Cond.fieldLink RX6 94 "GongTideModel" "houses" "I", Cond.fieldLink RX6 97 "GongTideModel" "strokes" "I", Cond.fieldLink RX6 66 "GongTideModel" "pageLength" "I", Cond.fieldLink RX6 34 "GongTideModel" "page" "[B", Cond.methodLink RX6 138 yX6_houseNow, Cond.instanceMethod yX6_houseNow, Cond.selects RX6 yX6_houseNow yX6_houseNow, Cond.initialized RX6, Cond.code yX6_houseNow cX6_houseNow 3 (some .int), Cond.fieldLink RX6 7 "GongTideModel" "kindOf" "[I", Cond.fieldLink RX6 13 "GongTideModel" "levelOf" "[I", Cond.methodLink RX6 128 yX6_hoursOf, Cond.instanceMethod yX6_hoursOf, Cond.selects RX6 yX6_hoursOf yX6_hoursOf, Cond.code yX6_hoursOf cX6_hoursOf 5 (some .int), Cond.methodLink RX6 125 yX6_howAt, Cond.instanceMethod yX6_howAt, Cond.selects RX6 yX6_howAt yX6_howAt, Cond.code yX6_howAt cX6_howAt 4 (some .int), Cond.methodLink RX6 122 yX6_mannersAt, Cond.instanceMethod yX6_mannersAt, Cond.selects RX6 yX6_mannersAt yX6_mannersAt]
def wsX6_digest_r2 : List Cond := [Cond.code yX6_mannersAt cX6_mannersAt 4 (some .int), Cond.methodLink RX6 112 yX6_tideAt, Cond.instanceMethod yX6_tideAt, Cond.selects RX6 yX6_tideAt yX6_tideAt, Cond.code yX6_tideAt cX6_tideAt 6 (some .int), Cond.fieldLink RX6 109 "GongTideModel" "thought" "I", Cond.fieldLink RX6 16 "GongTideModel" "hourOf" "[I", Cond.fieldLink RX6 19 "GongTideModel" "loudOf" "[I", Cond.methodLink RX6 115 yX6_less, Cond.static yX6_less, Cond.code yX6_less cX6_less 2 (some .int), Cond.methodLink RX6 119 yX6_tideBefore, Cond.instanceMethod yX6_tideBefore, Cond.selects RX6 yX6_tideBefore yX6_tideBefore, Cond.code yX6_tideBefore cX6_tideBefore 2 (some .int), Cond.methodLink RX6 131 yX6_greatestHour, Cond.instanceMethod yX6_greatestHour, Cond.selects RX6 yX6_greatestHour yX6_greatestHour, Cond.code yX6_greatestHour cX6_greatestHour 4 (some .int), Cond.methodLink RX6 230 yX6_mix, Cond.instanceMethod yX6_mix, Cond.selects RX6 yX6_mix yX6_mix, Cond.code yX6_mix cX6_mix 3 none, Cond.constantLong RX6 223 (31)]
def wsX6_digest_r3 : List Cond := [Cond.methodLink RX6 147 yX6_strokeNow, Cond.instanceMethod yX6_strokeNow, Cond.selects RX6 yX6_strokeNow yX6_strokeNow, Cond.code yX6_strokeNow cX6_strokeNow 4 (some .int), Cond.methodLink RX6 141 yX6_isHour, Cond.static yX6_isHour, Cond.code yX6_isHour cX6_isHour 1 (some .boolean), Cond.methodLink RX6 62 yX6_within, Cond.static yX6_within, Cond.code yX6_within cX6_within 3 (some .boolean), Cond.methodLink RX6 157 yX6_dinnerNow, Cond.instanceMethod yX6_dinnerNow, Cond.selects RX6 yX6_dinnerNow yX6_dinnerNow, Cond.code yX6_dinnerNow cX6_dinnerNow 4 (some .int), Cond.methodLink RX6 154 yX6_isPolite, Cond.instanceMethod yX6_isPolite, Cond.selects RX6 yX6_isPolite yX6_isPolite, Cond.code yX6_isPolite cX6_isPolite 7 (some .boolean), Cond.methodLink RX6 150 yX6_isIn, Cond.static yX6_isIn, Cond.code yX6_isIn cX6_isIn 2 (some .boolean), Cond.methodLink RX6 167 yX6_bestNow, Cond.instanceMethod yX6_bestNow, Cond.selects RX6 yX6_bestNow yX6_bestNow]
def wsX6_digest_r4 : List Cond := [Cond.code yX6_bestNow cX6_bestNow 7 (some .int), Cond.methodLink RX6 160 yX6_think, Cond.instanceMethod yX6_think, Cond.selects RX6 yX6_think yX6_think, Cond.code yX6_think cX6_think 3 none, Cond.methodLink RX6 164 yX6_hoursAll, Cond.instanceMethod yX6_hoursAll, Cond.selects RX6 yX6_hoursAll yX6_hoursAll, Cond.code yX6_hoursAll cX6_hoursAll 4 (some .int), Cond.methodLink RX6 173 yX6_hoursNow, Cond.instanceMethod yX6_hoursNow, Cond.selects RX6 yX6_hoursNow yX6_hoursNow, Cond.code yX6_hoursNow cX6_hoursNow 3 (some .int), Cond.methodLink RX6 170 yX6_isHeard, Cond.instanceMethod yX6_isHeard, Cond.selects RX6 yX6_isHeard yX6_isHeard, Cond.code yX6_isHeard cX6_isHeard 4 (some .boolean), Cond.fieldLink RX6 106 "GongTideModel" "heard" "I", Cond.fieldLink RX6 28 "GongTideModel" "heardLoud" "[I", Cond.fieldLink RX6 22 "GongTideModel" "heardHouse" "[I", Cond.fieldLink RX6 25 "GongTideModel" "heardHour" "[I", Cond.fieldLink RX6 31 "GongTideModel" "heardHow" "[I", Cond.methodLink RX6 181 yX6_askNow, Cond.instanceMethod yX6_askNow]
def wsX6_digest_r5 : List Cond := [Cond.selects RX6 yX6_askNow yX6_askNow, Cond.code yX6_askNow cX6_askNow 7 (some .int), Cond.constant RX6 176 (268435456), Cond.methodLink RX6 177 yX6_worstIn, Cond.instanceMethod yX6_worstIn, Cond.selects RX6 yX6_worstIn yX6_worstIn, Cond.code yX6_worstIn cX6_worstIn 9 (some .int), Cond.methodLink RX6 220 yX6_howMany, Cond.instanceMethod yX6_howMany, Cond.selects RX6 yX6_howMany yX6_howMany, Cond.code yX6_howMany cX6_howMany 2 (some .int), Cond.fieldLink RX6 103 "GongTideModel" "changes" "I", Cond.fieldLink RX6 100 "GongTideModel" "colonies" "I", Cond.methodLink RX6 217 yX6_highest, Cond.instanceMethod yX6_highest, Cond.selects RX6 yX6_highest yX6_highest, Cond.code yX6_highest cX6_highest 3 (some .int)]
def wsX6_digest : List Cond := .code yX6_digest cX6_digest 3 (some .long) :: ((wsX6_digest_r1 ++ (wsX6_digest_r2 ++ (wsX6_digest_r3 ++ (wsX6_digest_r4 ++ wsX6_digest_r5)))) ++ wsX60)
def wsJ9_max_7cf53 : List Cond := .code yJ9_max_7cf53 cJ9_max_7cf53 2 (some .int) :: ([])
def wsJ9_min_7cf53 : List Cond := .code yJ9_min_7cf53 cJ9_min_7cf53 2 (some .int) :: ([])
def wsL_law_r1 : List Cond := [Cond.classLink RL 7 RX5, Cond.instantiable RX5 9, Cond.initialized RX5, Cond.classLink RL 10 RX6, Cond.instantiable RX6 34, Cond.initialized RX6, Cond.methodLink RL 9 yX5_init, Cond.instanceMethod yX5_init, Cond.code yX5_init cX5_init 1 none, Cond.methodLink RX5 1 objectInit, Cond.instanceMethod objectInit, Cond.code objectInit ⟨#[0xb1]⟩ 1 none, Cond.classLink RX5 7 RX2, Cond.instantiable RX2 2, Cond.initialized RX2, Cond.fieldLink RX5 10 "GongTide" "page" "LGongTide$Page;", Cond.arrayClass .int, Cond.fieldLink RX5 16 "GongTide" "kinds" "[I", Cond.classLink RX5 20 RX0, Cond.instantiable RX0 4, Cond.initialized RX0, Cond.fieldLink RX5 23 "GongTide" "affairs" "LGongTide$Affairs;", Cond.fieldLink RX5 27 "GongTide" "kept" "LGongTide$Affairs;", Cond.classLink RX5 30 RX4]
def wsL_law_r2 : List Cond := [Cond.instantiable RX4 1, Cond.initialized RX4, Cond.fieldLink RX5 33 "GongTide" "now" "LGongTide$Tide;", Cond.fieldLink RX5 37 "GongTide" "supposed" "LGongTide$Tide;", Cond.instanceMethod yX2_init, Cond.code yX2_init cX2_init 1 none, Cond.methodLink RX2 3 objectInit, Cond.fieldLink RX2 9 "GongTide$Page" "codes" "[I", Cond.instanceMethod yX0_init, Cond.code yX0_init cX0_init 1 none, Cond.methodLink RX0 3 objectInit, Cond.fieldLink RX0 9 "GongTide$Affairs" "levels" "[I", Cond.classLink RX0 15 RX3, Cond.instantiable RX3 3, Cond.initialized RX3, Cond.fieldLink RX0 18 "GongTide$Affairs" "strokes" "LGongTide$Strokes;", Cond.classLink RX0 22 RX1, Cond.instantiable RX1 5, Cond.initialized RX1, Cond.fieldLink RX0 25 "GongTide$Affairs" "heard" "LGongTide$Heard;", Cond.instanceMethod yX3_init, Cond.code yX3_init cX3_init 1 none, Cond.methodLink RX3 3 objectInit, Cond.fieldLink RX3 9 "GongTide$Strokes" "hours" "[I"]
def wsL_law_r3 : List Cond := [Cond.fieldLink RX3 15 "GongTide$Strokes" "louds" "[I", Cond.instanceMethod yX1_init, Cond.code yX1_init cX1_init 1 none, Cond.methodLink RX1 3 objectInit, Cond.fieldLink RX1 9 "GongTide$Heard" "houses" "[I", Cond.fieldLink RX1 15 "GongTide$Heard" "hours" "[I", Cond.fieldLink RX1 18 "GongTide$Heard" "louds" "[I", Cond.fieldLink RX1 21 "GongTide$Heard" "hows" "[I", Cond.instanceMethod yX4_init, Cond.code yX4_init cX4_init 1 none, Cond.methodLink RX4 3 objectInit, Cond.fieldLink RX4 9 "GongTide$Tide" "sums" "[I", Cond.methodLink RL 12 yX6_init, Cond.instanceMethod yX6_init, Cond.code yX6_init cX6_init 1 none, Cond.methodLink RX6 1 objectInit, Cond.fieldLink RX6 7 "GongTideModel" "kindOf" "[I", Cond.fieldLink RX6 13 "GongTideModel" "levelOf" "[I", Cond.fieldLink RX6 16 "GongTideModel" "hourOf" "[I", Cond.fieldLink RX6 19 "GongTideModel" "loudOf" "[I", Cond.fieldLink RX6 22 "GongTideModel" "heardHouse" "[I", Cond.fieldLink RX6 25 "GongTideModel" "heardHour" "[I", Cond.fieldLink RX6 28 "GongTideModel" "heardLoud" "[I", Cond.fieldLink RX6 31 "GongTideModel" "heardHow" "[I"]
def wsL_law_r4 : List Cond := [Cond.arrayClass .byte, Cond.fieldLink RX6 34 "GongTideModel" "page" "[B", Cond.fieldLink RX6 38 "GongTideModel" "savedHour" "[I", Cond.fieldLink RX6 41 "GongTideModel" "keptLevel" "[I", Cond.fieldLink RX6 44 "GongTideModel" "keptHour" "[I", Cond.fieldLink RX6 47 "GongTideModel" "keptLoud" "[I", Cond.fieldLink RX6 50 "GongTideModel" "keptHouse" "[I", Cond.fieldLink RX6 53 "GongTideModel" "keptHeardHour" "[I", Cond.fieldLink RX6 56 "GongTideModel" "keptHeardLoud" "[I", Cond.fieldLink RX6 59 "GongTideModel" "keptHow" "[I", Cond.methodLink RL 13 yX5_letter, Cond.instanceMethod yX5_letter, Cond.selects RX5 yX5_letter yX5_letter, Cond.code yX5_letter cX5_letter 2 (some .int), Cond.methodLink RX5 40 yX5_isWithin, Cond.static yX5_isWithin, Cond.code yX5_isWithin cX5_isWithin 3 (some .boolean), Cond.methodLink RX5 44 yX2_write, Cond.instanceMethod yX2_write, Cond.selects RX2 yX2_write yX2_write, Cond.code yX2_write cX2_write 2 (some .boolean), Cond.fieldLink RX2 15 "GongTide$Page" "size" "I", Cond.methodLink RX5 48 yX2_size, Cond.instanceMethod yX2_size]
def wsL_law_r5 : List Cond := [Cond.selects RX2 yX2_size yX2_size, Cond.code yX2_size cX2_size 1 (some .int), Cond.methodLink RL 17 yX6_letter, Cond.instanceMethod yX6_letter, Cond.selects RX6 yX6_letter yX6_letter, Cond.code yX6_letter cX6_letter 2 (some .int), Cond.fieldLink RX6 66 "GongTideModel" "pageLength" "I", Cond.methodLink RX6 62 yX6_within, Cond.static yX6_within, Cond.code yX6_within cX6_within 3 (some .boolean), Cond.methodLink RL 18 yX5_blank, Cond.instanceMethod yX5_blank, Cond.selects RX5 yX5_blank yX5_blank, Cond.code yX5_blank cX5_blank 1 (some .int), Cond.methodLink RX5 52 yX2_wipe, Cond.instanceMethod yX2_wipe, Cond.selects RX2 yX2_wipe yX2_wipe, Cond.code yX2_wipe cX2_wipe 2 (some .int), Cond.methodLink RL 22 yX6_blank, Cond.instanceMethod yX6_blank, Cond.selects RX6 yX6_blank yX6_blank, Cond.code yX6_blank cX6_blank 2 (some .int), Cond.methodLink RL 23 yX5_fault, Cond.instanceMethod yX5_fault]
def wsL_law_r6 : List Cond := [Cond.selects RX5 yX5_fault yX5_fault, Cond.code yX5_fault cX5_fault 1 (some .int), Cond.methodLink RX5 55 yX2_soundLetters, Cond.instanceMethod yX2_soundLetters, Cond.selects RX2 yX2_soundLetters yX2_soundLetters, Cond.code yX2_soundLetters cX2_soundLetters 5 (some .int), Cond.methodLink RX2 27 yX2_houses, Cond.instanceMethod yX2_houses, Cond.selects RX2 yX2_houses yX2_houses, Cond.code yX2_houses cX2_houses 2 (some .int), Cond.methodLink RX2 23 yX2_at, Cond.instanceMethod yX2_at, Cond.selects RX2 yX2_at yX2_at, Cond.code yX2_at cX2_at 2 (some .int), Cond.methodLink RX2 31 yX2_suitsHouses, Cond.static yX2_suitsHouses, Cond.code yX2_suitsHouses cX2_suitsHouses 3 (some .boolean), Cond.static yX5_kindOf, Cond.code yX5_kindOf cX5_kindOf 1 (some .int), Cond.methodLink RX2 35 yX2_suitsStrokes, Cond.static yX2_suitsStrokes, Cond.code yX2_suitsStrokes cX2_suitsStrokes 3 (some .boolean), Cond.methodLink RL 26 yX6_fault, Cond.instanceMethod yX6_fault]
def wsL_law_r7 : List Cond := [Cond.selects RX6 yX6_fault yX6_fault, Cond.code yX6_fault cX6_fault 1 (some .int), Cond.methodLink RX6 90 yX6_read, Cond.instanceMethod yX6_read, Cond.selects RX6 yX6_read yX6_read, Cond.code yX6_read cX6_read 2 (some .int), Cond.fieldLink RX6 73 "GongTideModel" "isWhole" "Z", Cond.fieldLink RX6 81 "GongTideModel" "newHouses" "I", Cond.fieldLink RX6 70 "GongTideModel" "newStrokes" "I", Cond.methodLink RX6 84 yX6_kindBy, Cond.static yX6_kindBy, Cond.code yX6_kindBy cX6_kindBy 1 (some .int), Cond.methodLink RX6 77 yX6_figure, Cond.instanceMethod yX6_figure, Cond.selects RX6 yX6_figure yX6_figure, Cond.code yX6_figure cX6_figure 2 (some .int), Cond.methodLink RX6 87 yX6_readStrokes, Cond.instanceMethod yX6_readStrokes, Cond.selects RX6 yX6_readStrokes yX6_readStrokes, Cond.code yX6_readStrokes cX6_readStrokes 3 (some .int), Cond.methodLink RL 27 yX5_colony, Cond.instanceMethod yX5_colony, Cond.selects RX5 yX5_colony yX5_colony, Cond.code yX5_colony cX5_colony 3 (some .int)]
def wsL_law_r8 : List Cond := [Cond.fieldLink RX5 65 "GongTide" "houseCount" "I", Cond.fieldLink RX5 86 "GongTide$Affairs" "strokes" "LGongTide$Strokes;", Cond.fieldLink RX5 96 "GongTide" "isKept" "Z", Cond.fieldLink RX5 100 "GongTide" "readings" "I", Cond.methodLink RX5 58 yX2_tellsColony, Cond.instanceMethod yX2_tellsColony, Cond.selects RX2 yX2_tellsColony yX2_tellsColony, Cond.code yX2_tellsColony cX2_tellsColony 3 (some .boolean), Cond.methodLink RX2 38 yX2_soundLetters, Cond.methodLink RX5 62 yX2_houses, Cond.methodLink RX5 69 yX0_clear, Cond.instanceMethod yX0_clear, Cond.selects RX0 yX0_clear yX0_clear, Cond.code yX0_clear cX0_clear 1 none, Cond.fieldLink RX0 35 "GongTide$Affairs" "changes" "I", Cond.methodLink RX0 29 yX3_clear, Cond.instanceMethod yX3_clear, Cond.selects RX3 yX3_clear yX3_clear, Cond.code yX3_clear cX3_clear 1 none, Cond.fieldLink RX3 18 "GongTide$Strokes" "size" "I", Cond.methodLink RX0 32 yX1_clear, Cond.instanceMethod yX1_clear, Cond.selects RX1 yX1_clear yX1_clear, Cond.code yX1_clear cX1_clear 2 (some .int)]
def wsL_law_r9 : List Cond := [Cond.fieldLink RX1 24 "GongTide$Heard" "size" "I", Cond.methodLink RX5 72 yX2_at, Cond.methodLink RX5 76 yX5_kindOf, Cond.methodLink RX5 79 yX2_digitAt, Cond.instanceMethod yX2_digitAt, Cond.selects RX2 yX2_digitAt yX2_digitAt, Cond.code yX2_digitAt cX2_digitAt 2 (some .int), Cond.methodLink RX5 82 yX0_setLevel, Cond.instanceMethod yX0_setLevel, Cond.selects RX0 yX0_setLevel yX0_setLevel, Cond.code yX0_setLevel cX0_setLevel 3 none, Cond.methodLink RX5 90 yX3_add, Cond.instanceMethod yX3_add, Cond.selects RX3 yX3_add yX3_add, Cond.code yX3_add cX3_add 3 (some .boolean), Cond.methodLink RL 30 yX6_colony, Cond.instanceMethod yX6_colony, Cond.selects RX6 yX6_colony yX6_colony, Cond.code yX6_colony cX6_colony 2 (some .int), Cond.fieldLink RX6 94 "GongTideModel" "houses" "I", Cond.fieldLink RX6 97 "GongTideModel" "strokes" "I", Cond.fieldLink RX6 100 "GongTideModel" "colonies" "I", Cond.fieldLink RX6 103 "GongTideModel" "changes" "I", Cond.fieldLink RX6 106 "GongTideModel" "heard" "I"]
def wsL_law_r10 : List Cond := [Cond.methodLink RL 31 yX5_about, Cond.instanceMethod yX5_about, Cond.selects RX5 yX5_about yX5_about, Cond.code yX5_about cX5_about 4 (some .int), Cond.methodLink RX5 103 yX5_isHouse, Cond.instanceMethod yX5_isHouse, Cond.selects RX5 yX5_isHouse yX5_isHouse, Cond.code yX5_isHouse cX5_isHouse 2 (some .boolean), Cond.methodLink RX5 106 yX5_tideNow, Cond.instanceMethod yX5_tideNow, Cond.selects RX5 yX5_tideNow yX5_tideNow, Cond.code yX5_tideNow cX5_tideNow 3 (some (.object "GongTide$Tide")), Cond.methodLink RX5 241 yX4_clear, Cond.instanceMethod yX4_clear, Cond.selects RX4 yX4_clear yX4_clear, Cond.code yX4_clear cX4_clear 2 none, Cond.methodLink RX5 141 yX3_size, Cond.instanceMethod yX3_size, Cond.selects RX3 yX3_size yX3_size, Cond.code yX3_size cX3_size 1 (some .int), Cond.methodLink RX5 151 yX3_hour, Cond.instanceMethod yX3_hour, Cond.selects RX3 yX3_hour yX3_hour, Cond.code yX3_hour cX3_hour 2 (some .int)]
def wsL_law_r11 : List Cond := [Cond.methodLink RX3 26 yX3_has, Cond.instanceMethod yX3_has, Cond.selects RX3 yX3_has yX3_has, Cond.code yX3_has cX3_has 2 (some .boolean), Cond.methodLink RX5 145 yX3_loud, Cond.instanceMethod yX3_loud, Cond.selects RX3 yX3_loud yX3_loud, Cond.code yX3_loud cX3_loud 2 (some .int), Cond.methodLink RX5 242 yX4_add, Cond.instanceMethod yX4_add, Cond.selects RX4 yX4_add yX4_add, Cond.code yX4_add cX4_add 5 none, Cond.methodLink RX4 15 Lib.Math.max.name, Cond.static Lib.Math.max.name, Cond.initialized "java/lang/Math", Cond.code Lib.Math.max.name Lib.Math.max.code 2 (some .int), Cond.methodLink RX5 110 yX5_kindAt, Cond.instanceMethod yX5_kindAt, Cond.selects RX5 yX5_kindAt yX5_kindAt, Cond.code yX5_kindAt cX5_kindAt 2 (some .int), Cond.methodLink RX5 113 yX0_level, Cond.instanceMethod yX0_level, Cond.selects RX0 yX0_level yX0_level, Cond.code yX0_level cX0_level 2 (some .int)]
def wsL_law_r12 : List Cond := [Cond.methodLink RX5 116 yX5_hoursOf, Cond.instanceMethod yX5_hoursOf, Cond.selects RX5 yX5_hoursOf yX5_hoursOf, Cond.code yX5_hoursOf cX5_hoursOf 6 (some .int), Cond.methodLink RX5 124 yX5_mannersAt, Cond.instanceMethod yX5_mannersAt, Cond.selects RX5 yX5_mannersAt yX5_mannersAt, Cond.code yX5_mannersAt cX5_mannersAt 6 (some .int), Cond.methodLink RX5 254 Lib.Math.max.name, Cond.methodLink RX5 262 Lib.Math.min.name, Cond.static Lib.Math.min.name, Cond.code Lib.Math.min.name Lib.Math.min.code 2 (some .int), Cond.methodLink RX5 137 yX4_at, Cond.instanceMethod yX4_at, Cond.selects RX4 yX4_at yX4_at, Cond.code yX4_at cX4_at 2 (some .int), Cond.methodLink RX4 21 Lib.Math.min.name, Cond.methodLink RX5 259 yX5_above, Cond.static yX5_above, Cond.code yX5_above cX5_above 2 (some .int), Cond.methodLink RX5 265 yX5_howAt, Cond.static yX5_howAt, Cond.code yX5_howAt cX5_howAt 1 (some .int), Cond.methodLink RX5 120 yX5_hourOfMostManners]
def wsL_law_r13 : List Cond := [Cond.instanceMethod yX5_hourOfMostManners, Cond.selects RX5 yX5_hourOfMostManners yX5_hourOfMostManners, Cond.code yX5_hourOfMostManners cX5_hourOfMostManners 5 (some .int), Cond.methodLink RL 35 yX6_about, Cond.instanceMethod yX6_about, Cond.selects RX6 yX6_about yX6_about, Cond.code yX6_about cX6_about 3 (some .int), Cond.methodLink RX6 134 yX6_isHouse, Cond.instanceMethod yX6_isHouse, Cond.selects RX6 yX6_isHouse yX6_isHouse, Cond.code yX6_isHouse cX6_isHouse 2 (some .boolean), Cond.methodLink RX6 138 yX6_houseNow, Cond.instanceMethod yX6_houseNow, Cond.selects RX6 yX6_houseNow yX6_houseNow, Cond.code yX6_houseNow cX6_houseNow 3 (some .int), Cond.methodLink RX6 128 yX6_hoursOf, Cond.instanceMethod yX6_hoursOf, Cond.selects RX6 yX6_hoursOf yX6_hoursOf, Cond.code yX6_hoursOf cX6_hoursOf 5 (some .int), Cond.methodLink RX6 125 yX6_howAt, Cond.instanceMethod yX6_howAt, Cond.selects RX6 yX6_howAt yX6_howAt, Cond.code yX6_howAt cX6_howAt 4 (some .int), Cond.methodLink RX6 122 yX6_mannersAt]
def wsL_law_r14 : List Cond := [Cond.instanceMethod yX6_mannersAt, Cond.selects RX6 yX6_mannersAt yX6_mannersAt, Cond.code yX6_mannersAt cX6_mannersAt 4 (some .int), Cond.methodLink RX6 112 yX6_tideAt, Cond.instanceMethod yX6_tideAt, Cond.selects RX6 yX6_tideAt yX6_tideAt, Cond.code yX6_tideAt cX6_tideAt 6 (some .int), Cond.fieldLink RX6 109 "GongTideModel" "thought" "I", Cond.methodLink RX6 115 yX6_less, Cond.static yX6_less, Cond.code yX6_less cX6_less 2 (some .int), Cond.methodLink RX6 119 yX6_tideBefore, Cond.instanceMethod yX6_tideBefore, Cond.selects RX6 yX6_tideBefore yX6_tideBefore, Cond.code yX6_tideBefore cX6_tideBefore 2 (some .int), Cond.methodLink RX6 131 yX6_greatestHour, Cond.instanceMethod yX6_greatestHour, Cond.selects RX6 yX6_greatestHour yX6_greatestHour, Cond.code yX6_greatestHour cX6_greatestHour 4 (some .int), Cond.methodLink RL 36 yX5_as, Cond.instanceMethod yX5_as, Cond.selects RX5 yX5_as yX5_as, Cond.code yX5_as cX5_as 5 (some .int), Cond.methodLink RL 39 yX6_as]
def wsL_law_r15 : List Cond := [Cond.instanceMethod yX6_as, Cond.selects RX6 yX6_as yX6_as, Cond.code yX6_as cX6_as 4 (some .int), Cond.methodLink RL 40 yX5_raise, Cond.instanceMethod yX5_raise, Cond.selects RX5 yX5_raise yX5_raise, Cond.code yX5_raise cX5_raise 4 (some .int), Cond.fieldLink RX5 128 "GongTide$Affairs" "changes" "I", Cond.methodLink RL 43 yX6_raise, Cond.instanceMethod yX6_raise, Cond.selects RX6 yX6_raise yX6_raise, Cond.code yX6_raise cX6_raise 4 (some .int), Cond.methodLink RL 44 yX5_tide, Cond.instanceMethod yX5_tide, Cond.selects RX5 yX5_tide yX5_tide, Cond.code yX5_tide cX5_tide 2 (some .int), Cond.methodLink RX5 131 yX5_isHourOfDay, Cond.static yX5_isHourOfDay, Cond.code yX5_isHourOfDay cX5_isHourOfDay 1 (some .boolean), Cond.methodLink RX5 134 yX5_hasColony, Cond.instanceMethod yX5_hasColony, Cond.selects RX5 yX5_hasColony yX5_hasColony, Cond.code yX5_hasColony cX5_hasColony 1 (some .boolean), Cond.methodLink RL 47 yX6_tide]
def wsL_law_r16 : List Cond := [Cond.instanceMethod yX6_tide, Cond.selects RX6 yX6_tide yX6_tide, Cond.code yX6_tide cX6_tide 2 (some .int), Cond.methodLink RX6 141 yX6_isHour, Cond.static yX6_isHour, Cond.code yX6_isHour cX6_isHour 1 (some .boolean), Cond.methodLink RL 48 yX5_strike, Cond.instanceMethod yX5_strike, Cond.selects RX5 yX5_strike yX5_strike, Cond.code yX5_strike cX5_strike 3 (some .int), Cond.methodLink RX5 138 yX5_isHeardLoud, Cond.static yX5_isHeardLoud, Cond.code yX5_isHeardLoud cX5_isHeardLoud 1 (some .boolean), Cond.methodLink RL 51 yX6_strike, Cond.instanceMethod yX6_strike, Cond.selects RX6 yX6_strike yX6_strike, Cond.code yX6_strike cX6_strike 3 (some .int), Cond.methodLink RL 52 yX5_felt, Cond.instanceMethod yX5_felt, Cond.selects RX5 yX5_felt yX5_felt, Cond.code yX5_felt cX5_felt 4 (some .int), Cond.methodLink RX5 142 yX3_has, Cond.methodLink RX5 148 yX3_setLoud, Cond.instanceMethod yX3_setLoud]
def wsL_law_r17 : List Cond := [Cond.selects RX3 yX3_setLoud yX3_setLoud, Cond.code yX3_setLoud cX3_setLoud 3 none, Cond.methodLink RL 55 yX6_felt, Cond.instanceMethod yX6_felt, Cond.selects RX6 yX6_felt yX6_felt, Cond.code yX6_felt cX6_felt 4 (some .int), Cond.methodLink RX6 144 yX6_isStroke, Cond.instanceMethod yX6_isStroke, Cond.selects RX6 yX6_isStroke yX6_isStroke, Cond.code yX6_isStroke cX6_isStroke 2 (some .boolean), Cond.methodLink RL 56 yX5_stroke, Cond.instanceMethod yX5_stroke, Cond.selects RX5 yX5_stroke yX5_stroke, Cond.code yX5_stroke cX5_stroke 3 (some .int), Cond.methodLink RX5 154 yX3_goneAt, Cond.instanceMethod yX3_goneAt, Cond.selects RX3 yX3_goneAt yX3_goneAt, Cond.code yX3_goneAt cX3_goneAt 3 (some .int), Cond.methodLink RX3 30 yX3_hour, Cond.methodLink RX3 34 yX3_loud, Cond.methodLink RL 59 yX6_stroke, Cond.instanceMethod yX6_stroke, Cond.selects RX6 yX6_stroke yX6_stroke, Cond.code yX6_stroke cX6_stroke 3 (some .int)]
def wsL_law_r18 : List Cond := [Cond.methodLink RX6 147 yX6_strokeNow, Cond.instanceMethod yX6_strokeNow, Cond.selects RX6 yX6_strokeNow yX6_strokeNow, Cond.code yX6_strokeNow cX6_strokeNow 4 (some .int), Cond.methodLink RL 60 yX5_dinner, Cond.instanceMethod yX5_dinner, Cond.selects RX5 yX5_dinner yX5_dinner, Cond.code yX5_dinner cX5_dinner 5 (some .int), Cond.methodLink RX5 157 yX5_allHouses, Cond.instanceMethod yX5_allHouses, Cond.selects RX5 yX5_allHouses yX5_allHouses, Cond.code yX5_allHouses cX5_allHouses 1 (some .int), Cond.methodLink RX5 160 yX5_canDine, Cond.instanceMethod yX5_canDine, Cond.selects RX5 yX5_canDine yX5_canDine, Cond.code yX5_canDine cX5_canDine 8 (some .boolean), Cond.methodLink RL 63 yX6_dinner, Cond.instanceMethod yX6_dinner, Cond.selects RX6 yX6_dinner yX6_dinner, Cond.code yX6_dinner cX6_dinner 3 (some .int), Cond.methodLink RX6 157 yX6_dinnerNow, Cond.instanceMethod yX6_dinnerNow, Cond.selects RX6 yX6_dinnerNow yX6_dinnerNow, Cond.code yX6_dinnerNow cX6_dinnerNow 4 (some .int)]
def wsL_law_r19 : List Cond := [Cond.methodLink RX6 154 yX6_isPolite, Cond.instanceMethod yX6_isPolite, Cond.selects RX6 yX6_isPolite yX6_isPolite, Cond.code yX6_isPolite cX6_isPolite 7 (some .boolean), Cond.methodLink RX6 150 yX6_isIn, Cond.static yX6_isIn, Cond.code yX6_isIn cX6_isIn 2 (some .boolean), Cond.methodLink RL 64 yX5_best, Cond.instanceMethod yX5_best, Cond.selects RX5 yX5_best yX5_best, Cond.code yX5_best cX5_best 8 (some .int), Cond.methodLink RX5 164 yX5_suppose, Cond.instanceMethod yX5_suppose, Cond.selects RX5 yX5_suppose yX5_suppose, Cond.code yX5_suppose cX5_suppose 4 (some (.object "GongTide$Tide")), Cond.methodLink RX5 244 yX4_copyFrom, Cond.instanceMethod yX4_copyFrom, Cond.selects RX4 yX4_copyFrom yX4_copyFrom, Cond.code yX4_copyFrom cX4_copyFrom 3 none, Cond.methodLink RX5 168 yX5_hoursOfAll, Cond.instanceMethod yX5_hoursOfAll, Cond.selects RX5 yX5_hoursOfAll yX5_hoursOfAll, Cond.code yX5_hoursOfAll cX5_hoursOfAll 5 (some .int), Cond.methodLink RL 67 yX6_best]
def wsL_law_r20 : List Cond := [Cond.instanceMethod yX6_best, Cond.selects RX6 yX6_best yX6_best, Cond.code yX6_best cX6_best 3 (some .int), Cond.methodLink RX6 167 yX6_bestNow, Cond.instanceMethod yX6_bestNow, Cond.selects RX6 yX6_bestNow yX6_bestNow, Cond.code yX6_bestNow cX6_bestNow 7 (some .int), Cond.methodLink RX6 160 yX6_think, Cond.instanceMethod yX6_think, Cond.selects RX6 yX6_think yX6_think, Cond.code yX6_think cX6_think 3 none, Cond.methodLink RX6 164 yX6_hoursAll, Cond.instanceMethod yX6_hoursAll, Cond.selects RX6 yX6_hoursAll yX6_hoursAll, Cond.code yX6_hoursAll cX6_hoursAll 4 (some .int), Cond.methodLink RL 68 yX5_hear, Cond.instanceMethod yX5_hear, Cond.selects RX5 yX5_hear yX5_hear, Cond.code yX5_hear cX5_hear 5 (some .int), Cond.fieldLink RX5 171 "GongTide$Affairs" "heard" "LGongTide$Heard;", Cond.methodLink RX5 175 yX1_add, Cond.instanceMethod yX1_add, Cond.selects RX1 yX1_add yX1_add, Cond.code yX1_add cX1_add 5 (some .boolean)]
def wsL_law_r21 : List Cond := [Cond.methodLink RX5 180 yX1_size, Cond.instanceMethod yX1_size, Cond.selects RX1 yX1_size yX1_size, Cond.code yX1_size cX1_size 1 (some .int), Cond.methodLink RL 72 yX6_hear, Cond.instanceMethod yX6_hear, Cond.selects RX6 yX6_hear yX6_hear, Cond.code yX6_hear cX6_hear 5 (some .int), Cond.methodLink RL 73 yX5_forget, Cond.instanceMethod yX5_forget, Cond.selects RX5 yX5_forget yX5_forget, Cond.code yX5_forget cX5_forget 1 (some .int), Cond.methodLink RX5 181 yX1_clear, Cond.methodLink RL 76 yX6_forget, Cond.instanceMethod yX6_forget, Cond.selects RX6 yX6_forget yX6_forget, Cond.code yX6_forget cX6_forget 2 (some .int), Cond.methodLink RL 77 yX5_hours, Cond.instanceMethod yX5_hours, Cond.selects RX5 yX5_hours yX5_hours, Cond.code yX5_hours cX5_hours 4 (some .int), Cond.methodLink RX5 183 yX5_agreesWithHeard, Cond.instanceMethod yX5_agreesWithHeard, Cond.selects RX5 yX5_agreesWithHeard yX5_agreesWithHeard]
def wsL_law_r22 : List Cond := [Cond.code yX5_agreesWithHeard cX5_agreesWithHeard 7 (some .boolean), Cond.methodLink RX5 268 yX1_loud, Cond.instanceMethod yX1_loud, Cond.selects RX1 yX1_loud yX1_loud, Cond.code yX1_loud cX1_loud 2 (some .int), Cond.methodLink RX1 32 yX1_has, Cond.instanceMethod yX1_has, Cond.selects RX1 yX1_has yX1_has, Cond.code yX1_has cX1_has 2 (some .boolean), Cond.methodLink RX5 269 yX1_house, Cond.instanceMethod yX1_house, Cond.selects RX1 yX1_house yX1_house, Cond.code yX1_house cX1_house 2 (some .int), Cond.methodLink RX5 272 yX1_hour, Cond.instanceMethod yX1_hour, Cond.selects RX1 yX1_hour yX1_hour, Cond.code yX1_hour cX1_hour 2 (some .int), Cond.methodLink RX5 273 yX1_how, Cond.instanceMethod yX1_how, Cond.selects RX1 yX1_how yX1_how, Cond.code yX1_how cX1_how 2 (some .int), Cond.methodLink RL 80 yX6_hours, Cond.instanceMethod yX6_hours, Cond.selects RX6 yX6_hours yX6_hours]
def wsL_law_r23 : List Cond := [Cond.code yX6_hours cX6_hours 1 (some .int), Cond.methodLink RX6 173 yX6_hoursNow, Cond.instanceMethod yX6_hoursNow, Cond.selects RX6 yX6_hoursNow yX6_hoursNow, Cond.code yX6_hoursNow cX6_hoursNow 3 (some .int), Cond.methodLink RX6 170 yX6_isHeard, Cond.instanceMethod yX6_isHeard, Cond.selects RX6 yX6_isHeard yX6_isHeard, Cond.code yX6_isHeard cX6_isHeard 4 (some .boolean), Cond.methodLink RL 81 yX5_ask, Cond.instanceMethod yX5_ask, Cond.selects RX5 yX5_ask yX5_ask, Cond.code yX5_ask cX5_ask 8 (some .int), Cond.methodLink RX5 187 yX5_hours, Cond.methodLink RX5 190 yX5_mostLeft, Cond.instanceMethod yX5_mostLeft, Cond.selects RX5 yX5_mostLeft yX5_mostLeft, Cond.code yX5_mostLeft cX5_mostLeft 10 (some .int), Cond.methodLink RX5 276 yX1_lastLoud, Cond.instanceMethod yX1_lastLoud, Cond.selects RX1 yX1_lastLoud yX1_lastLoud, Cond.code yX1_lastLoud cX1_lastLoud 1 (some .int), Cond.methodLink RX1 36 yX1_loud, Cond.methodLink RL 84 yX6_ask]
def wsL_law_r24 : List Cond := [Cond.instanceMethod yX6_ask, Cond.selects RX6 yX6_ask yX6_ask, Cond.code yX6_ask cX6_ask 2 (some .int), Cond.methodLink RX6 181 yX6_askNow, Cond.instanceMethod yX6_askNow, Cond.selects RX6 yX6_askNow yX6_askNow, Cond.code yX6_askNow cX6_askNow 7 (some .int), Cond.constant RX6 176 (268435456), Cond.methodLink RX6 177 yX6_worstIn, Cond.instanceMethod yX6_worstIn, Cond.selects RX6 yX6_worstIn yX6_worstIn, Cond.code yX6_worstIn cX6_worstIn 9 (some .int), Cond.methodLink RL 85 yX5_weeks, Cond.instanceMethod yX5_weeks, Cond.selects RX5 yX5_weeks yX5_weeks, Cond.code yX5_weeks cX5_weeks 8 (some .int), Cond.methodLink RX5 194 yX5_drawDay, Cond.instanceMethod yX5_drawDay, Cond.selects RX5 yX5_drawDay yX5_drawDay, Cond.code yX5_drawDay cX5_drawDay 5 (some .int), Cond.constantLong RX5 247 (1103515245), Cond.constantLong RX5 249 (12345), Cond.constantLong RX5 251 (2147483648), Cond.constant RX5 253 (65536)]
def wsL_law_r25 : List Cond := [Cond.methodLink RL 89 yX6_weeks, Cond.instanceMethod yX6_weeks, Cond.selects RX6 yX6_weeks yX6_weeks, Cond.code yX6_weeks cX6_weeks 4 (some .int), Cond.methodLink RX6 199 yX6_weeksNow, Cond.instanceMethod yX6_weeksNow, Cond.selects RX6 yX6_weeksNow yX6_weeksNow, Cond.code yX6_weeksNow cX6_weeksNow 8 (some .int), Cond.fieldLink RX6 186 "GongTideModel" "seedNow" "J", Cond.methodLink RX6 196 yX6_draw, Cond.instanceMethod yX6_draw, Cond.selects RX6 yX6_draw yX6_draw, Cond.code yX6_draw cX6_draw 2 (some .int), Cond.constantLong RX6 184 (1103515245), Cond.constantLong RX6 190 (12345), Cond.constantLong RX6 192 (2147483647), Cond.constantLong RX6 194 (65536), Cond.methodLink RL 90 yX5_image, Cond.instanceMethod yX5_image, Cond.selects RX5 yX5_image yX5_image, Cond.code yX5_image cX5_image 1 (some .int), Cond.methodLink RX5 197 yX0_copyFrom, Cond.instanceMethod yX0_copyFrom, Cond.selects RX0 yX0_copyFrom yX0_copyFrom]
def wsL_law_r26 : List Cond := [Cond.code yX0_copyFrom cX0_copyFrom 3 none, Cond.methodLink RX0 43 yX3_copyFrom, Cond.instanceMethod yX3_copyFrom, Cond.selects RX3 yX3_copyFrom yX3_copyFrom, Cond.code yX3_copyFrom cX3_copyFrom 3 none, Cond.methodLink RX0 47 yX1_copyFrom, Cond.instanceMethod yX1_copyFrom, Cond.selects RX1 yX1_copyFrom yX1_copyFrom, Cond.code yX1_copyFrom cX1_copyFrom 3 none, Cond.methodLink RL 93 yX6_image, Cond.instanceMethod yX6_image, Cond.selects RX6 yX6_image yX6_image, Cond.code yX6_image cX6_image 2 (some .int), Cond.fieldLink RX6 202 "GongTideModel" "isKept" "Z", Cond.fieldLink RX6 205 "GongTideModel" "keptColony" "I", Cond.fieldLink RX6 208 "GongTideModel" "keptStrokes" "I", Cond.fieldLink RX6 211 "GongTideModel" "keptChanges" "I", Cond.fieldLink RX6 214 "GongTideModel" "keptHeard" "I", Cond.methodLink RL 94 yX5_restore, Cond.instanceMethod yX5_restore, Cond.selects RX5 yX5_restore yX5_restore, Cond.code yX5_restore cX5_restore 1 (some .int), Cond.methodLink RL 97 yX6_restore, Cond.instanceMethod yX6_restore]
def wsL_law_r27 : List Cond := [Cond.selects RX6 yX6_restore yX6_restore, Cond.code yX6_restore cX6_restore 2 (some .int), Cond.methodLink RL 98 yX5_count, Cond.instanceMethod yX5_count, Cond.selects RX5 yX5_count yX5_count, Cond.code yX5_count cX5_count 2 (some .int), Cond.methodLink RX5 201 yX4_greatest, Cond.instanceMethod yX4_greatest, Cond.selects RX4 yX4_greatest yX4_greatest, Cond.code yX4_greatest cX4_greatest 3 (some .int), Cond.methodLink RX4 24 yX4_at, Cond.methodLink RL 101 yX6_count, Cond.instanceMethod yX6_count, Cond.selects RX6 yX6_count yX6_count, Cond.code yX6_count cX6_count 2 (some .int), Cond.methodLink RX6 220 yX6_howMany, Cond.instanceMethod yX6_howMany, Cond.selects RX6 yX6_howMany yX6_howMany, Cond.code yX6_howMany cX6_howMany 2 (some .int), Cond.methodLink RX6 217 yX6_highest, Cond.instanceMethod yX6_highest, Cond.selects RX6 yX6_highest yX6_highest, Cond.code yX6_highest cX6_highest 3 (some .int), Cond.methodLink RL 102 yX5_digest]
def wsL_law_r28 : List Cond := [Cond.instanceMethod yX5_digest, Cond.selects RX5 yX5_digest yX5_digest, Cond.code yX5_digest cX5_digest 4 (some .long), Cond.constantLong RX5 204 (1091), Cond.methodLink RX5 206 yX5_digestHouses, Cond.instanceMethod yX5_digestHouses, Cond.selects RX5 yX5_digestHouses yX5_digestHouses, Cond.code yX5_digestHouses cX5_digestHouses 7 (some .long), Cond.methodLink RX5 233 yX5_about, Cond.methodLink RX5 216 yX5_mix, Cond.static yX5_mix, Cond.code yX5_mix cX5_mix 4 (some .long), Cond.constantLong RX5 239 (31), Cond.methodLink RX5 210 yX5_digestStrokes, Cond.instanceMethod yX5_digestStrokes, Cond.selects RX5 yX5_digestStrokes yX5_digestStrokes, Cond.code yX5_digestStrokes cX5_digestStrokes 7 (some .long), Cond.methodLink RX5 236 yX5_stroke, Cond.methodLink RX5 213 yX5_tide, Cond.methodLink RX5 220 yX5_dinner, Cond.methodLink RX5 224 yX5_best, Cond.methodLink RX5 227 yX5_ask, Cond.methodLink RX5 230 yX5_count, Cond.methodLink RL 106 yX6_digest]
def wsL_law_r29 : List Cond := [Cond.instanceMethod yX6_digest, Cond.selects RX6 yX6_digest yX6_digest, Cond.code yX6_digest cX6_digest 3 (some .long), Cond.constantLong RX6 228 (1091), Cond.fieldLink RX6 225 "GongTideModel" "h" "J", Cond.methodLink RX6 230 yX6_mix, Cond.instanceMethod yX6_mix, Cond.selects RX6 yX6_mix yX6_mix, Cond.code yX6_mix cX6_mix 3 none, Cond.constantLong RX6 223 (31)]
def wsL_law : List Cond := (wsL_law_r1 ++ (wsL_law_r2 ++ (wsL_law_r3 ++ (wsL_law_r4 ++ (wsL_law_r5 ++ (wsL_law_r6 ++ (wsL_law_r7 ++ (wsL_law_r8 ++ (wsL_law_r9 ++ (wsL_law_r10 ++ (wsL_law_r11 ++ (wsL_law_r12 ++ (wsL_law_r13 ++ (wsL_law_r14 ++ (wsL_law_r15 ++ (wsL_law_r16 ++ (wsL_law_r17 ++ (wsL_law_r18 ++ (wsL_law_r19 ++ (wsL_law_r20 ++ (wsL_law_r21 ++ (wsL_law_r22 ++ (wsL_law_r23 ++ (wsL_law_r24 ++ (wsL_law_r25 ++ (wsL_law_r26 ++ (wsL_law_r27 ++ (wsL_law_r28 ++ wsL_law_r29)))))))))))))))))))))))))))) ++ wsX50 ++ wsX60 ++ wsX20 ++ wsX00 ++ wsX40 ++ wsX30 ++ wsX10 ++ ([] : List Cond)
set_option maxRecDepth 20000 in
theorem wi_wsL_law_r1 : ∀ w ∈ wsL_law_r1, w ∈ lw_tbl := fun w h => (goodIn_p wsL_law_r1 [57, 60] (by decide +kernel) (by decide +kernel) w h).1
set_option maxRecDepth 20000 in
theorem wi_wsL_law_r2 : ∀ w ∈ wsL_law_r2, w ∈ lw_tbl := fun w h => (goodIn_p wsL_law_r2 [65, 79, 85] (by decide +kernel) (by decide +kernel) w h).1
set_option maxRecDepth 20000 in
theorem wi_wsL_law_r3 : ∀ w ∈ wsL_law_r3, w ∈ lw_tbl := fun w h => (goodIn_p wsL_law_r3 [101, 139, 536] (by decide +kernel) (by decide +kernel) w h).1
set_option maxRecDepth 20000 in
theorem wi_wsL_law_r4 : ∀ w ∈ wsL_law_r4, w ∈ lw_tbl := fun w h => (goodIn_p wsL_law_r4 [176, 179, 183] (by decide +kernel) (by decide +kernel) w h).1
set_option maxRecDepth 20000 in
theorem wi_wsL_law_r5 : ∀ w ∈ wsL_law_r5, w ∈ lw_tbl := fun w h => (goodIn_p wsL_law_r5 [187, 645, 648, 191, 195, 652] (by decide +kernel) (by decide +kernel) w h).1
set_option maxRecDepth 20000 in
theorem wi_wsL_law_r6 : ∀ w ∈ wsL_law_r6, w ∈ lw_tbl := fun w h => (goodIn_p wsL_law_r6 [199, 203, 207, 211, 215, 218, 221] (by decide +kernel) (by decide +kernel) w h).1
set_option maxRecDepth 20000 in
theorem wi_wsL_law_r7 : ∀ w ∈ wsL_law_r7, w ∈ lw_tbl := fun w h => (goodIn_p wsL_law_r7 [656, 660, 663, 667, 671, 225] (by decide +kernel) (by decide +kernel) w h).1
set_option maxRecDepth 20000 in
theorem wi_wsL_law_r8 : ∀ w ∈ wsL_law_r8, w ∈ lw_tbl := fun w h => (goodIn_p wsL_law_r8 [229, 235, 239, 243] (by decide +kernel) (by decide +kernel) w h).1
set_option maxRecDepth 20000 in
theorem wi_wsL_law_r9 : ∀ w ∈ wsL_law_r9, w ∈ lw_tbl := fun w h => (goodIn_p wsL_law_r9 [249, 253, 258, 675] (by decide +kernel) (by decide +kernel) w h).1
set_option maxRecDepth 20000 in
theorem wi_wsL_law_r10 : ∀ w ∈ wsL_law_r10, w ∈ lw_tbl := fun w h => (goodIn_p wsL_law_r10 [262, 266, 270, 274, 278, 282] (by decide +kernel) (by decide +kernel) w h).1
set_option maxRecDepth 20000 in
theorem wi_wsL_law_r11 : ∀ w ∈ wsL_law_r11, w ∈ lw_tbl := fun w h => (goodIn_p wsL_law_r11 [286, 291, 295, 298, 302, 306] (by decide +kernel) (by decide +kernel) w h).1
set_option maxRecDepth 20000 in
theorem wi_wsL_law_r12 : ∀ w ∈ wsL_law_r12, w ∈ lw_tbl := fun w h => (goodIn_p wsL_law_r12 [310, 314, 322, 319, 325, 329] (by decide +kernel) (by decide +kernel) w h).1
set_option maxRecDepth 20000 in
theorem wi_wsL_law_r13 : ∀ w ∈ wsL_law_r13, w ∈ lw_tbl := fun w h => (goodIn_p wsL_law_r13 [333, 679, 683, 687, 691, 695] (by decide +kernel) (by decide +kernel) w h).1
set_option maxRecDepth 20000 in
theorem wi_wsL_law_r14 : ∀ w ∈ wsL_law_r14, w ∈ lw_tbl := fun w h => (goodIn_p wsL_law_r14 [699, 703, 706, 710, 714, 337] (by decide +kernel) (by decide +kernel) w h).1
set_option maxRecDepth 20000 in
theorem wi_wsL_law_r15 : ∀ w ∈ wsL_law_r15, w ∈ lw_tbl := fun w h => (goodIn_p wsL_law_r15 [718, 341, 722, 345, 348, 352] (by decide +kernel) (by decide +kernel) w h).1
set_option maxRecDepth 20000 in
theorem wi_wsL_law_r16 : ∀ w ∈ wsL_law_r16, w ∈ lw_tbl := fun w h => (goodIn_p wsL_law_r16 [726, 729, 356, 359, 733, 363] (by decide +kernel) (by decide +kernel) w h).1
set_option maxRecDepth 20000 in
theorem wi_wsL_law_r17 : ∀ w ∈ wsL_law_r17, w ∈ lw_tbl := fun w h => (goodIn_p wsL_law_r17 [368, 737, 741, 372, 376, 745] (by decide +kernel) (by decide +kernel) w h).1
set_option maxRecDepth 20000 in
theorem wi_wsL_law_r18 : ∀ w ∈ wsL_law_r18, w ∈ lw_tbl := fun w h => (goodIn_p wsL_law_r18 [749, 382, 386, 390, 753, 757] (by decide +kernel) (by decide +kernel) w h).1
set_option maxRecDepth 20000 in
theorem wi_wsL_law_r19 : ∀ w ∈ wsL_law_r19, w ∈ lw_tbl := fun w h => (goodIn_p wsL_law_r19 [761, 764, 394, 398, 402, 406] (by decide +kernel) (by decide +kernel) w h).1
set_option maxRecDepth 20000 in
theorem wi_wsL_law_r20 : ∀ w ∈ wsL_law_r20, w ∈ lw_tbl := fun w h => (goodIn_p wsL_law_r20 [768, 772, 776, 780, 410, 414] (by decide +kernel) (by decide +kernel) w h).1
set_option maxRecDepth 20000 in
theorem wi_wsL_law_r21 : ∀ w ∈ wsL_law_r21, w ∈ lw_tbl := fun w h => (goodIn_p wsL_law_r21 [418, 784, 422, 788, 427] (by decide +kernel) (by decide +kernel) w h).1
set_option maxRecDepth 20000 in
theorem wi_wsL_law_r22 : ∀ w ∈ wsL_law_r22, w ∈ lw_tbl := fun w h => (goodIn_p wsL_law_r22 [431, 435, 439, 444, 448, 452] (by decide +kernel) (by decide +kernel) w h).1
set_option maxRecDepth 20000 in
theorem wi_wsL_law_r23 : ∀ w ∈ wsL_law_r23, w ∈ lw_tbl := fun w h => (goodIn_p wsL_law_r23 [792, 796, 800, 456, 461, 465] (by decide +kernel) (by decide +kernel) w h).1
set_option maxRecDepth 20000 in
theorem wi_wsL_law_r24 : ∀ w ∈ wsL_law_r24, w ∈ lw_tbl := fun w h => (goodIn_p wsL_law_r24 [804, 808, 813, 470, 474] (by decide +kernel) (by decide +kernel) w h).1
set_option maxRecDepth 20000 in
theorem wi_wsL_law_r25 : ∀ w ∈ wsL_law_r25, w ∈ lw_tbl := fun w h => (goodIn_p wsL_law_r25 [817, 821, 825, 482] (by decide +kernel) (by decide +kernel) w h).1
set_option maxRecDepth 20000 in
theorem wi_wsL_law_r26 : ∀ w ∈ wsL_law_r26, w ∈ lw_tbl := fun w h => (goodIn_p wsL_law_r26 [486, 490, 494, 833, 498] (by decide +kernel) (by decide +kernel) w h).1
set_option maxRecDepth 20000 in
theorem wi_wsL_law_r27 : ∀ w ∈ wsL_law_r27, w ∈ lw_tbl := fun w h => (goodIn_p wsL_law_r27 [837, 502, 506, 841, 845, 849] (by decide +kernel) (by decide +kernel) w h).1
set_option maxRecDepth 20000 in
theorem wi_wsL_law_r28 : ∀ w ∈ wsL_law_r28, w ∈ lw_tbl := fun w h => (goodIn_p wsL_law_r28 [511, 516, 520, 525] (by decide +kernel) (by decide +kernel) w h).1
set_option maxRecDepth 20000 in
theorem wi_wsL_law_r29 : ∀ w ∈ wsL_law_r29, w ∈ lw_tbl := fun w h => (goodIn_p wsL_law_r29 [853, 858] (by decide +kernel) (by decide +kernel) w h).1
set_option maxRecDepth 20000 in
theorem wi_wsX50 : ∀ w ∈ wsX50, w ∈ lw_tbl := fun w h => (goodIn_p wsX50 [] (by decide +kernel) (by decide +kernel) w h).1
set_option maxRecDepth 20000 in
theorem wi_wsX60 : ∀ w ∈ wsX60, w ∈ lw_tbl := fun w h => (goodIn_p wsX60 [] (by decide +kernel) (by decide +kernel) w h).1
set_option maxRecDepth 20000 in
theorem wi_wsX20 : ∀ w ∈ wsX20, w ∈ lw_tbl := fun w h => (goodIn_p wsX20 [] (by decide +kernel) (by decide +kernel) w h).1
set_option maxRecDepth 20000 in
theorem wi_wsX00 : ∀ w ∈ wsX00, w ∈ lw_tbl := fun w h => (goodIn_p wsX00 [] (by decide +kernel) (by decide +kernel) w h).1
set_option maxRecDepth 20000 in
theorem wi_wsX40 : ∀ w ∈ wsX40, w ∈ lw_tbl := fun w h => (goodIn_p wsX40 [] (by decide +kernel) (by decide +kernel) w h).1
set_option maxRecDepth 20000 in
theorem wi_wsX30 : ∀ w ∈ wsX30, w ∈ lw_tbl := fun w h => (goodIn_p wsX30 [] (by decide +kernel) (by decide +kernel) w h).1
set_option maxRecDepth 20000 in
theorem wi_wsX10 : ∀ w ∈ wsX10, w ∈ lw_tbl := fun w h => (goodIn_p wsX10 [] (by decide +kernel) (by decide +kernel) w h).1
theorem wsL_law_in : ∀ w ∈ wsL_law, w ∈ lw_tbl := (fun w h => (List.mem_append.mp h).elim ((fun w h => (List.mem_append.mp h).elim ((fun w h => (List.mem_append.mp h).elim ((fun w h => (List.mem_append.mp h).elim ((fun w h => (List.mem_append.mp h).elim ((fun w h => (List.mem_append.mp h).elim ((fun w h => (List.mem_append.mp h).elim ((fun w h => (List.mem_append.mp h).elim ((fun w h => (List.mem_append.mp h).elim (wi_wsL_law_r1 w) ((fun w h => (List.mem_append.mp h).elim (wi_wsL_law_r2 w) ((fun w h => (List.mem_append.mp h).elim (wi_wsL_law_r3 w) ((fun w h => (List.mem_append.mp h).elim (wi_wsL_law_r4 w) ((fun w h => (List.mem_append.mp h).elim (wi_wsL_law_r5 w) ((fun w h => (List.mem_append.mp h).elim (wi_wsL_law_r6 w) ((fun w h => (List.mem_append.mp h).elim (wi_wsL_law_r7 w) ((fun w h => (List.mem_append.mp h).elim (wi_wsL_law_r8 w) ((fun w h => (List.mem_append.mp h).elim (wi_wsL_law_r9 w) ((fun w h => (List.mem_append.mp h).elim (wi_wsL_law_r10 w) ((fun w h => (List.mem_append.mp h).elim (wi_wsL_law_r11 w) ((fun w h => (List.mem_append.mp h).elim (wi_wsL_law_r12 w) ((fun w h => (List.mem_append.mp h).elim (wi_wsL_law_r13 w) ((fun w h => (List.mem_append.mp h).elim (wi_wsL_law_r14 w) ((fun w h => (List.mem_append.mp h).elim (wi_wsL_law_r15 w) ((fun w h => (List.mem_append.mp h).elim (wi_wsL_law_r16 w) ((fun w h => (List.mem_append.mp h).elim (wi_wsL_law_r17 w) ((fun w h => (List.mem_append.mp h).elim (wi_wsL_law_r18 w) ((fun w h => (List.mem_append.mp h).elim (wi_wsL_law_r19 w) ((fun w h => (List.mem_append.mp h).elim (wi_wsL_law_r20 w) ((fun w h => (List.mem_append.mp h).elim (wi_wsL_law_r21 w) ((fun w h => (List.mem_append.mp h).elim (wi_wsL_law_r22 w) ((fun w h => (List.mem_append.mp h).elim (wi_wsL_law_r23 w) ((fun w h => (List.mem_append.mp h).elim (wi_wsL_law_r24 w) ((fun w h => (List.mem_append.mp h).elim (wi_wsL_law_r25 w) ((fun w h => (List.mem_append.mp h).elim (wi_wsL_law_r26 w) ((fun w h => (List.mem_append.mp h).elim (wi_wsL_law_r27 w) ((fun w h => (List.mem_append.mp h).elim (wi_wsL_law_r28 w) (wi_wsL_law_r29 w)) w)) w)) w)) w)) w)) w)) w)) w)) w)) w)) w)) w)) w)) w)) w)) w)) w)) w)) w)) w)) w)) w)) w)) w)) w)) w)) w)) w) (wi_wsX50 w)) w) (wi_wsX60 w)) w) (wi_wsX20 w)) w) (wi_wsX00 w)) w) (wi_wsX40 w)) w) (wi_wsX30 w)) w) (wi_wsX10 w)) w) ((fun _ h => absurd h List.not_mem_nil) w))
theorem inlX0 : ∀ w ∈ wsX00, w ∈ wsL_law := fun _ h => List.mem_append_left _ (List.mem_append_left _ (List.mem_append_left _ (List.mem_append_left _ (List.mem_append_right _ h))))
theorem inX0 : ∀ w ∈ wsX00, w ∈ lw_tbl := fun w h => wsL_law_in w (inlX0 w h)
theorem inlX1 : ∀ w ∈ wsX10, w ∈ wsL_law := fun _ h => List.mem_append_left _ (List.mem_append_right _ h)
theorem inX1 : ∀ w ∈ wsX10, w ∈ lw_tbl := fun w h => wsL_law_in w (inlX1 w h)
theorem inlX2 : ∀ w ∈ wsX20, w ∈ wsL_law := fun _ h => List.mem_append_left _ (List.mem_append_left _ (List.mem_append_left _ (List.mem_append_left _ (List.mem_append_left _ (List.mem_append_right _ h)))))
theorem inX2 : ∀ w ∈ wsX20, w ∈ lw_tbl := fun w h => wsL_law_in w (inlX2 w h)
theorem inlX3 : ∀ w ∈ wsX30, w ∈ wsL_law := fun _ h => List.mem_append_left _ (List.mem_append_left _ (List.mem_append_right _ h))
theorem inX3 : ∀ w ∈ wsX30, w ∈ lw_tbl := fun w h => wsL_law_in w (inlX3 w h)
theorem inlX4 : ∀ w ∈ wsX40, w ∈ wsL_law := fun _ h => List.mem_append_left _ (List.mem_append_left _ (List.mem_append_left _ (List.mem_append_right _ h)))
theorem inX4 : ∀ w ∈ wsX40, w ∈ lw_tbl := fun w h => wsL_law_in w (inlX4 w h)
theorem inlX5 : ∀ w ∈ wsX50, w ∈ wsL_law := fun _ h => List.mem_append_left _ (List.mem_append_left _ (List.mem_append_left _ (List.mem_append_left _ (List.mem_append_left _ (List.mem_append_left _ (List.mem_append_left _ (List.mem_append_right _ h)))))))
theorem inX5 : ∀ w ∈ wsX50, w ∈ lw_tbl := fun w h => wsL_law_in w (inlX5 w h)
theorem inlX6 : ∀ w ∈ wsX60, w ∈ wsL_law := fun _ h => List.mem_append_left _ (List.mem_append_left _ (List.mem_append_left _ (List.mem_append_left _ (List.mem_append_left _ (List.mem_append_left _ (List.mem_append_right _ h))))))
theorem inX6 : ∀ w ∈ wsX60, w ∈ lw_tbl := fun w h => wsL_law_in w (inlX6 w h)
theorem inJ9 : ∀ w ∈ wsJ90, w ∈ lw_tbl := by decide +kernel
set_option maxRecDepth 20000 in
theorem ggX0_init_X3_init : GoodIn wsX0_init wsX3_init := goodIn_r _ [15, 16, 2, 3, 4, 17, 18, 30, 31, 32] (by decide +kernel) (by decide +kernel)
set_option maxRecDepth 20000 in
theorem gX0_init_X3_init_n17 : GoodIn wsX0_init (wsX3_init) := ggX0_init_X3_init
set_option maxRecDepth 20000 in
theorem ggX0_init_X1_init : GoodIn wsX0_init wsX1_init := goodIn_r _ [20, 21, 2, 3, 4, 22, 23, 24, 25, 33, 34, 35, 36, 37] (by decide +kernel) (by decide +kernel)
set_option maxRecDepth 20000 in
theorem gX0_init_X1_init_n24 : GoodIn wsX0_init (wsX1_init) := ggX0_init_X1_init
theorem dX0_init_0 : decode cX0_init 0 = .ok (.aload_n 0, 1) := by decide +kernel
theorem dX0_init_1 : decode cX0_init 1 = .ok (.invokespecial 3, 3) := by decide +kernel
theorem dX0_init_4 : decode cX0_init 4 = .ok (.aload_n 0, 1) := by decide +kernel
theorem dX0_init_5 : decode cX0_init 5 = .ok (.iconst 5, 1) := by decide +kernel
theorem dX0_init_6 : decode cX0_init 6 = .ok (.newarray .int, 2) := by decide +kernel
theorem dX0_init_8 : decode cX0_init 8 = .ok (.putfield 9, 3) := by decide +kernel
theorem dX0_init_11 : decode cX0_init 11 = .ok (.aload_n 0, 1) := by decide +kernel
theorem dX0_init_12 : decode cX0_init 12 = .ok (.new 15, 3) := by decide +kernel
theorem dX0_init_15 : decode cX0_init 15 = .ok (.dup, 1) := by decide +kernel
theorem dX0_init_16 : decode cX0_init 16 = .ok (.invokespecial 17, 3) := by decide +kernel
theorem dX0_init_19 : decode cX0_init 19 = .ok (.putfield 18, 3) := by decide +kernel
theorem dX0_init_22 : decode cX0_init 22 = .ok (.aload_n 0, 1) := by decide +kernel
theorem dX0_init_23 : decode cX0_init 23 = .ok (.new 22, 3) := by decide +kernel
theorem dX0_init_26 : decode cX0_init 26 = .ok (.dup, 1) := by decide +kernel
theorem dX0_init_27 : decode cX0_init 27 = .ok (.invokespecial 24, 3) := by decide +kernel
theorem dX0_init_30 : decode cX0_init 30 = .ok (.putfield 25, 3) := by decide +kernel
theorem dX0_init_33 : decode cX0_init 33 = .ok (.return_, 1) := by decide +kernel
set_option maxRecDepth 20000 in
theorem ggX0_clear_X3_clear : GoodIn wsX0_clear wsX3_clear := goodIn_r _ [8, 9, 20, 21, 22] (by decide +kernel) (by decide +kernel)
set_option maxRecDepth 20000 in
theorem gX0_clear_X3_clear : GoodIn wsX0_clear (wsV RX0 29 RX3 yX3_clear wsX3_clear) := goodIn_app (goodIn_of _ (by decide +kernel)) ggX0_clear_X3_clear
set_option maxRecDepth 20000 in
theorem ggX0_clear_X1_clear : GoodIn wsX0_clear wsX1_clear := goodIn_r _ [14, 15, 23, 24, 25, 26, 27] (by decide +kernel) (by decide +kernel)
set_option maxRecDepth 20000 in
theorem gX0_clear_X1_clear : GoodIn wsX0_clear (wsV RX0 32 RX1 yX1_clear wsX1_clear) := goodIn_app (goodIn_of _ (by decide +kernel)) ggX0_clear_X1_clear
theorem dX0_clear_0 : decode cX0_clear 0 = .ok (.aload_n 0, 1) := by decide +kernel
theorem dX0_clear_1 : decode cX0_clear 1 = .ok (.getfield 18, 3) := by decide +kernel
theorem dX0_clear_4 : decode cX0_clear 4 = .ok (.invokevirtual 29, 3) := by decide +kernel
theorem dX0_clear_7 : decode cX0_clear 7 = .ok (.aload_n 0, 1) := by decide +kernel
theorem dX0_clear_8 : decode cX0_clear 8 = .ok (.getfield 25, 3) := by decide +kernel
theorem dX0_clear_11 : decode cX0_clear 11 = .ok (.invokevirtual 32, 3) := by decide +kernel
theorem dX0_clear_14 : decode cX0_clear 14 = .ok (.pop, 1) := by decide +kernel
theorem dX0_clear_15 : decode cX0_clear 15 = .ok (.aload_n 0, 1) := by decide +kernel
theorem dX0_clear_16 : decode cX0_clear 16 = .ok (.iconst 0, 1) := by decide +kernel
theorem dX0_clear_17 : decode cX0_clear 17 = .ok (.putfield 35, 3) := by decide +kernel
theorem dX0_clear_20 : decode cX0_clear 20 = .ok (.return_, 1) := by decide +kernel
set_option maxRecDepth 20000 in
theorem ggX0_level_X5_isWithin : GoodIn wsX0_level wsX5_isWithin := goodIn_r _ [4] (by decide +kernel) (by decide +kernel)
set_option maxRecDepth 20000 in
theorem gX0_level_X5_isWithin_n39 : GoodIn wsX0_level (wsX5_isWithin) := ggX0_level_X5_isWithin
theorem dX0_level_0 : decode cX0_level 0 = .ok (.iload_n 1, 1) := by decide +kernel
theorem dX0_level_1 : decode cX0_level 1 = .ok (.iconst 0, 1) := by decide +kernel
theorem dX0_level_2 : decode cX0_level 2 = .ok (.iconst 4, 1) := by decide +kernel
theorem dX0_level_3 : decode cX0_level 3 = .ok (.invokestatic 39, 3) := by decide +kernel
theorem dX0_level_6 : decode cX0_level 6 = .ok (.ifCond .eq 12, 3) := by decide +kernel
theorem dX0_level_9 : decode cX0_level 9 = .ok (.aload_n 0, 1) := by decide +kernel
theorem dX0_level_10 : decode cX0_level 10 = .ok (.getfield 9, 3) := by decide +kernel
theorem dX0_level_13 : decode cX0_level 13 = .ok (.iload_n 1, 1) := by decide +kernel
theorem dX0_level_14 : decode cX0_level 14 = .ok (.iaload, 1) := by decide +kernel
theorem dX0_level_15 : decode cX0_level 15 = .ok (.goto 4, 3) := by decide +kernel
theorem dX0_level_18 : decode cX0_level 18 = .ok (.iconst 0, 1) := by decide +kernel
theorem dX0_level_19 : decode cX0_level 19 = .ok (.ireturn, 1) := by decide +kernel
set_option maxRecDepth 20000 in
theorem ggX0_setLevel_X5_isWithin : GoodIn wsX0_setLevel wsX5_isWithin := goodIn_r _ [4] (by decide +kernel) (by decide +kernel)
set_option maxRecDepth 20000 in
theorem gX0_setLevel_X5_isWithin_n39 : GoodIn wsX0_setLevel (wsX5_isWithin) := ggX0_setLevel_X5_isWithin
theorem dX0_setLevel_0 : decode cX0_setLevel 0 = .ok (.iload_n 1, 1) := by decide +kernel
theorem dX0_setLevel_1 : decode cX0_setLevel 1 = .ok (.iconst 0, 1) := by decide +kernel
theorem dX0_setLevel_2 : decode cX0_setLevel 2 = .ok (.iconst 4, 1) := by decide +kernel
theorem dX0_setLevel_3 : decode cX0_setLevel 3 = .ok (.invokestatic 39, 3) := by decide +kernel
theorem dX0_setLevel_6 : decode cX0_setLevel 6 = .ok (.ifCond .eq 10, 3) := by decide +kernel
theorem dX0_setLevel_9 : decode cX0_setLevel 9 = .ok (.aload_n 0, 1) := by decide +kernel
theorem dX0_setLevel_10 : decode cX0_setLevel 10 = .ok (.getfield 9, 3) := by decide +kernel
theorem dX0_setLevel_13 : decode cX0_setLevel 13 = .ok (.iload_n 1, 1) := by decide +kernel
theorem dX0_setLevel_14 : decode cX0_setLevel 14 = .ok (.iload_n 2, 1) := by decide +kernel
theorem dX0_setLevel_15 : decode cX0_setLevel 15 = .ok (.iastore, 1) := by decide +kernel
theorem dX0_setLevel_16 : decode cX0_setLevel 16 = .ok (.return_, 1) := by decide +kernel
set_option maxRecDepth 20000 in
theorem ggX0_copyFrom_X3_copyFrom : GoodIn wsX0_copyFrom wsX3_copyFrom := goodIn_r _ [9, 10, 11, 12, 27, 28, 29] (by decide +kernel) (by decide +kernel)
set_option maxRecDepth 20000 in
theorem gX0_copyFrom_X3_copyFrom : GoodIn wsX0_copyFrom (wsV RX0 43 RX3 yX3_copyFrom wsX3_copyFrom) := goodIn_app (goodIn_of _ (by decide +kernel)) ggX0_copyFrom_X3_copyFrom
set_option maxRecDepth 20000 in
theorem ggX0_copyFrom_X1_copyFrom : GoodIn wsX0_copyFrom wsX1_copyFrom := goodIn_r _ [17, 18, 19, 20, 21, 22, 30, 31, 32, 33, 34] (by decide +kernel) (by decide +kernel)
set_option maxRecDepth 20000 in
theorem gX0_copyFrom_X1_copyFrom : GoodIn wsX0_copyFrom (wsV RX0 47 RX1 yX1_copyFrom wsX1_copyFrom) := goodIn_app (goodIn_of _ (by decide +kernel)) ggX0_copyFrom_X1_copyFrom
theorem dX0_copyFrom_0 : decode cX0_copyFrom 0 = .ok (.iconst 0, 1) := by decide +kernel
theorem dX0_copyFrom_1 : decode cX0_copyFrom 1 = .ok (.istore_n 2, 1) := by decide +kernel
theorem dX0_copyFrom_2 : decode cX0_copyFrom 2 = .ok (.iload_n 2, 1) := by decide +kernel
theorem dX0_copyFrom_3 : decode cX0_copyFrom 3 = .ok (.iconst 5, 1) := by decide +kernel
theorem dX0_copyFrom_4 : decode cX0_copyFrom 4 = .ok (.if_icmp .ge 21, 3) := by decide +kernel
theorem dX0_copyFrom_7 : decode cX0_copyFrom 7 = .ok (.aload_n 0, 1) := by decide +kernel
theorem dX0_copyFrom_8 : decode cX0_copyFrom 8 = .ok (.getfield 9, 3) := by decide +kernel
theorem dX0_copyFrom_11 : decode cX0_copyFrom 11 = .ok (.iload_n 2, 1) := by decide +kernel
theorem dX0_copyFrom_12 : decode cX0_copyFrom 12 = .ok (.aload_n 1, 1) := by decide +kernel
theorem dX0_copyFrom_13 : decode cX0_copyFrom 13 = .ok (.getfield 9, 3) := by decide +kernel
theorem dX0_copyFrom_16 : decode cX0_copyFrom 16 = .ok (.iload_n 2, 1) := by decide +kernel
theorem dX0_copyFrom_17 : decode cX0_copyFrom 17 = .ok (.iaload, 1) := by decide +kernel
theorem dX0_copyFrom_18 : decode cX0_copyFrom 18 = .ok (.iastore, 1) := by decide +kernel
theorem dX0_copyFrom_19 : decode cX0_copyFrom 19 = .ok (.iinc 2 1, 3) := by decide +kernel
theorem dX0_copyFrom_22 : decode cX0_copyFrom 22 = .ok (.goto (-20), 3) := by decide +kernel
theorem dX0_copyFrom_25 : decode cX0_copyFrom 25 = .ok (.aload_n 0, 1) := by decide +kernel
theorem dX0_copyFrom_26 : decode cX0_copyFrom 26 = .ok (.getfield 18, 3) := by decide +kernel
theorem dX0_copyFrom_29 : decode cX0_copyFrom 29 = .ok (.aload_n 1, 1) := by decide +kernel
theorem dX0_copyFrom_30 : decode cX0_copyFrom 30 = .ok (.getfield 18, 3) := by decide +kernel
theorem dX0_copyFrom_33 : decode cX0_copyFrom 33 = .ok (.invokevirtual 43, 3) := by decide +kernel
theorem dX0_copyFrom_36 : decode cX0_copyFrom 36 = .ok (.aload_n 0, 1) := by decide +kernel
theorem dX0_copyFrom_37 : decode cX0_copyFrom 37 = .ok (.getfield 25, 3) := by decide +kernel
theorem dX0_copyFrom_40 : decode cX0_copyFrom 40 = .ok (.aload_n 1, 1) := by decide +kernel
theorem dX0_copyFrom_41 : decode cX0_copyFrom 41 = .ok (.getfield 25, 3) := by decide +kernel
theorem dX0_copyFrom_44 : decode cX0_copyFrom 44 = .ok (.invokevirtual 47, 3) := by decide +kernel
theorem dX0_copyFrom_47 : decode cX0_copyFrom 47 = .ok (.aload_n 0, 1) := by decide +kernel
theorem dX0_copyFrom_48 : decode cX0_copyFrom 48 = .ok (.aload_n 1, 1) := by decide +kernel
theorem dX0_copyFrom_49 : decode cX0_copyFrom 49 = .ok (.getfield 35, 3) := by decide +kernel
theorem dX0_copyFrom_52 : decode cX0_copyFrom 52 = .ok (.putfield 35, 3) := by decide +kernel
theorem dX0_copyFrom_55 : decode cX0_copyFrom 55 = .ok (.return_, 1) := by decide +kernel
theorem dX1_init_0 : decode cX1_init 0 = .ok (.aload_n 0, 1) := by decide +kernel
theorem dX1_init_1 : decode cX1_init 1 = .ok (.invokespecial 3, 3) := by decide +kernel
theorem dX1_init_4 : decode cX1_init 4 = .ok (.aload_n 0, 1) := by decide +kernel
theorem dX1_init_5 : decode cX1_init 5 = .ok (.bipush 6, 2) := by decide +kernel
theorem dX1_init_7 : decode cX1_init 7 = .ok (.newarray .int, 2) := by decide +kernel
theorem dX1_init_9 : decode cX1_init 9 = .ok (.putfield 9, 3) := by decide +kernel
theorem dX1_init_12 : decode cX1_init 12 = .ok (.aload_n 0, 1) := by decide +kernel
theorem dX1_init_13 : decode cX1_init 13 = .ok (.bipush 6, 2) := by decide +kernel
theorem dX1_init_15 : decode cX1_init 15 = .ok (.newarray .int, 2) := by decide +kernel
theorem dX1_init_17 : decode cX1_init 17 = .ok (.putfield 15, 3) := by decide +kernel
theorem dX1_init_20 : decode cX1_init 20 = .ok (.aload_n 0, 1) := by decide +kernel
theorem dX1_init_21 : decode cX1_init 21 = .ok (.bipush 6, 2) := by decide +kernel
theorem dX1_init_23 : decode cX1_init 23 = .ok (.newarray .int, 2) := by decide +kernel
theorem dX1_init_25 : decode cX1_init 25 = .ok (.putfield 18, 3) := by decide +kernel
theorem dX1_init_28 : decode cX1_init 28 = .ok (.aload_n 0, 1) := by decide +kernel
theorem dX1_init_29 : decode cX1_init 29 = .ok (.bipush 6, 2) := by decide +kernel
theorem dX1_init_31 : decode cX1_init 31 = .ok (.newarray .int, 2) := by decide +kernel
theorem dX1_init_33 : decode cX1_init 33 = .ok (.putfield 21, 3) := by decide +kernel
theorem dX1_init_36 : decode cX1_init 36 = .ok (.return_, 1) := by decide +kernel
theorem dX1_size_0 : decode cX1_size 0 = .ok (.aload_n 0, 1) := by decide +kernel
theorem dX1_size_1 : decode cX1_size 1 = .ok (.getfield 24, 3) := by decide +kernel
theorem dX1_size_4 : decode cX1_size 4 = .ok (.ireturn, 1) := by decide +kernel
theorem dX1_clear_0 : decode cX1_clear 0 = .ok (.aload_n 0, 1) := by decide +kernel
theorem dX1_clear_1 : decode cX1_clear 1 = .ok (.getfield 24, 3) := by decide +kernel
theorem dX1_clear_4 : decode cX1_clear 4 = .ok (.istore_n 1, 1) := by decide +kernel
theorem dX1_clear_5 : decode cX1_clear 5 = .ok (.aload_n 0, 1) := by decide +kernel
theorem dX1_clear_6 : decode cX1_clear 6 = .ok (.iconst 0, 1) := by decide +kernel
theorem dX1_clear_7 : decode cX1_clear 7 = .ok (.putfield 24, 3) := by decide +kernel
theorem dX1_clear_10 : decode cX1_clear 10 = .ok (.iload_n 1, 1) := by decide +kernel
theorem dX1_clear_11 : decode cX1_clear 11 = .ok (.ireturn, 1) := by decide +kernel
theorem dX1_add_0 : decode cX1_add 0 = .ok (.aload_n 0, 1) := by decide +kernel
theorem dX1_add_1 : decode cX1_add 1 = .ok (.getfield 24, 3) := by decide +kernel
theorem dX1_add_4 : decode cX1_add 4 = .ok (.bipush 6, 2) := by decide +kernel
theorem dX1_add_6 : decode cX1_add 6 = .ok (.if_icmp .lt 5, 3) := by decide +kernel
theorem dX1_add_9 : decode cX1_add 9 = .ok (.iconst 0, 1) := by decide +kernel
theorem dX1_add_10 : decode cX1_add 10 = .ok (.ireturn, 1) := by decide +kernel
theorem dX1_add_11 : decode cX1_add 11 = .ok (.aload_n 0, 1) := by decide +kernel
theorem dX1_add_12 : decode cX1_add 12 = .ok (.getfield 9, 3) := by decide +kernel
theorem dX1_add_15 : decode cX1_add 15 = .ok (.aload_n 0, 1) := by decide +kernel
theorem dX1_add_16 : decode cX1_add 16 = .ok (.getfield 24, 3) := by decide +kernel
theorem dX1_add_19 : decode cX1_add 19 = .ok (.iload_n 1, 1) := by decide +kernel
theorem dX1_add_20 : decode cX1_add 20 = .ok (.iastore, 1) := by decide +kernel
theorem dX1_add_21 : decode cX1_add 21 = .ok (.aload_n 0, 1) := by decide +kernel
theorem dX1_add_22 : decode cX1_add 22 = .ok (.getfield 15, 3) := by decide +kernel
theorem dX1_add_25 : decode cX1_add 25 = .ok (.aload_n 0, 1) := by decide +kernel
theorem dX1_add_26 : decode cX1_add 26 = .ok (.getfield 24, 3) := by decide +kernel
theorem dX1_add_29 : decode cX1_add 29 = .ok (.iload_n 2, 1) := by decide +kernel
theorem dX1_add_30 : decode cX1_add 30 = .ok (.iastore, 1) := by decide +kernel
theorem dX1_add_31 : decode cX1_add 31 = .ok (.aload_n 0, 1) := by decide +kernel
theorem dX1_add_32 : decode cX1_add 32 = .ok (.getfield 18, 3) := by decide +kernel
theorem dX1_add_35 : decode cX1_add 35 = .ok (.aload_n 0, 1) := by decide +kernel
theorem dX1_add_36 : decode cX1_add 36 = .ok (.getfield 24, 3) := by decide +kernel
theorem dX1_add_39 : decode cX1_add 39 = .ok (.iload_n 3, 1) := by decide +kernel
theorem dX1_add_40 : decode cX1_add 40 = .ok (.iastore, 1) := by decide +kernel
theorem dX1_add_41 : decode cX1_add 41 = .ok (.aload_n 0, 1) := by decide +kernel
theorem dX1_add_42 : decode cX1_add 42 = .ok (.getfield 21, 3) := by decide +kernel
theorem dX1_add_45 : decode cX1_add 45 = .ok (.aload_n 0, 1) := by decide +kernel
theorem dX1_add_46 : decode cX1_add 46 = .ok (.getfield 24, 3) := by decide +kernel
theorem dX1_add_49 : decode cX1_add 49 = .ok (.iload 4, 2) := by decide +kernel
theorem dX1_add_51 : decode cX1_add 51 = .ok (.iastore, 1) := by decide +kernel
theorem dX1_add_52 : decode cX1_add 52 = .ok (.aload_n 0, 1) := by decide +kernel
theorem dX1_add_53 : decode cX1_add 53 = .ok (.dup, 1) := by decide +kernel
theorem dX1_add_54 : decode cX1_add 54 = .ok (.getfield 24, 3) := by decide +kernel
theorem dX1_add_57 : decode cX1_add 57 = .ok (.iconst 1, 1) := by decide +kernel
theorem dX1_add_58 : decode cX1_add 58 = .ok (.iadd, 1) := by decide +kernel
theorem dX1_add_59 : decode cX1_add 59 = .ok (.putfield 24, 3) := by decide +kernel
theorem dX1_add_62 : decode cX1_add 62 = .ok (.iconst 1, 1) := by decide +kernel
theorem dX1_add_63 : decode cX1_add 63 = .ok (.ireturn, 1) := by decide +kernel
set_option maxRecDepth 20000 in
theorem ggX1_has_X5_isWithin : GoodIn wsX1_has wsX5_isWithin := goodIn_r _ [4] (by decide +kernel) (by decide +kernel)
set_option maxRecDepth 20000 in
theorem gX1_has_X5_isWithin_n28 : GoodIn wsX1_has (wsX5_isWithin) := ggX1_has_X5_isWithin
theorem dX1_has_0 : decode cX1_has 0 = .ok (.iload_n 1, 1) := by decide +kernel
theorem dX1_has_1 : decode cX1_has 1 = .ok (.iconst 0, 1) := by decide +kernel
theorem dX1_has_2 : decode cX1_has 2 = .ok (.aload_n 0, 1) := by decide +kernel
theorem dX1_has_3 : decode cX1_has 3 = .ok (.getfield 24, 3) := by decide +kernel
theorem dX1_has_6 : decode cX1_has 6 = .ok (.iconst 1, 1) := by decide +kernel
theorem dX1_has_7 : decode cX1_has 7 = .ok (.isub, 1) := by decide +kernel
theorem dX1_has_8 : decode cX1_has 8 = .ok (.invokestatic 28, 3) := by decide +kernel
theorem dX1_has_11 : decode cX1_has 11 = .ok (.ireturn, 1) := by decide +kernel
set_option maxRecDepth 20000 in
theorem ggX1_house_X1_has : GoodIn wsX1_house wsX1_has := goodIn_r _ [6, 7, 8, 9, 10, 11, 12, 13, 14, 15] (by decide +kernel) (by decide +kernel)
set_option maxRecDepth 20000 in
theorem gX1_house_X1_has : GoodIn wsX1_house (wsV RX1 32 RX1 yX1_has wsX1_has) := goodIn_app (goodIn_of _ (by decide +kernel)) ggX1_house_X1_has
theorem dX1_house_0 : decode cX1_house 0 = .ok (.aload_n 0, 1) := by decide +kernel
theorem dX1_house_1 : decode cX1_house 1 = .ok (.iload_n 1, 1) := by decide +kernel
theorem dX1_house_2 : decode cX1_house 2 = .ok (.invokevirtual 32, 3) := by decide +kernel
theorem dX1_house_5 : decode cX1_house 5 = .ok (.ifCond .eq 12, 3) := by decide +kernel
theorem dX1_house_8 : decode cX1_house 8 = .ok (.aload_n 0, 1) := by decide +kernel
theorem dX1_house_9 : decode cX1_house 9 = .ok (.getfield 9, 3) := by decide +kernel
theorem dX1_house_12 : decode cX1_house 12 = .ok (.iload_n 1, 1) := by decide +kernel
theorem dX1_house_13 : decode cX1_house 13 = .ok (.iaload, 1) := by decide +kernel
theorem dX1_house_14 : decode cX1_house 14 = .ok (.goto 4, 3) := by decide +kernel
theorem dX1_house_17 : decode cX1_house 17 = .ok (.iconst 0, 1) := by decide +kernel
theorem dX1_house_18 : decode cX1_house 18 = .ok (.ireturn, 1) := by decide +kernel
set_option maxRecDepth 20000 in
theorem ggX1_hour_X1_has : GoodIn wsX1_hour wsX1_has := goodIn_r _ [6, 7, 8, 9, 10, 11, 12, 13, 14, 15] (by decide +kernel) (by decide +kernel)
set_option maxRecDepth 20000 in
theorem gX1_hour_X1_has : GoodIn wsX1_hour (wsV RX1 32 RX1 yX1_has wsX1_has) := goodIn_app (goodIn_of _ (by decide +kernel)) ggX1_hour_X1_has
theorem dX1_hour_0 : decode cX1_hour 0 = .ok (.aload_n 0, 1) := by decide +kernel
theorem dX1_hour_1 : decode cX1_hour 1 = .ok (.iload_n 1, 1) := by decide +kernel
theorem dX1_hour_2 : decode cX1_hour 2 = .ok (.invokevirtual 32, 3) := by decide +kernel
theorem dX1_hour_5 : decode cX1_hour 5 = .ok (.ifCond .eq 12, 3) := by decide +kernel
theorem dX1_hour_8 : decode cX1_hour 8 = .ok (.aload_n 0, 1) := by decide +kernel
theorem dX1_hour_9 : decode cX1_hour 9 = .ok (.getfield 15, 3) := by decide +kernel
theorem dX1_hour_12 : decode cX1_hour 12 = .ok (.iload_n 1, 1) := by decide +kernel
theorem dX1_hour_13 : decode cX1_hour 13 = .ok (.iaload, 1) := by decide +kernel
theorem dX1_hour_14 : decode cX1_hour 14 = .ok (.goto 4, 3) := by decide +kernel
theorem dX1_hour_17 : decode cX1_hour 17 = .ok (.iconst 0, 1) := by decide +kernel
theorem dX1_hour_18 : decode cX1_hour 18 = .ok (.ireturn, 1) := by decide +kernel
set_option maxRecDepth 20000 in
theorem ggX1_loud_X1_has : GoodIn wsX1_loud wsX1_has := goodIn_r _ [6, 7, 8, 9, 10, 11, 12, 13, 14, 15] (by decide +kernel) (by decide +kernel)
set_option maxRecDepth 20000 in
theorem gX1_loud_X1_has : GoodIn wsX1_loud (wsV RX1 32 RX1 yX1_has wsX1_has) := goodIn_app (goodIn_of _ (by decide +kernel)) ggX1_loud_X1_has
theorem dX1_loud_0 : decode cX1_loud 0 = .ok (.aload_n 0, 1) := by decide +kernel
theorem dX1_loud_1 : decode cX1_loud 1 = .ok (.iload_n 1, 1) := by decide +kernel
theorem dX1_loud_2 : decode cX1_loud 2 = .ok (.invokevirtual 32, 3) := by decide +kernel
theorem dX1_loud_5 : decode cX1_loud 5 = .ok (.ifCond .eq 12, 3) := by decide +kernel
theorem dX1_loud_8 : decode cX1_loud 8 = .ok (.aload_n 0, 1) := by decide +kernel
theorem dX1_loud_9 : decode cX1_loud 9 = .ok (.getfield 18, 3) := by decide +kernel
theorem dX1_loud_12 : decode cX1_loud 12 = .ok (.iload_n 1, 1) := by decide +kernel
theorem dX1_loud_13 : decode cX1_loud 13 = .ok (.iaload, 1) := by decide +kernel
theorem dX1_loud_14 : decode cX1_loud 14 = .ok (.goto 4, 3) := by decide +kernel
theorem dX1_loud_17 : decode cX1_loud 17 = .ok (.iconst 0, 1) := by decide +kernel
theorem dX1_loud_18 : decode cX1_loud 18 = .ok (.ireturn, 1) := by decide +kernel
set_option maxRecDepth 20000 in
theorem ggX1_how_X1_has : GoodIn wsX1_how wsX1_has := goodIn_r _ [6, 7, 8, 9, 10, 11, 12, 13, 14, 15] (by decide +kernel) (by decide +kernel)
set_option maxRecDepth 20000 in
theorem gX1_how_X1_has : GoodIn wsX1_how (wsV RX1 32 RX1 yX1_has wsX1_has) := goodIn_app (goodIn_of _ (by decide +kernel)) ggX1_how_X1_has
theorem dX1_how_0 : decode cX1_how 0 = .ok (.aload_n 0, 1) := by decide +kernel
theorem dX1_how_1 : decode cX1_how 1 = .ok (.iload_n 1, 1) := by decide +kernel
theorem dX1_how_2 : decode cX1_how 2 = .ok (.invokevirtual 32, 3) := by decide +kernel
theorem dX1_how_5 : decode cX1_how 5 = .ok (.ifCond .eq 12, 3) := by decide +kernel
theorem dX1_how_8 : decode cX1_how 8 = .ok (.aload_n 0, 1) := by decide +kernel
theorem dX1_how_9 : decode cX1_how 9 = .ok (.getfield 21, 3) := by decide +kernel
theorem dX1_how_12 : decode cX1_how 12 = .ok (.iload_n 1, 1) := by decide +kernel
theorem dX1_how_13 : decode cX1_how 13 = .ok (.iaload, 1) := by decide +kernel
theorem dX1_how_14 : decode cX1_how 14 = .ok (.goto 4, 3) := by decide +kernel
theorem dX1_how_17 : decode cX1_how 17 = .ok (.iconst 0, 1) := by decide +kernel
theorem dX1_how_18 : decode cX1_how 18 = .ok (.ireturn, 1) := by decide +kernel
set_option maxRecDepth 20000 in
theorem ggX1_lastLoud_X1_loud : GoodIn wsX1_lastLoud wsX1_loud := goodIn_r _ [6, 7, 8, 9, 10, 5, 11, 1, 12, 13, 14, 15, 16, 17, 18, 19] (by decide +kernel) (by decide +kernel)
set_option maxRecDepth 20000 in
theorem gX1_lastLoud_X1_loud : GoodIn wsX1_lastLoud (wsV RX1 36 RX1 yX1_loud wsX1_loud) := goodIn_app (goodIn_of _ (by decide +kernel)) ggX1_lastLoud_X1_loud
theorem dX1_lastLoud_0 : decode cX1_lastLoud 0 = .ok (.aload_n 0, 1) := by decide +kernel
theorem dX1_lastLoud_1 : decode cX1_lastLoud 1 = .ok (.aload_n 0, 1) := by decide +kernel
theorem dX1_lastLoud_2 : decode cX1_lastLoud 2 = .ok (.getfield 24, 3) := by decide +kernel
theorem dX1_lastLoud_5 : decode cX1_lastLoud 5 = .ok (.iconst 1, 1) := by decide +kernel
theorem dX1_lastLoud_6 : decode cX1_lastLoud 6 = .ok (.isub, 1) := by decide +kernel
theorem dX1_lastLoud_7 : decode cX1_lastLoud 7 = .ok (.invokevirtual 36, 3) := by decide +kernel
theorem dX1_lastLoud_10 : decode cX1_lastLoud 10 = .ok (.ireturn, 1) := by decide +kernel
theorem dX1_copyFrom_0 : decode cX1_copyFrom 0 = .ok (.aload_n 0, 1) := by decide +kernel
theorem dX1_copyFrom_1 : decode cX1_copyFrom 1 = .ok (.aload_n 1, 1) := by decide +kernel
theorem dX1_copyFrom_2 : decode cX1_copyFrom 2 = .ok (.getfield 24, 3) := by decide +kernel
theorem dX1_copyFrom_5 : decode cX1_copyFrom 5 = .ok (.putfield 24, 3) := by decide +kernel
theorem dX1_copyFrom_8 : decode cX1_copyFrom 8 = .ok (.iconst 0, 1) := by decide +kernel
theorem dX1_copyFrom_9 : decode cX1_copyFrom 9 = .ok (.istore_n 2, 1) := by decide +kernel
theorem dX1_copyFrom_10 : decode cX1_copyFrom 10 = .ok (.iload_n 2, 1) := by decide +kernel
theorem dX1_copyFrom_11 : decode cX1_copyFrom 11 = .ok (.bipush 6, 2) := by decide +kernel
theorem dX1_copyFrom_13 : decode cX1_copyFrom 13 = .ok (.if_icmp .ge 57, 3) := by decide +kernel
theorem dX1_copyFrom_16 : decode cX1_copyFrom 16 = .ok (.aload_n 0, 1) := by decide +kernel
theorem dX1_copyFrom_17 : decode cX1_copyFrom 17 = .ok (.getfield 9, 3) := by decide +kernel
theorem dX1_copyFrom_20 : decode cX1_copyFrom 20 = .ok (.iload_n 2, 1) := by decide +kernel
theorem dX1_copyFrom_21 : decode cX1_copyFrom 21 = .ok (.aload_n 1, 1) := by decide +kernel
theorem dX1_copyFrom_22 : decode cX1_copyFrom 22 = .ok (.getfield 9, 3) := by decide +kernel
theorem dX1_copyFrom_25 : decode cX1_copyFrom 25 = .ok (.iload_n 2, 1) := by decide +kernel
theorem dX1_copyFrom_26 : decode cX1_copyFrom 26 = .ok (.iaload, 1) := by decide +kernel
theorem dX1_copyFrom_27 : decode cX1_copyFrom 27 = .ok (.iastore, 1) := by decide +kernel
theorem dX1_copyFrom_28 : decode cX1_copyFrom 28 = .ok (.aload_n 0, 1) := by decide +kernel
theorem dX1_copyFrom_29 : decode cX1_copyFrom 29 = .ok (.getfield 15, 3) := by decide +kernel
theorem dX1_copyFrom_32 : decode cX1_copyFrom 32 = .ok (.iload_n 2, 1) := by decide +kernel
theorem dX1_copyFrom_33 : decode cX1_copyFrom 33 = .ok (.aload_n 1, 1) := by decide +kernel
theorem dX1_copyFrom_34 : decode cX1_copyFrom 34 = .ok (.getfield 15, 3) := by decide +kernel
theorem dX1_copyFrom_37 : decode cX1_copyFrom 37 = .ok (.iload_n 2, 1) := by decide +kernel
theorem dX1_copyFrom_38 : decode cX1_copyFrom 38 = .ok (.iaload, 1) := by decide +kernel
theorem dX1_copyFrom_39 : decode cX1_copyFrom 39 = .ok (.iastore, 1) := by decide +kernel
theorem dX1_copyFrom_40 : decode cX1_copyFrom 40 = .ok (.aload_n 0, 1) := by decide +kernel
theorem dX1_copyFrom_41 : decode cX1_copyFrom 41 = .ok (.getfield 18, 3) := by decide +kernel
theorem dX1_copyFrom_44 : decode cX1_copyFrom 44 = .ok (.iload_n 2, 1) := by decide +kernel
theorem dX1_copyFrom_45 : decode cX1_copyFrom 45 = .ok (.aload_n 1, 1) := by decide +kernel
theorem dX1_copyFrom_46 : decode cX1_copyFrom 46 = .ok (.getfield 18, 3) := by decide +kernel
theorem dX1_copyFrom_49 : decode cX1_copyFrom 49 = .ok (.iload_n 2, 1) := by decide +kernel
theorem dX1_copyFrom_50 : decode cX1_copyFrom 50 = .ok (.iaload, 1) := by decide +kernel
theorem dX1_copyFrom_51 : decode cX1_copyFrom 51 = .ok (.iastore, 1) := by decide +kernel
theorem dX1_copyFrom_52 : decode cX1_copyFrom 52 = .ok (.aload_n 0, 1) := by decide +kernel
theorem dX1_copyFrom_53 : decode cX1_copyFrom 53 = .ok (.getfield 21, 3) := by decide +kernel
theorem dX1_copyFrom_56 : decode cX1_copyFrom 56 = .ok (.iload_n 2, 1) := by decide +kernel
theorem dX1_copyFrom_57 : decode cX1_copyFrom 57 = .ok (.aload_n 1, 1) := by decide +kernel
theorem dX1_copyFrom_58 : decode cX1_copyFrom 58 = .ok (.getfield 21, 3) := by decide +kernel
theorem dX1_copyFrom_61 : decode cX1_copyFrom 61 = .ok (.iload_n 2, 1) := by decide +kernel
theorem dX1_copyFrom_62 : decode cX1_copyFrom 62 = .ok (.iaload, 1) := by decide +kernel
theorem dX1_copyFrom_63 : decode cX1_copyFrom 63 = .ok (.iastore, 1) := by decide +kernel
theorem dX1_copyFrom_64 : decode cX1_copyFrom 64 = .ok (.iinc 2 1, 3) := by decide +kernel
theorem dX1_copyFrom_67 : decode cX1_copyFrom 67 = .ok (.goto (-57), 3) := by decide +kernel
theorem dX1_copyFrom_70 : decode cX1_copyFrom 70 = .ok (.return_, 1) := by decide +kernel
theorem dX2_init_0 : decode cX2_init 0 = .ok (.aload_n 0, 1) := by decide +kernel
theorem dX2_init_1 : decode cX2_init 1 = .ok (.invokespecial 3, 3) := by decide +kernel
theorem dX2_init_4 : decode cX2_init 4 = .ok (.aload_n 0, 1) := by decide +kernel
theorem dX2_init_5 : decode cX2_init 5 = .ok (.bipush 25, 2) := by decide +kernel
theorem dX2_init_7 : decode cX2_init 7 = .ok (.newarray .int, 2) := by decide +kernel
theorem dX2_init_9 : decode cX2_init 9 = .ok (.putfield 9, 3) := by decide +kernel
theorem dX2_init_12 : decode cX2_init 12 = .ok (.return_, 1) := by decide +kernel
theorem dX2_size_0 : decode cX2_size 0 = .ok (.aload_n 0, 1) := by decide +kernel
theorem dX2_size_1 : decode cX2_size 1 = .ok (.getfield 15, 3) := by decide +kernel
theorem dX2_size_4 : decode cX2_size 4 = .ok (.ireturn, 1) := by decide +kernel
theorem dX2_write_0 : decode cX2_write 0 = .ok (.aload_n 0, 1) := by decide +kernel
theorem dX2_write_1 : decode cX2_write 1 = .ok (.getfield 15, 3) := by decide +kernel
theorem dX2_write_4 : decode cX2_write 4 = .ok (.bipush 25, 2) := by decide +kernel
theorem dX2_write_6 : decode cX2_write 6 = .ok (.if_icmp .lt 5, 3) := by decide +kernel
theorem dX2_write_9 : decode cX2_write 9 = .ok (.iconst 0, 1) := by decide +kernel
theorem dX2_write_10 : decode cX2_write 10 = .ok (.ireturn, 1) := by decide +kernel
theorem dX2_write_11 : decode cX2_write 11 = .ok (.aload_n 0, 1) := by decide +kernel
theorem dX2_write_12 : decode cX2_write 12 = .ok (.getfield 9, 3) := by decide +kernel
theorem dX2_write_15 : decode cX2_write 15 = .ok (.aload_n 0, 1) := by decide +kernel
theorem dX2_write_16 : decode cX2_write 16 = .ok (.getfield 15, 3) := by decide +kernel
theorem dX2_write_19 : decode cX2_write 19 = .ok (.iload_n 1, 1) := by decide +kernel
theorem dX2_write_20 : decode cX2_write 20 = .ok (.iastore, 1) := by decide +kernel
theorem dX2_write_21 : decode cX2_write 21 = .ok (.aload_n 0, 1) := by decide +kernel
theorem dX2_write_22 : decode cX2_write 22 = .ok (.dup, 1) := by decide +kernel
theorem dX2_write_23 : decode cX2_write 23 = .ok (.getfield 15, 3) := by decide +kernel
theorem dX2_write_26 : decode cX2_write 26 = .ok (.iconst 1, 1) := by decide +kernel
theorem dX2_write_27 : decode cX2_write 27 = .ok (.iadd, 1) := by decide +kernel
theorem dX2_write_28 : decode cX2_write 28 = .ok (.putfield 15, 3) := by decide +kernel
theorem dX2_write_31 : decode cX2_write 31 = .ok (.iconst 1, 1) := by decide +kernel
theorem dX2_write_32 : decode cX2_write 32 = .ok (.ireturn, 1) := by decide +kernel
theorem dX2_wipe_0 : decode cX2_wipe 0 = .ok (.aload_n 0, 1) := by decide +kernel
theorem dX2_wipe_1 : decode cX2_wipe 1 = .ok (.getfield 15, 3) := by decide +kernel
theorem dX2_wipe_4 : decode cX2_wipe 4 = .ok (.istore_n 1, 1) := by decide +kernel
theorem dX2_wipe_5 : decode cX2_wipe 5 = .ok (.aload_n 0, 1) := by decide +kernel
theorem dX2_wipe_6 : decode cX2_wipe 6 = .ok (.iconst 0, 1) := by decide +kernel
theorem dX2_wipe_7 : decode cX2_wipe 7 = .ok (.putfield 15, 3) := by decide +kernel
theorem dX2_wipe_10 : decode cX2_wipe 10 = .ok (.iload_n 1, 1) := by decide +kernel
theorem dX2_wipe_11 : decode cX2_wipe 11 = .ok (.ireturn, 1) := by decide +kernel
set_option maxRecDepth 20000 in
theorem ggX2_at_X5_isWithin : GoodIn wsX2_at wsX5_isWithin := goodIn_r _ [5] (by decide +kernel) (by decide +kernel)
set_option maxRecDepth 20000 in
theorem gX2_at_X5_isWithin_n19 : GoodIn wsX2_at (wsX5_isWithin) := ggX2_at_X5_isWithin
theorem dX2_at_0 : decode cX2_at 0 = .ok (.iload_n 1, 1) := by decide +kernel
theorem dX2_at_1 : decode cX2_at 1 = .ok (.iconst 0, 1) := by decide +kernel
theorem dX2_at_2 : decode cX2_at 2 = .ok (.aload_n 0, 1) := by decide +kernel
theorem dX2_at_3 : decode cX2_at 3 = .ok (.getfield 15, 3) := by decide +kernel
theorem dX2_at_6 : decode cX2_at 6 = .ok (.iconst 1, 1) := by decide +kernel
theorem dX2_at_7 : decode cX2_at 7 = .ok (.isub, 1) := by decide +kernel
theorem dX2_at_8 : decode cX2_at 8 = .ok (.invokestatic 19, 3) := by decide +kernel
theorem dX2_at_11 : decode cX2_at 11 = .ok (.ifCond .eq 12, 3) := by decide +kernel
theorem dX2_at_14 : decode cX2_at 14 = .ok (.aload_n 0, 1) := by decide +kernel
theorem dX2_at_15 : decode cX2_at 15 = .ok (.getfield 9, 3) := by decide +kernel
theorem dX2_at_18 : decode cX2_at 18 = .ok (.iload_n 1, 1) := by decide +kernel
theorem dX2_at_19 : decode cX2_at 19 = .ok (.iaload, 1) := by decide +kernel
theorem dX2_at_20 : decode cX2_at 20 = .ok (.goto 4, 3) := by decide +kernel
theorem dX2_at_23 : decode cX2_at 23 = .ok (.iconst (-1), 1) := by decide +kernel
theorem dX2_at_24 : decode cX2_at 24 = .ok (.ireturn, 1) := by decide +kernel
set_option maxRecDepth 20000 in
theorem ggX2_digitAt_X2_at : GoodIn wsX2_digitAt wsX2_at := goodIn_r _ [5, 6, 7, 8, 9, 10, 11, 12] (by decide +kernel) (by decide +kernel)
set_option maxRecDepth 20000 in
theorem gX2_digitAt_X2_at : GoodIn wsX2_digitAt (wsV RX2 23 RX2 yX2_at wsX2_at) := goodIn_app (goodIn_of _ (by decide +kernel)) ggX2_digitAt_X2_at
theorem dX2_digitAt_0 : decode cX2_digitAt 0 = .ok (.aload_n 0, 1) := by decide +kernel
theorem dX2_digitAt_1 : decode cX2_digitAt 1 = .ok (.iload_n 1, 1) := by decide +kernel
theorem dX2_digitAt_2 : decode cX2_digitAt 2 = .ok (.invokevirtual 23, 3) := by decide +kernel
theorem dX2_digitAt_5 : decode cX2_digitAt 5 = .ok (.bipush 48, 2) := by decide +kernel
theorem dX2_digitAt_7 : decode cX2_digitAt 7 = .ok (.isub, 1) := by decide +kernel
theorem dX2_digitAt_8 : decode cX2_digitAt 8 = .ok (.ireturn, 1) := by decide +kernel
set_option maxRecDepth 20000 in
theorem ggX2_soundLetters_X2_houses : GoodIn wsX2_soundLetters wsX2_houses := goodIn_r _ [6, 7, 8, 9, 5, 10, 1, 11, 12, 13, 14, 23, 24] (by decide +kernel) (by decide +kernel)
set_option maxRecDepth 20000 in
theorem gX2_soundLetters_X2_houses : GoodIn wsX2_soundLetters (wsV RX2 27 RX2 yX2_houses wsX2_houses) := goodIn_app (goodIn_of _ (by decide +kernel)) ggX2_soundLetters_X2_houses
set_option maxRecDepth 20000 in
theorem ggX2_soundLetters_X2_at : GoodIn wsX2_soundLetters wsX2_at := goodIn_r _ [10, 1, 11, 12, 13, 14, 23, 24] (by decide +kernel) (by decide +kernel)
set_option maxRecDepth 20000 in
theorem gX2_soundLetters_X2_at : GoodIn wsX2_soundLetters (wsV RX2 23 RX2 yX2_at wsX2_at) := goodIn_app (goodIn_of _ (by decide +kernel)) ggX2_soundLetters_X2_at
set_option maxRecDepth 20000 in
theorem ggX2_soundLetters_X2_suitsHouses : GoodIn wsX2_soundLetters wsX2_suitsHouses := goodIn_r _ [17, 18, 13, 19, 12, 14] (by decide +kernel) (by decide +kernel)
set_option maxRecDepth 20000 in
theorem gX2_soundLetters_X2_suitsHouses : GoodIn wsX2_soundLetters (va_wsS RX2 31 yX2_suitsHouses wsX2_suitsHouses) := goodIn_app (goodIn_of _ (by decide +kernel)) ggX2_soundLetters_X2_suitsHouses
set_option maxRecDepth 20000 in
theorem ggX2_soundLetters_X2_suitsStrokes : GoodIn wsX2_soundLetters wsX2_suitsStrokes := goodIn_r _ [22, 12, 13, 14] (by decide +kernel) (by decide +kernel)
set_option maxRecDepth 20000 in
theorem gX2_soundLetters_X2_suitsStrokes : GoodIn wsX2_soundLetters (va_wsS RX2 35 yX2_suitsStrokes wsX2_suitsStrokes) := goodIn_app (goodIn_of _ (by decide +kernel)) ggX2_soundLetters_X2_suitsStrokes
theorem dX2_soundLetters_0 : decode cX2_soundLetters 0 = .ok (.aload_n 0, 1) := by decide +kernel
theorem dX2_soundLetters_1 : decode cX2_soundLetters 1 = .ok (.invokevirtual 27, 3) := by decide +kernel
theorem dX2_soundLetters_4 : decode cX2_soundLetters 4 = .ok (.istore_n 1, 1) := by decide +kernel
theorem dX2_soundLetters_5 : decode cX2_soundLetters 5 = .ok (.iload_n 1, 1) := by decide +kernel
theorem dX2_soundLetters_6 : decode cX2_soundLetters 6 = .ok (.iconst (-1), 1) := by decide +kernel
theorem dX2_soundLetters_7 : decode cX2_soundLetters 7 = .ok (.if_icmp .ne 10, 3) := by decide +kernel
theorem dX2_soundLetters_10 : decode cX2_soundLetters 10 = .ok (.aload_n 0, 1) := by decide +kernel
theorem dX2_soundLetters_11 : decode cX2_soundLetters 11 = .ok (.getfield 15, 3) := by decide +kernel
theorem dX2_soundLetters_14 : decode cX2_soundLetters 14 = .ok (.goto 6, 3) := by decide +kernel
theorem dX2_soundLetters_17 : decode cX2_soundLetters 17 = .ok (.iconst 3, 1) := by decide +kernel
theorem dX2_soundLetters_18 : decode cX2_soundLetters 18 = .ok (.iload_n 1, 1) := by decide +kernel
theorem dX2_soundLetters_19 : decode cX2_soundLetters 19 = .ok (.imul, 1) := by decide +kernel
theorem dX2_soundLetters_20 : decode cX2_soundLetters 20 = .ok (.istore_n 2, 1) := by decide +kernel
theorem dX2_soundLetters_21 : decode cX2_soundLetters 21 = .ok (.iconst 0, 1) := by decide +kernel
theorem dX2_soundLetters_22 : decode cX2_soundLetters 22 = .ok (.istore_n 3, 1) := by decide +kernel
theorem dX2_soundLetters_23 : decode cX2_soundLetters 23 = .ok (.iload_n 3, 1) := by decide +kernel
theorem dX2_soundLetters_24 : decode cX2_soundLetters 24 = .ok (.aload_n 0, 1) := by decide +kernel
theorem dX2_soundLetters_25 : decode cX2_soundLetters 25 = .ok (.getfield 15, 3) := by decide +kernel
theorem dX2_soundLetters_28 : decode cX2_soundLetters 28 = .ok (.if_icmp .ge 46, 3) := by decide +kernel
theorem dX2_soundLetters_31 : decode cX2_soundLetters 31 = .ok (.iload_n 3, 1) := by decide +kernel
theorem dX2_soundLetters_32 : decode cX2_soundLetters 32 = .ok (.iload_n 2, 1) := by decide +kernel
theorem dX2_soundLetters_33 : decode cX2_soundLetters 33 = .ok (.if_icmp .ge 15, 3) := by decide +kernel
theorem dX2_soundLetters_36 : decode cX2_soundLetters 36 = .ok (.iload_n 3, 1) := by decide +kernel
theorem dX2_soundLetters_37 : decode cX2_soundLetters 37 = .ok (.aload_n 0, 1) := by decide +kernel
theorem dX2_soundLetters_38 : decode cX2_soundLetters 38 = .ok (.iload_n 3, 1) := by decide +kernel
theorem dX2_soundLetters_39 : decode cX2_soundLetters 39 = .ok (.invokevirtual 23, 3) := by decide +kernel
theorem dX2_soundLetters_42 : decode cX2_soundLetters 42 = .ok (.invokestatic 31, 3) := by decide +kernel
theorem dX2_soundLetters_45 : decode cX2_soundLetters 45 = .ok (.goto 14, 3) := by decide +kernel
theorem dX2_soundLetters_48 : decode cX2_soundLetters 48 = .ok (.iload_n 3, 1) := by decide +kernel
theorem dX2_soundLetters_49 : decode cX2_soundLetters 49 = .ok (.iload_n 2, 1) := by decide +kernel
theorem dX2_soundLetters_50 : decode cX2_soundLetters 50 = .ok (.isub, 1) := by decide +kernel
theorem dX2_soundLetters_51 : decode cX2_soundLetters 51 = .ok (.aload_n 0, 1) := by decide +kernel
theorem dX2_soundLetters_52 : decode cX2_soundLetters 52 = .ok (.iload_n 3, 1) := by decide +kernel
theorem dX2_soundLetters_53 : decode cX2_soundLetters 53 = .ok (.invokevirtual 23, 3) := by decide +kernel
theorem dX2_soundLetters_56 : decode cX2_soundLetters 56 = .ok (.invokestatic 35, 3) := by decide +kernel
theorem dX2_soundLetters_59 : decode cX2_soundLetters 59 = .ok (.istore 4, 2) := by decide +kernel
theorem dX2_soundLetters_61 : decode cX2_soundLetters 61 = .ok (.iload 4, 2) := by decide +kernel
theorem dX2_soundLetters_63 : decode cX2_soundLetters 63 = .ok (.ifCond .ne 5, 3) := by decide +kernel
theorem dX2_soundLetters_66 : decode cX2_soundLetters 66 = .ok (.iload_n 3, 1) := by decide +kernel
theorem dX2_soundLetters_67 : decode cX2_soundLetters 67 = .ok (.ireturn, 1) := by decide +kernel
theorem dX2_soundLetters_68 : decode cX2_soundLetters 68 = .ok (.iinc 3 1, 3) := by decide +kernel
theorem dX2_soundLetters_71 : decode cX2_soundLetters 71 = .ok (.goto (-48), 3) := by decide +kernel
theorem dX2_soundLetters_74 : decode cX2_soundLetters 74 = .ok (.aload_n 0, 1) := by decide +kernel
theorem dX2_soundLetters_75 : decode cX2_soundLetters 75 = .ok (.getfield 15, 3) := by decide +kernel
theorem dX2_soundLetters_78 : decode cX2_soundLetters 78 = .ok (.ireturn, 1) := by decide +kernel
set_option maxRecDepth 20000 in
theorem ggX2_tellsColony_X2_houses : GoodIn wsX2_tellsColony wsX2_houses := goodIn_r _ [6, 7, 8, 9, 5, 10, 1, 11, 12, 13, 14, 27, 28] (by decide +kernel) (by decide +kernel)
set_option maxRecDepth 20000 in
theorem gX2_tellsColony_X2_houses : GoodIn wsX2_tellsColony (wsV RX2 27 RX2 yX2_houses wsX2_houses) := goodIn_app (goodIn_of _ (by decide +kernel)) ggX2_tellsColony_X2_houses
set_option maxRecDepth 20000 in
theorem ggX2_tellsColony_X2_soundLetters : GoodIn wsX2_tellsColony wsX2_soundLetters := goodIn_r _ [18, 1, 2, 3, 4, 5, 6, 7, 8, 9, 10, 11, 12, 13, 14, 19, 20, 21, 22, 23, 24, 25, 26, 27, 28] (by decide +kernel) (by decide +kernel)
set_option maxRecDepth 20000 in
theorem gX2_tellsColony_X2_soundLetters : GoodIn wsX2_tellsColony (wsV RX2 38 RX2 yX2_soundLetters wsX2_soundLetters) := goodIn_app (goodIn_of _ (by decide +kernel)) ggX2_tellsColony_X2_soundLetters
theorem dX2_tellsColony_0 : decode cX2_tellsColony 0 = .ok (.aload_n 0, 1) := by decide +kernel
theorem dX2_tellsColony_1 : decode cX2_tellsColony 1 = .ok (.invokevirtual 27, 3) := by decide +kernel
theorem dX2_tellsColony_4 : decode cX2_tellsColony 4 = .ok (.istore_n 1, 1) := by decide +kernel
theorem dX2_tellsColony_5 : decode cX2_tellsColony 5 = .ok (.iload_n 1, 1) := by decide +kernel
theorem dX2_tellsColony_6 : decode cX2_tellsColony 6 = .ok (.iconst (-1), 1) := by decide +kernel
theorem dX2_tellsColony_7 : decode cX2_tellsColony 7 = .ok (.if_icmp .eq 14, 3) := by decide +kernel
theorem dX2_tellsColony_10 : decode cX2_tellsColony 10 = .ok (.aload_n 0, 1) := by decide +kernel
theorem dX2_tellsColony_11 : decode cX2_tellsColony 11 = .ok (.invokevirtual 38, 3) := by decide +kernel
theorem dX2_tellsColony_14 : decode cX2_tellsColony 14 = .ok (.aload_n 0, 1) := by decide +kernel
theorem dX2_tellsColony_15 : decode cX2_tellsColony 15 = .ok (.getfield 15, 3) := by decide +kernel
theorem dX2_tellsColony_18 : decode cX2_tellsColony 18 = .ok (.if_icmp .ge 5, 3) := by decide +kernel
theorem dX2_tellsColony_21 : decode cX2_tellsColony 21 = .ok (.iconst 0, 1) := by decide +kernel
theorem dX2_tellsColony_22 : decode cX2_tellsColony 22 = .ok (.ireturn, 1) := by decide +kernel
theorem dX2_tellsColony_23 : decode cX2_tellsColony 23 = .ok (.aload_n 0, 1) := by decide +kernel
theorem dX2_tellsColony_24 : decode cX2_tellsColony 24 = .ok (.getfield 15, 3) := by decide +kernel
theorem dX2_tellsColony_27 : decode cX2_tellsColony 27 = .ok (.iconst 3, 1) := by decide +kernel
theorem dX2_tellsColony_28 : decode cX2_tellsColony 28 = .ok (.iload_n 1, 1) := by decide +kernel
theorem dX2_tellsColony_29 : decode cX2_tellsColony 29 = .ok (.imul, 1) := by decide +kernel
theorem dX2_tellsColony_30 : decode cX2_tellsColony 30 = .ok (.isub, 1) := by decide +kernel
theorem dX2_tellsColony_31 : decode cX2_tellsColony 31 = .ok (.istore_n 2, 1) := by decide +kernel
theorem dX2_tellsColony_32 : decode cX2_tellsColony 32 = .ok (.iload_n 2, 1) := by decide +kernel
theorem dX2_tellsColony_33 : decode cX2_tellsColony 33 = .ok (.ifCond .le 13, 3) := by decide +kernel
theorem dX2_tellsColony_36 : decode cX2_tellsColony 36 = .ok (.iload_n 2, 1) := by decide +kernel
theorem dX2_tellsColony_37 : decode cX2_tellsColony 37 = .ok (.iconst 2, 1) := by decide +kernel
theorem dX2_tellsColony_38 : decode cX2_tellsColony 38 = .ok (.irem, 1) := by decide +kernel
theorem dX2_tellsColony_39 : decode cX2_tellsColony 39 = .ok (.ifCond .ne 7, 3) := by decide +kernel
theorem dX2_tellsColony_42 : decode cX2_tellsColony 42 = .ok (.iconst 1, 1) := by decide +kernel
theorem dX2_tellsColony_43 : decode cX2_tellsColony 43 = .ok (.goto 4, 3) := by decide +kernel
theorem dX2_tellsColony_46 : decode cX2_tellsColony 46 = .ok (.iconst 0, 1) := by decide +kernel
theorem dX2_tellsColony_47 : decode cX2_tellsColony 47 = .ok (.ireturn, 1) := by decide +kernel
set_option maxRecDepth 20000 in
theorem ggX2_houses_X2_at : GoodIn wsX2_houses wsX2_at := goodIn_r _ [5, 6, 7, 8, 9, 10, 11, 12] (by decide +kernel) (by decide +kernel)
set_option maxRecDepth 20000 in
theorem gX2_houses_X2_at : GoodIn wsX2_houses (wsV RX2 23 RX2 yX2_at wsX2_at) := goodIn_app (goodIn_of _ (by decide +kernel)) ggX2_houses_X2_at
theorem dX2_houses_0 : decode cX2_houses 0 = .ok (.iconst 2, 1) := by decide +kernel
theorem dX2_houses_1 : decode cX2_houses 1 = .ok (.istore_n 1, 1) := by decide +kernel
theorem dX2_houses_2 : decode cX2_houses 2 = .ok (.iload_n 1, 1) := by decide +kernel
theorem dX2_houses_3 : decode cX2_houses 3 = .ok (.iconst 5, 1) := by decide +kernel
theorem dX2_houses_4 : decode cX2_houses 4 = .ok (.if_icmp .gt 25, 3) := by decide +kernel
theorem dX2_houses_7 : decode cX2_houses 7 = .ok (.aload_n 0, 1) := by decide +kernel
theorem dX2_houses_8 : decode cX2_houses 8 = .ok (.iconst 3, 1) := by decide +kernel
theorem dX2_houses_9 : decode cX2_houses 9 = .ok (.iload_n 1, 1) := by decide +kernel
theorem dX2_houses_10 : decode cX2_houses 10 = .ok (.imul, 1) := by decide +kernel
theorem dX2_houses_11 : decode cX2_houses 11 = .ok (.iconst 1, 1) := by decide +kernel
theorem dX2_houses_12 : decode cX2_houses 12 = .ok (.isub, 1) := by decide +kernel
theorem dX2_houses_13 : decode cX2_houses 13 = .ok (.invokevirtual 23, 3) := by decide +kernel
theorem dX2_houses_16 : decode cX2_houses 16 = .ok (.bipush 59, 2) := by decide +kernel
theorem dX2_houses_18 : decode cX2_houses 18 = .ok (.if_icmp .ne 5, 3) := by decide +kernel
theorem dX2_houses_21 : decode cX2_houses 21 = .ok (.iload_n 1, 1) := by decide +kernel
theorem dX2_houses_22 : decode cX2_houses 22 = .ok (.ireturn, 1) := by decide +kernel
theorem dX2_houses_23 : decode cX2_houses 23 = .ok (.iinc 1 1, 3) := by decide +kernel
theorem dX2_houses_26 : decode cX2_houses 26 = .ok (.goto (-24), 3) := by decide +kernel
theorem dX2_houses_29 : decode cX2_houses 29 = .ok (.iconst (-1), 1) := by decide +kernel
theorem dX2_houses_30 : decode cX2_houses 30 = .ok (.ireturn, 1) := by decide +kernel
set_option maxRecDepth 20000 in
theorem ggX2_suitsHouses_X5_kindOf : GoodIn wsX2_suitsHouses wsX5_kindOf := goodIn_r _ [3] (by decide +kernel) (by decide +kernel)
set_option maxRecDepth 20000 in
theorem gX2_suitsHouses_X5_kindOf_n41 : GoodIn wsX2_suitsHouses (wsX5_kindOf) := ggX2_suitsHouses_X5_kindOf
set_option maxRecDepth 20000 in
theorem ggX2_suitsHouses_X5_isWithin : GoodIn wsX2_suitsHouses wsX5_isWithin := goodIn_r _ [5] (by decide +kernel) (by decide +kernel)
set_option maxRecDepth 20000 in
theorem gX2_suitsHouses_X5_isWithin_n19 : GoodIn wsX2_suitsHouses (wsX5_isWithin) := ggX2_suitsHouses_X5_isWithin
theorem dX2_suitsHouses_0 : decode cX2_suitsHouses 0 = .ok (.iload_n 0, 1) := by decide +kernel
theorem dX2_suitsHouses_1 : decode cX2_suitsHouses 1 = .ok (.iconst 3, 1) := by decide +kernel
theorem dX2_suitsHouses_2 : decode cX2_suitsHouses 2 = .ok (.idiv, 1) := by decide +kernel
theorem dX2_suitsHouses_3 : decode cX2_suitsHouses 3 = .ok (.istore_n 2, 1) := by decide +kernel
theorem dX2_suitsHouses_4 : decode cX2_suitsHouses 4 = .ok (.iload_n 0, 1) := by decide +kernel
theorem dX2_suitsHouses_5 : decode cX2_suitsHouses 5 = .ok (.iconst 3, 1) := by decide +kernel
theorem dX2_suitsHouses_6 : decode cX2_suitsHouses 6 = .ok (.irem, 1) := by decide +kernel
theorem dX2_suitsHouses_7 : decode cX2_suitsHouses 7 = .ok (.lookupswitch 48 #[(0, 25), (1, 39)], 25) := by decide +kernel
theorem dX2_suitsHouses_32 : decode cX2_suitsHouses 32 = .ok (.iload_n 1, 1) := by decide +kernel
theorem dX2_suitsHouses_33 : decode cX2_suitsHouses 33 = .ok (.invokestatic 41, 3) := by decide +kernel
theorem dX2_suitsHouses_36 : decode cX2_suitsHouses 36 = .ok (.iconst (-1), 1) := by decide +kernel
theorem dX2_suitsHouses_37 : decode cX2_suitsHouses 37 = .ok (.if_icmp .eq 7, 3) := by decide +kernel
theorem dX2_suitsHouses_40 : decode cX2_suitsHouses 40 = .ok (.iconst 1, 1) := by decide +kernel
theorem dX2_suitsHouses_41 : decode cX2_suitsHouses 41 = .ok (.goto 4, 3) := by decide +kernel
theorem dX2_suitsHouses_44 : decode cX2_suitsHouses 44 = .ok (.iconst 0, 1) := by decide +kernel
theorem dX2_suitsHouses_45 : decode cX2_suitsHouses 45 = .ok (.ireturn, 1) := by decide +kernel
theorem dX2_suitsHouses_46 : decode cX2_suitsHouses 46 = .ok (.iload_n 1, 1) := by decide +kernel
theorem dX2_suitsHouses_47 : decode cX2_suitsHouses 47 = .ok (.bipush 48, 2) := by decide +kernel
theorem dX2_suitsHouses_49 : decode cX2_suitsHouses 49 = .ok (.bipush 57, 2) := by decide +kernel
theorem dX2_suitsHouses_51 : decode cX2_suitsHouses 51 = .ok (.invokestatic 19, 3) := by decide +kernel
theorem dX2_suitsHouses_54 : decode cX2_suitsHouses 54 = .ok (.ireturn, 1) := by decide +kernel
theorem dX2_suitsHouses_55 : decode cX2_suitsHouses 55 = .ok (.iload_n 1, 1) := by decide +kernel
theorem dX2_suitsHouses_56 : decode cX2_suitsHouses 56 = .ok (.bipush 44, 2) := by decide +kernel
theorem dX2_suitsHouses_58 : decode cX2_suitsHouses 58 = .ok (.if_icmp .ne 8, 3) := by decide +kernel
theorem dX2_suitsHouses_61 : decode cX2_suitsHouses 61 = .ok (.iload_n 2, 1) := by decide +kernel
theorem dX2_suitsHouses_62 : decode cX2_suitsHouses 62 = .ok (.iconst 4, 1) := by decide +kernel
theorem dX2_suitsHouses_63 : decode cX2_suitsHouses 63 = .ok (.if_icmp .lt 14, 3) := by decide +kernel
theorem dX2_suitsHouses_66 : decode cX2_suitsHouses 66 = .ok (.iload_n 1, 1) := by decide +kernel
theorem dX2_suitsHouses_67 : decode cX2_suitsHouses 67 = .ok (.bipush 59, 2) := by decide +kernel
theorem dX2_suitsHouses_69 : decode cX2_suitsHouses 69 = .ok (.if_icmp .ne 12, 3) := by decide +kernel
theorem dX2_suitsHouses_72 : decode cX2_suitsHouses 72 = .ok (.iload_n 2, 1) := by decide +kernel
theorem dX2_suitsHouses_73 : decode cX2_suitsHouses 73 = .ok (.iconst 1, 1) := by decide +kernel
theorem dX2_suitsHouses_74 : decode cX2_suitsHouses 74 = .ok (.if_icmp .lt 7, 3) := by decide +kernel
theorem dX2_suitsHouses_77 : decode cX2_suitsHouses 77 = .ok (.iconst 1, 1) := by decide +kernel
theorem dX2_suitsHouses_78 : decode cX2_suitsHouses 78 = .ok (.goto 4, 3) := by decide +kernel
theorem dX2_suitsHouses_81 : decode cX2_suitsHouses 81 = .ok (.iconst 0, 1) := by decide +kernel
theorem dX2_suitsHouses_82 : decode cX2_suitsHouses 82 = .ok (.ireturn, 1) := by decide +kernel
set_option maxRecDepth 20000 in
theorem ggX2_suitsStrokes_X5_isWithin : GoodIn wsX2_suitsStrokes wsX5_isWithin := goodIn_r _ [3] (by decide +kernel) (by decide +kernel)
set_option maxRecDepth 20000 in
theorem gX2_suitsStrokes_X5_isWithin_n19 : GoodIn wsX2_suitsStrokes (wsX5_isWithin) := ggX2_suitsStrokes_X5_isWithin
theorem dX2_suitsStrokes_0 : decode cX2_suitsStrokes 0 = .ok (.iload_n 0, 1) := by decide +kernel
theorem dX2_suitsStrokes_1 : decode cX2_suitsStrokes 1 = .ok (.bipush 8, 2) := by decide +kernel
theorem dX2_suitsStrokes_3 : decode cX2_suitsStrokes 3 = .ok (.if_icmp .lt 5, 3) := by decide +kernel
theorem dX2_suitsStrokes_6 : decode cX2_suitsStrokes 6 = .ok (.iconst 0, 1) := by decide +kernel
theorem dX2_suitsStrokes_7 : decode cX2_suitsStrokes 7 = .ok (.ireturn, 1) := by decide +kernel
theorem dX2_suitsStrokes_8 : decode cX2_suitsStrokes 8 = .ok (.iload_n 0, 1) := by decide +kernel
theorem dX2_suitsStrokes_9 : decode cX2_suitsStrokes 9 = .ok (.iconst 2, 1) := by decide +kernel
theorem dX2_suitsStrokes_10 : decode cX2_suitsStrokes 10 = .ok (.irem, 1) := by decide +kernel
theorem dX2_suitsStrokes_11 : decode cX2_suitsStrokes 11 = .ok (.ifCond .ne 8, 3) := by decide +kernel
theorem dX2_suitsStrokes_14 : decode cX2_suitsStrokes 14 = .ok (.bipush 48, 2) := by decide +kernel
theorem dX2_suitsStrokes_16 : decode cX2_suitsStrokes 16 = .ok (.goto 5, 3) := by decide +kernel
theorem dX2_suitsStrokes_19 : decode cX2_suitsStrokes 19 = .ok (.bipush 49, 2) := by decide +kernel
theorem dX2_suitsStrokes_21 : decode cX2_suitsStrokes 21 = .ok (.istore_n 2, 1) := by decide +kernel
theorem dX2_suitsStrokes_22 : decode cX2_suitsStrokes 22 = .ok (.iload_n 1, 1) := by decide +kernel
theorem dX2_suitsStrokes_23 : decode cX2_suitsStrokes 23 = .ok (.iload_n 2, 1) := by decide +kernel
theorem dX2_suitsStrokes_24 : decode cX2_suitsStrokes 24 = .ok (.bipush 57, 2) := by decide +kernel
theorem dX2_suitsStrokes_26 : decode cX2_suitsStrokes 26 = .ok (.invokestatic 19, 3) := by decide +kernel
theorem dX2_suitsStrokes_29 : decode cX2_suitsStrokes 29 = .ok (.ireturn, 1) := by decide +kernel
theorem dX3_init_0 : decode cX3_init 0 = .ok (.aload_n 0, 1) := by decide +kernel
theorem dX3_init_1 : decode cX3_init 1 = .ok (.invokespecial 3, 3) := by decide +kernel
theorem dX3_init_4 : decode cX3_init 4 = .ok (.aload_n 0, 1) := by decide +kernel
theorem dX3_init_5 : decode cX3_init 5 = .ok (.bipush 6, 2) := by decide +kernel
theorem dX3_init_7 : decode cX3_init 7 = .ok (.newarray .int, 2) := by decide +kernel
theorem dX3_init_9 : decode cX3_init 9 = .ok (.putfield 9, 3) := by decide +kernel
theorem dX3_init_12 : decode cX3_init 12 = .ok (.aload_n 0, 1) := by decide +kernel
theorem dX3_init_13 : decode cX3_init 13 = .ok (.bipush 6, 2) := by decide +kernel
theorem dX3_init_15 : decode cX3_init 15 = .ok (.newarray .int, 2) := by decide +kernel
theorem dX3_init_17 : decode cX3_init 17 = .ok (.putfield 15, 3) := by decide +kernel
theorem dX3_init_20 : decode cX3_init 20 = .ok (.return_, 1) := by decide +kernel
theorem dX3_size_0 : decode cX3_size 0 = .ok (.aload_n 0, 1) := by decide +kernel
theorem dX3_size_1 : decode cX3_size 1 = .ok (.getfield 18, 3) := by decide +kernel
theorem dX3_size_4 : decode cX3_size 4 = .ok (.ireturn, 1) := by decide +kernel
theorem dX3_clear_0 : decode cX3_clear 0 = .ok (.aload_n 0, 1) := by decide +kernel
theorem dX3_clear_1 : decode cX3_clear 1 = .ok (.iconst 0, 1) := by decide +kernel
theorem dX3_clear_2 : decode cX3_clear 2 = .ok (.putfield 18, 3) := by decide +kernel
theorem dX3_clear_5 : decode cX3_clear 5 = .ok (.return_, 1) := by decide +kernel
set_option maxRecDepth 20000 in
theorem ggX3_has_X5_isWithin : GoodIn wsX3_has wsX5_isWithin := goodIn_r _ [4] (by decide +kernel) (by decide +kernel)
set_option maxRecDepth 20000 in
theorem gX3_has_X5_isWithin_n22 : GoodIn wsX3_has (wsX5_isWithin) := ggX3_has_X5_isWithin
theorem dX3_has_0 : decode cX3_has 0 = .ok (.iload_n 1, 1) := by decide +kernel
theorem dX3_has_1 : decode cX3_has 1 = .ok (.iconst 0, 1) := by decide +kernel
theorem dX3_has_2 : decode cX3_has 2 = .ok (.aload_n 0, 1) := by decide +kernel
theorem dX3_has_3 : decode cX3_has 3 = .ok (.getfield 18, 3) := by decide +kernel
theorem dX3_has_6 : decode cX3_has 6 = .ok (.iconst 1, 1) := by decide +kernel
theorem dX3_has_7 : decode cX3_has 7 = .ok (.isub, 1) := by decide +kernel
theorem dX3_has_8 : decode cX3_has 8 = .ok (.invokestatic 22, 3) := by decide +kernel
theorem dX3_has_11 : decode cX3_has 11 = .ok (.ireturn, 1) := by decide +kernel
theorem dX3_add_0 : decode cX3_add 0 = .ok (.aload_n 0, 1) := by decide +kernel
theorem dX3_add_1 : decode cX3_add 1 = .ok (.getfield 18, 3) := by decide +kernel
theorem dX3_add_4 : decode cX3_add 4 = .ok (.bipush 6, 2) := by decide +kernel
theorem dX3_add_6 : decode cX3_add 6 = .ok (.if_icmp .lt 5, 3) := by decide +kernel
theorem dX3_add_9 : decode cX3_add 9 = .ok (.iconst 0, 1) := by decide +kernel
theorem dX3_add_10 : decode cX3_add 10 = .ok (.ireturn, 1) := by decide +kernel
theorem dX3_add_11 : decode cX3_add 11 = .ok (.aload_n 0, 1) := by decide +kernel
theorem dX3_add_12 : decode cX3_add 12 = .ok (.getfield 9, 3) := by decide +kernel
theorem dX3_add_15 : decode cX3_add 15 = .ok (.aload_n 0, 1) := by decide +kernel
theorem dX3_add_16 : decode cX3_add 16 = .ok (.getfield 18, 3) := by decide +kernel
theorem dX3_add_19 : decode cX3_add 19 = .ok (.iload_n 1, 1) := by decide +kernel
theorem dX3_add_20 : decode cX3_add 20 = .ok (.iastore, 1) := by decide +kernel
theorem dX3_add_21 : decode cX3_add 21 = .ok (.aload_n 0, 1) := by decide +kernel
theorem dX3_add_22 : decode cX3_add 22 = .ok (.getfield 15, 3) := by decide +kernel
theorem dX3_add_25 : decode cX3_add 25 = .ok (.aload_n 0, 1) := by decide +kernel
theorem dX3_add_26 : decode cX3_add 26 = .ok (.getfield 18, 3) := by decide +kernel
theorem dX3_add_29 : decode cX3_add 29 = .ok (.iload_n 2, 1) := by decide +kernel
theorem dX3_add_30 : decode cX3_add 30 = .ok (.iastore, 1) := by decide +kernel
theorem dX3_add_31 : decode cX3_add 31 = .ok (.aload_n 0, 1) := by decide +kernel
theorem dX3_add_32 : decode cX3_add 32 = .ok (.dup, 1) := by decide +kernel
theorem dX3_add_33 : decode cX3_add 33 = .ok (.getfield 18, 3) := by decide +kernel
theorem dX3_add_36 : decode cX3_add 36 = .ok (.iconst 1, 1) := by decide +kernel
theorem dX3_add_37 : decode cX3_add 37 = .ok (.iadd, 1) := by decide +kernel
theorem dX3_add_38 : decode cX3_add 38 = .ok (.putfield 18, 3) := by decide +kernel
theorem dX3_add_41 : decode cX3_add 41 = .ok (.iconst 1, 1) := by decide +kernel
theorem dX3_add_42 : decode cX3_add 42 = .ok (.ireturn, 1) := by decide +kernel
set_option maxRecDepth 20000 in
theorem ggX3_hour_X3_has : GoodIn wsX3_hour wsX3_has := goodIn_r _ [6, 7, 8, 9, 10, 11, 12, 13] (by decide +kernel) (by decide +kernel)
set_option maxRecDepth 20000 in
theorem gX3_hour_X3_has : GoodIn wsX3_hour (wsV RX3 26 RX3 yX3_has wsX3_has) := goodIn_app (goodIn_of _ (by decide +kernel)) ggX3_hour_X3_has
theorem dX3_hour_0 : decode cX3_hour 0 = .ok (.aload_n 0, 1) := by decide +kernel
theorem dX3_hour_1 : decode cX3_hour 1 = .ok (.iload_n 1, 1) := by decide +kernel
theorem dX3_hour_2 : decode cX3_hour 2 = .ok (.invokevirtual 26, 3) := by decide +kernel
theorem dX3_hour_5 : decode cX3_hour 5 = .ok (.ifCond .eq 12, 3) := by decide +kernel
theorem dX3_hour_8 : decode cX3_hour 8 = .ok (.aload_n 0, 1) := by decide +kernel
theorem dX3_hour_9 : decode cX3_hour 9 = .ok (.getfield 9, 3) := by decide +kernel
theorem dX3_hour_12 : decode cX3_hour 12 = .ok (.iload_n 1, 1) := by decide +kernel
theorem dX3_hour_13 : decode cX3_hour 13 = .ok (.iaload, 1) := by decide +kernel
theorem dX3_hour_14 : decode cX3_hour 14 = .ok (.goto 4, 3) := by decide +kernel
theorem dX3_hour_17 : decode cX3_hour 17 = .ok (.iconst 0, 1) := by decide +kernel
theorem dX3_hour_18 : decode cX3_hour 18 = .ok (.ireturn, 1) := by decide +kernel
set_option maxRecDepth 20000 in
theorem ggX3_loud_X3_has : GoodIn wsX3_loud wsX3_has := goodIn_r _ [6, 7, 8, 9, 10, 11, 12, 13] (by decide +kernel) (by decide +kernel)
set_option maxRecDepth 20000 in
theorem gX3_loud_X3_has : GoodIn wsX3_loud (wsV RX3 26 RX3 yX3_has wsX3_has) := goodIn_app (goodIn_of _ (by decide +kernel)) ggX3_loud_X3_has
theorem dX3_loud_0 : decode cX3_loud 0 = .ok (.aload_n 0, 1) := by decide +kernel
theorem dX3_loud_1 : decode cX3_loud 1 = .ok (.iload_n 1, 1) := by decide +kernel
theorem dX3_loud_2 : decode cX3_loud 2 = .ok (.invokevirtual 26, 3) := by decide +kernel
theorem dX3_loud_5 : decode cX3_loud 5 = .ok (.ifCond .eq 12, 3) := by decide +kernel
theorem dX3_loud_8 : decode cX3_loud 8 = .ok (.aload_n 0, 1) := by decide +kernel
theorem dX3_loud_9 : decode cX3_loud 9 = .ok (.getfield 15, 3) := by decide +kernel
theorem dX3_loud_12 : decode cX3_loud 12 = .ok (.iload_n 1, 1) := by decide +kernel
theorem dX3_loud_13 : decode cX3_loud 13 = .ok (.iaload, 1) := by decide +kernel
theorem dX3_loud_14 : decode cX3_loud 14 = .ok (.goto 4, 3) := by decide +kernel
theorem dX3_loud_17 : decode cX3_loud 17 = .ok (.iconst 0, 1) := by decide +kernel
theorem dX3_loud_18 : decode cX3_loud 18 = .ok (.ireturn, 1) := by decide +kernel
set_option maxRecDepth 20000 in
theorem ggX3_setLoud_X3_has : GoodIn wsX3_setLoud wsX3_has := goodIn_r _ [6, 7, 8, 9, 10, 11, 12, 13] (by decide +kernel) (by decide +kernel)
set_option maxRecDepth 20000 in
theorem gX3_setLoud_X3_has : GoodIn wsX3_setLoud (wsV RX3 26 RX3 yX3_has wsX3_has) := goodIn_app (goodIn_of _ (by decide +kernel)) ggX3_setLoud_X3_has
theorem dX3_setLoud_0 : decode cX3_setLoud 0 = .ok (.aload_n 0, 1) := by decide +kernel
theorem dX3_setLoud_1 : decode cX3_setLoud 1 = .ok (.iload_n 1, 1) := by decide +kernel
theorem dX3_setLoud_2 : decode cX3_setLoud 2 = .ok (.invokevirtual 26, 3) := by decide +kernel
theorem dX3_setLoud_5 : decode cX3_setLoud 5 = .ok (.ifCond .eq 10, 3) := by decide +kernel
theorem dX3_setLoud_8 : decode cX3_setLoud 8 = .ok (.aload_n 0, 1) := by decide +kernel
theorem dX3_setLoud_9 : decode cX3_setLoud 9 = .ok (.getfield 15, 3) := by decide +kernel
theorem dX3_setLoud_12 : decode cX3_setLoud 12 = .ok (.iload_n 1, 1) := by decide +kernel
theorem dX3_setLoud_13 : decode cX3_setLoud 13 = .ok (.iload_n 2, 1) := by decide +kernel
theorem dX3_setLoud_14 : decode cX3_setLoud 14 = .ok (.iastore, 1) := by decide +kernel
theorem dX3_setLoud_15 : decode cX3_setLoud 15 = .ok (.return_, 1) := by decide +kernel
set_option maxRecDepth 20000 in
theorem ggX3_goneAt_X3_hour : GoodIn wsX3_goneAt wsX3_hour := goodIn_r _ [5, 6, 7, 8, 9, 4, 10, 11, 12, 13, 14, 20, 21, 22] (by decide +kernel) (by decide +kernel)
set_option maxRecDepth 20000 in
theorem gX3_goneAt_X3_hour : GoodIn wsX3_goneAt (wsV RX3 30 RX3 yX3_hour wsX3_hour) := goodIn_app (goodIn_of _ (by decide +kernel)) ggX3_goneAt_X3_hour
set_option maxRecDepth 20000 in
theorem ggX3_goneAt_X3_loud : GoodIn wsX3_goneAt wsX3_loud := goodIn_r _ [18, 19, 7, 8, 9, 4, 10, 11, 12, 13, 14, 20, 21, 22] (by decide +kernel) (by decide +kernel)
set_option maxRecDepth 20000 in
theorem gX3_goneAt_X3_loud : GoodIn wsX3_goneAt (wsV RX3 34 RX3 yX3_loud wsX3_loud) := goodIn_app (goodIn_of _ (by decide +kernel)) ggX3_goneAt_X3_loud
theorem dX3_goneAt_0 : decode cX3_goneAt 0 = .ok (.aload_n 0, 1) := by decide +kernel
theorem dX3_goneAt_1 : decode cX3_goneAt 1 = .ok (.iload_n 1, 1) := by decide +kernel
theorem dX3_goneAt_2 : decode cX3_goneAt 2 = .ok (.invokevirtual 30, 3) := by decide +kernel
theorem dX3_goneAt_5 : decode cX3_goneAt 5 = .ok (.aload_n 0, 1) := by decide +kernel
theorem dX3_goneAt_6 : decode cX3_goneAt 6 = .ok (.iload_n 1, 1) := by decide +kernel
theorem dX3_goneAt_7 : decode cX3_goneAt 7 = .ok (.invokevirtual 34, 3) := by decide +kernel
theorem dX3_goneAt_10 : decode cX3_goneAt 10 = .ok (.iconst 2, 1) := by decide +kernel
theorem dX3_goneAt_11 : decode cX3_goneAt 11 = .ok (.iadd, 1) := by decide +kernel
theorem dX3_goneAt_12 : decode cX3_goneAt 12 = .ok (.iconst 1, 1) := by decide +kernel
theorem dX3_goneAt_13 : decode cX3_goneAt 13 = .ok (.isub, 1) := by decide +kernel
theorem dX3_goneAt_14 : decode cX3_goneAt 14 = .ok (.iconst 2, 1) := by decide +kernel
theorem dX3_goneAt_15 : decode cX3_goneAt 15 = .ok (.idiv, 1) := by decide +kernel
theorem dX3_goneAt_16 : decode cX3_goneAt 16 = .ok (.iadd, 1) := by decide +kernel
theorem dX3_goneAt_17 : decode cX3_goneAt 17 = .ok (.istore_n 2, 1) := by decide +kernel
