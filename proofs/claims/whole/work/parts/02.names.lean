/-! ===== BEGIN words of one list among another's, by their places ===== -/
theorem goodIn_r {big : List Cond} (ws : List Cond) (ps : List Nat) (hp : ws = ps.filterMap (fun i => big[i]?)) (h : ws.all goodWord = true) : GoodIn big ws := by
  intro w hw
  have h1 := List.all_eq_true.mp h w hw
  rw [hp] at hw
  obtain ⟨i, -, hi⟩ := List.mem_filterMap.mp hw
  have hm : w ∈ big := by first | exact List.mem_of_getElem? hi | exact List.getElem?_mem hi
  exact ⟨hm, good_of_word h1⟩
theorem goodIn_app {big a b : List Cond} (ha : GoodIn big a) (hb : GoodIn big b) : GoodIn big (a ++ b) := fun w h => (List.mem_append.mp h).elim (ha w) (hb w)
theorem goodIn_ca {big a b : List Cond} {c : Cond} (ha : GoodIn big (c :: a)) (hb : GoodIn big b) : GoodIn big (c :: (a ++ b)) := fun w h => (List.mem_cons.mp h).elim (fun e => ha w (List.mem_cons.mpr (Or.inl e))) (fun h => (List.mem_append.mp h).elim (fun h => ha w (List.mem_cons.mpr (Or.inr h))) (hb w))
theorem goodIn_sub {big ws : List Cond} (hm : ∀ w ∈ ws, w ∈ big) (h : ws.all goodWord = true) : GoodIn big ws := fun w hw => ⟨hm w hw, good_of_word (List.all_eq_true.mp h w hw)⟩
/-! ===== END ===== -/

/-! ===== BEGIN printed: names, fields, word lists, decode rows ===== -/
def RX0 : String := "GutterRights$Kinds"
def TX0 : u_T := fun k => match k with
  | _ => ("", "", "", false)
def tyX0 : Nat → FieldType := fun k => match k with
  | _ => .int
abbrev wsX00 : List Cond := u_ws RX0 TX0 0
theorem nmX0 : ∀ a, a < 0 → ∀ b, b < 0 → a ≠ b → (TX0 a).2.1 ≠ (TX0 b).2.1 := by decide +kernel
theorem tyX0_ok : ∀ k, k < 0 → parseFieldDescriptor (TX0 k).2.2.1 = some (tyX0 k) := by decide +kernel
abbrev cX0_isUnder : ByteArray := prog_2_method_2_code
def yX0_isUnder : MethodName := ⟨RX0, "isUnder", "(II)Z"⟩
abbrev cX0_using : ByteArray := prog_2_method_3_code
def yX0_using : MethodName := ⟨RX0, "using", "(III)I"⟩
abbrev cX0_keeping : ByteArray := prog_2_method_4_code
def yX0_keeping : MethodName := ⟨RX0, "keeping", "(III)I"⟩
abbrev cX0_losing : ByteArray := prog_2_method_5_code
def yX0_losing : MethodName := ⟨RX0, "losing", "(I)I"⟩
def RX1 : String := "GutterRights$Quarter"
def TX1 : u_T := fun k => match k with
  | 0 => ("GutterRights$Quarter", "kind", "[I", true)
  | 1 => ("GutterRights$Quarter", "water", "[I", true)
  | 2 => ("GutterRights$Quarter", "need", "[I", true)
  | 3 => ("GutterRights$Quarter", "holds", "[I", true)
  | 4 => ("GutterRights$Quarter", "spout", "[I", true)
  | 5 => ("GutterRights$Quarter", "dryHours", "[I", true)
  | 6 => ("GutterRights$Quarter", "spots", "[I", true)
  | 7 => ("GutterRights$Quarter", "rain", "I", false)
  | 8 => ("GutterRights$Quarter", "alley", "I", false)
  | 9 => ("GutterRights$Quarter", "lost", "I", false)
  | 10 => ("GutterRights$Quarter", "hour", "I", false)
  | _ => ("GutterRights$Quarter", "z", "I", false)
def tyX1 : Nat → FieldType := fun k => match k with
  | 0 => .array .int
  | 1 => .array .int
  | 2 => .array .int
  | 3 => .array .int
  | 4 => .array .int
  | 5 => .array .int
  | 6 => .array .int
  | 7 => .int
  | 8 => .int
  | 9 => .int
  | 10 => .int
  | _ => .int
abbrev wsX10 : List Cond := u_ws RX1 TX1 12
theorem nmX1 : ∀ a, a < 12 → ∀ b, b < 12 → a ≠ b → (TX1 a).2.1 ≠ (TX1 b).2.1 := by decide +kernel
theorem tyX1_ok : ∀ k, k < 12 → parseFieldDescriptor (TX1 k).2.2.1 = some (tyX1 k) := by decide +kernel
abbrev cX1_init : ByteArray := prog_3_method_1_code
def yX1_init : MethodName := ⟨RX1, "<init>", "()V"⟩
abbrev cX1_become : ByteArray := prog_3_method_2_code
def yX1_become : MethodName := ⟨RX1, "become", "(LGutterRights$Quarter;)V"⟩
abbrev cX1_row : ByteArray := prog_3_method_3_code
def yX1_row : MethodName := ⟨RX1, "row", "(I)[I"⟩
abbrev cX1_usesOf : ByteArray := prog_3_method_4_code
def yX1_usesOf : MethodName := ⟨RX1, "usesOf", "(I)I"⟩
abbrev cX1_keepsOf : ByteArray := prog_3_method_5_code
def yX1_keepsOf : MethodName := ⟨RX1, "keepsOf", "(I)I"⟩
abbrev cX1_leadsTo : ByteArray := prog_3_method_6_code
def yX1_leadsTo : MethodName := ⟨RX1, "leadsTo", "(I)I"⟩
abbrev cX1_draw : ByteArray := prog_3_method_7_code
def yX1_draw : MethodName := ⟨RX1, "draw", "()I"⟩
abbrev cX1_bring : ByteArray := prog_3_method_8_code
def yX1_bring : MethodName := ⟨RX1, "bring", "(II)V"⟩
abbrev cX1_lose : ByteArray := prog_3_method_9_code
def yX1_lose : MethodName := ⟨RX1, "lose", "(I)V"⟩
abbrev cX1_passHour : ByteArray := prog_3_method_10_code
def yX1_passHour : MethodName := ⟨RX1, "passHour", "(I)I"⟩
abbrev cX1_passHours : ByteArray := prog_3_method_11_code
def yX1_passHours : MethodName := ⟨RX1, "passHours", "(II)I"⟩
abbrev cX1_staysWet : ByteArray := prog_3_method_12_code
def yX1_staysWet : MethodName := ⟨RX1, "staysWet", "(III)Z"⟩
abbrev cX1_waterOfAll : ByteArray := prog_3_method_13_code
def yX1_waterOfAll : MethodName := ⟨RX1, "waterOfAll", "()I"⟩
abbrev cX1_everDry : ByteArray := prog_3_method_14_code
def yX1_everDry : MethodName := ⟨RX1, "everDry", "()I"⟩
abbrev cX1_turnedSpouts : ByteArray := prog_3_method_15_code
def yX1_turnedSpouts : MethodName := ⟨RX1, "turnedSpouts", "()I"⟩
abbrev cX1_housesOfOtherKinds : ByteArray := prog_3_method_16_code
def yX1_housesOfOtherKinds : MethodName := ⟨RX1, "housesOfOtherKinds", "()I"⟩
abbrev cX1_spotsHeld : ByteArray := prog_3_method_17_code
def yX1_spotsHeld : MethodName := ⟨RX1, "spotsHeld", "()I"⟩
def RX2 : String := "GutterRights$Sheet"
def TX2 : u_T := fun k => match k with
  | 0 => ("GutterRights$Sheet", "numbers", "[I", true)
  | 1 => ("GutterRights$Sheet", "bits", "I", false)
  | _ => ("GutterRights$Sheet", "size", "I", false)
def tyX2 : Nat → FieldType := fun k => match k with
  | 0 => .array .int
  | 1 => .int
  | _ => .int
abbrev wsX20 : List Cond := u_ws RX2 TX2 3
theorem nmX2 : ∀ a, a < 3 → ∀ b, b < 3 → a ≠ b → (TX2 a).2.1 ≠ (TX2 b).2.1 := by decide +kernel
theorem tyX2_ok : ∀ k, k < 3 → parseFieldDescriptor (TX2 k).2.2.1 = some (tyX2 k) := by decide +kernel
abbrev cX2_init : ByteArray := prog_4_method_1_code
def yX2_init : MethodName := ⟨RX2, "<init>", "()V"⟩
abbrev cX2_isMissing : ByteArray := prog_4_method_2_code
def yX2_isMissing : MethodName := ⟨RX2, "isMissing", "()Z"⟩
abbrev cX2_begin : ByteArray := prog_4_method_3_code
def yX2_begin : MethodName := ⟨RX2, "begin", "(II)V"⟩
abbrev cX2_put : ByteArray := prog_4_method_4_code
def yX2_put : MethodName := ⟨RX2, "put", "(II)V"⟩
abbrev cX2_hasRun : ByteArray := prog_4_method_5_code
def yX2_hasRun : MethodName := ⟨RX2, "hasRun", "(II)Z"⟩
def RX3 : String := "GutterRights$Tape"
def TX3 : u_T := fun k => match k with
  | 0 => ("GutterRights$Tape", "bytes", "[I", true)
  | _ => ("GutterRights$Tape", "size", "I", false)
def tyX3 : Nat → FieldType := fun k => match k with
  | 0 => .array .int
  | _ => .int
abbrev wsX30 : List Cond := u_ws RX3 TX3 2
theorem nmX3 : ∀ a, a < 2 → ∀ b, b < 2 → a ≠ b → (TX3 a).2.1 ≠ (TX3 b).2.1 := by decide +kernel
theorem tyX3_ok : ∀ k, k < 2 → parseFieldDescriptor (TX3 k).2.2.1 = some (tyX3 k) := by decide +kernel
abbrev cX3_init : ByteArray := prog_5_method_1_code
def yX3_init : MethodName := ⟨RX3, "<init>", "()V"⟩
abbrev cX3_add : ByteArray := prog_5_method_2_code
def yX3_add : MethodName := ⟨RX3, "add", "(I)V"⟩
abbrev cX3_isBetween : ByteArray := prog_5_method_3_code
def yX3_isBetween : MethodName := ⟨RX3, "isBetween", "(ICC)Z"⟩
def RX4 : String := "GutterRights$TextReader"
def TX4 : u_T := fun k => match k with
  | 0 => ("GutterRights$TextReader", "tape", "LGutterRights$Tape;", true)
  | 1 => ("GutterRights$TextReader", "start", "I", false)
  | 2 => ("GutterRights$TextReader", "end", "I", false)
  | 3 => ("GutterRights$TextReader", "sort", "I", false)
  | _ => ("GutterRights$TextReader", "number", "I", false)
def tyX4 : Nat → FieldType := fun k => match k with
  | 0 => .object "GutterRights$Tape"
  | 1 => .int
  | 2 => .int
  | 3 => .int
  | _ => .int
abbrev wsX40 : List Cond := u_ws RX4 TX4 5
theorem nmX4 : ∀ a, a < 5 → ∀ b, b < 5 → a ≠ b → (TX4 a).2.1 ≠ (TX4 b).2.1 := by decide +kernel
theorem tyX4_ok : ∀ k, k < 5 → parseFieldDescriptor (TX4 k).2.2.1 = some (tyX4 k) := by decide +kernel
abbrev cX4_init : ByteArray := prog_6_method_1_code
def yX4_init : MethodName := ⟨RX4, "<init>", "(LGutterRights$Tape;)V"⟩
abbrev cX4_readInto : ByteArray := prog_6_method_2_code
def yX4_readInto : MethodName := ⟨RX4, "readInto", "(LGutterRights$Quarter;)I"⟩
abbrev cX4_readItem : ByteArray := prog_6_method_3_code
def yX4_readItem : MethodName := ⟨RX4, "readItem", "(LGutterRights$Quarter;)Z"⟩
abbrev cX4_readRain : ByteArray := prog_6_method_4_code
def yX4_readRain : MethodName := ⟨RX4, "readRain", "(LGutterRights$Quarter;)Z"⟩
abbrev cX4_readPart : ByteArray := prog_6_method_5_code
def yX4_readPart : MethodName := ⟨RX4, "readPart", "(Ljava/lang/String;[III)Z"⟩
abbrev cX4_readSpout : ByteArray := prog_6_method_6_code
def yX4_readSpout : MethodName := ⟨RX4, "readSpout", "(LGutterRights$Quarter;I)Z"⟩
abbrev cX4_kindOfWord : ByteArray := prog_6_method_7_code
def yX4_kindOfWord : MethodName := ⟨RX4, "kindOfWord", "()I"⟩
abbrev cX4_nameOf : ByteArray := prog_6_method_8_code
def yX4_nameOf : MethodName := ⟨RX4, "nameOf", "(I)Ljava/lang/String;"⟩
abbrev cX4_isNumber : ByteArray := prog_6_method_9_code
def yX4_isNumber : MethodName := ⟨RX4, "isNumber", "(I)Z"⟩
abbrev cX4_isWord : ByteArray := prog_6_method_10_code
def yX4_isWord : MethodName := ⟨RX4, "isWord", "(Ljava/lang/String;)Z"⟩
abbrev cX4_nextToken : ByteArray := prog_6_method_11_code
def yX4_nextToken : MethodName := ⟨RX4, "nextToken", "()V"⟩
abbrev cX4_readWord : ByteArray := prog_6_method_12_code
def yX4_readWord : MethodName := ⟨RX4, "readWord", "()V"⟩
abbrev cX4_readNumber : ByteArray := prog_6_method_13_code
def yX4_readNumber : MethodName := ⟨RX4, "readNumber", "()V"⟩
def RX5 : String := "GutterRights"
def TX5 : u_T := fun k => match k with
  | 0 => ("GutterRights", "quarter", "LGutterRights$Quarter;", true)
  | 1 => ("GutterRights", "kept", "LGutterRights$Quarter;", true)
  | 2 => ("GutterRights", "trial", "LGutterRights$Quarter;", true)
  | 3 => ("GutterRights", "waterBefore", "[I", true)
  | 4 => ("GutterRights", "tape", "LGutterRights$Tape;", true)
  | 5 => ("GutterRights", "reader", "LGutterRights$TextReader;", true)
  | 6 => ("GutterRights", "sheets", "[LGutterRights$Sheet;", true)
  | 7 => ("GutterRights", "found", "[I", true)
  | _ => ("GutterRights", "isKept", "Z", false)
def tyX5 : Nat → FieldType := fun k => match k with
  | 0 => .object "GutterRights$Quarter"
  | 1 => .object "GutterRights$Quarter"
  | 2 => .object "GutterRights$Quarter"
  | 3 => .array .int
  | 4 => .object "GutterRights$Tape"
  | 5 => .object "GutterRights$TextReader"
  | 6 => .array (.object "GutterRights$Sheet")
  | 7 => .array .int
  | _ => .boolean
abbrev wsX50 : List Cond := u_ws RX5 TX5 9
theorem nmX5 : ∀ a, a < 9 → ∀ b, b < 9 → a ≠ b → (TX5 a).2.1 ≠ (TX5 b).2.1 := by decide +kernel
theorem tyX5_ok : ∀ k, k < 9 → parseFieldDescriptor (TX5 k).2.2.1 = some (tyX5 k) := by decide +kernel
abbrev cX5_init : ByteArray := prog_1_method_1_code
def yX5_init : MethodName := ⟨RX5, "<init>", "()V"⟩
abbrev cX5_change : ByteArray := prog_1_method_2_code
def yX5_change : MethodName := ⟨RX5, "change", "(III)I"⟩
abbrev cX5_of : ByteArray := prog_1_method_3_code
def yX5_of : MethodName := ⟨RX5, "of", "(II)I"⟩
abbrev cX5_rain : ByteArray := prog_1_method_4_code
def yX5_rain : MethodName := ⟨RX5, "rain", "(I)I"⟩
abbrev cX5_spouts : ByteArray := prog_1_method_5_code
def yX5_spouts : MethodName := ⟨RX5, "spouts", "(I)I"⟩
abbrev cX5_pour : ByteArray := prog_1_method_6_code
def yX5_pour : MethodName := ⟨RX5, "pour", "(II)I"⟩
abbrev cX5_go : ByteArray := prog_1_method_7_code
def yX5_go : MethodName := ⟨RX5, "go", "(I)I"⟩
abbrev cX5_now : ByteArray := prog_1_method_8_code
def yX5_now : MethodName := ⟨RX5, "now", "(I)I"⟩
abbrev cX5_ahead : ByteArray := prog_1_method_9_code
def yX5_ahead : MethodName := ⟨RX5, "ahead", "(III)I"⟩
abbrev cX5_alley : ByteArray := prog_1_method_10_code
def yX5_alley : MethodName := ⟨RX5, "alley", "(I)I"⟩
abbrev cX5_dry : ByteArray := prog_1_method_11_code
def yX5_dry : MethodName := ⟨RX5, "dry", "(I)I"⟩
abbrev cX5_when : ByteArray := prog_1_method_12_code
def yX5_when : MethodName := ⟨RX5, "when", "(II)I"⟩
abbrev cX5_settles : ByteArray := prog_1_method_13_code
def yX5_settles : MethodName := ⟨RX5, "settles", "()I"⟩
abbrev cX5_below : ByteArray := prog_1_method_14_code
def yX5_below : MethodName := ⟨RX5, "below", "(I)I"⟩
abbrev cX5_rainFor : ByteArray := prog_1_method_15_code
def yX5_rainFor : MethodName := ⟨RX5, "rainFor", "(II)I"⟩
abbrev cX5_holdsFor : ByteArray := prog_1_method_16_code
def yX5_holdsFor : MethodName := ⟨RX5, "holdsFor", "(II)I"⟩
abbrev cX5_needFor : ByteArray := prog_1_method_17_code
def yX5_needFor : MethodName := ⟨RX5, "needFor", "(II)I"⟩
abbrev cX5_kindsFor : ByteArray := prog_1_method_18_code
def yX5_kindsFor : MethodName := ⟨RX5, "kindsFor", "(II)I"⟩
abbrev cX5_kindFor : ByteArray := prog_1_method_19_code
def yX5_kindFor : MethodName := ⟨RX5, "kindFor", "(II)I"⟩
abbrev cX5_turn : ByteArray := prog_1_method_20_code
def yX5_turn : MethodName := ⟨RX5, "turn", "(II)I"⟩
abbrev cX5_best : ByteArray := prog_1_method_21_code
def yX5_best : MethodName := ⟨RX5, "best", "(I)I"⟩
abbrev cX5_love : ByteArray := prog_1_method_22_code
def yX5_love : MethodName := ⟨RX5, "love", "(II)I"⟩
abbrev cX5_burst : ByteArray := prog_1_method_23_code
def yX5_burst : MethodName := ⟨RX5, "burst", "(III)I"⟩
abbrev cX5_turned : ByteArray := prog_1_method_24_code
def yX5_turned : MethodName := ⟨RX5, "turned", "(II)I"⟩
abbrev cX5_kinds : ByteArray := prog_1_method_25_code
def yX5_kinds : MethodName := ⟨RX5, "kinds", "(II)I"⟩
abbrev cX5_showers : ByteArray := prog_1_method_26_code
def yX5_showers : MethodName := ⟨RX5, "showers", "(I)I"⟩
abbrev cX5_odds : ByteArray := prog_1_method_27_code
def yX5_odds : MethodName := ⟨RX5, "odds", "(III)J"⟩
abbrev cX5_seed : ByteArray := prog_1_method_28_code
def yX5_seed : MethodName := ⟨RX5, "seed", "(I)I"⟩
abbrev cX5_feed : ByteArray := prog_1_method_29_code
def yX5_feed : MethodName := ⟨RX5, "feed", "(II)I"⟩
abbrev cX5_wipe : ByteArray := prog_1_method_30_code
def yX5_wipe : MethodName := ⟨RX5, "wipe", "()I"⟩
abbrev cX5_text : ByteArray := prog_1_method_31_code
def yX5_text : MethodName := ⟨RX5, "text", "()I"⟩
abbrev cX5_hold : ByteArray := prog_1_method_32_code
def yX5_hold : MethodName := ⟨RX5, "hold", "(II)I"⟩
abbrev cX5_as : ByteArray := prog_1_method_33_code
def yX5_as : MethodName := ⟨RX5, "as", "(II)I"⟩
abbrev cX5_sheet : ByteArray := prog_1_method_34_code
def yX5_sheet : MethodName := ⟨RX5, "sheet", "(III)I"⟩
abbrev cX5_write : ByteArray := prog_1_method_35_code
def yX5_write : MethodName := ⟨RX5, "write", "(III)I"⟩
abbrev cX5_copy : ByteArray := prog_1_method_36_code
def yX5_copy : MethodName := ⟨RX5, "copy", "(IIIII)I"⟩
abbrev cX5_load : ByteArray := prog_1_method_37_code
def yX5_load : MethodName := ⟨RX5, "load", "(I)I"⟩
abbrev cX5_judge : ByteArray := prog_1_method_38_code
def yX5_judge : MethodName := ⟨RX5, "judge", "(I)I"⟩
abbrev cX5_image : ByteArray := prog_1_method_39_code
def yX5_image : MethodName := ⟨RX5, "image", "()I"⟩
abbrev cX5_undo : ByteArray := prog_1_method_40_code
def yX5_undo : MethodName := ⟨RX5, "undo", "()I"⟩
abbrev cX5_tear : ByteArray := prog_1_method_41_code
def yX5_tear : MethodName := ⟨RX5, "tear", "()I"⟩
abbrev cX5_count : ByteArray := prog_1_method_42_code
def yX5_count : MethodName := ⟨RX5, "count", "(I)I"⟩
abbrev cX5_status : ByteArray := prog_1_method_43_code
def yX5_status : MethodName := ⟨RX5, "status", "(I)I"⟩
abbrev cX5_tell : ByteArray := prog_1_method_44_code
def yX5_tell : MethodName := ⟨RX5, "tell", "(I)I"⟩
abbrev cX5_isUpTo : ByteArray := prog_1_method_45_code
def yX5_isUpTo : MethodName := ⟨RX5, "isUpTo", "(II)Z"⟩
abbrev cX5_isHouse : ByteArray := prog_1_method_46_code
def yX5_isHouse : MethodName := ⟨RX5, "isHouse", "(I)Z"⟩
abbrev cX5_isSpot : ByteArray := prog_1_method_47_code
def yX5_isSpot : MethodName := ⟨RX5, "isSpot", "(I)Z"⟩
abbrev cX5_isSheet : ByteArray := prog_1_method_48_code
def yX5_isSheet : MethodName := ⟨RX5, "isSheet", "(I)Z"⟩
abbrev cX5_seekSheet : ByteArray := prog_1_method_49_code
def yX5_seekSheet : MethodName := ⟨RX5, "seekSheet", "(I)I"⟩
abbrev cX5_mostOf : ByteArray := prog_1_method_50_code
def yX5_mostOf : MethodName := ⟨RX5, "mostOf", "(I)I"⟩
abbrev cX5_lastIn : ByteArray := prog_1_method_51_code
def yX5_lastIn : MethodName := ⟨RX5, "lastIn", "(I)I"⟩
abbrev cX5_isWaterAsBefore : ByteArray := prog_1_method_52_code
def yX5_isWaterAsBefore : MethodName := ⟨RX5, "isWaterAsBefore", "()Z"⟩
abbrev cX5_tryTurned : ByteArray := prog_1_method_53_code
def yX5_tryTurned : MethodName := ⟨RX5, "tryTurned", "(I)V"⟩
abbrev cX5_tryWith : ByteArray := prog_1_method_54_code
def yX5_tryWith : MethodName := ⟨RX5, "tryWith", "(III)V"⟩
abbrev cX5_staysWetTurned : ByteArray := prog_1_method_55_code
def yX5_staysWetTurned : MethodName := ⟨RX5, "staysWetTurned", "(IIII)Z"⟩
abbrev cX5_staysWetWith : ByteArray := prog_1_method_56_code
def yX5_staysWetWith : MethodName := ⟨RX5, "staysWetWith", "(IIII)Z"⟩
abbrev cX5_leastFor : ByteArray := prog_1_method_57_code
def yX5_leastFor : MethodName := ⟨RX5, "leastFor", "(IIII)I"⟩
abbrev cX5_isTrialAsSeen : ByteArray := prog_1_method_58_code
def yX5_isTrialAsSeen : MethodName := ⟨RX5, "isTrialAsSeen", "(LGutterRights$Sheet;I)Z"⟩
def RX6 : String := "GutterRightsModel"
def TX6 : u_T := fun k => match k with
  | 0 => ("GutterRightsModel", "s", "[I", true)
  | 1 => ("GutterRightsModel", "kept", "[I", true)
  | 2 => ("GutterRightsModel", "aside", "[I", true)
  | 3 => ("GutterRightsModel", "isKept", "Z", false)
  | 4 => ("GutterRightsModel", "found", "[I", true)
  | 5 => ("GutterRightsModel", "goes", "[I", true)
  | 6 => ("GutterRightsModel", "dryNow", "I", false)
  | 7 => ("GutterRightsModel", "before", "[I", true)
  | 8 => ("GutterRightsModel", "tape", "[I", true)
  | 9 => ("GutterRightsModel", "taped", "I", false)
  | 10 => ("GutterRightsModel", "from", "I", false)
  | 11 => ("GutterRightsModel", "to", "I", false)
  | 12 => ("GutterRightsModel", "isWrong", "Z", false)
  | 13 => ("GutterRightsModel", "bitsOf", "[I", true)
  | 14 => ("GutterRightsModel", "sizeOf", "[I", true)
  | 15 => ("GutterRightsModel", "number", "[I", true)
  | _ => ("GutterRightsModel", "moved", "[I", true)
def tyX6 : Nat → FieldType := fun k => match k with
  | 0 => .array .int
  | 1 => .array .int
  | 2 => .array .int
  | 3 => .boolean
  | 4 => .array .int
  | 5 => .array .int
  | 6 => .int
  | 7 => .array .int
  | 8 => .array .int
  | 9 => .int
  | 10 => .int
  | 11 => .int
  | 12 => .boolean
  | 13 => .array .int
  | 14 => .array .int
  | 15 => .array .int
  | _ => .array .int
abbrev wsX60 : List Cond := u_ws RX6 TX6 17
theorem nmX6 : ∀ a, a < 17 → ∀ b, b < 17 → a ≠ b → (TX6 a).2.1 ≠ (TX6 b).2.1 := by decide +kernel
theorem tyX6_ok : ∀ k, k < 17 → parseFieldDescriptor (TX6 k).2.2.1 = some (tyX6 k) := by decide +kernel
abbrev cX6_init : ByteArray := prog_8_method_1_code
def yX6_init : MethodName := ⟨RX6, "<init>", "()V"⟩
abbrev cX6_finds : ByteArray := prog_8_method_2_code
def yX6_finds : MethodName := ⟨RX6, "finds", "(I)I"⟩
abbrev cX6_in : ByteArray := prog_8_method_3_code
def yX6_in : MethodName := ⟨RX6, "in", "(JJJ)Z"⟩
abbrev cX6_become : ByteArray := prog_8_method_4_code
def yX6_become : MethodName := ⟨RX6, "become", "([I[I)V"⟩
abbrev cX6_lends : ByteArray := prog_8_method_5_code
def yX6_lends : MethodName := ⟨RX6, "lends", "()V"⟩
abbrev cX6_laysBack : ByteArray := prog_8_method_6_code
def yX6_laysBack : MethodName := ⟨RX6, "laysBack", "()V"⟩
abbrev cX6_isHouse : ByteArray := prog_8_method_7_code
def yX6_isHouse : MethodName := ⟨RX6, "isHouse", "(I)Z"⟩
abbrev cX6_its : ByteArray := prog_8_method_8_code
def yX6_its : MethodName := ⟨RX6, "its", "(II)I"⟩
abbrev cX6_sets : ByteArray := prog_8_method_9_code
def yX6_sets : MethodName := ⟨RX6, "sets", "(III)V"⟩
abbrev cX6_becomes : ByteArray := prog_8_method_10_code
def yX6_becomes : MethodName := ⟨RX6, "becomes", "(II)I"⟩
abbrev cX6_ones : ByteArray := prog_8_method_11_code
def yX6_ones : MethodName := ⟨RX6, "ones", "(I)I"⟩
abbrev cX6_aboveOf : ByteArray := prog_8_method_12_code
def yX6_aboveOf : MethodName := ⟨RX6, "aboveOf", "(I)I"⟩
abbrev cX6_isUnder : ByteArray := prog_8_method_13_code
def yX6_isUnder : MethodName := ⟨RX6, "isUnder", "(II)Z"⟩
abbrev cX6_isKind : ByteArray := prog_8_method_14_code
def yX6_isKind : MethodName := ⟨RX6, "isKind", "(I)Z"⟩
abbrev cX6_uses : ByteArray := prog_8_method_15_code
def yX6_uses : MethodName := ⟨RX6, "uses", "(I)I"⟩
abbrev cX6_keeps : ByteArray := prog_8_method_16_code
def yX6_keeps : MethodName := ⟨RX6, "keeps", "(I)I"⟩
abbrev cX6_loses : ByteArray := prog_8_method_17_code
def yX6_loses : MethodName := ⟨RX6, "loses", "(I)I"⟩
abbrev cX6_leads : ByteArray := prog_8_method_18_code
def yX6_leads : MethodName := ⟨RX6, "leads", "(I)I"⟩
abbrev cX6_mayBe : ByteArray := prog_8_method_19_code
def yX6_mayBe : MethodName := ⟨RX6, "mayBe", "(II)Z"⟩
abbrev cX6_change : ByteArray := prog_8_method_20_code
def yX6_change : MethodName := ⟨RX6, "change", "(III)I"⟩
abbrev cX6_of : ByteArray := prog_8_method_21_code
def yX6_of : MethodName := ⟨RX6, "of", "(II)I"⟩
abbrev cX6_rain : ByteArray := prog_8_method_22_code
def yX6_rain : MethodName := ⟨RX6, "rain", "(I)I"⟩
abbrev cX6_spoutSet : ByteArray := prog_8_method_23_code
def yX6_spoutSet : MethodName := ⟨RX6, "spoutSet", "()I"⟩
abbrev cX6_spouts : ByteArray := prog_8_method_24_code
def yX6_spouts : MethodName := ⟨RX6, "spouts", "(I)I"⟩
abbrev cX6_lost : ByteArray := prog_8_method_25_code
def yX6_lost : MethodName := ⟨RX6, "lost", "(I)V"⟩
abbrev cX6_comes : ByteArray := prog_8_method_26_code
def yX6_comes : MethodName := ⟨RX6, "comes", "(II)V"⟩
abbrev cX6_pour : ByteArray := prog_8_method_27_code
def yX6_pour : MethodName := ⟨RX6, "pour", "(II)I"⟩
abbrev cX6_takesOwn : ByteArray := prog_8_method_28_code
def yX6_takesOwn : MethodName := ⟨RX6, "takesOwn", "(I)V"⟩
abbrev cX6_anHour : ByteArray := prog_8_method_29_code
def yX6_anHour : MethodName := ⟨RX6, "anHour", "()V"⟩
abbrev cX6_hours : ByteArray := prog_8_method_30_code
def yX6_hours : MethodName := ⟨RX6, "hours", "(I)V"⟩
abbrev cX6_dryIn : ByteArray := prog_8_method_31_code
def yX6_dryIn : MethodName := ⟨RX6, "dryIn", "(I)I"⟩
abbrev cX6_go : ByteArray := prog_8_method_32_code
def yX6_go : MethodName := ⟨RX6, "go", "(I)I"⟩
abbrev cX6_waters : ByteArray := prog_8_method_33_code
def yX6_waters : MethodName := ⟨RX6, "waters", "()I"⟩
abbrev cX6_dryEver : ByteArray := prog_8_method_34_code
def yX6_dryEver : MethodName := ⟨RX6, "dryEver", "()I"⟩
abbrev cX6_now : ByteArray := prog_8_method_35_code
def yX6_now : MethodName := ⟨RX6, "now", "(I)I"⟩
abbrev cX6_isAhead : ByteArray := prog_8_method_36_code
def yX6_isAhead : MethodName := ⟨RX6, "isAhead", "(I)Z"⟩
abbrev cX6_isSoon : ByteArray := prog_8_method_37_code
def yX6_isSoon : MethodName := ⟨RX6, "isSoon", "(I)Z"⟩
abbrev cX6_ahead : ByteArray := prog_8_method_38_code
def yX6_ahead : MethodName := ⟨RX6, "ahead", "(III)I"⟩
abbrev cX6_alleyIn : ByteArray := prog_8_method_39_code
def yX6_alleyIn : MethodName := ⟨RX6, "alleyIn", "(I)I"⟩
abbrev cX6_alley : ByteArray := prog_8_method_40_code
def yX6_alley : MethodName := ⟨RX6, "alley", "(I)I"⟩
abbrev cX6_dry : ByteArray := prog_8_method_41_code
def yX6_dry : MethodName := ⟨RX6, "dry", "(I)I"⟩
abbrev cX6_when : ByteArray := prog_8_method_42_code
def yX6_when : MethodName := ⟨RX6, "when", "(II)I"⟩
abbrev cX6_leavesAll : ByteArray := prog_8_method_43_code
def yX6_leavesAll : MethodName := ⟨RX6, "leavesAll", "()Z"⟩
abbrev cX6_settles : ByteArray := prog_8_method_44_code
def yX6_settles : MethodName := ⟨RX6, "settles", "()I"⟩
abbrev cX6_below : ByteArray := prog_8_method_45_code
def yX6_below : MethodName := ⟨RX6, "below", "(I)I"⟩
abbrev cX6_isWet : ByteArray := prog_8_method_46_code
def yX6_isWet : MethodName := ⟨RX6, "isWet", "(II)Z"⟩
abbrev cX6_rainFor : ByteArray := prog_8_method_47_code
def yX6_rainFor : MethodName := ⟨RX6, "rainFor", "(II)I"⟩
abbrev cX6_isWetBy : ByteArray := prog_8_method_48_code
def yX6_isWetBy : MethodName := ⟨RX6, "isWetBy", "(IIII)Z"⟩
abbrev cX6_holdsFor : ByteArray := prog_8_method_49_code
def yX6_holdsFor : MethodName := ⟨RX6, "holdsFor", "(II)I"⟩
abbrev cX6_needFor : ByteArray := prog_8_method_50_code
def yX6_needFor : MethodName := ⟨RX6, "needFor", "(II)I"⟩
abbrev cX6_kindsFor : ByteArray := prog_8_method_51_code
def yX6_kindsFor : MethodName := ⟨RX6, "kindsFor", "(II)I"⟩
abbrev cX6_kindFor : ByteArray := prog_8_method_52_code
def yX6_kindFor : MethodName := ⟨RX6, "kindFor", "(II)I"⟩
abbrev cX6_turns : ByteArray := prog_8_method_53_code
def yX6_turns : MethodName := ⟨RX6, "turns", "(I)V"⟩
abbrev cX6_dryBy : ByteArray := prog_8_method_54_code
def yX6_dryBy : MethodName := ⟨RX6, "dryBy", "(II)I"⟩
abbrev cX6_turn : ByteArray := prog_8_method_55_code
def yX6_turn : MethodName := ⟨RX6, "turn", "(II)I"⟩
abbrev cX6_best : ByteArray := prog_8_method_56_code
def yX6_best : MethodName := ⟨RX6, "best", "(I)I"⟩
abbrev cX6_love : ByteArray := prog_8_method_57_code
def yX6_love : MethodName := ⟨RX6, "love", "(II)I"⟩
abbrev cX6_burst : ByteArray := prog_8_method_58_code
def yX6_burst : MethodName := ⟨RX6, "burst", "(III)I"⟩
abbrev cX6_isSo : ByteArray := prog_8_method_59_code
def yX6_isSo : MethodName := ⟨RX6, "isSo", "(II)Z"⟩
abbrev cX6_lacksHouse : ByteArray := prog_8_method_60_code
def yX6_lacksHouse : MethodName := ⟨RX6, "lacksHouse", "(II)I"⟩
abbrev cX6_turned : ByteArray := prog_8_method_61_code
def yX6_turned : MethodName := ⟨RX6, "turned", "(II)I"⟩
abbrev cX6_kinds : ByteArray := prog_8_method_62_code
def yX6_kinds : MethodName := ⟨RX6, "kinds", "(II)I"⟩
abbrev cX6_draw : ByteArray := prog_8_method_63_code
def yX6_draw : MethodName := ⟨RX6, "draw", "()I"⟩
abbrev cX6_showers : ByteArray := prog_8_method_64_code
def yX6_showers : MethodName := ⟨RX6, "showers", "(I)I"⟩
abbrev cX6_odds : ByteArray := prog_8_method_65_code
def yX6_odds : MethodName := ⟨RX6, "odds", "(III)J"⟩
abbrev cX6_seed : ByteArray := prog_8_method_66_code
def yX6_seed : MethodName := ⟨RX6, "seed", "(I)I"⟩
abbrev cX6_feed : ByteArray := prog_8_method_67_code
def yX6_feed : MethodName := ⟨RX6, "feed", "(II)I"⟩
abbrev cX6_wipe : ByteArray := prog_8_method_68_code
def yX6_wipe : MethodName := ⟨RX6, "wipe", "()I"⟩
abbrev cX6_isByte : ByteArray := prog_8_method_69_code
def yX6_isByte : MethodName := ⟨RX6, "isByte", "(III)Z"⟩
abbrev cX6_next : ByteArray := prog_8_method_70_code
def yX6_next : MethodName := ⟨RX6, "next", "()V"⟩
abbrev cX6_isWord : ByteArray := prog_8_method_71_code
def yX6_isWord : MethodName := ⟨RX6, "isWord", "(Ljava/lang/String;)Z"⟩
abbrev cX6_must : ByteArray := prog_8_method_72_code
def yX6_must : MethodName := ⟨RX6, "must", "(Z)V"⟩
abbrev cX6_takes : ByteArray := prog_8_method_73_code
def yX6_takes : MethodName := ⟨RX6, "takes", "(Ljava/lang/String;)Z"⟩
abbrev cX6_numberRead : ByteArray := prog_8_method_74_code
def yX6_numberRead : MethodName := ⟨RX6, "numberRead", "(II)I"⟩
abbrev cX6_kindHere : ByteArray := prog_8_method_75_code
def yX6_kindHere : MethodName := ⟨RX6, "kindHere", "()I"⟩
abbrev cX6_partTold : ByteArray := prog_8_method_76_code
def yX6_partTold : MethodName := ⟨RX6, "partTold", "(ILjava/lang/String;II)V"⟩
abbrev cX6_houseTold : ByteArray := prog_8_method_77_code
def yX6_houseTold : MethodName := ⟨RX6, "houseTold", "(I)V"⟩
abbrev cX6_item : ByteArray := prog_8_method_78_code
def yX6_item : MethodName := ⟨RX6, "item", "()V"⟩
abbrev cX6_text : ByteArray := prog_8_method_79_code
def yX6_text : MethodName := ⟨RX6, "text", "()I"⟩
abbrev cX6_isSpot : ByteArray := prog_8_method_80_code
def yX6_isSpot : MethodName := ⟨RX6, "isSpot", "(I)Z"⟩
abbrev cX6_hold : ByteArray := prog_8_method_81_code
def yX6_hold : MethodName := ⟨RX6, "hold", "(II)I"⟩
abbrev cX6_as : ByteArray := prog_8_method_82_code
def yX6_as : MethodName := ⟨RX6, "as", "(II)I"⟩
abbrev cX6_isSheet : ByteArray := prog_8_method_83_code
def yX6_isSheet : MethodName := ⟨RX6, "isSheet", "(I)Z"⟩
abbrev cX6_sheet : ByteArray := prog_8_method_84_code
def yX6_sheet : MethodName := ⟨RX6, "sheet", "(III)I"⟩
abbrev cX6_lacks : ByteArray := prog_8_method_85_code
def yX6_lacks : MethodName := ⟨RX6, "lacks", "(I)I"⟩
abbrev cX6_write : ByteArray := prog_8_method_86_code
def yX6_write : MethodName := ⟨RX6, "write", "(III)I"⟩
abbrev cX6_copy : ByteArray := prog_8_method_87_code
def yX6_copy : MethodName := ⟨RX6, "copy", "(IIIII)I"⟩
abbrev cX6_load : ByteArray := prog_8_method_88_code
def yX6_load : MethodName := ⟨RX6, "load", "(I)I"⟩
abbrev cX6_goesOn : ByteArray := prog_8_method_89_code
def yX6_goesOn : MethodName := ⟨RX6, "goesOn", "(II)Z"⟩
abbrev cX6_judge : ByteArray := prog_8_method_90_code
def yX6_judge : MethodName := ⟨RX6, "judge", "(I)I"⟩
abbrev cX6_image : ByteArray := prog_8_method_91_code
def yX6_image : MethodName := ⟨RX6, "image", "()I"⟩
abbrev cX6_undo : ByteArray := prog_8_method_92_code
def yX6_undo : MethodName := ⟨RX6, "undo", "()I"⟩
abbrev cX6_tear : ByteArray := prog_8_method_93_code
def yX6_tear : MethodName := ⟨RX6, "tear", "()I"⟩
abbrev cX6_held : ByteArray := prog_8_method_94_code
def yX6_held : MethodName := ⟨RX6, "held", "()I"⟩
abbrev cX6_unlikeHouses : ByteArray := prog_8_method_95_code
def yX6_unlikeHouses : MethodName := ⟨RX6, "unlikeHouses", "()I"⟩
abbrev cX6_count : ByteArray := prog_8_method_96_code
def yX6_count : MethodName := ⟨RX6, "count", "(I)I"⟩
abbrev cX6_status : ByteArray := prog_8_method_97_code
def yX6_status : MethodName := ⟨RX6, "status", "(I)I"⟩
def RJx145de : String := "java/io/Serializable"
def TJx145de : u_T := fun k => match k with
  | _ => ("", "", "", false)
def tyJx145de : Nat → FieldType := fun k => match k with
  | _ => .int
abbrev wsJx145de0 : List Cond := u_ws RJx145de TJx145de 0
theorem nmJx145de : ∀ a, a < 0 → ∀ b, b < 0 → a ≠ b → (TJx145de a).2.1 ≠ (TJx145de b).2.1 := by decide +kernel
theorem tyJx145de_ok : ∀ k, k < 0 → parseFieldDescriptor (TJx145de k).2.2.1 = some (tyJx145de k) := by decide +kernel
def RJx9f9b0 : String := "java/lang/CharSequence"
def TJx9f9b0 : u_T := fun k => match k with
  | _ => ("", "", "", false)
def tyJx9f9b0 : Nat → FieldType := fun k => match k with
  | _ => .int
abbrev wsJx9f9b00 : List Cond := u_ws RJx9f9b0 TJx9f9b0 0
theorem nmJx9f9b0 : ∀ a, a < 0 → ∀ b, b < 0 → a ≠ b → (TJx9f9b0 a).2.1 ≠ (TJx9f9b0 b).2.1 := by decide +kernel
theorem tyJx9f9b0_ok : ∀ k, k < 0 → parseFieldDescriptor (TJx9f9b0 k).2.2.1 = some (tyJx9f9b0 k) := by decide +kernel
def RJxb160c : String := "java/lang/Comparable"
def TJxb160c : u_T := fun k => match k with
  | _ => ("", "", "", false)
def tyJxb160c : Nat → FieldType := fun k => match k with
  | _ => .int
abbrev wsJxb160c0 : List Cond := u_ws RJxb160c TJxb160c 0
theorem nmJxb160c : ∀ a, a < 0 → ∀ b, b < 0 → a ≠ b → (TJxb160c a).2.1 ≠ (TJxb160c b).2.1 := by decide +kernel
theorem tyJxb160c_ok : ∀ k, k < 0 → parseFieldDescriptor (TJxb160c k).2.2.1 = some (tyJxb160c k) := by decide +kernel
def RJ6 : String := "java/lang/Integer"
def TJ6 : u_T := fun k => match k with
  | _ => ("", "", "", false)
def tyJ6 : Nat → FieldType := fun k => match k with
  | _ => .int
abbrev wsJ60 : List Cond := u_ws RJ6 TJ6 0
theorem nmJ6 : ∀ a, a < 0 → ∀ b, b < 0 → a ≠ b → (TJ6 a).2.1 ≠ (TJ6 b).2.1 := by decide +kernel
theorem tyJ6_ok : ∀ k, k < 0 → parseFieldDescriptor (TJ6 k).2.2.1 = some (tyJ6 k) := by decide +kernel
abbrev cJ6_bitCount_0f7a4 : ByteArray := prog_9_method_49_code
def yJ6_bitCount_0f7a4 : MethodName := ⟨RJ6, "bitCount", "(I)I"⟩
def RJ9 : String := "java/lang/Math"
def TJ9 : u_T := fun k => match k with
  | _ => ("", "", "", false)
def tyJ9 : Nat → FieldType := fun k => match k with
  | _ => .int
abbrev wsJ90 : List Cond := u_ws RJ9 TJ9 0
theorem nmJ9 : ∀ a, a < 0 → ∀ b, b < 0 → a ≠ b → (TJ9 a).2.1 ≠ (TJ9 b).2.1 := by decide +kernel
theorem tyJ9_ok : ∀ k, k < 0 → parseFieldDescriptor (TJ9 k).2.2.1 = some (tyJ9 k) := by decide +kernel
abbrev cJ9_max_7cf53 : ByteArray := prog_10_method_65_code
def yJ9_max_7cf53 : MethodName := ⟨RJ9, "max", "(II)I"⟩
abbrev cJ9_min_7cf53 : ByteArray := prog_10_method_69_code
def yJ9_min_7cf53 : MethodName := ⟨RJ9, "min", "(II)I"⟩
def RJ0 : String := "java/lang/String"
def TJ0 : u_T := fun k => match k with
  | _ => ("", "", "", false)
def tyJ0 : Nat → FieldType := fun k => match k with
  | _ => .int
abbrev wsJ00 : List Cond := u_ws RJ0 TJ0 0
theorem nmJ0 : ∀ a, a < 0 → ∀ b, b < 0 → a ≠ b → (TJ0 a).2.1 ≠ (TJ0 b).2.1 := by decide +kernel
theorem tyJ0_ok : ∀ k, k < 0 → parseFieldDescriptor (TJ0 k).2.2.1 = some (tyJ0 k) := by decide +kernel
abbrev cJ0_length_8abf5 : ByteArray := prog_11_method_54_code
def yJ0_length_8abf5 : MethodName := ⟨RJ0, "length", "()I"⟩
abbrev cJ0_charAt_5068e : ByteArray := prog_11_method_56_code
def yJ0_charAt_5068e : MethodName := ⟨RJ0, "charAt", "(I)C"⟩
abbrev cJ0_coder_7d493 : ByteArray := prog_11_method_152_code
def yJ0_coder_7d493 : MethodName := ⟨RJ0, "coder", "()B"⟩
abbrev cJ0_isLatin1_aae02 : ByteArray := prog_11_method_154_code
def yJ0_isLatin1_aae02 : MethodName := ⟨RJ0, "isLatin1", "()Z"⟩
abbrev cJ0_checkIndex_df160 : ByteArray := prog_11_method_155_code
def yJ0_checkIndex_df160 : MethodName := ⟨RJ0, "checkIndex", "(II)V"⟩
def RJ1 : String := "java/lang/StringLatin1"
def TJ1 : u_T := fun k => match k with
  | _ => ("", "", "", false)
def tyJ1 : Nat → FieldType := fun k => match k with
  | _ => .int
abbrev wsJ10 : List Cond := u_ws RJ1 TJ1 0
theorem nmJ1 : ∀ a, a < 0 → ∀ b, b < 0 → a ≠ b → (TJ1 a).2.1 ≠ (TJ1 b).2.1 := by decide +kernel
theorem tyJ1_ok : ∀ k, k < 0 → parseFieldDescriptor (TJ1 k).2.2.1 = some (tyJ1 k) := by decide +kernel
abbrev cJ1_charAt_3b067 : ByteArray := prog_12_method_2_code
def yJ1_charAt_3b067 : MethodName := ⟨RJ1, "charAt", "([BI)C"⟩
def RJ2 : String := "java/lang/StringUTF16"
def TJ2 : u_T := fun k => match k with
  | _ => ("", "", "", false)
def tyJ2 : Nat → FieldType := fun k => match k with
  | _ => .int
abbrev wsJ20 : List Cond := u_ws RJ2 TJ2 0
theorem nmJ2 : ∀ a, a < 0 → ∀ b, b < 0 → a ≠ b → (TJ2 a).2.1 ≠ (TJ2 b).2.1 := by decide +kernel
theorem tyJ2_ok : ∀ k, k < 0 → parseFieldDescriptor (TJ2 k).2.2.1 = some (tyJ2 k) := by decide +kernel
abbrev cJ2_getChar_3b067 : ByteArray := prog_13_method_5_code
def yJ2_getChar_3b067 : MethodName := ⟨RJ2, "getChar", "([BI)C"⟩
abbrev cJ2_length_9d52b : ByteArray := prog_13_method_6_code
def yJ2_length_9d52b : MethodName := ⟨RJ2, "length", "([B)I"⟩
abbrev cJ2_charAt_3b067 : ByteArray := prog_13_method_83_code
def yJ2_charAt_3b067 : MethodName := ⟨RJ2, "charAt", "([BI)C"⟩
abbrev cJ2_checkIndex_2214a : ByteArray := prog_13_method_91_code
def yJ2_checkIndex_2214a : MethodName := ⟨RJ2, "checkIndex", "(I[B)V"⟩
def RJ10 : String := "java/lang/System"
def TJ10 : u_T := fun k => match k with
  | _ => ("", "", "", false)
def tyJ10 : Nat → FieldType := fun k => match k with
  | _ => .int
abbrev wsJ100 : List Cond := u_ws RJ10 TJ10 0
theorem nmJ10 : ∀ a, a < 0 → ∀ b, b < 0 → a ≠ b → (TJ10 a).2.1 ≠ (TJ10 b).2.1 := by decide +kernel
theorem tyJ10_ok : ∀ k, k < 0 → parseFieldDescriptor (TJ10 k).2.2.1 = some (tyJ10 k) := by decide +kernel
def RJxfd54e : String := "java/lang/constant/Constable"
def TJxfd54e : u_T := fun k => match k with
  | _ => ("", "", "", false)
def tyJxfd54e : Nat → FieldType := fun k => match k with
  | _ => .int
abbrev wsJxfd54e0 : List Cond := u_ws RJxfd54e TJxfd54e 0
theorem nmJxfd54e : ∀ a, a < 0 → ∀ b, b < 0 → a ≠ b → (TJxfd54e a).2.1 ≠ (TJxfd54e b).2.1 := by decide +kernel
theorem tyJxfd54e_ok : ∀ k, k < 0 → parseFieldDescriptor (TJxfd54e k).2.2.1 = some (tyJxfd54e k) := by decide +kernel
def RJx3cf43 : String := "java/lang/constant/ConstantDesc"
def TJx3cf43 : u_T := fun k => match k with
  | _ => ("", "", "", false)
def tyJx3cf43 : Nat → FieldType := fun k => match k with
  | _ => .int
abbrev wsJx3cf430 : List Cond := u_ws RJx3cf43 TJx3cf43 0
theorem nmJx3cf43 : ∀ a, a < 0 → ∀ b, b < 0 → a ≠ b → (TJx3cf43 a).2.1 ≠ (TJx3cf43 b).2.1 := by decide +kernel
theorem tyJx3cf43_ok : ∀ k, k < 0 → parseFieldDescriptor (TJx3cf43 k).2.2.1 = some (tyJx3cf43 k) := by decide +kernel
def RJ7 : String := "java/util/Arrays"
def TJ7 : u_T := fun k => match k with
  | _ => ("", "", "", false)
def tyJ7 : Nat → FieldType := fun k => match k with
  | _ => .int
abbrev wsJ70 : List Cond := u_ws RJ7 TJ7 0
theorem nmJ7 : ∀ a, a < 0 → ∀ b, b < 0 → a ≠ b → (TJ7 a).2.1 ≠ (TJ7 b).2.1 := by decide +kernel
theorem tyJ7_ok : ∀ k, k < 0 → parseFieldDescriptor (TJ7 k).2.2.1 = some (tyJ7 k) := by decide +kernel
abbrev cJ7_fill_53178 : ByteArray := prog_15_method_103_code
def yJ7_fill_53178 : MethodName := ⟨RJ7, "fill", "([II)V"⟩
def RJ3 : String := "jdk/internal/util/Preconditions"
def TJ3 : u_T := fun k => match k with
  | _ => ("", "", "", false)
def tyJ3 : Nat → FieldType := fun k => match k with
  | _ => .int
abbrev wsJ30 : List Cond := u_ws RJ3 TJ3 0
theorem nmJ3 : ∀ a, a < 0 → ∀ b, b < 0 → a ≠ b → (TJ3 a).2.1 ≠ (TJ3 b).2.1 := by decide +kernel
theorem tyJ3_ok : ∀ k, k < 0 → parseFieldDescriptor (TJ3 k).2.2.1 = some (tyJ3 k) := by decide +kernel
abbrev cJ3_checkIndex_8e157 : ByteArray := prog_16_method_11_code
def yJ3_checkIndex_8e157 : MethodName := ⟨RJ3, "checkIndex", "(IILjava/util/function/BiFunction;)I"⟩
def RL : String := "GutterRightsLaw"
abbrev cL_law : ByteArray := code
def yL_law : MethodName := ⟨RL, "law", "([I)Z"⟩
abbrev vwCl : List vw_C := [(RX1, TX1, 12), (RX2, TX2, 3), (RX3, TX3, 2), (RX4, TX4, 5), (RX5, TX5, 9), (RX6, TX6, 17)]
