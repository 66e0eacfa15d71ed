section
/-! ===== BEGIN words of one list among another's, by their places ===== -/
theorem goodIn_r {big : List Cond} (ws : List Cond) (ps : List Nat) (hp : ws = ps.filterMap (fun i => big[i]?)) (h : ws.all goodWord = true) : GoodIn big ws := by
  intro w hw
  have h1 := List.all_eq_true.mp h w hw
  rw [hp] at hw
  obtain ⟨i, -, hi⟩ := List.mem_filterMap.mp hw
  have hm : w ∈ big := by first | exact List.mem_of_getElem? hi | exact List.getElem?_mem hi
  exact ⟨hm, good_of_word h1⟩
theorem goodIn_app {big a b : List Cond} (ha : GoodIn big a) (hb : GoodIn big b) : GoodIn big (a ++ b) := fun w h => (List.mem_append.mp h).elim (ha w) (hb w)
theorem goodIn_ca {big a b : List Cond} {c : Cond} (ha : GoodIn big (c :: a)) (hb : GoodIn big b) : GoodIn big (c :: (a ++ b)) := fun w h => (List.mem_cons.mp h).elim (fun e => ha w (List.mem_cons.mpr (Or.inl e))) (fun h => (List.mem_append.mp h).elim (fun h => ha w (List.mem_cons.mpr (Or.inr h))) (hb w))
theorem goodIn_sub {big ws : List Cond} (hm : ∀ w ∈ ws, w ∈ big) (h : ws.all goodWord = true) : GoodIn big ws := fun w hw => ⟨hm w hw, good_of_word (List.all_eq_true.mp h w hw)⟩
/-! ===== END ===== -/

/-! ===== BEGIN printed: names, fields, word lists, decode rows ===== -/
def RX0 : String := "AirTalkers$Air"
def TX0 : u_T := fun k => match k with
  | 0 => ("AirTalkers$Air", "stations", "[LAirTalkers$Station;", true)
  | 1 => ("AirTalkers$Air", "size", "I", false)
  | 2 => ("AirTalkers$Air", "slotNumber", "I", false)
  | 3 => ("AirTalkers$Air", "heard", "I", false)
  | 4 => ("AirTalkers$Air", "lost", "I", false)
  | _ => ("AirTalkers$Air", "talked", "Z", false)
def tyX0 : Nat → FieldType := fun k => match k with
  | 0 => .array (.object "AirTalkers$Station")
  | 1 => .int
  | 2 => .int
  | 3 => .int
  | 4 => .int
  | _ => .boolean
abbrev wsX00 : List Cond := u_ws RX0 TX0 6
theorem nmX0 : ∀ a, a < 6 → ∀ b, b < 6 → a ≠ b → (TX0 a).2.1 ≠ (TX0 b).2.1 := by decide +kernel
theorem tyX0_ok : ∀ k, k < 6 → parseFieldDescriptor (TX0 k).2.2.1 = some (tyX0 k) := by decide +kernel
abbrev cX0_init : ByteArray := prog_2_method_1_code
def yX0_init : MethodName := ⟨RX0, "<init>", "()V"⟩
abbrev cX0_become : ByteArray := prog_2_method_2_code
def yX0_become : MethodName := ⟨RX0, "become", "(LAirTalkers$Air;)V"⟩
abbrev cX0_has : ByteArray := prog_2_method_3_code
def yX0_has : MethodName := ⟨RX0, "has", "(I)Z"⟩
abbrev cX0_sets : ByteArray := prog_2_method_4_code
def yX0_sets : MethodName := ⟨RX0, "sets", "()I"⟩
abbrev cX0_read : ByteArray := prog_2_method_5_code
def yX0_read : MethodName := ⟨RX0, "read", "([BI)I"⟩
abbrev cX0_readStation : ByteArray := prog_2_method_6_code
def yX0_readStation : MethodName := ⟨RX0, "readStation", "([BII)I"⟩
abbrev cX0_kindOf : ByteArray := prog_2_method_7_code
def yX0_kindOf : MethodName := ⟨RX0, "kindOf", "(I)I"⟩
abbrev cX0_talkers : ByteArray := prog_2_method_8_code
def yX0_talkers : MethodName := ⟨RX0, "talkers", "(I)I"⟩
abbrev cX0_goBy : ByteArray := prog_2_method_9_code
def yX0_goBy : MethodName := ⟨RX0, "goBy", "(I)I"⟩
abbrev cX0_goToEnd : ByteArray := prog_2_method_10_code
def yX0_goToEnd : MethodName := ⟨RX0, "goToEnd", "()I"⟩
abbrev cX0_lettersBut : ByteArray := prog_2_method_11_code
def yX0_lettersBut : MethodName := ⟨RX0, "lettersBut", "(I)I"⟩
abbrev cX0_countOf : ByteArray := prog_2_method_12_code
def yX0_countOf : MethodName := ⟨RX0, "countOf", "(I)I"⟩
abbrev cX0_act : ByteArray := prog_2_method_13_code
def yX0_act : MethodName := ⟨RX0, "act", "(I)I"⟩
def RX1 : String := "AirTalkers$Deeds"
def TX1 : u_T := fun k => match k with
  | 0 => ("AirTalkers$Deeds", "numbers", "[I", true)
  | _ => ("AirTalkers$Deeds", "size", "I", false)
def tyX1 : Nat → FieldType := fun k => match k with
  | 0 => .array .int
  | _ => .int
abbrev wsX10 : List Cond := u_ws RX1 TX1 2
theorem nmX1 : ∀ a, a < 2 → ∀ b, b < 2 → a ≠ b → (TX1 a).2.1 ≠ (TX1 b).2.1 := by decide +kernel
theorem tyX1_ok : ∀ k, k < 2 → parseFieldDescriptor (TX1 k).2.2.1 = some (tyX1 k) := by decide +kernel
abbrev cX1_init : ByteArray := prog_3_method_1_code
def yX1_init : MethodName := ⟨RX1, "<init>", "()V"⟩
abbrev cX1_hasRoomFor : ByteArray := prog_3_method_2_code
def yX1_hasRoomFor : MethodName := ⟨RX1, "hasRoomFor", "(I)Z"⟩
abbrev cX1_add : ByteArray := prog_3_method_3_code
def yX1_add : MethodName := ⟨RX1, "add", "(I)V"⟩
abbrev cX1_become : ByteArray := prog_3_method_4_code
def yX1_become : MethodName := ⟨RX1, "become", "(LAirTalkers$Deeds;)V"⟩
def RX2 : String := "AirTalkers$Station"
def TX2 : u_T := fun k => match k with
  | 0 => ("AirTalkers$Station", "kind", "I", false)
  | 1 => ("AirTalkers$Station", "firstWait", "I", false)
  | 2 => ("AirTalkers$Station", "step", "I", false)
  | 3 => ("AirTalkers$Station", "letters", "I", false)
  | 4 => ("AirTalkers$Station", "waiting", "I", false)
  | _ => ("AirTalkers$Station", "clashes", "I", false)
def tyX2 : Nat → FieldType := fun k => match k with
  | 0 => .int
  | 1 => .int
  | 2 => .int
  | 3 => .int
  | 4 => .int
  | _ => .int
abbrev wsX20 : List Cond := u_ws RX2 TX2 6
theorem nmX2 : ∀ a, a < 6 → ∀ b, b < 6 → a ≠ b → (TX2 a).2.1 ≠ (TX2 b).2.1 := by decide +kernel
theorem tyX2_ok : ∀ k, k < 6 → parseFieldDescriptor (TX2 k).2.2.1 = some (tyX2 k) := by decide +kernel
abbrev cX2_init : ByteArray := prog_4_method_1_code
def yX2_init : MethodName := ⟨RX2, "<init>", "()V"⟩
abbrev cX2_become : ByteArray := prog_4_method_2_code
def yX2_become : MethodName := ⟨RX2, "become", "(LAirTalkers$Station;)V"⟩
abbrev cX2_isOf : ByteArray := prog_4_method_3_code
def yX2_isOf : MethodName := ⟨RX2, "isOf", "(I)Z"⟩
abbrev cX2_wants : ByteArray := prog_4_method_4_code
def yX2_wants : MethodName := ⟨RX2, "wants", "(Z)Z"⟩
abbrev cX2_holdsBack : ByteArray := prog_4_method_5_code
def yX2_holdsBack : MethodName := ⟨RX2, "holdsBack", "(Z)Z"⟩
abbrev cX2_plainWait : ByteArray := prog_4_method_6_code
def yX2_plainWait : MethodName := ⟨RX2, "plainWait", "(I)I"⟩
abbrev cX2_doubleWait : ByteArray := prog_4_method_7_code
def yX2_doubleWait : MethodName := ⟨RX2, "doubleWait", "(I)I"⟩
abbrev cX2_waitBehind : ByteArray := prog_4_method_8_code
def yX2_waitBehind : MethodName := ⟨RX2, "waitBehind", "(II)I"⟩
abbrev cX2_isHeard : ByteArray := prog_4_method_9_code
def yX2_isHeard : MethodName := ⟨RX2, "isHeard", "()V"⟩
abbrev cX2_meets : ByteArray := prog_4_method_10_code
def yX2_meets : MethodName := ⟨RX2, "meets", "(I)Z"⟩
abbrev cX2_rest : ByteArray := prog_4_method_11_code
def yX2_rest : MethodName := ⟨RX2, "rest", "()V"⟩
abbrev cX2_told : ByteArray := prog_4_method_12_code
def yX2_told : MethodName := ⟨RX2, "told", "(IZ)I"⟩
abbrev cX2_tellsAs : ByteArray := prog_4_method_13_code
def yX2_tellsAs : MethodName := ⟨RX2, "tellsAs", "(IIZ)I"⟩
def RX3 : String := "AirTalkers"
def TX3 : u_T := fun k => match k with
  | 0 => ("AirTalkers", "rows", "[[I", true)
  | 1 => ("AirTalkers", "rowSizes", "[I", true)
  | 2 => ("AirTalkers", "texts", "[[B", true)
  | 3 => ("AirTalkers", "textSizes", "[I", true)
  | 4 => ("AirTalkers", "start", "LAirTalkers$Air;", true)
  | 5 => ("AirTalkers", "now", "LAirTalkers$Air;", true)
  | 6 => ("AirTalkers", "deeds", "LAirTalkers$Deeds;", true)
  | 7 => ("AirTalkers", "keptDeeds", "[LAirTalkers$Deeds;", true)
  | 8 => ("AirTalkers", "aside", "LAirTalkers$Air;", true)
  | 9 => ("AirTalkers", "trial", "LAirTalkers$Air;", true)
  | 10 => ("AirTalkers", "heardOf", "[I", true)
  | 11 => ("AirTalkers", "watched", "[[I", true)
  | 12 => ("AirTalkers", "toldAsked", "I", false)
  | 13 => ("AirTalkers", "toldUpper", "J", false)
  | 14 => ("AirTalkers", "toldLower", "J", false)
  | 15 => ("AirTalkers", "latestFinding", "I", false)
  | _ => ("AirTalkers", "findingCounts", "[I", true)
def tyX3 : Nat → FieldType := fun k => match k with
  | 0 => .array (.array .int)
  | 1 => .array .int
  | 2 => .array (.array .byte)
  | 3 => .array .int
  | 4 => .object "AirTalkers$Air"
  | 5 => .object "AirTalkers$Air"
  | 6 => .object "AirTalkers$Deeds"
  | 7 => .array (.object "AirTalkers$Deeds")
  | 8 => .object "AirTalkers$Air"
  | 9 => .object "AirTalkers$Air"
  | 10 => .array .int
  | 11 => .array (.array .int)
  | 12 => .int
  | 13 => .long
  | 14 => .long
  | 15 => .int
  | _ => .array .int
abbrev wsX30 : List Cond := u_ws RX3 TX3 17
theorem nmX3 : ∀ a, a < 17 → ∀ b, b < 17 → a ≠ b → (TX3 a).2.1 ≠ (TX3 b).2.1 := by decide +kernel
theorem tyX3_ok : ∀ k, k < 17 → parseFieldDescriptor (TX3 k).2.2.1 = some (tyX3 k) := by decide +kernel
abbrev cX3_init : ByteArray := prog_1_method_1_code
def yX3_init : MethodName := ⟨RX3, "<init>", "()V"⟩
abbrev cX3_row : ByteArray := prog_1_method_2_code
def yX3_row : MethodName := ⟨RX3, "row", "(II)I"⟩
abbrev cX3_lay : ByteArray := prog_1_method_3_code
def yX3_lay : MethodName := ⟨RX3, "lay", "(III)I"⟩
abbrev cX3_at : ByteArray := prog_1_method_4_code
def yX3_at : MethodName := ⟨RX3, "at", "(II)I"⟩
abbrev cX3_tear : ByteArray := prog_1_method_5_code
def yX3_tear : MethodName := ⟨RX3, "tear", "(I)I"⟩
abbrev cX3_copy : ByteArray := prog_1_method_6_code
def yX3_copy : MethodName := ⟨RX3, "copy", "(IIIII)I"⟩
abbrev cX3_mean : ByteArray := prog_1_method_7_code
def yX3_mean : MethodName := ⟨RX3, "mean", "(I)I"⟩
abbrev cX3_text : ByteArray := prog_1_method_8_code
def yX3_text : MethodName := ⟨RX3, "text", "(II)I"⟩
abbrev cX3_put : ByteArray := prog_1_method_9_code
def yX3_put : MethodName := ⟨RX3, "put", "(III)I"⟩
abbrev cX3_fault : ByteArray := prog_1_method_10_code
def yX3_fault : MethodName := ⟨RX3, "fault", "(I)I"⟩
abbrev cX3_air : ByteArray := prog_1_method_11_code
def yX3_air : MethodName := ⟨RX3, "air", "(I)I"⟩
abbrev cX3_station : ByteArray := prog_1_method_12_code
def yX3_station : MethodName := ⟨RX3, "station", "(II)I"⟩
abbrev cX3_mark : ByteArray := prog_1_method_13_code
def yX3_mark : MethodName := ⟨RX3, "mark", "(II)I"⟩
abbrev cX3_slot : ByteArray := prog_1_method_14_code
def yX3_slot : MethodName := ⟨RX3, "slot", "()I"⟩
abbrev cX3_give : ByteArray := prog_1_method_15_code
def yX3_give : MethodName := ⟨RX3, "give", "(II)I"⟩
abbrev cX3_drop : ByteArray := prog_1_method_16_code
def yX3_drop : MethodName := ⟨RX3, "drop", "(I)I"⟩
abbrev cX3_first : ByteArray := prog_1_method_17_code
def yX3_first : MethodName := ⟨RX3, "first", "(II)I"⟩
abbrev cX3_undo : ByteArray := prog_1_method_18_code
def yX3_undo : MethodName := ⟨RX3, "undo", "(I)I"⟩
abbrev cX3_keep : ByteArray := prog_1_method_19_code
def yX3_keep : MethodName := ⟨RX3, "keep", "(I)I"⟩
abbrev cX3_on : ByteArray := prog_1_method_20_code
def yX3_on : MethodName := ⟨RX3, "on", "(I)I"⟩
abbrev cX3_talks : ByteArray := prog_1_method_21_code
def yX3_talks : MethodName := ⟨RX3, "talks", "()I"⟩
abbrev cX3_later : ByteArray := prog_1_method_22_code
def yX3_later : MethodName := ⟨RX3, "later", "(II)I"⟩
abbrev cX3_ends : ByteArray := prog_1_method_23_code
def yX3_ends : MethodName := ⟨RX3, "ends", "()I"⟩
abbrev cX3_clash : ByteArray := prog_1_method_24_code
def yX3_clash : MethodName := ⟨RX3, "clash", "()I"⟩
abbrev cX3_most : ByteArray := prog_1_method_25_code
def yX3_most : MethodName := ⟨RX3, "most", "(I)I"⟩
abbrev cX3_best : ByteArray := prog_1_method_26_code
def yX3_best : MethodName := ⟨RX3, "best", "(I)I"⟩
abbrev cX3_silence : ByteArray := prog_1_method_27_code
def yX3_silence : MethodName := ⟨RX3, "silence", "(I)I"⟩
abbrev cX3_kinds : ByteArray := prog_1_method_28_code
def yX3_kinds : MethodName := ⟨RX3, "kinds", "(II)I"⟩
abbrev cX3_firsts : ByteArray := prog_1_method_29_code
def yX3_firsts : MethodName := ⟨RX3, "firsts", "(II)I"⟩
abbrev cX3_test : ByteArray := prog_1_method_30_code
def yX3_test : MethodName := ⟨RX3, "test", "(II)I"⟩
abbrev cX3_duel : ByteArray := prog_1_method_31_code
def yX3_duel : MethodName := ⟨RX3, "duel", "(I)I"⟩
abbrev cX3_odds : ByteArray := prog_1_method_32_code
def yX3_odds : MethodName := ⟨RX3, "odds", "(II)I"⟩
abbrev cX3_mid : ByteArray := prog_1_method_33_code
def yX3_mid : MethodName := ⟨RX3, "mid", "(II)I"⟩
abbrev cX3_lots : ByteArray := prog_1_method_34_code
def yX3_lots : MethodName := ⟨RX3, "lots", "(II)I"⟩
abbrev cX3_asked : ByteArray := prog_1_method_35_code
def yX3_asked : MethodName := ⟨RX3, "asked", "()I"⟩
abbrev cX3_upper : ByteArray := prog_1_method_36_code
def yX3_upper : MethodName := ⟨RX3, "upper", "()J"⟩
abbrev cX3_lower : ByteArray := prog_1_method_37_code
def yX3_lower : MethodName := ⟨RX3, "lower", "()J"⟩
abbrev cX3_count : ByteArray := prog_1_method_38_code
def yX3_count : MethodName := ⟨RX3, "count", "(I)I"⟩
abbrev cX3_finding : ByteArray := prog_1_method_39_code
def yX3_finding : MethodName := ⟨RX3, "finding", "()I"⟩
abbrev cX3_findings : ByteArray := prog_1_method_40_code
def yX3_findings : MethodName := ⟨RX3, "findings", "(I)I"⟩
abbrev cX3_digest : ByteArray := prog_1_method_41_code
def yX3_digest : MethodName := ⟨RX3, "digest", "()J"⟩
abbrev cX3_found : ByteArray := prog_1_method_42_code
def yX3_found : MethodName := ⟨RX3, "found", "(I)I"⟩
abbrev cX3_isRow : ByteArray := prog_1_method_43_code
def yX3_isRow : MethodName := ⟨RX3, "isRow", "(I)Z"⟩
abbrev cX3_isText : ByteArray := prog_1_method_44_code
def yX3_isText : MethodName := ⟨RX3, "isText", "(I)Z"⟩
abbrev cX3_isKept : ByteArray := prog_1_method_45_code
def yX3_isKept : MethodName := ⟨RX3, "isKept", "(I)Z"⟩
abbrev cX3_holds : ByteArray := prog_1_method_46_code
def yX3_holds : MethodName := ⟨RX3, "holds", "(III)Z"⟩
abbrev cX3_refusedPlace : ByteArray := prog_1_method_47_code
def yX3_refusedPlace : MethodName := ⟨RX3, "refusedPlace", "(II)I"⟩
abbrev cX3_refusedWatch : ByteArray := prog_1_method_48_code
def yX3_refusedWatch : MethodName := ⟨RX3, "refusedWatch", "(II)I"⟩
abbrev cX3_deedOf : ByteArray := prog_1_method_49_code
def yX3_deedOf : MethodName := ⟨RX3, "deedOf", "(III)I"⟩
abbrev cX3_carryOut : ByteArray := prog_1_method_50_code
def yX3_carryOut : MethodName := ⟨RX3, "carryOut", "(I)I"⟩
abbrev cX3_goOnFromStart : ByteArray := prog_1_method_51_code
def yX3_goOnFromStart : MethodName := ⟨RX3, "goOnFromStart", "()V"⟩
abbrev cX3_deedByLot : ByteArray := prog_1_method_52_code
def yX3_deedByLot : MethodName := ⟨RX3, "deedByLot", "(I)I"⟩
abbrev cX3_heardAside : ByteArray := prog_1_method_53_code
def yX3_heardAside : MethodName := ⟨RX3, "heardAside", "(II)I"⟩
abbrev cX3_countHeardAside : ByteArray := prog_1_method_54_code
def yX3_countHeardAside : MethodName := ⟨RX3, "countHeardAside", "(I)V"⟩
abbrev cX3_kindsThatFit : ByteArray := prog_1_method_55_code
def yX3_kindsThatFit : MethodName := ⟨RX3, "kindsThatFit", "(II)I"⟩
abbrev cX3_asideFits : ByteArray := prog_1_method_56_code
def yX3_asideFits : MethodName := ⟨RX3, "asideFits", "(I)Z"⟩
abbrev cX3_watch : ByteArray := prog_1_method_57_code
def yX3_watch : MethodName := ⟨RX3, "watch", "(II)V"⟩
abbrev cX3_greatestPart : ByteArray := prog_1_method_58_code
def yX3_greatestPart : MethodName := ⟨RX3, "greatestPart", "(II)I"⟩
abbrev cX3_endByTurns : ByteArray := prog_1_method_59_code
def yX3_endByTurns : MethodName := ⟨RX3, "endByTurns", "(IZII)I"⟩
abbrev cX3_tellMean : ByteArray := prog_1_method_60_code
def yX3_tellMean : MethodName := ⟨RX3, "tellMean", "(IIZ)I"⟩
abbrev cX3_weightOf : ByteArray := prog_1_method_61_code
def yX3_weightOf : MethodName := ⟨RX3, "weightOf", "(II)J"⟩
abbrev cX3_tellRatio : ByteArray := prog_1_method_62_code
def yX3_tellRatio : MethodName := ⟨RX3, "tellRatio", "(JJ)V"⟩
abbrev cX3_counted : ByteArray := prog_1_method_63_code
def yX3_counted : MethodName := ⟨RX3, "counted", "(I)I"⟩
abbrev cX3_countThere : ByteArray := prog_1_method_64_code
def yX3_countThere : MethodName := ⟨RX3, "countThere", "([I)I"⟩
abbrev cX3_countKept : ByteArray := prog_1_method_65_code
def yX3_countKept : MethodName := ⟨RX3, "countKept", "()I"⟩
def RX4 : String := "AirTalkersModel"
def TX4 : u_T := fun k => match k with
  | 0 => ("AirTalkersModel", "sizes", "[I", true)
  | 1 => ("AirTalkersModel", "rows", "[I", true)
  | 2 => ("AirTalkersModel", "moved", "[I", true)
  | 3 => ("AirTalkersModel", "lengths", "[I", true)
  | 4 => ("AirTalkersModel", "texts", "[B", true)
  | 5 => ("AirTalkersModel", "s", "[I", true)
  | 6 => ("AirTalkersModel", "draft", "[I", true)
  | 7 => ("AirTalkersModel", "then", "[I", true)
  | 8 => ("AirTalkersModel", "other", "[I", true)
  | 9 => ("AirTalkersModel", "past", "[I", true)
  | 10 => ("AirTalkersModel", "deeds", "I", false)
  | 11 => ("AirTalkersModel", "airs", "[I", true)
  | 12 => ("AirTalkersModel", "pasts", "[I", true)
  | 13 => ("AirTalkersModel", "kept", "[I", true)
  | 14 => ("AirTalkersModel", "asked", "I", false)
  | 15 => ("AirTalkersModel", "upper", "J", false)
  | 16 => ("AirTalkersModel", "lower", "J", false)
  | 17 => ("AirTalkersModel", "finding", "I", false)
  | 18 => ("AirTalkersModel", "found", "[I", true)
  | 19 => ("AirTalkersModel", "times", "[I", true)
  | 20 => ("AirTalkersModel", "parts", "[I", true)
  | _ => ("AirTalkersModel", "films", "[I", true)
def tyX4 : Nat → FieldType := fun k => match k with
  | 0 => .array .int
  | 1 => .array .int
  | 2 => .array .int
  | 3 => .array .int
  | 4 => .array .byte
  | 5 => .array .int
  | 6 => .array .int
  | 7 => .array .int
  | 8 => .array .int
  | 9 => .array .int
  | 10 => .int
  | 11 => .array .int
  | 12 => .array .int
  | 13 => .array .int
  | 14 => .int
  | 15 => .long
  | 16 => .long
  | 17 => .int
  | 18 => .array .int
  | 19 => .array .int
  | 20 => .array .int
  | _ => .array .int
abbrev wsX40 : List Cond := u_ws RX4 TX4 22
theorem nmX4 : ∀ a, a < 22 → ∀ b, b < 22 → a ≠ b → (TX4 a).2.1 ≠ (TX4 b).2.1 := by decide +kernel
theorem tyX4_ok : ∀ k, k < 22 → parseFieldDescriptor (TX4 k).2.2.1 = some (tyX4 k) := by decide +kernel
abbrev cX4_init : ByteArray := prog_6_method_1_code
def yX4_init : MethodName := ⟨RX4, "<init>", "()V"⟩
abbrev cX4_in : ByteArray := prog_6_method_3_code
def yX4_in : MethodName := ⟨RX4, "in", "(III)Z"⟩
abbrev cX4_finds : ByteArray := prog_6_method_4_code
def yX4_finds : MethodName := ⟨RX4, "finds", "(I)I"⟩
abbrev cX4_tells : ByteArray := prog_6_method_5_code
def yX4_tells : MethodName := ⟨RX4, "tells", "(I)I"⟩
abbrev cX4_isRow : ByteArray := prog_6_method_6_code
def yX4_isRow : MethodName := ⟨RX4, "isRow", "(I)Z"⟩
abbrev cX4_isText : ByteArray := prog_6_method_7_code
def yX4_isText : MethodName := ⟨RX4, "isText", "(I)Z"⟩
abbrev cX4_anew : ByteArray := prog_6_method_8_code
def yX4_anew : MethodName := ⟨RX4, "anew", "(II)V"⟩
abbrev cX4_row : ByteArray := prog_6_method_9_code
def yX4_row : MethodName := ⟨RX4, "row", "(II)I"⟩
abbrev cX4_lay : ByteArray := prog_6_method_10_code
def yX4_lay : MethodName := ⟨RX4, "lay", "(III)I"⟩
abbrev cX4_at : ByteArray := prog_6_method_11_code
def yX4_at : MethodName := ⟨RX4, "at", "(II)I"⟩
abbrev cX4_tear : ByteArray := prog_6_method_12_code
def yX4_tear : MethodName := ⟨RX4, "tear", "(I)I"⟩
abbrev cX4_lies : ByteArray := prog_6_method_13_code
def yX4_lies : MethodName := ⟨RX4, "lies", "(III)Z"⟩
abbrev cX4_copy : ByteArray := prog_6_method_14_code
def yX4_copy : MethodName := ⟨RX4, "copy", "(IIIII)I"⟩
abbrev cX4_mean : ByteArray := prog_6_method_15_code
def yX4_mean : MethodName := ⟨RX4, "mean", "(I)I"⟩
abbrev cX4_text : ByteArray := prog_6_method_16_code
def yX4_text : MethodName := ⟨RX4, "text", "(II)I"⟩
abbrev cX4_put : ByteArray := prog_6_method_17_code
def yX4_put : MethodName := ⟨RX4, "put", "(III)I"⟩
abbrev cX4_byteAt : ByteArray := prog_6_method_18_code
def yX4_byteAt : MethodName := ⟨RX4, "byteAt", "(II)I"⟩
abbrev cX4_skips : ByteArray := prog_6_method_19_code
def yX4_skips : MethodName := ⟨RX4, "skips", "(II)I"⟩
abbrev cX4_kindBy : ByteArray := prog_6_method_20_code
def yX4_kindBy : MethodName := ⟨RX4, "kindBy", "(I)I"⟩
abbrev cX4_reads : ByteArray := prog_6_method_21_code
def yX4_reads : MethodName := ⟨RX4, "reads", "(I)I"⟩
abbrev cX4_fault : ByteArray := prog_6_method_22_code
def yX4_fault : MethodName := ⟨RX4, "fault", "(I)I"⟩
abbrev cX4_air : ByteArray := prog_6_method_23_code
def yX4_air : MethodName := ⟨RX4, "air", "(I)I"⟩
abbrev cX4_isStation : ByteArray := prog_6_method_24_code
def yX4_isStation : MethodName := ⟨RX4, "isStation", "(I)Z"⟩
abbrev cX4_has : ByteArray := prog_6_method_25_code
def yX4_has : MethodName := ⟨RX4, "has", "(II)Z"⟩
abbrev cX4_is : ByteArray := prog_6_method_26_code
def yX4_is : MethodName := ⟨RX4, "is", "(II)Z"⟩
abbrev cX4_capped : ByteArray := prog_6_method_27_code
def yX4_capped : MethodName := ⟨RX4, "capped", "(I)I"⟩
abbrev cX4_doubled : ByteArray := prog_6_method_28_code
def yX4_doubled : MethodName := ⟨RX4, "doubled", "(III)I"⟩
abbrev cX4_waitBy : ByteArray := prog_6_method_29_code
def yX4_waitBy : MethodName := ⟨RX4, "waitBy", "(IIIII)I"⟩
abbrev cX4_wants : ByteArray := prog_6_method_30_code
def yX4_wants : MethodName := ⟨RX4, "wants", "([II)Z"⟩
abbrev cX4_of : ByteArray := prog_6_method_31_code
def yX4_of : MethodName := ⟨RX4, "of", "(II)I"⟩
abbrev cX4_station : ByteArray := prog_6_method_32_code
def yX4_station : MethodName := ⟨RX4, "station", "(II)I"⟩
abbrev cX4_wouldWait : ByteArray := prog_6_method_33_code
def yX4_wouldWait : MethodName := ⟨RX4, "wouldWait", "(II)I"⟩
abbrev cX4_mark : ByteArray := prog_6_method_34_code
def yX4_mark : MethodName := ⟨RX4, "mark", "(II)I"⟩
abbrev cX4_does : ByteArray := prog_6_method_35_code
def yX4_does : MethodName := ⟨RX4, "does", "()V"⟩
abbrev cX4_talkers : ByteArray := prog_6_method_36_code
def yX4_talkers : MethodName := ⟨RX4, "talkers", "([I)I"⟩
abbrev cX4_ones : ByteArray := prog_6_method_37_code
def yX4_ones : MethodName := ⟨RX4, "ones", "(I)I"⟩
abbrev cX4_clashes : ByteArray := prog_6_method_38_code
def yX4_clashes : MethodName := ⟨RX4, "clashes", "([II)V"⟩
abbrev cX4_goes : ByteArray := prog_6_method_39_code
def yX4_goes : MethodName := ⟨RX4, "goes", "([I)I"⟩
abbrev cX4_slot : ByteArray := prog_6_method_40_code
def yX4_slot : MethodName := ⟨RX4, "slot", "()I"⟩
abbrev cX4_give : ByteArray := prog_6_method_41_code
def yX4_give : MethodName := ⟨RX4, "give", "(II)I"⟩
abbrev cX4_drops : ByteArray := prog_6_method_42_code
def yX4_drops : MethodName := ⟨RX4, "drops", "([II)V"⟩
abbrev cX4_drop : ByteArray := prog_6_method_43_code
def yX4_drop : MethodName := ⟨RX4, "drop", "(I)I"⟩
abbrev cX4_first : ByteArray := prog_6_method_44_code
def yX4_first : MethodName := ⟨RX4, "first", "(II)I"⟩
abbrev cX4_undo : ByteArray := prog_6_method_45_code
def yX4_undo : MethodName := ⟨RX4, "undo", "(I)I"⟩
abbrev cX4_keep : ByteArray := prog_6_method_46_code
def yX4_keep : MethodName := ⟨RX4, "keep", "(I)I"⟩
abbrev cX4_on : ByteArray := prog_6_method_47_code
def yX4_on : MethodName := ⟨RX4, "on", "(I)I"⟩
abbrev cX4_copies : ByteArray := prog_6_method_48_code
def yX4_copies : MethodName := ⟨RX4, "copies", "([I[I)V"⟩
abbrev cX4_talks : ByteArray := prog_6_method_49_code
def yX4_talks : MethodName := ⟨RX4, "talks", "()I"⟩
abbrev cX4_later : ByteArray := prog_6_method_50_code
def yX4_later : MethodName := ⟨RX4, "later", "(II)I"⟩
abbrev cX4_lettersOf : ByteArray := prog_6_method_51_code
def yX4_lettersOf : MethodName := ⟨RX4, "lettersOf", "([I)I"⟩
abbrev cX4_done : ByteArray := prog_6_method_52_code
def yX4_done : MethodName := ⟨RX4, "done", "([I)I"⟩
abbrev cX4_ends : ByteArray := prog_6_method_53_code
def yX4_ends : MethodName := ⟨RX4, "ends", "()I"⟩
abbrev cX4_clash : ByteArray := prog_6_method_54_code
def yX4_clash : MethodName := ⟨RX4, "clash", "()I"⟩
abbrev cX4_most : ByteArray := prog_6_method_55_code
def yX4_most : MethodName := ⟨RX4, "most", "(I)I"⟩
abbrev cX4_best : ByteArray := prog_6_method_56_code
def yX4_best : MethodName := ⟨RX4, "best", "(I)I"⟩
abbrev cX4_silence : ByteArray := prog_6_method_57_code
def yX4_silence : MethodName := ⟨RX4, "silence", "(I)I"⟩
abbrev cX4_unfit : ByteArray := prog_6_method_58_code
def yX4_unfit : MethodName := ⟨RX4, "unfit", "(I)I"⟩
abbrev cX4_fitting : ByteArray := prog_6_method_59_code
def yX4_fitting : MethodName := ⟨RX4, "fitting", "(IIII)I"⟩
abbrev cX4_kinds : ByteArray := prog_6_method_60_code
def yX4_kinds : MethodName := ⟨RX4, "kinds", "(II)I"⟩
abbrev cX4_firsts : ByteArray := prog_6_method_61_code
def yX4_firsts : MethodName := ⟨RX4, "firsts", "(II)I"⟩
abbrev cX4_test : ByteArray := prog_6_method_62_code
def yX4_test : MethodName := ⟨RX4, "test", "(II)I"⟩
abbrev cX4_late : ByteArray := prog_6_method_63_code
def yX4_late : MethodName := ⟨RX4, "late", "()I"⟩
abbrev cX4_lastTurn : ByteArray := prog_6_method_64_code
def yX4_lastTurn : MethodName := ⟨RX4, "lastTurn", "(Z)I"⟩
abbrev cX4_twoTurns : ByteArray := prog_6_method_65_code
def yX4_twoTurns : MethodName := ⟨RX4, "twoTurns", "(Z)I"⟩
abbrev cX4_duel : ByteArray := prog_6_method_66_code
def yX4_duel : MethodName := ⟨RX4, "duel", "(I)I"⟩
abbrev cX4_lowest : ByteArray := prog_6_method_67_code
def yX4_lowest : MethodName := ⟨RX4, "lowest", "(JJ)V"⟩
abbrev cX4_chances : ByteArray := prog_6_method_68_code
def yX4_chances : MethodName := ⟨RX4, "chances", "(IIZ)V"⟩
abbrev cX4_odds : ByteArray := prog_6_method_69_code
def yX4_odds : MethodName := ⟨RX4, "odds", "(II)I"⟩
abbrev cX4_mid : ByteArray := prog_6_method_70_code
def yX4_mid : MethodName := ⟨RX4, "mid", "(II)I"⟩
abbrev cX4_lots : ByteArray := prog_6_method_71_code
def yX4_lots : MethodName := ⟨RX4, "lots", "(II)I"⟩
abbrev cX4_asked : ByteArray := prog_6_method_72_code
def yX4_asked : MethodName := ⟨RX4, "asked", "()I"⟩
abbrev cX4_upper : ByteArray := prog_6_method_73_code
def yX4_upper : MethodName := ⟨RX4, "upper", "()J"⟩
abbrev cX4_lower : ByteArray := prog_6_method_74_code
def yX4_lower : MethodName := ⟨RX4, "lower", "()J"⟩
abbrev cX4_ofKind : ByteArray := prog_6_method_75_code
def yX4_ofKind : MethodName := ⟨RX4, "ofKind", "(I)I"⟩
abbrev cX4_count : ByteArray := prog_6_method_76_code
def yX4_count : MethodName := ⟨RX4, "count", "(I)I"⟩
abbrev cX4_finding : ByteArray := prog_6_method_77_code
def yX4_finding : MethodName := ⟨RX4, "finding", "()I"⟩
abbrev cX4_findings : ByteArray := prog_6_method_78_code
def yX4_findings : MethodName := ⟨RX4, "findings", "(I)I"⟩
abbrev cX4_digest : ByteArray := prog_6_method_79_code
def yX4_digest : MethodName := ⟨RX4, "digest", "()J"⟩
def RJ6 : String := "java/lang/Integer"
def TJ6 : u_T := fun k => match k with
  | _ => ("", "", "", false)
def tyJ6 : Nat → FieldType := fun k => match k with
  | _ => .int
abbrev wsJ60 : List Cond := u_ws RJ6 TJ6 0
theorem nmJ6 : ∀ a, a < 0 → ∀ b, b < 0 → a ≠ b → (TJ6 a).2.1 ≠ (TJ6 b).2.1 := by decide +kernel
theorem tyJ6_ok : ∀ k, k < 0 → parseFieldDescriptor (TJ6 k).2.2.1 = some (tyJ6 k) := by decide +kernel
abbrev cJ6_bitCount_0f7a4 : ByteArray := prog_7_method_49_code
def yJ6_bitCount_0f7a4 : MethodName := ⟨RJ6, "bitCount", "(I)I"⟩
def RJ9 : String := "java/lang/Math"
def TJ9 : u_T := fun k => match k with
  | _ => ("", "", "", false)
def tyJ9 : Nat → FieldType := fun k => match k with
  | _ => .int
abbrev wsJ90 : List Cond := u_ws RJ9 TJ9 0
theorem nmJ9 : ∀ a, a < 0 → ∀ b, b < 0 → a ≠ b → (TJ9 a).2.1 ≠ (TJ9 b).2.1 := by decide +kernel
theorem tyJ9_ok : ∀ k, k < 0 → parseFieldDescriptor (TJ9 k).2.2.1 = some (tyJ9 k) := by decide +kernel
abbrev cJ9_max_7cf53 : ByteArray := prog_8_method_65_code
def yJ9_max_7cf53 : MethodName := ⟨RJ9, "max", "(II)I"⟩
abbrev cJ9_min_7cf53 : ByteArray := prog_8_method_69_code
def yJ9_min_7cf53 : MethodName := ⟨RJ9, "min", "(II)I"⟩
def RJ10 : String := "java/lang/System"
def TJ10 : u_T := fun k => match k with
  | _ => ("", "", "", false)
def tyJ10 : Nat → FieldType := fun k => match k with
  | _ => .int
abbrev wsJ100 : List Cond := u_ws RJ10 TJ10 0
theorem nmJ10 : ∀ a, a < 0 → ∀ b, b < 0 → a ≠ b → (TJ10 a).2.1 ≠ (TJ10 b).2.1 := by decide +kernel
theorem tyJ10_ok : ∀ k, k < 0 → parseFieldDescriptor (TJ10 k).2.2.1 = some (tyJ10 k) := by decide +kernel
def RL : String := "AirTalkersLaw"
abbrev cL_law : ByteArray := code
def yL_law : MethodName := ⟨RL, "law", "([I)Z"⟩
noncomputable def wsX2_init : List Cond := .code yX2_init cX2_init 1 none :: ([.methodLink RX2 3 objectInit, .instanceMethod objectInit, .code objectInit ⟨#[0xb1]⟩ 1 none])
noncomputable def wsX0_init : List Cond := .code yX0_init cX0_init 2 none :: ([.methodLink RX0 3 objectInit, .instanceMethod objectInit, .code objectInit ⟨#[0xb1]⟩ 1 none, .classLink RX0 9 RX2, .fieldLink RX0 11 "AirTalkers$Air" "stations" "[LAirTalkers$Station;", .fieldLink RX0 17 "AirTalkers$Air" "size" "I", .fieldLink RX0 21 "AirTalkers$Air" "slotNumber" "I", .fieldLink RX0 24 "AirTalkers$Air" "heard" "I", .fieldLink RX0 27 "AirTalkers$Air" "lost" "I", .fieldLink RX0 30 "AirTalkers$Air" "talked" "Z", .instantiable RX2 6, .initialized RX2, .instanceMethod yX2_init, .code yX2_init cX2_init 1 none, .methodLink RX2 3 objectInit] ++ wsX00 ++ wsX20)
noncomputable def wsX2_become : List Cond := .code yX2_become cX2_become 2 none :: ([.fieldLink RX2 9 "AirTalkers$Station" "kind" "I", .fieldLink RX2 15 "AirTalkers$Station" "firstWait" "I", .fieldLink RX2 18 "AirTalkers$Station" "step" "I", .fieldLink RX2 21 "AirTalkers$Station" "letters" "I", .fieldLink RX2 24 "AirTalkers$Station" "waiting" "I", .fieldLink RX2 27 "AirTalkers$Station" "clashes" "I"] ++ wsX20)
noncomputable def wsX0_become : List Cond := .code yX0_become cX0_become 3 none :: ([.fieldLink RX0 17 "AirTalkers$Air" "size" "I", .fieldLink RX0 21 "AirTalkers$Air" "slotNumber" "I", .fieldLink RX0 24 "AirTalkers$Air" "heard" "I", .fieldLink RX0 27 "AirTalkers$Air" "lost" "I", .fieldLink RX0 30 "AirTalkers$Air" "talked" "Z", .fieldLink RX0 11 "AirTalkers$Air" "stations" "[LAirTalkers$Station;", .methodLink RX0 35 yX2_become, .instanceMethod yX2_become, .selects RX2 yX2_become yX2_become, .initialized RX2, .code yX2_become cX2_become 2 none, .fieldLink RX2 9 "AirTalkers$Station" "kind" "I", .fieldLink RX2 15 "AirTalkers$Station" "firstWait" "I", .fieldLink RX2 18 "AirTalkers$Station" "step" "I", .fieldLink RX2 21 "AirTalkers$Station" "letters" "I", .fieldLink RX2 24 "AirTalkers$Station" "waiting" "I", .fieldLink RX2 27 "AirTalkers$Station" "clashes" "I"] ++ wsX00 ++ wsX20)
noncomputable def wsX0_has : List Cond := .code yX0_has cX0_has 2 (some .boolean) :: ([.fieldLink RX0 17 "AirTalkers$Air" "size" "I"] ++ wsX00)
noncomputable def wsX0_sets : List Cond := .code yX0_sets cX0_sets 1 (some .int) :: ([.fieldLink RX0 17 "AirTalkers$Air" "size" "I"] ++ wsX00)
noncomputable def wsX0_kindOf : List Cond := .code yX0_kindOf cX0_kindOf 2 (some .int) :: ([])
noncomputable def wsX2_rest : List Cond := .code yX2_rest cX2_rest 1 none :: ([.fieldLink RX2 27 "AirTalkers$Station" "clashes" "I", .fieldLink RX2 24 "AirTalkers$Station" "waiting" "I"] ++ wsX20)
noncomputable def wsX0_readStation : List Cond := .code yX0_readStation cX0_readStation 7 (some .int) :: ([.fieldLink RX0 17 "AirTalkers$Air" "size" "I", .fieldLink RX0 11 "AirTalkers$Air" "stations" "[LAirTalkers$Station;", .fieldLink RX0 47 "AirTalkers$Station" "kind" "I", .fieldLink RX0 50 "AirTalkers$Station" "firstWait" "I", .fieldLink RX0 53 "AirTalkers$Station" "step" "I", .fieldLink RX0 56 "AirTalkers$Station" "letters" "I", .methodLink RX0 43 yX0_kindOf, .static yX0_kindOf, .initialized RX0, .code yX0_kindOf cX0_kindOf 2 (some .int), .methodLink RX0 59 yX2_rest, .instanceMethod yX2_rest, .selects RX2 yX2_rest yX2_rest, .initialized RX2, .code yX2_rest cX2_rest 1 none, .fieldLink RX2 27 "AirTalkers$Station" "clashes" "I", .fieldLink RX2 24 "AirTalkers$Station" "waiting" "I"] ++ wsX00 ++ wsX20)
noncomputable def wsX0_read_r1 : List Cond := [Cond.fieldLink RX0 17 "AirTalkers$Air" "size" "I", Cond.fieldLink RX0 21 "AirTalkers$Air" "slotNumber" "I", Cond.fieldLink RX0 24 "AirTalkers$Air" "heard" "I", Cond.fieldLink RX0 27 "AirTalkers$Air" "lost" "I", Cond.fieldLink RX0 30 "AirTalkers$Air" "talked" "Z", Cond.methodLink RX0 39 yX0_readStation, Cond.instanceMethod yX0_readStation, Cond.selects RX0 yX0_readStation yX0_readStation, Cond.initialized RX0, Cond.code yX0_readStation cX0_readStation 7 (some .int), Cond.fieldLink RX0 11 "AirTalkers$Air" "stations" "[LAirTalkers$Station;", Cond.fieldLink RX0 47 "AirTalkers$Station" "kind" "I", Cond.fieldLink RX0 50 "AirTalkers$Station" "firstWait" "I", Cond.fieldLink RX0 53 "AirTalkers$Station" "step" "I", Cond.fieldLink RX0 56 "AirTalkers$Station" "letters" "I", Cond.methodLink RX0 43 yX0_kindOf, Cond.static yX0_kindOf, Cond.code yX0_kindOf cX0_kindOf 2 (some .int), Cond.methodLink RX0 59 yX2_rest, Cond.instanceMethod yX2_rest, Cond.selects RX2 yX2_rest yX2_rest, Cond.initialized RX2, Cond.code yX2_rest cX2_rest 1 none, Cond.fieldLink RX2 27 "AirTalkers$Station" "clashes" "I"]
noncomputable def wsX0_read_r2 : List Cond := [Cond.fieldLink RX2 24 "AirTalkers$Station" "waiting" "I"]
noncomputable def wsX0_read : List Cond := .code yX0_read cX0_read 5 (some .int) :: ((wsX0_read_r1 ++ wsX0_read_r2) ++ wsX00 ++ wsX20)
noncomputable def wsX2_isOf : List Cond := .code yX2_isOf cX2_isOf 2 (some .boolean) :: ([.fieldLink RX2 9 "AirTalkers$Station" "kind" "I"] ++ wsX20)
noncomputable def wsX2_wants : List Cond := .code yX2_wants cX2_wants 2 (some .boolean) :: ([.fieldLink RX2 21 "AirTalkers$Station" "letters" "I", .fieldLink RX2 24 "AirTalkers$Station" "waiting" "I", .methodLink RX2 34 yX2_isOf, .instanceMethod yX2_isOf, .selects RX2 yX2_isOf yX2_isOf, .initialized RX2, .code yX2_isOf cX2_isOf 2 (some .boolean), .fieldLink RX2 9 "AirTalkers$Station" "kind" "I"] ++ wsX20)
noncomputable def wsX0_talkers : List Cond := .code yX0_talkers cX0_talkers 4 (some .int) :: ([.fieldLink RX0 17 "AirTalkers$Air" "size" "I", .fieldLink RX0 11 "AirTalkers$Air" "stations" "[LAirTalkers$Station;", .fieldLink RX0 30 "AirTalkers$Air" "talked" "Z", .methodLink RX0 66 yX2_wants, .instanceMethod yX2_wants, .selects RX2 yX2_wants yX2_wants, .initialized RX2, .code yX2_wants cX2_wants 2 (some .boolean), .fieldLink RX2 21 "AirTalkers$Station" "letters" "I", .fieldLink RX2 24 "AirTalkers$Station" "waiting" "I", .methodLink RX2 34 yX2_isOf, .instanceMethod yX2_isOf, .selects RX2 yX2_isOf yX2_isOf, .code yX2_isOf cX2_isOf 2 (some .boolean), .fieldLink RX2 9 "AirTalkers$Station" "kind" "I"] ++ wsX00 ++ wsX20)
noncomputable def wsJ6_bitCount_0f7a4 : List Cond := .code yJ6_bitCount_0f7a4 cJ6_bitCount_0f7a4 1 (some .int) :: ([.constant RJ6 265 (1431655765), .constant RJ6 266 (858993459), .constant RJ6 267 (252645135)])
noncomputable def wsX2_isHeard : List Cond := .code yX2_isHeard cX2_isHeard 1 none :: ([.fieldLink RX2 21 "AirTalkers$Station" "letters" "I", .fieldLink RX2 27 "AirTalkers$Station" "clashes" "I"] ++ wsX20)
noncomputable def wsX2_doubleWait : List Cond := .code yX2_doubleWait cX2_doubleWait 3 (some .int) :: ([.methodLink RX2 38 Lib.Math.min.name, .static Lib.Math.min.name, .initialized "java/lang/Math", .code Lib.Math.min.name Lib.Math.min.code 2 (some .int), .methodLink RX2 44 Lib.Math.max.name, .static Lib.Math.max.name, .code Lib.Math.max.name Lib.Math.max.code 2 (some .int), .fieldLink RX2 15 "AirTalkers$Station" "firstWait" "I", .fieldLink RX2 18 "AirTalkers$Station" "step" "I"] ++ wsX20)
noncomputable def wsX2_plainWait : List Cond := .code yX2_plainWait cX2_plainWait 2 (some .int) :: ([.fieldLink RX2 15 "AirTalkers$Station" "firstWait" "I", .fieldLink RX2 18 "AirTalkers$Station" "step" "I", .methodLink RX2 38 Lib.Math.min.name, .static Lib.Math.min.name, .initialized "java/lang/Math", .code Lib.Math.min.name Lib.Math.min.code 2 (some .int)] ++ wsX20)
noncomputable def wsX2_waitBehind : List Cond := .code yX2_waitBehind cX2_waitBehind 4 (some .int) :: ([.fieldLink RX2 9 "AirTalkers$Station" "kind" "I", .fieldLink RX2 15 "AirTalkers$Station" "firstWait" "I", .fieldLink RX2 18 "AirTalkers$Station" "step" "I", .methodLink RX2 47 yX2_doubleWait, .instanceMethod yX2_doubleWait, .selects RX2 yX2_doubleWait yX2_doubleWait, .initialized RX2, .code yX2_doubleWait cX2_doubleWait 3 (some .int), .methodLink RX2 38 Lib.Math.min.name, .static Lib.Math.min.name, .initialized "java/lang/Math", .code Lib.Math.min.name Lib.Math.min.code 2 (some .int), .methodLink RX2 44 Lib.Math.max.name, .static Lib.Math.max.name, .code Lib.Math.max.name Lib.Math.max.code 2 (some .int), .methodLink RX2 51 yX2_plainWait, .instanceMethod yX2_plainWait, .selects RX2 yX2_plainWait yX2_plainWait, .code yX2_plainWait cX2_plainWait 2 (some .int)] ++ wsX20)
noncomputable def wsX2_meets_r1 : List Cond := [Cond.fieldLink RX2 27 "AirTalkers$Station" "clashes" "I", Cond.fieldLink RX2 9 "AirTalkers$Station" "kind" "I", Cond.fieldLink RX2 21 "AirTalkers$Station" "letters" "I", Cond.fieldLink RX2 24 "AirTalkers$Station" "waiting" "I", Cond.methodLink RX2 54 yX2_rest, Cond.instanceMethod yX2_rest, Cond.selects RX2 yX2_rest yX2_rest, Cond.initialized RX2, Cond.code yX2_rest cX2_rest 1 none, Cond.methodLink RX2 57 yX2_waitBehind, Cond.instanceMethod yX2_waitBehind, Cond.selects RX2 yX2_waitBehind yX2_waitBehind, Cond.code yX2_waitBehind cX2_waitBehind 4 (some .int), Cond.fieldLink RX2 15 "AirTalkers$Station" "firstWait" "I", Cond.fieldLink RX2 18 "AirTalkers$Station" "step" "I", Cond.methodLink RX2 47 yX2_doubleWait, Cond.instanceMethod yX2_doubleWait, Cond.selects RX2 yX2_doubleWait yX2_doubleWait, Cond.code yX2_doubleWait cX2_doubleWait 3 (some .int), Cond.methodLink RX2 38 Lib.Math.min.name, Cond.static Lib.Math.min.name, Cond.initialized "java/lang/Math", Cond.code Lib.Math.min.name Lib.Math.min.code 2 (some .int), Cond.methodLink RX2 44 Lib.Math.max.name]
noncomputable def wsX2_meets_r2 : List Cond := [Cond.static Lib.Math.max.name, Cond.code Lib.Math.max.name Lib.Math.max.code 2 (some .int), Cond.methodLink RX2 51 yX2_plainWait, Cond.instanceMethod yX2_plainWait, Cond.selects RX2 yX2_plainWait yX2_plainWait, Cond.code yX2_plainWait cX2_plainWait 2 (some .int)]
noncomputable def wsX2_meets : List Cond := .code yX2_meets cX2_meets 2 (some .boolean) :: ((wsX2_meets_r1 ++ wsX2_meets_r2) ++ wsX20)
noncomputable def wsX0_goBy_r1 : List Cond := [Cond.fieldLink RX0 17 "AirTalkers$Air" "size" "I", Cond.fieldLink RX0 11 "AirTalkers$Air" "stations" "[LAirTalkers$Station;", Cond.fieldLink RX0 78 "AirTalkers$Station" "waiting" "I", Cond.fieldLink RX0 24 "AirTalkers$Air" "heard" "I", Cond.fieldLink RX0 21 "AirTalkers$Air" "slotNumber" "I", Cond.fieldLink RX0 27 "AirTalkers$Air" "lost" "I", Cond.fieldLink RX0 30 "AirTalkers$Air" "talked" "Z", Cond.methodLink RX0 70 yX0_talkers, Cond.instanceMethod yX0_talkers, Cond.selects RX0 yX0_talkers yX0_talkers, Cond.initialized RX0, Cond.code yX0_talkers cX0_talkers 4 (some .int), Cond.methodLink RX0 66 yX2_wants, Cond.instanceMethod yX2_wants, Cond.selects RX2 yX2_wants yX2_wants, Cond.initialized RX2, Cond.code yX2_wants cX2_wants 2 (some .boolean), Cond.fieldLink RX2 21 "AirTalkers$Station" "letters" "I", Cond.fieldLink RX2 24 "AirTalkers$Station" "waiting" "I", Cond.methodLink RX2 34 yX2_isOf, Cond.instanceMethod yX2_isOf, Cond.selects RX2 yX2_isOf yX2_isOf, Cond.code yX2_isOf cX2_isOf 2 (some .boolean), Cond.fieldLink RX2 9 "AirTalkers$Station" "kind" "I"]
noncomputable def wsX0_goBy_r2 : List Cond := [Cond.methodLink RX0 73 yJ6_bitCount_0f7a4, Cond.static yJ6_bitCount_0f7a4, Cond.initialized RJ6, Cond.code yJ6_bitCount_0f7a4 cJ6_bitCount_0f7a4 1 (some .int), Cond.constant RJ6 265 (1431655765), Cond.constant RJ6 266 (858993459), Cond.constant RJ6 267 (252645135), Cond.methodLink RX0 81 yX2_isHeard, Cond.instanceMethod yX2_isHeard, Cond.selects RX2 yX2_isHeard yX2_isHeard, Cond.code yX2_isHeard cX2_isHeard 1 none, Cond.fieldLink RX2 27 "AirTalkers$Station" "clashes" "I", Cond.methodLink RX0 84 yX2_meets, Cond.instanceMethod yX2_meets, Cond.selects RX2 yX2_meets yX2_meets, Cond.code yX2_meets cX2_meets 2 (some .boolean), Cond.methodLink RX2 54 yX2_rest, Cond.instanceMethod yX2_rest, Cond.selects RX2 yX2_rest yX2_rest, Cond.code yX2_rest cX2_rest 1 none, Cond.methodLink RX2 57 yX2_waitBehind, Cond.instanceMethod yX2_waitBehind, Cond.selects RX2 yX2_waitBehind yX2_waitBehind, Cond.code yX2_waitBehind cX2_waitBehind 4 (some .int)]
noncomputable def wsX0_goBy_r3 : List Cond := [Cond.fieldLink RX2 15 "AirTalkers$Station" "firstWait" "I", Cond.fieldLink RX2 18 "AirTalkers$Station" "step" "I", Cond.methodLink RX2 47 yX2_doubleWait, Cond.instanceMethod yX2_doubleWait, Cond.selects RX2 yX2_doubleWait yX2_doubleWait, Cond.code yX2_doubleWait cX2_doubleWait 3 (some .int), Cond.methodLink RX2 38 Lib.Math.min.name, Cond.static Lib.Math.min.name, Cond.initialized "java/lang/Math", Cond.code Lib.Math.min.name Lib.Math.min.code 2 (some .int), Cond.methodLink RX2 44 Lib.Math.max.name, Cond.static Lib.Math.max.name, Cond.code Lib.Math.max.name Lib.Math.max.code 2 (some .int), Cond.methodLink RX2 51 yX2_plainWait, Cond.instanceMethod yX2_plainWait, Cond.selects RX2 yX2_plainWait yX2_plainWait, Cond.code yX2_plainWait cX2_plainWait 2 (some .int)]
noncomputable def wsX0_goBy : List Cond := .code yX0_goBy cX0_goBy 6 (some .int) :: ((wsX0_goBy_r1 ++ (wsX0_goBy_r2 ++ wsX0_goBy_r3)) ++ wsX00 ++ wsX20)
noncomputable def wsX0_lettersBut : List Cond := .code yX0_lettersBut cX0_lettersBut 4 (some .int) :: ([.fieldLink RX0 17 "AirTalkers$Air" "size" "I", .fieldLink RX0 11 "AirTalkers$Air" "stations" "[LAirTalkers$Station;", .fieldLink RX0 56 "AirTalkers$Station" "letters" "I"] ++ wsX00 ++ wsX20)
noncomputable def wsX0_goToEnd_r1 : List Cond := [Cond.methodLink RX0 88 yX0_lettersBut, Cond.instanceMethod yX0_lettersBut, Cond.selects RX0 yX0_lettersBut yX0_lettersBut, Cond.initialized RX0, Cond.code yX0_lettersBut cX0_lettersBut 4 (some .int), Cond.fieldLink RX0 17 "AirTalkers$Air" "size" "I", Cond.fieldLink RX0 11 "AirTalkers$Air" "stations" "[LAirTalkers$Station;", Cond.fieldLink RX0 56 "AirTalkers$Station" "letters" "I", Cond.methodLink RX0 91 yX0_goBy, Cond.instanceMethod yX0_goBy, Cond.selects RX0 yX0_goBy yX0_goBy, Cond.code yX0_goBy cX0_goBy 6 (some .int), Cond.fieldLink RX0 78 "AirTalkers$Station" "waiting" "I", Cond.fieldLink RX0 24 "AirTalkers$Air" "heard" "I", Cond.fieldLink RX0 21 "AirTalkers$Air" "slotNumber" "I", Cond.fieldLink RX0 27 "AirTalkers$Air" "lost" "I", Cond.fieldLink RX0 30 "AirTalkers$Air" "talked" "Z", Cond.methodLink RX0 70 yX0_talkers, Cond.instanceMethod yX0_talkers, Cond.selects RX0 yX0_talkers yX0_talkers, Cond.code yX0_talkers cX0_talkers 4 (some .int), Cond.methodLink RX0 66 yX2_wants, Cond.instanceMethod yX2_wants, Cond.selects RX2 yX2_wants yX2_wants]
noncomputable def wsX0_goToEnd_r2 : List Cond := [Cond.initialized RX2, Cond.code yX2_wants cX2_wants 2 (some .boolean), Cond.fieldLink RX2 21 "AirTalkers$Station" "letters" "I", Cond.fieldLink RX2 24 "AirTalkers$Station" "waiting" "I", Cond.methodLink RX2 34 yX2_isOf, Cond.instanceMethod yX2_isOf, Cond.selects RX2 yX2_isOf yX2_isOf, Cond.code yX2_isOf cX2_isOf 2 (some .boolean), Cond.fieldLink RX2 9 "AirTalkers$Station" "kind" "I", Cond.methodLink RX0 73 yJ6_bitCount_0f7a4, Cond.static yJ6_bitCount_0f7a4, Cond.initialized RJ6, Cond.code yJ6_bitCount_0f7a4 cJ6_bitCount_0f7a4 1 (some .int), Cond.constant RJ6 265 (1431655765), Cond.constant RJ6 266 (858993459), Cond.constant RJ6 267 (252645135), Cond.methodLink RX0 81 yX2_isHeard, Cond.instanceMethod yX2_isHeard, Cond.selects RX2 yX2_isHeard yX2_isHeard, Cond.code yX2_isHeard cX2_isHeard 1 none, Cond.fieldLink RX2 27 "AirTalkers$Station" "clashes" "I", Cond.methodLink RX0 84 yX2_meets, Cond.instanceMethod yX2_meets, Cond.selects RX2 yX2_meets yX2_meets]
noncomputable def wsX0_goToEnd_r3 : List Cond := [Cond.code yX2_meets cX2_meets 2 (some .boolean), Cond.methodLink RX2 54 yX2_rest, Cond.instanceMethod yX2_rest, Cond.selects RX2 yX2_rest yX2_rest, Cond.code yX2_rest cX2_rest 1 none, Cond.methodLink RX2 57 yX2_waitBehind, Cond.instanceMethod yX2_waitBehind, Cond.selects RX2 yX2_waitBehind yX2_waitBehind, Cond.code yX2_waitBehind cX2_waitBehind 4 (some .int), Cond.fieldLink RX2 15 "AirTalkers$Station" "firstWait" "I", Cond.fieldLink RX2 18 "AirTalkers$Station" "step" "I", Cond.methodLink RX2 47 yX2_doubleWait, Cond.instanceMethod yX2_doubleWait, Cond.selects RX2 yX2_doubleWait yX2_doubleWait, Cond.code yX2_doubleWait cX2_doubleWait 3 (some .int), Cond.methodLink RX2 38 Lib.Math.min.name, Cond.static Lib.Math.min.name, Cond.initialized "java/lang/Math", Cond.code Lib.Math.min.name Lib.Math.min.code 2 (some .int), Cond.methodLink RX2 44 Lib.Math.max.name, Cond.static Lib.Math.max.name, Cond.code Lib.Math.max.name Lib.Math.max.code 2 (some .int), Cond.methodLink RX2 51 yX2_plainWait, Cond.instanceMethod yX2_plainWait]
noncomputable def wsX0_goToEnd_r4 : List Cond := [Cond.selects RX2 yX2_plainWait yX2_plainWait, Cond.code yX2_plainWait cX2_plainWait 2 (some .int)]
noncomputable def wsX0_goToEnd : List Cond := .code yX0_goToEnd cX0_goToEnd 2 (some .int) :: ((wsX0_goToEnd_r1 ++ (wsX0_goToEnd_r2 ++ (wsX0_goToEnd_r3 ++ wsX0_goToEnd_r4))) ++ wsX00 ++ wsX20)
noncomputable def wsX0_countOf : List Cond := .code yX0_countOf cX0_countOf 4 (some .int) :: ([.fieldLink RX0 17 "AirTalkers$Air" "size" "I", .fieldLink RX0 11 "AirTalkers$Air" "stations" "[LAirTalkers$Station;", .methodLink RX0 94 yX2_isOf, .instanceMethod yX2_isOf, .selects RX2 yX2_isOf yX2_isOf, .initialized RX2, .code yX2_isOf cX2_isOf 2 (some .boolean), .fieldLink RX2 9 "AirTalkers$Station" "kind" "I"] ++ wsX00 ++ wsX20)
noncomputable def wsX0_act_r1 : List Cond := [Cond.fieldLink RX0 11 "AirTalkers$Air" "stations" "[LAirTalkers$Station;", Cond.fieldLink RX0 56 "AirTalkers$Station" "letters" "I", Cond.fieldLink RX0 50 "AirTalkers$Station" "firstWait" "I", Cond.methodLink RX0 97 yX0_has, Cond.instanceMethod yX0_has, Cond.selects RX0 yX0_has yX0_has, Cond.initialized RX0, Cond.code yX0_has cX0_has 2 (some .boolean), Cond.fieldLink RX0 17 "AirTalkers$Air" "size" "I", Cond.methodLink RX0 91 yX0_goBy, Cond.instanceMethod yX0_goBy, Cond.selects RX0 yX0_goBy yX0_goBy, Cond.code yX0_goBy cX0_goBy 6 (some .int), Cond.fieldLink RX0 78 "AirTalkers$Station" "waiting" "I", Cond.fieldLink RX0 24 "AirTalkers$Air" "heard" "I", Cond.fieldLink RX0 21 "AirTalkers$Air" "slotNumber" "I", Cond.fieldLink RX0 27 "AirTalkers$Air" "lost" "I", Cond.fieldLink RX0 30 "AirTalkers$Air" "talked" "Z", Cond.methodLink RX0 70 yX0_talkers, Cond.instanceMethod yX0_talkers, Cond.selects RX0 yX0_talkers yX0_talkers, Cond.code yX0_talkers cX0_talkers 4 (some .int), Cond.methodLink RX0 66 yX2_wants, Cond.instanceMethod yX2_wants]
noncomputable def wsX0_act_r2 : List Cond := [Cond.selects RX2 yX2_wants yX2_wants, Cond.initialized RX2, Cond.code yX2_wants cX2_wants 2 (some .boolean), Cond.fieldLink RX2 21 "AirTalkers$Station" "letters" "I", Cond.fieldLink RX2 24 "AirTalkers$Station" "waiting" "I", Cond.methodLink RX2 34 yX2_isOf, Cond.instanceMethod yX2_isOf, Cond.selects RX2 yX2_isOf yX2_isOf, Cond.code yX2_isOf cX2_isOf 2 (some .boolean), Cond.fieldLink RX2 9 "AirTalkers$Station" "kind" "I", Cond.methodLink RX0 73 yJ6_bitCount_0f7a4, Cond.static yJ6_bitCount_0f7a4, Cond.initialized RJ6, Cond.code yJ6_bitCount_0f7a4 cJ6_bitCount_0f7a4 1 (some .int), Cond.constant RJ6 265 (1431655765), Cond.constant RJ6 266 (858993459), Cond.constant RJ6 267 (252645135), Cond.methodLink RX0 81 yX2_isHeard, Cond.instanceMethod yX2_isHeard, Cond.selects RX2 yX2_isHeard yX2_isHeard, Cond.code yX2_isHeard cX2_isHeard 1 none, Cond.fieldLink RX2 27 "AirTalkers$Station" "clashes" "I", Cond.methodLink RX0 84 yX2_meets, Cond.instanceMethod yX2_meets]
noncomputable def wsX0_act_r3 : List Cond := [Cond.selects RX2 yX2_meets yX2_meets, Cond.code yX2_meets cX2_meets 2 (some .boolean), Cond.methodLink RX2 54 yX2_rest, Cond.instanceMethod yX2_rest, Cond.selects RX2 yX2_rest yX2_rest, Cond.code yX2_rest cX2_rest 1 none, Cond.methodLink RX2 57 yX2_waitBehind, Cond.instanceMethod yX2_waitBehind, Cond.selects RX2 yX2_waitBehind yX2_waitBehind, Cond.code yX2_waitBehind cX2_waitBehind 4 (some .int), Cond.fieldLink RX2 15 "AirTalkers$Station" "firstWait" "I", Cond.fieldLink RX2 18 "AirTalkers$Station" "step" "I", Cond.methodLink RX2 47 yX2_doubleWait, Cond.instanceMethod yX2_doubleWait, Cond.selects RX2 yX2_doubleWait yX2_doubleWait, Cond.code yX2_doubleWait cX2_doubleWait 3 (some .int), Cond.methodLink RX2 38 Lib.Math.min.name, Cond.static Lib.Math.min.name, Cond.initialized "java/lang/Math", Cond.code Lib.Math.min.name Lib.Math.min.code 2 (some .int), Cond.methodLink RX2 44 Lib.Math.max.name, Cond.static Lib.Math.max.name, Cond.code Lib.Math.max.name Lib.Math.max.code 2 (some .int), Cond.methodLink RX2 51 yX2_plainWait]
noncomputable def wsX0_act_r4 : List Cond := [Cond.instanceMethod yX2_plainWait, Cond.selects RX2 yX2_plainWait yX2_plainWait, Cond.code yX2_plainWait cX2_plainWait 2 (some .int), Cond.methodLink RX0 59 yX2_rest]
noncomputable def wsX0_act : List Cond := .code yX0_act cX0_act 8 (some .int) :: ((wsX0_act_r1 ++ (wsX0_act_r2 ++ (wsX0_act_r3 ++ wsX0_act_r4))) ++ wsX00 ++ wsX20)
noncomputable def wsX1_init : List Cond := .code yX1_init cX1_init 1 none :: ([.methodLink RX1 3 objectInit, .instanceMethod objectInit, .code objectInit ⟨#[0xb1]⟩ 1 none, .arrayClass .int, .fieldLink RX1 9 "AirTalkers$Deeds" "numbers" "[I", .fieldLink RX1 15 "AirTalkers$Deeds" "size" "I"] ++ wsX10)
noncomputable def wsX1_hasRoomFor : List Cond := .code yX1_hasRoomFor cX1_hasRoomFor 2 (some .boolean) :: ([.fieldLink RX1 15 "AirTalkers$Deeds" "size" "I"] ++ wsX10)
noncomputable def wsX1_add : List Cond := .code yX1_add cX1_add 2 none :: ([.fieldLink RX1 15 "AirTalkers$Deeds" "size" "I", .fieldLink RX1 9 "AirTalkers$Deeds" "numbers" "[I"] ++ wsX10)
noncomputable def wsX1_become : List Cond := .code yX1_become cX1_become 2 none :: ([.fieldLink RX1 9 "AirTalkers$Deeds" "numbers" "[I", .methodLink RX1 19 arraycopyName, .native arraycopyName, .static arraycopyName, .initialized "java/lang/System", .fieldLink RX1 15 "AirTalkers$Deeds" "size" "I"] ++ wsX10)
noncomputable def wsX2_holdsBack : List Cond := .code yX2_holdsBack cX2_holdsBack 2 (some .boolean) :: ([.fieldLink RX2 21 "AirTalkers$Station" "letters" "I", .fieldLink RX2 24 "AirTalkers$Station" "waiting" "I", .methodLink RX2 34 yX2_isOf, .instanceMethod yX2_isOf, .selects RX2 yX2_isOf yX2_isOf, .initialized RX2, .code yX2_isOf cX2_isOf 2 (some .boolean), .fieldLink RX2 9 "AirTalkers$Station" "kind" "I"] ++ wsX20)
noncomputable def wsX2_told : List Cond := .code yX2_told cX2_told 3 (some .int) :: ([.fieldLink RX2 9 "AirTalkers$Station" "kind" "I", .fieldLink RX2 15 "AirTalkers$Station" "firstWait" "I", .fieldLink RX2 18 "AirTalkers$Station" "step" "I", .fieldLink RX2 21 "AirTalkers$Station" "letters" "I", .fieldLink RX2 24 "AirTalkers$Station" "waiting" "I", .fieldLink RX2 27 "AirTalkers$Station" "clashes" "I", .methodLink RX2 60 yX2_wants, .instanceMethod yX2_wants, .selects RX2 yX2_wants yX2_wants, .initialized RX2, .code yX2_wants cX2_wants 2 (some .boolean), .methodLink RX2 34 yX2_isOf, .instanceMethod yX2_isOf, .selects RX2 yX2_isOf yX2_isOf, .code yX2_isOf cX2_isOf 2 (some .boolean)] ++ wsX20)
noncomputable def wsX2_tellsAs_r1 : List Cond := [Cond.fieldLink RX2 27 "AirTalkers$Station" "clashes" "I", Cond.methodLink RX2 57 yX2_waitBehind, Cond.instanceMethod yX2_waitBehind, Cond.selects RX2 yX2_waitBehind yX2_waitBehind, Cond.initialized RX2, Cond.code yX2_waitBehind cX2_waitBehind 4 (some .int), Cond.fieldLink RX2 9 "AirTalkers$Station" "kind" "I", Cond.fieldLink RX2 15 "AirTalkers$Station" "firstWait" "I", Cond.fieldLink RX2 18 "AirTalkers$Station" "step" "I", Cond.methodLink RX2 47 yX2_doubleWait, Cond.instanceMethod yX2_doubleWait, Cond.selects RX2 yX2_doubleWait yX2_doubleWait, Cond.code yX2_doubleWait cX2_doubleWait 3 (some .int), Cond.methodLink RX2 38 Lib.Math.min.name, Cond.static Lib.Math.min.name, Cond.initialized "java/lang/Math", Cond.code Lib.Math.min.name Lib.Math.min.code 2 (some .int), Cond.methodLink RX2 44 Lib.Math.max.name, Cond.static Lib.Math.max.name, Cond.code Lib.Math.max.name Lib.Math.max.code 2 (some .int), Cond.methodLink RX2 51 yX2_plainWait, Cond.instanceMethod yX2_plainWait, Cond.selects RX2 yX2_plainWait yX2_plainWait, Cond.code yX2_plainWait cX2_plainWait 2 (some .int)]
noncomputable def wsX2_tellsAs_r2 : List Cond := [Cond.methodLink RX2 64 yX2_holdsBack, Cond.instanceMethod yX2_holdsBack, Cond.selects RX2 yX2_holdsBack yX2_holdsBack, Cond.code yX2_holdsBack cX2_holdsBack 2 (some .boolean), Cond.fieldLink RX2 21 "AirTalkers$Station" "letters" "I", Cond.fieldLink RX2 24 "AirTalkers$Station" "waiting" "I", Cond.methodLink RX2 34 yX2_isOf, Cond.instanceMethod yX2_isOf, Cond.selects RX2 yX2_isOf yX2_isOf, Cond.code yX2_isOf cX2_isOf 2 (some .boolean)]
noncomputable def wsX2_tellsAs : List Cond := .code yX2_tellsAs cX2_tellsAs 6 (some .int) :: ((wsX2_tellsAs_r1 ++ wsX2_tellsAs_r2) ++ wsX20)
noncomputable def wsX3_init_r1 : List Cond := [Cond.methodLink RX3 1 objectInit, Cond.instanceMethod objectInit, Cond.code objectInit ⟨#[0xb1]⟩ 1 none, Cond.classLink RX3 9 "[[I", Cond.arrayClass .int, Cond.fieldLink RX3 11 "AirTalkers" "rows" "[[I", Cond.fieldLink RX3 14 "AirTalkers" "rowSizes" "[I", Cond.classLink RX3 18 "[[B", Cond.arrayClass .byte, Cond.fieldLink RX3 20 "AirTalkers" "texts" "[[B", Cond.fieldLink RX3 23 "AirTalkers" "textSizes" "[I", Cond.classLink RX3 26 RX0, Cond.instantiable RX0 6, Cond.initialized RX0, Cond.fieldLink RX3 29 "AirTalkers" "start" "LAirTalkers$Air;", Cond.fieldLink RX3 33 "AirTalkers" "now" "LAirTalkers$Air;", Cond.classLink RX3 36 RX1, Cond.instantiable RX1 2, Cond.initialized RX1, Cond.fieldLink RX3 39 "AirTalkers" "deeds" "LAirTalkers$Deeds;", Cond.fieldLink RX3 43 "AirTalkers" "keptDeeds" "[LAirTalkers$Deeds;", Cond.fieldLink RX3 47 "AirTalkers" "aside" "LAirTalkers$Air;", Cond.fieldLink RX3 50 "AirTalkers" "trial" "LAirTalkers$Air;", Cond.fieldLink RX3 53 "AirTalkers" "heardOf" "[I"]
noncomputable def wsX3_init_r2 : List Cond := [Cond.fieldLink RX3 56 "AirTalkers" "watched" "[[I", Cond.fieldLink RX3 59 "AirTalkers" "toldAsked" "I", Cond.fieldLink RX3 63 "AirTalkers" "toldUpper" "J", Cond.fieldLink RX3 67 "AirTalkers" "toldLower" "J", Cond.fieldLink RX3 70 "AirTalkers" "latestFinding" "I", Cond.fieldLink RX3 73 "AirTalkers" "findingCounts" "[I", Cond.fieldLink RX3 76 "AirTalkers$Deeds" "size" "I", Cond.methodLink RX3 28 yX0_init, Cond.instanceMethod yX0_init, Cond.code yX0_init cX0_init 2 none, Cond.methodLink RX0 3 objectInit, Cond.classLink RX0 9 RX2, Cond.fieldLink RX0 11 "AirTalkers$Air" "stations" "[LAirTalkers$Station;", Cond.fieldLink RX0 17 "AirTalkers$Air" "size" "I", Cond.fieldLink RX0 21 "AirTalkers$Air" "slotNumber" "I", Cond.fieldLink RX0 24 "AirTalkers$Air" "heard" "I", Cond.fieldLink RX0 27 "AirTalkers$Air" "lost" "I", Cond.fieldLink RX0 30 "AirTalkers$Air" "talked" "Z", Cond.instantiable RX2 6, Cond.initialized RX2, Cond.instanceMethod yX2_init, Cond.code yX2_init cX2_init 1 none, Cond.methodLink RX2 3 objectInit, Cond.instanceMethod yX1_init]
noncomputable def wsX3_init_r3 : List Cond := [Cond.code yX1_init cX1_init 1 none, Cond.methodLink RX1 3 objectInit, Cond.fieldLink RX1 9 "AirTalkers$Deeds" "numbers" "[I", Cond.fieldLink RX1 15 "AirTalkers$Deeds" "size" "I"]
noncomputable def wsX3_init : List Cond := .code yX3_init cX3_init 2 none :: ((wsX3_init_r1 ++ (wsX3_init_r2 ++ wsX3_init_r3)) ++ wsX30 ++ wsX00 ++ wsX10 ++ wsX20)
noncomputable def wsX3_isRow : List Cond := .code yX3_isRow cX3_isRow 1 (some .boolean) :: ([])
noncomputable def wsX3_found : List Cond := .code yX3_found cX3_found 2 (some .int) :: ([.fieldLink RX3 70 "AirTalkers" "latestFinding" "I", .fieldLink RX3 73 "AirTalkers" "findingCounts" "[I"] ++ wsX30)
noncomputable def wsX3_row : List Cond := .code yX3_row cX3_row 4 (some .int) :: ([.fieldLink RX3 11 "AirTalkers" "rows" "[[I", .fieldLink RX3 14 "AirTalkers" "rowSizes" "[I", .methodLink RX3 79 yX3_isRow, .static yX3_isRow, .initialized RX3, .code yX3_isRow cX3_isRow 1 (some .boolean), .methodLink RX3 83 yX3_found, .instanceMethod yX3_found, .selects RX3 yX3_found yX3_found, .code yX3_found cX3_found 2 (some .int), .fieldLink RX3 70 "AirTalkers" "latestFinding" "I", .fieldLink RX3 73 "AirTalkers" "findingCounts" "[I"] ++ wsX30)
noncomputable def wsX3_refusedPlace : List Cond := .code yX3_refusedPlace cX3_refusedPlace 3 (some .int) :: ([.fieldLink RX3 14 "AirTalkers" "rowSizes" "[I", .methodLink RX3 79 yX3_isRow, .static yX3_isRow, .initialized RX3, .code yX3_isRow cX3_isRow 1 (some .boolean), .methodLink RX3 83 yX3_found, .instanceMethod yX3_found, .selects RX3 yX3_found yX3_found, .code yX3_found cX3_found 2 (some .int), .fieldLink RX3 70 "AirTalkers" "latestFinding" "I", .fieldLink RX3 73 "AirTalkers" "findingCounts" "[I"] ++ wsX30)
noncomputable def wsX3_lay : List Cond := .code yX3_lay cX3_lay 5 (some .int) :: ([.fieldLink RX3 11 "AirTalkers" "rows" "[[I", .fieldLink RX3 59 "AirTalkers" "toldAsked" "I", .methodLink RX3 87 yX3_refusedPlace, .instanceMethod yX3_refusedPlace, .selects RX3 yX3_refusedPlace yX3_refusedPlace, .initialized RX3, .code yX3_refusedPlace cX3_refusedPlace 3 (some .int), .fieldLink RX3 14 "AirTalkers" "rowSizes" "[I", .methodLink RX3 79 yX3_isRow, .static yX3_isRow, .code yX3_isRow cX3_isRow 1 (some .boolean), .methodLink RX3 83 yX3_found, .instanceMethod yX3_found, .selects RX3 yX3_found yX3_found, .code yX3_found cX3_found 2 (some .int), .fieldLink RX3 70 "AirTalkers" "latestFinding" "I", .fieldLink RX3 73 "AirTalkers" "findingCounts" "[I"] ++ wsX30)
noncomputable def wsX3_at : List Cond := .code yX3_at cX3_at 4 (some .int) :: ([.fieldLink RX3 11 "AirTalkers" "rows" "[[I", .fieldLink RX3 59 "AirTalkers" "toldAsked" "I", .methodLink RX3 87 yX3_refusedPlace, .instanceMethod yX3_refusedPlace, .selects RX3 yX3_refusedPlace yX3_refusedPlace, .initialized RX3, .code yX3_refusedPlace cX3_refusedPlace 3 (some .int), .fieldLink RX3 14 "AirTalkers" "rowSizes" "[I", .methodLink RX3 79 yX3_isRow, .static yX3_isRow, .code yX3_isRow cX3_isRow 1 (some .boolean), .methodLink RX3 83 yX3_found, .instanceMethod yX3_found, .selects RX3 yX3_found yX3_found, .code yX3_found cX3_found 2 (some .int), .fieldLink RX3 70 "AirTalkers" "latestFinding" "I", .fieldLink RX3 73 "AirTalkers" "findingCounts" "[I"] ++ wsX30)
noncomputable def wsX3_tear : List Cond := .code yX3_tear cX3_tear 2 (some .int) :: ([.fieldLink RX3 14 "AirTalkers" "rowSizes" "[I", .methodLink RX3 79 yX3_isRow, .static yX3_isRow, .initialized RX3, .code yX3_isRow cX3_isRow 1 (some .boolean), .methodLink RX3 83 yX3_found, .instanceMethod yX3_found, .selects RX3 yX3_found yX3_found, .code yX3_found cX3_found 2 (some .int), .fieldLink RX3 70 "AirTalkers" "latestFinding" "I", .fieldLink RX3 73 "AirTalkers" "findingCounts" "[I"] ++ wsX30)
noncomputable def wsX3_holds : List Cond := .code yX3_holds cX3_holds 3 (some .boolean) :: ([])
noncomputable def wsX3_copy : List Cond := .code yX3_copy cX3_copy 6 (some .int) :: ([.fieldLink RX3 14 "AirTalkers" "rowSizes" "[I", .fieldLink RX3 11 "AirTalkers" "rows" "[[I", .methodLink RX3 95 arraycopyName, .native arraycopyName, .static arraycopyName, .initialized "java/lang/System", .methodLink RX3 79 yX3_isRow, .static yX3_isRow, .initialized RX3, .code yX3_isRow cX3_isRow 1 (some .boolean), .methodLink RX3 83 yX3_found, .instanceMethod yX3_found, .selects RX3 yX3_found yX3_found, .code yX3_found cX3_found 2 (some .int), .fieldLink RX3 70 "AirTalkers" "latestFinding" "I", .fieldLink RX3 73 "AirTalkers" "findingCounts" "[I", .methodLink RX3 91 yX3_holds, .static yX3_holds, .code yX3_holds cX3_holds 3 (some .boolean)] ++ wsX30)
noncomputable def wsX3_mean : List Cond := .code yX3_mean cX3_mean 6 (some .int) :: ([.fieldLink RX3 14 "AirTalkers" "rowSizes" "[I", .fieldLink RX3 11 "AirTalkers" "rows" "[[I", .fieldLink RX3 59 "AirTalkers" "toldAsked" "I", .methodLink RX3 79 yX3_isRow, .static yX3_isRow, .initialized RX3, .code yX3_isRow cX3_isRow 1 (some .boolean), .methodLink RX3 83 yX3_found, .instanceMethod yX3_found, .selects RX3 yX3_found yX3_found, .code yX3_found cX3_found 2 (some .int), .fieldLink RX3 70 "AirTalkers" "latestFinding" "I", .fieldLink RX3 73 "AirTalkers" "findingCounts" "[I"] ++ wsX30)
noncomputable def wsX3_isText : List Cond := .code yX3_isText cX3_isText 1 (some .boolean) :: ([])
noncomputable def wsX3_text : List Cond := .code yX3_text cX3_text 4 (some .int) :: ([.fieldLink RX3 20 "AirTalkers" "texts" "[[B", .fieldLink RX3 23 "AirTalkers" "textSizes" "[I", .methodLink RX3 101 yX3_isText, .static yX3_isText, .initialized RX3, .code yX3_isText cX3_isText 1 (some .boolean), .methodLink RX3 83 yX3_found, .instanceMethod yX3_found, .selects RX3 yX3_found yX3_found, .code yX3_found cX3_found 2 (some .int), .fieldLink RX3 70 "AirTalkers" "latestFinding" "I", .fieldLink RX3 73 "AirTalkers" "findingCounts" "[I"] ++ wsX30)
noncomputable def wsX3_put : List Cond := .code yX3_put cX3_put 5 (some .int) :: ([.fieldLink RX3 23 "AirTalkers" "textSizes" "[I", .fieldLink RX3 20 "AirTalkers" "texts" "[[B", .methodLink RX3 101 yX3_isText, .static yX3_isText, .initialized RX3, .code yX3_isText cX3_isText 1 (some .boolean), .methodLink RX3 83 yX3_found, .instanceMethod yX3_found, .selects RX3 yX3_found yX3_found, .code yX3_found cX3_found 2 (some .int), .fieldLink RX3 70 "AirTalkers" "latestFinding" "I", .fieldLink RX3 73 "AirTalkers" "findingCounts" "[I"] ++ wsX30)
noncomputable def wsX3_fault_r1 : List Cond := [Cond.fieldLink RX3 23 "AirTalkers" "textSizes" "[I", Cond.fieldLink RX3 47 "AirTalkers" "aside" "LAirTalkers$Air;", Cond.fieldLink RX3 20 "AirTalkers" "texts" "[[B", Cond.methodLink RX3 101 yX3_isText, Cond.static yX3_isText, Cond.initialized RX3, Cond.code yX3_isText cX3_isText 1 (some .boolean), Cond.methodLink RX3 83 yX3_found, Cond.instanceMethod yX3_found, Cond.selects RX3 yX3_found yX3_found, Cond.code yX3_found cX3_found 2 (some .int), Cond.fieldLink RX3 70 "AirTalkers" "latestFinding" "I", Cond.fieldLink RX3 73 "AirTalkers" "findingCounts" "[I", Cond.methodLink RX3 104 yX0_read, Cond.instanceMethod yX0_read, Cond.selects RX0 yX0_read yX0_read, Cond.initialized RX0, Cond.code yX0_read cX0_read 5 (some .int), Cond.fieldLink RX0 17 "AirTalkers$Air" "size" "I", Cond.fieldLink RX0 21 "AirTalkers$Air" "slotNumber" "I", Cond.fieldLink RX0 24 "AirTalkers$Air" "heard" "I", Cond.fieldLink RX0 27 "AirTalkers$Air" "lost" "I", Cond.fieldLink RX0 30 "AirTalkers$Air" "talked" "Z", Cond.methodLink RX0 39 yX0_readStation]
noncomputable def wsX3_fault_r2 : List Cond := [Cond.instanceMethod yX0_readStation, Cond.selects RX0 yX0_readStation yX0_readStation, Cond.code yX0_readStation cX0_readStation 7 (some .int), Cond.fieldLink RX0 11 "AirTalkers$Air" "stations" "[LAirTalkers$Station;", Cond.fieldLink RX0 47 "AirTalkers$Station" "kind" "I", Cond.fieldLink RX0 50 "AirTalkers$Station" "firstWait" "I", Cond.fieldLink RX0 53 "AirTalkers$Station" "step" "I", Cond.fieldLink RX0 56 "AirTalkers$Station" "letters" "I", Cond.methodLink RX0 43 yX0_kindOf, Cond.static yX0_kindOf, Cond.code yX0_kindOf cX0_kindOf 2 (some .int), Cond.methodLink RX0 59 yX2_rest, Cond.instanceMethod yX2_rest, Cond.selects RX2 yX2_rest yX2_rest, Cond.initialized RX2, Cond.code yX2_rest cX2_rest 1 none, Cond.fieldLink RX2 27 "AirTalkers$Station" "clashes" "I", Cond.fieldLink RX2 24 "AirTalkers$Station" "waiting" "I"]
noncomputable def wsX3_fault : List Cond := .code yX3_fault cX3_fault 2 (some .int) :: ((wsX3_fault_r1 ++ wsX3_fault_r2) ++ wsX30 ++ wsX00 ++ wsX20)
noncomputable def wsX3_air_r1 : List Cond := [Cond.fieldLink RX3 23 "AirTalkers" "textSizes" "[I", Cond.fieldLink RX3 47 "AirTalkers" "aside" "LAirTalkers$Air;", Cond.fieldLink RX3 20 "AirTalkers" "texts" "[[B", Cond.fieldLink RX3 29 "AirTalkers" "start" "LAirTalkers$Air;", Cond.fieldLink RX3 33 "AirTalkers" "now" "LAirTalkers$Air;", Cond.fieldLink RX3 39 "AirTalkers" "deeds" "LAirTalkers$Deeds;", Cond.fieldLink RX3 76 "AirTalkers$Deeds" "size" "I", Cond.fieldLink RX3 43 "AirTalkers" "keptDeeds" "[LAirTalkers$Deeds;", Cond.fieldLink RX3 112 "AirTalkers$Air" "size" "I", Cond.methodLink RX3 101 yX3_isText, Cond.static yX3_isText, Cond.initialized RX3, Cond.code yX3_isText cX3_isText 1 (some .boolean), Cond.methodLink RX3 83 yX3_found, Cond.instanceMethod yX3_found, Cond.selects RX3 yX3_found yX3_found, Cond.code yX3_found cX3_found 2 (some .int), Cond.fieldLink RX3 70 "AirTalkers" "latestFinding" "I", Cond.fieldLink RX3 73 "AirTalkers" "findingCounts" "[I", Cond.methodLink RX3 104 yX0_read, Cond.instanceMethod yX0_read, Cond.selects RX0 yX0_read yX0_read, Cond.initialized RX0, Cond.code yX0_read cX0_read 5 (some .int)]
noncomputable def wsX3_air_r2 : List Cond := [Cond.fieldLink RX0 17 "AirTalkers$Air" "size" "I", Cond.fieldLink RX0 21 "AirTalkers$Air" "slotNumber" "I", Cond.fieldLink RX0 24 "AirTalkers$Air" "heard" "I", Cond.fieldLink RX0 27 "AirTalkers$Air" "lost" "I", Cond.fieldLink RX0 30 "AirTalkers$Air" "talked" "Z", Cond.methodLink RX0 39 yX0_readStation, Cond.instanceMethod yX0_readStation, Cond.selects RX0 yX0_readStation yX0_readStation, Cond.code yX0_readStation cX0_readStation 7 (some .int), Cond.fieldLink RX0 11 "AirTalkers$Air" "stations" "[LAirTalkers$Station;", Cond.fieldLink RX0 47 "AirTalkers$Station" "kind" "I", Cond.fieldLink RX0 50 "AirTalkers$Station" "firstWait" "I", Cond.fieldLink RX0 53 "AirTalkers$Station" "step" "I", Cond.fieldLink RX0 56 "AirTalkers$Station" "letters" "I", Cond.methodLink RX0 43 yX0_kindOf, Cond.static yX0_kindOf, Cond.code yX0_kindOf cX0_kindOf 2 (some .int), Cond.methodLink RX0 59 yX2_rest, Cond.instanceMethod yX2_rest, Cond.selects RX2 yX2_rest yX2_rest, Cond.initialized RX2, Cond.code yX2_rest cX2_rest 1 none, Cond.fieldLink RX2 27 "AirTalkers$Station" "clashes" "I", Cond.fieldLink RX2 24 "AirTalkers$Station" "waiting" "I"]
noncomputable def wsX3_air_r3 : List Cond := [Cond.methodLink RX3 108 yX0_become, Cond.instanceMethod yX0_become, Cond.selects RX0 yX0_become yX0_become, Cond.code yX0_become cX0_become 3 none, Cond.methodLink RX0 35 yX2_become, Cond.instanceMethod yX2_become, Cond.selects RX2 yX2_become yX2_become, Cond.code yX2_become cX2_become 2 none, Cond.fieldLink RX2 9 "AirTalkers$Station" "kind" "I", Cond.fieldLink RX2 15 "AirTalkers$Station" "firstWait" "I", Cond.fieldLink RX2 18 "AirTalkers$Station" "step" "I", Cond.fieldLink RX2 21 "AirTalkers$Station" "letters" "I"]
noncomputable def wsX3_air : List Cond := .code yX3_air cX3_air 3 (some .int) :: ((wsX3_air_r1 ++ (wsX3_air_r2 ++ wsX3_air_r3)) ++ wsX30 ++ wsX10 ++ wsX00 ++ wsX20)
noncomputable def wsX3_station_r1 : List Cond := [Cond.fieldLink RX3 33 "AirTalkers" "now" "LAirTalkers$Air;", Cond.fieldLink RX3 116 "AirTalkers$Air" "stations" "[LAirTalkers$Station;", Cond.fieldLink RX3 120 "AirTalkers$Air" "talked" "Z", Cond.fieldLink RX3 59 "AirTalkers" "toldAsked" "I", Cond.methodLink RX3 113 yX0_has, Cond.instanceMethod yX0_has, Cond.selects RX0 yX0_has yX0_has, Cond.initialized RX0, Cond.code yX0_has cX0_has 2 (some .boolean), Cond.fieldLink RX0 17 "AirTalkers$Air" "size" "I", Cond.methodLink RX3 124 yX2_told, Cond.instanceMethod yX2_told, Cond.selects RX2 yX2_told yX2_told, Cond.initialized RX2, Cond.code yX2_told cX2_told 3 (some .int), Cond.fieldLink RX2 9 "AirTalkers$Station" "kind" "I", Cond.fieldLink RX2 15 "AirTalkers$Station" "firstWait" "I", Cond.fieldLink RX2 18 "AirTalkers$Station" "step" "I", Cond.fieldLink RX2 21 "AirTalkers$Station" "letters" "I", Cond.fieldLink RX2 24 "AirTalkers$Station" "waiting" "I", Cond.fieldLink RX2 27 "AirTalkers$Station" "clashes" "I", Cond.methodLink RX2 60 yX2_wants, Cond.instanceMethod yX2_wants, Cond.selects RX2 yX2_wants yX2_wants]
noncomputable def wsX3_station_r2 : List Cond := [Cond.code yX2_wants cX2_wants 2 (some .boolean), Cond.methodLink RX2 34 yX2_isOf, Cond.instanceMethod yX2_isOf, Cond.selects RX2 yX2_isOf yX2_isOf, Cond.code yX2_isOf cX2_isOf 2 (some .boolean)]
noncomputable def wsX3_station : List Cond := .code yX3_station cX3_station 3 (some .int) :: ((wsX3_station_r1 ++ wsX3_station_r2) ++ wsX30 ++ wsX00 ++ wsX20)
noncomputable def wsX3_mark_r1 : List Cond := [Cond.fieldLink RX3 33 "AirTalkers" "now" "LAirTalkers$Air;", Cond.fieldLink RX3 116 "AirTalkers$Air" "stations" "[LAirTalkers$Station;", Cond.fieldLink RX3 133 "AirTalkers$Air" "slotNumber" "I", Cond.fieldLink RX3 120 "AirTalkers$Air" "talked" "Z", Cond.methodLink RX3 113 yX0_has, Cond.instanceMethod yX0_has, Cond.selects RX0 yX0_has yX0_has, Cond.initialized RX0, Cond.code yX0_has cX0_has 2 (some .boolean), Cond.fieldLink RX0 17 "AirTalkers$Air" "size" "I", Cond.methodLink RX3 130 yX2_isOf, Cond.instanceMethod yX2_isOf, Cond.selects RX2 yX2_isOf yX2_isOf, Cond.initialized RX2, Cond.code yX2_isOf cX2_isOf 2 (some .boolean), Cond.fieldLink RX2 9 "AirTalkers$Station" "kind" "I", Cond.methodLink RX3 83 yX3_found, Cond.instanceMethod yX3_found, Cond.selects RX3 yX3_found yX3_found, Cond.initialized RX3, Cond.code yX3_found cX3_found 2 (some .int), Cond.fieldLink RX3 70 "AirTalkers" "latestFinding" "I", Cond.fieldLink RX3 73 "AirTalkers" "findingCounts" "[I", Cond.methodLink RX3 136 yX2_tellsAs]
noncomputable def wsX3_mark_r2 : List Cond := [Cond.instanceMethod yX2_tellsAs, Cond.selects RX2 yX2_tellsAs yX2_tellsAs, Cond.code yX2_tellsAs cX2_tellsAs 6 (some .int), Cond.fieldLink RX2 27 "AirTalkers$Station" "clashes" "I", Cond.methodLink RX2 57 yX2_waitBehind, Cond.instanceMethod yX2_waitBehind, Cond.selects RX2 yX2_waitBehind yX2_waitBehind, Cond.code yX2_waitBehind cX2_waitBehind 4 (some .int), Cond.fieldLink RX2 15 "AirTalkers$Station" "firstWait" "I", Cond.fieldLink RX2 18 "AirTalkers$Station" "step" "I", Cond.methodLink RX2 47 yX2_doubleWait, Cond.instanceMethod yX2_doubleWait, Cond.selects RX2 yX2_doubleWait yX2_doubleWait, Cond.code yX2_doubleWait cX2_doubleWait 3 (some .int), Cond.methodLink RX2 38 Lib.Math.min.name, Cond.static Lib.Math.min.name, Cond.initialized "java/lang/Math", Cond.code Lib.Math.min.name Lib.Math.min.code 2 (some .int), Cond.methodLink RX2 44 Lib.Math.max.name, Cond.static Lib.Math.max.name, Cond.code Lib.Math.max.name Lib.Math.max.code 2 (some .int), Cond.methodLink RX2 51 yX2_plainWait, Cond.instanceMethod yX2_plainWait, Cond.selects RX2 yX2_plainWait yX2_plainWait]
noncomputable def wsX3_mark_r3 : List Cond := [Cond.code yX2_plainWait cX2_plainWait 2 (some .int), Cond.methodLink RX2 64 yX2_holdsBack, Cond.instanceMethod yX2_holdsBack, Cond.selects RX2 yX2_holdsBack yX2_holdsBack, Cond.code yX2_holdsBack cX2_holdsBack 2 (some .boolean), Cond.fieldLink RX2 21 "AirTalkers$Station" "letters" "I", Cond.fieldLink RX2 24 "AirTalkers$Station" "waiting" "I", Cond.methodLink RX2 34 yX2_isOf]
noncomputable def wsX3_mark : List Cond := .code yX3_mark cX3_mark 4 (some .int) :: ((wsX3_mark_r1 ++ (wsX3_mark_r2 ++ wsX3_mark_r3)) ++ wsX30 ++ wsX00 ++ wsX20)
noncomputable def wsX3_deedOf : List Cond := .code yX3_deedOf cX3_deedOf 3 (some .int) :: ([])
noncomputable def wsX3_carryOut_r1 : List Cond := [Cond.fieldLink RX3 39 "AirTalkers" "deeds" "LAirTalkers$Deeds;", Cond.fieldLink RX3 33 "AirTalkers" "now" "LAirTalkers$Air;", Cond.methodLink RX3 233 yX1_add, Cond.instanceMethod yX1_add, Cond.selects RX1 yX1_add yX1_add, Cond.initialized RX1, Cond.code yX1_add cX1_add 2 none, Cond.fieldLink RX1 15 "AirTalkers$Deeds" "size" "I", Cond.fieldLink RX1 9 "AirTalkers$Deeds" "numbers" "[I", Cond.methodLink RX3 236 yX0_act, Cond.instanceMethod yX0_act, Cond.selects RX0 yX0_act yX0_act, Cond.initialized RX0, Cond.code yX0_act cX0_act 8 (some .int), Cond.fieldLink RX0 11 "AirTalkers$Air" "stations" "[LAirTalkers$Station;", Cond.fieldLink RX0 56 "AirTalkers$Station" "letters" "I", Cond.fieldLink RX0 50 "AirTalkers$Station" "firstWait" "I", Cond.methodLink RX0 97 yX0_has, Cond.instanceMethod yX0_has, Cond.selects RX0 yX0_has yX0_has, Cond.code yX0_has cX0_has 2 (some .boolean), Cond.fieldLink RX0 17 "AirTalkers$Air" "size" "I", Cond.methodLink RX0 91 yX0_goBy, Cond.instanceMethod yX0_goBy]
noncomputable def wsX3_carryOut_r2 : List Cond := [Cond.selects RX0 yX0_goBy yX0_goBy, Cond.code yX0_goBy cX0_goBy 6 (some .int), Cond.fieldLink RX0 78 "AirTalkers$Station" "waiting" "I", Cond.fieldLink RX0 24 "AirTalkers$Air" "heard" "I", Cond.fieldLink RX0 21 "AirTalkers$Air" "slotNumber" "I", Cond.fieldLink RX0 27 "AirTalkers$Air" "lost" "I", Cond.fieldLink RX0 30 "AirTalkers$Air" "talked" "Z", Cond.methodLink RX0 70 yX0_talkers, Cond.instanceMethod yX0_talkers, Cond.selects RX0 yX0_talkers yX0_talkers, Cond.code yX0_talkers cX0_talkers 4 (some .int), Cond.methodLink RX0 66 yX2_wants, Cond.instanceMethod yX2_wants, Cond.selects RX2 yX2_wants yX2_wants, Cond.initialized RX2, Cond.code yX2_wants cX2_wants 2 (some .boolean), Cond.fieldLink RX2 21 "AirTalkers$Station" "letters" "I", Cond.fieldLink RX2 24 "AirTalkers$Station" "waiting" "I", Cond.methodLink RX2 34 yX2_isOf, Cond.instanceMethod yX2_isOf, Cond.selects RX2 yX2_isOf yX2_isOf, Cond.code yX2_isOf cX2_isOf 2 (some .boolean), Cond.fieldLink RX2 9 "AirTalkers$Station" "kind" "I", Cond.methodLink RX0 73 yJ6_bitCount_0f7a4]
noncomputable def wsX3_carryOut_r3 : List Cond := [Cond.static yJ6_bitCount_0f7a4, Cond.initialized RJ6, Cond.code yJ6_bitCount_0f7a4 cJ6_bitCount_0f7a4 1 (some .int), Cond.constant RJ6 265 (1431655765), Cond.constant RJ6 266 (858993459), Cond.constant RJ6 267 (252645135), Cond.methodLink RX0 81 yX2_isHeard, Cond.instanceMethod yX2_isHeard, Cond.selects RX2 yX2_isHeard yX2_isHeard, Cond.code yX2_isHeard cX2_isHeard 1 none, Cond.fieldLink RX2 27 "AirTalkers$Station" "clashes" "I", Cond.methodLink RX0 84 yX2_meets, Cond.instanceMethod yX2_meets, Cond.selects RX2 yX2_meets yX2_meets, Cond.code yX2_meets cX2_meets 2 (some .boolean), Cond.methodLink RX2 54 yX2_rest, Cond.instanceMethod yX2_rest, Cond.selects RX2 yX2_rest yX2_rest, Cond.code yX2_rest cX2_rest 1 none, Cond.methodLink RX2 57 yX2_waitBehind, Cond.instanceMethod yX2_waitBehind, Cond.selects RX2 yX2_waitBehind yX2_waitBehind, Cond.code yX2_waitBehind cX2_waitBehind 4 (some .int), Cond.fieldLink RX2 15 "AirTalkers$Station" "firstWait" "I"]
noncomputable def wsX3_carryOut_r4 : List Cond := [Cond.fieldLink RX2 18 "AirTalkers$Station" "step" "I", Cond.methodLink RX2 47 yX2_doubleWait, Cond.instanceMethod yX2_doubleWait, Cond.selects RX2 yX2_doubleWait yX2_doubleWait, Cond.code yX2_doubleWait cX2_doubleWait 3 (some .int), Cond.methodLink RX2 38 Lib.Math.min.name, Cond.static Lib.Math.min.name, Cond.initialized "java/lang/Math", Cond.code Lib.Math.min.name Lib.Math.min.code 2 (some .int), Cond.methodLink RX2 44 Lib.Math.max.name, Cond.static Lib.Math.max.name, Cond.code Lib.Math.max.name Lib.Math.max.code 2 (some .int), Cond.methodLink RX2 51 yX2_plainWait, Cond.instanceMethod yX2_plainWait, Cond.selects RX2 yX2_plainWait yX2_plainWait, Cond.code yX2_plainWait cX2_plainWait 2 (some .int), Cond.methodLink RX0 59 yX2_rest]
noncomputable def wsX3_carryOut : List Cond := .code yX3_carryOut cX3_carryOut 2 (some .int) :: ((wsX3_carryOut_r1 ++ (wsX3_carryOut_r2 ++ (wsX3_carryOut_r3 ++ wsX3_carryOut_r4))) ++ wsX30 ++ wsX10 ++ wsX00 ++ wsX20)
noncomputable def wsX3_slot_r1 : List Cond := [Cond.fieldLink RX3 33 "AirTalkers" "now" "LAirTalkers$Air;", Cond.fieldLink RX3 112 "AirTalkers$Air" "size" "I", Cond.fieldLink RX3 133 "AirTalkers$Air" "slotNumber" "I", Cond.fieldLink RX3 39 "AirTalkers" "deeds" "LAirTalkers$Deeds;", Cond.methodLink RX3 140 yX1_hasRoomFor, Cond.instanceMethod yX1_hasRoomFor, Cond.selects RX1 yX1_hasRoomFor yX1_hasRoomFor, Cond.initialized RX1, Cond.code yX1_hasRoomFor cX1_hasRoomFor 2 (some .boolean), Cond.fieldLink RX1 15 "AirTalkers$Deeds" "size" "I", Cond.methodLink RX3 143 yX3_deedOf, Cond.static yX3_deedOf, Cond.initialized RX3, Cond.code yX3_deedOf cX3_deedOf 3 (some .int), Cond.methodLink RX3 147 yX3_carryOut, Cond.instanceMethod yX3_carryOut, Cond.selects RX3 yX3_carryOut yX3_carryOut, Cond.code yX3_carryOut cX3_carryOut 2 (some .int), Cond.methodLink RX3 233 yX1_add, Cond.instanceMethod yX1_add, Cond.selects RX1 yX1_add yX1_add, Cond.code yX1_add cX1_add 2 none, Cond.fieldLink RX1 9 "AirTalkers$Deeds" "numbers" "[I", Cond.methodLink RX3 236 yX0_act]
noncomputable def wsX3_slot_r2 : List Cond := [Cond.instanceMethod yX0_act, Cond.selects RX0 yX0_act yX0_act, Cond.initialized RX0, Cond.code yX0_act cX0_act 8 (some .int), Cond.fieldLink RX0 11 "AirTalkers$Air" "stations" "[LAirTalkers$Station;", Cond.fieldLink RX0 56 "AirTalkers$Station" "letters" "I", Cond.fieldLink RX0 50 "AirTalkers$Station" "firstWait" "I", Cond.methodLink RX0 97 yX0_has, Cond.instanceMethod yX0_has, Cond.selects RX0 yX0_has yX0_has, Cond.code yX0_has cX0_has 2 (some .boolean), Cond.fieldLink RX0 17 "AirTalkers$Air" "size" "I", Cond.methodLink RX0 91 yX0_goBy, Cond.instanceMethod yX0_goBy, Cond.selects RX0 yX0_goBy yX0_goBy, Cond.code yX0_goBy cX0_goBy 6 (some .int), Cond.fieldLink RX0 78 "AirTalkers$Station" "waiting" "I", Cond.fieldLink RX0 24 "AirTalkers$Air" "heard" "I", Cond.fieldLink RX0 21 "AirTalkers$Air" "slotNumber" "I", Cond.fieldLink RX0 27 "AirTalkers$Air" "lost" "I", Cond.fieldLink RX0 30 "AirTalkers$Air" "talked" "Z", Cond.methodLink RX0 70 yX0_talkers, Cond.instanceMethod yX0_talkers, Cond.selects RX0 yX0_talkers yX0_talkers]
noncomputable def wsX3_slot_r3 : List Cond := [Cond.code yX0_talkers cX0_talkers 4 (some .int), Cond.methodLink RX0 66 yX2_wants, Cond.instanceMethod yX2_wants, Cond.selects RX2 yX2_wants yX2_wants, Cond.initialized RX2, Cond.code yX2_wants cX2_wants 2 (some .boolean), Cond.fieldLink RX2 21 "AirTalkers$Station" "letters" "I", Cond.fieldLink RX2 24 "AirTalkers$Station" "waiting" "I", Cond.methodLink RX2 34 yX2_isOf, Cond.instanceMethod yX2_isOf, Cond.selects RX2 yX2_isOf yX2_isOf, Cond.code yX2_isOf cX2_isOf 2 (some .boolean), Cond.fieldLink RX2 9 "AirTalkers$Station" "kind" "I", Cond.methodLink RX0 73 yJ6_bitCount_0f7a4, Cond.static yJ6_bitCount_0f7a4, Cond.initialized RJ6, Cond.code yJ6_bitCount_0f7a4 cJ6_bitCount_0f7a4 1 (some .int), Cond.constant RJ6 265 (1431655765), Cond.constant RJ6 266 (858993459), Cond.constant RJ6 267 (252645135), Cond.methodLink RX0 81 yX2_isHeard, Cond.instanceMethod yX2_isHeard, Cond.selects RX2 yX2_isHeard yX2_isHeard, Cond.code yX2_isHeard cX2_isHeard 1 none]
noncomputable def wsX3_slot_r4 : List Cond := [Cond.fieldLink RX2 27 "AirTalkers$Station" "clashes" "I", Cond.methodLink RX0 84 yX2_meets, Cond.instanceMethod yX2_meets, Cond.selects RX2 yX2_meets yX2_meets, Cond.code yX2_meets cX2_meets 2 (some .boolean), Cond.methodLink RX2 54 yX2_rest, Cond.instanceMethod yX2_rest, Cond.selects RX2 yX2_rest yX2_rest, Cond.code yX2_rest cX2_rest 1 none, Cond.methodLink RX2 57 yX2_waitBehind, Cond.instanceMethod yX2_waitBehind, Cond.selects RX2 yX2_waitBehind yX2_waitBehind, Cond.code yX2_waitBehind cX2_waitBehind 4 (some .int), Cond.fieldLink RX2 15 "AirTalkers$Station" "firstWait" "I", Cond.fieldLink RX2 18 "AirTalkers$Station" "step" "I", Cond.methodLink RX2 47 yX2_doubleWait, Cond.instanceMethod yX2_doubleWait, Cond.selects RX2 yX2_doubleWait yX2_doubleWait, Cond.code yX2_doubleWait cX2_doubleWait 3 (some .int), Cond.methodLink RX2 38 Lib.Math.min.name, Cond.static Lib.Math.min.name, Cond.initialized "java/lang/Math", Cond.code Lib.Math.min.name Lib.Math.min.code 2 (some .int), Cond.methodLink RX2 44 Lib.Math.max.name]
noncomputable def wsX3_slot_r5 : List Cond := [Cond.static Lib.Math.max.name, Cond.code Lib.Math.max.name Lib.Math.max.code 2 (some .int), Cond.methodLink RX2 51 yX2_plainWait, Cond.instanceMethod yX2_plainWait, Cond.selects RX2 yX2_plainWait yX2_plainWait, Cond.code yX2_plainWait cX2_plainWait 2 (some .int), Cond.methodLink RX0 59 yX2_rest]
noncomputable def wsX3_slot : List Cond := .code yX3_slot cX3_slot 1 (some .int) :: ((wsX3_slot_r1 ++ (wsX3_slot_r2 ++ (wsX3_slot_r3 ++ (wsX3_slot_r4 ++ wsX3_slot_r5)))) ++ wsX30 ++ wsX00 ++ wsX10 ++ wsX20)
noncomputable def wsX3_give_r1 : List Cond := [Cond.fieldLink RX3 33 "AirTalkers" "now" "LAirTalkers$Air;", Cond.fieldLink RX3 116 "AirTalkers$Air" "stations" "[LAirTalkers$Station;", Cond.fieldLink RX3 150 "AirTalkers$Station" "letters" "I", Cond.fieldLink RX3 39 "AirTalkers" "deeds" "LAirTalkers$Deeds;", Cond.methodLink RX3 113 yX0_has, Cond.instanceMethod yX0_has, Cond.selects RX0 yX0_has yX0_has, Cond.initialized RX0, Cond.code yX0_has cX0_has 2 (some .boolean), Cond.fieldLink RX0 17 "AirTalkers$Air" "size" "I", Cond.methodLink RX3 140 yX1_hasRoomFor, Cond.instanceMethod yX1_hasRoomFor, Cond.selects RX1 yX1_hasRoomFor yX1_hasRoomFor, Cond.initialized RX1, Cond.code yX1_hasRoomFor cX1_hasRoomFor 2 (some .boolean), Cond.fieldLink RX1 15 "AirTalkers$Deeds" "size" "I", Cond.methodLink RX3 143 yX3_deedOf, Cond.static yX3_deedOf, Cond.initialized RX3, Cond.code yX3_deedOf cX3_deedOf 3 (some .int), Cond.methodLink RX3 147 yX3_carryOut, Cond.instanceMethod yX3_carryOut, Cond.selects RX3 yX3_carryOut yX3_carryOut, Cond.code yX3_carryOut cX3_carryOut 2 (some .int)]
noncomputable def wsX3_give_r2 : List Cond := [Cond.methodLink RX3 233 yX1_add, Cond.instanceMethod yX1_add, Cond.selects RX1 yX1_add yX1_add, Cond.code yX1_add cX1_add 2 none, Cond.fieldLink RX1 9 "AirTalkers$Deeds" "numbers" "[I", Cond.methodLink RX3 236 yX0_act, Cond.instanceMethod yX0_act, Cond.selects RX0 yX0_act yX0_act, Cond.code yX0_act cX0_act 8 (some .int), Cond.fieldLink RX0 11 "AirTalkers$Air" "stations" "[LAirTalkers$Station;", Cond.fieldLink RX0 56 "AirTalkers$Station" "letters" "I", Cond.fieldLink RX0 50 "AirTalkers$Station" "firstWait" "I", Cond.methodLink RX0 97 yX0_has, Cond.methodLink RX0 91 yX0_goBy, Cond.instanceMethod yX0_goBy, Cond.selects RX0 yX0_goBy yX0_goBy, Cond.code yX0_goBy cX0_goBy 6 (some .int), Cond.fieldLink RX0 78 "AirTalkers$Station" "waiting" "I", Cond.fieldLink RX0 24 "AirTalkers$Air" "heard" "I", Cond.fieldLink RX0 21 "AirTalkers$Air" "slotNumber" "I", Cond.fieldLink RX0 27 "AirTalkers$Air" "lost" "I", Cond.fieldLink RX0 30 "AirTalkers$Air" "talked" "Z", Cond.methodLink RX0 70 yX0_talkers, Cond.instanceMethod yX0_talkers]
noncomputable def wsX3_give_r3 : List Cond := [Cond.selects RX0 yX0_talkers yX0_talkers, Cond.code yX0_talkers cX0_talkers 4 (some .int), Cond.methodLink RX0 66 yX2_wants, Cond.instanceMethod yX2_wants, Cond.selects RX2 yX2_wants yX2_wants, Cond.initialized RX2, Cond.code yX2_wants cX2_wants 2 (some .boolean), Cond.fieldLink RX2 21 "AirTalkers$Station" "letters" "I", Cond.fieldLink RX2 24 "AirTalkers$Station" "waiting" "I", Cond.methodLink RX2 34 yX2_isOf, Cond.instanceMethod yX2_isOf, Cond.selects RX2 yX2_isOf yX2_isOf, Cond.code yX2_isOf cX2_isOf 2 (some .boolean), Cond.fieldLink RX2 9 "AirTalkers$Station" "kind" "I", Cond.methodLink RX0 73 yJ6_bitCount_0f7a4, Cond.static yJ6_bitCount_0f7a4, Cond.initialized RJ6, Cond.code yJ6_bitCount_0f7a4 cJ6_bitCount_0f7a4 1 (some .int), Cond.constant RJ6 265 (1431655765), Cond.constant RJ6 266 (858993459), Cond.constant RJ6 267 (252645135), Cond.methodLink RX0 81 yX2_isHeard, Cond.instanceMethod yX2_isHeard, Cond.selects RX2 yX2_isHeard yX2_isHeard]
noncomputable def wsX3_give_r4 : List Cond := [Cond.code yX2_isHeard cX2_isHeard 1 none, Cond.fieldLink RX2 27 "AirTalkers$Station" "clashes" "I", Cond.methodLink RX0 84 yX2_meets, Cond.instanceMethod yX2_meets, Cond.selects RX2 yX2_meets yX2_meets, Cond.code yX2_meets cX2_meets 2 (some .boolean), Cond.methodLink RX2 54 yX2_rest, Cond.instanceMethod yX2_rest, Cond.selects RX2 yX2_rest yX2_rest, Cond.code yX2_rest cX2_rest 1 none, Cond.methodLink RX2 57 yX2_waitBehind, Cond.instanceMethod yX2_waitBehind, Cond.selects RX2 yX2_waitBehind yX2_waitBehind, Cond.code yX2_waitBehind cX2_waitBehind 4 (some .int), Cond.fieldLink RX2 15 "AirTalkers$Station" "firstWait" "I", Cond.fieldLink RX2 18 "AirTalkers$Station" "step" "I", Cond.methodLink RX2 47 yX2_doubleWait, Cond.instanceMethod yX2_doubleWait, Cond.selects RX2 yX2_doubleWait yX2_doubleWait, Cond.code yX2_doubleWait cX2_doubleWait 3 (some .int), Cond.methodLink RX2 38 Lib.Math.min.name, Cond.static Lib.Math.min.name, Cond.initialized "java/lang/Math", Cond.code Lib.Math.min.name Lib.Math.min.code 2 (some .int)]
noncomputable def wsX3_give_r5 : List Cond := [Cond.methodLink RX2 44 Lib.Math.max.name, Cond.static Lib.Math.max.name, Cond.code Lib.Math.max.name Lib.Math.max.code 2 (some .int), Cond.methodLink RX2 51 yX2_plainWait, Cond.instanceMethod yX2_plainWait, Cond.selects RX2 yX2_plainWait yX2_plainWait, Cond.code yX2_plainWait cX2_plainWait 2 (some .int), Cond.methodLink RX0 59 yX2_rest]
noncomputable def wsX3_give : List Cond := .code yX3_give cX3_give 3 (some .int) :: ((wsX3_give_r1 ++ (wsX3_give_r2 ++ (wsX3_give_r3 ++ (wsX3_give_r4 ++ wsX3_give_r5)))) ++ wsX30 ++ wsX00 ++ wsX20 ++ wsX10)
noncomputable def wsX3_drop_r1 : List Cond := [Cond.fieldLink RX3 33 "AirTalkers" "now" "LAirTalkers$Air;", Cond.fieldLink RX3 116 "AirTalkers$Air" "stations" "[LAirTalkers$Station;", Cond.fieldLink RX3 150 "AirTalkers$Station" "letters" "I", Cond.fieldLink RX3 39 "AirTalkers" "deeds" "LAirTalkers$Deeds;", Cond.methodLink RX3 113 yX0_has, Cond.instanceMethod yX0_has, Cond.selects RX0 yX0_has yX0_has, Cond.initialized RX0, Cond.code yX0_has cX0_has 2 (some .boolean), Cond.fieldLink RX0 17 "AirTalkers$Air" "size" "I", Cond.methodLink RX3 140 yX1_hasRoomFor, Cond.instanceMethod yX1_hasRoomFor, Cond.selects RX1 yX1_hasRoomFor yX1_hasRoomFor, Cond.initialized RX1, Cond.code yX1_hasRoomFor cX1_hasRoomFor 2 (some .boolean), Cond.fieldLink RX1 15 "AirTalkers$Deeds" "size" "I", Cond.methodLink RX3 143 yX3_deedOf, Cond.static yX3_deedOf, Cond.initialized RX3, Cond.code yX3_deedOf cX3_deedOf 3 (some .int), Cond.methodLink RX3 147 yX3_carryOut, Cond.instanceMethod yX3_carryOut, Cond.selects RX3 yX3_carryOut yX3_carryOut, Cond.code yX3_carryOut cX3_carryOut 2 (some .int)]
noncomputable def wsX3_drop_r2 : List Cond := [Cond.methodLink RX3 233 yX1_add, Cond.instanceMethod yX1_add, Cond.selects RX1 yX1_add yX1_add, Cond.code yX1_add cX1_add 2 none, Cond.fieldLink RX1 9 "AirTalkers$Deeds" "numbers" "[I", Cond.methodLink RX3 236 yX0_act, Cond.instanceMethod yX0_act, Cond.selects RX0 yX0_act yX0_act, Cond.code yX0_act cX0_act 8 (some .int), Cond.fieldLink RX0 11 "AirTalkers$Air" "stations" "[LAirTalkers$Station;", Cond.fieldLink RX0 56 "AirTalkers$Station" "letters" "I", Cond.fieldLink RX0 50 "AirTalkers$Station" "firstWait" "I", Cond.methodLink RX0 97 yX0_has, Cond.methodLink RX0 91 yX0_goBy, Cond.instanceMethod yX0_goBy, Cond.selects RX0 yX0_goBy yX0_goBy, Cond.code yX0_goBy cX0_goBy 6 (some .int), Cond.fieldLink RX0 78 "AirTalkers$Station" "waiting" "I", Cond.fieldLink RX0 24 "AirTalkers$Air" "heard" "I", Cond.fieldLink RX0 21 "AirTalkers$Air" "slotNumber" "I", Cond.fieldLink RX0 27 "AirTalkers$Air" "lost" "I", Cond.fieldLink RX0 30 "AirTalkers$Air" "talked" "Z", Cond.methodLink RX0 70 yX0_talkers, Cond.instanceMethod yX0_talkers]
noncomputable def wsX3_drop_r3 : List Cond := [Cond.selects RX0 yX0_talkers yX0_talkers, Cond.code yX0_talkers cX0_talkers 4 (some .int), Cond.methodLink RX0 66 yX2_wants, Cond.instanceMethod yX2_wants, Cond.selects RX2 yX2_wants yX2_wants, Cond.initialized RX2, Cond.code yX2_wants cX2_wants 2 (some .boolean), Cond.fieldLink RX2 21 "AirTalkers$Station" "letters" "I", Cond.fieldLink RX2 24 "AirTalkers$Station" "waiting" "I", Cond.methodLink RX2 34 yX2_isOf, Cond.instanceMethod yX2_isOf, Cond.selects RX2 yX2_isOf yX2_isOf, Cond.code yX2_isOf cX2_isOf 2 (some .boolean), Cond.fieldLink RX2 9 "AirTalkers$Station" "kind" "I", Cond.methodLink RX0 73 yJ6_bitCount_0f7a4, Cond.static yJ6_bitCount_0f7a4, Cond.initialized RJ6, Cond.code yJ6_bitCount_0f7a4 cJ6_bitCount_0f7a4 1 (some .int), Cond.constant RJ6 265 (1431655765), Cond.constant RJ6 266 (858993459), Cond.constant RJ6 267 (252645135), Cond.methodLink RX0 81 yX2_isHeard, Cond.instanceMethod yX2_isHeard, Cond.selects RX2 yX2_isHeard yX2_isHeard]
noncomputable def wsX3_drop_r4 : List Cond := [Cond.code yX2_isHeard cX2_isHeard 1 none, Cond.fieldLink RX2 27 "AirTalkers$Station" "clashes" "I", Cond.methodLink RX0 84 yX2_meets, Cond.instanceMethod yX2_meets, Cond.selects RX2 yX2_meets yX2_meets, Cond.code yX2_meets cX2_meets 2 (some .boolean), Cond.methodLink RX2 54 yX2_rest, Cond.instanceMethod yX2_rest, Cond.selects RX2 yX2_rest yX2_rest, Cond.code yX2_rest cX2_rest 1 none, Cond.methodLink RX2 57 yX2_waitBehind, Cond.instanceMethod yX2_waitBehind, Cond.selects RX2 yX2_waitBehind yX2_waitBehind, Cond.code yX2_waitBehind cX2_waitBehind 4 (some .int), Cond.fieldLink RX2 15 "AirTalkers$Station" "firstWait" "I", Cond.fieldLink RX2 18 "AirTalkers$Station" "step" "I", Cond.methodLink RX2 47 yX2_doubleWait, Cond.instanceMethod yX2_doubleWait, Cond.selects RX2 yX2_doubleWait yX2_doubleWait, Cond.code yX2_doubleWait cX2_doubleWait 3 (some .int), Cond.methodLink RX2 38 Lib.Math.min.name, Cond.static Lib.Math.min.name, Cond.initialized "java/lang/Math", Cond.code Lib.Math.min.name Lib.Math.min.code 2 (some .int)]
noncomputable def wsX3_drop_r5 : List Cond := [Cond.methodLink RX2 44 Lib.Math.max.name, Cond.static Lib.Math.max.name, Cond.code Lib.Math.max.name Lib.Math.max.code 2 (some .int), Cond.methodLink RX2 51 yX2_plainWait, Cond.instanceMethod yX2_plainWait, Cond.selects RX2 yX2_plainWait yX2_plainWait, Cond.code yX2_plainWait cX2_plainWait 2 (some .int), Cond.methodLink RX0 59 yX2_rest]
noncomputable def wsX3_drop : List Cond := .code yX3_drop cX3_drop 2 (some .int) :: ((wsX3_drop_r1 ++ (wsX3_drop_r2 ++ (wsX3_drop_r3 ++ (wsX3_drop_r4 ++ wsX3_drop_r5)))) ++ wsX30 ++ wsX00 ++ wsX20 ++ wsX10)
noncomputable def wsX3_first_r1 : List Cond := [Cond.fieldLink RX3 33 "AirTalkers" "now" "LAirTalkers$Air;", Cond.fieldLink RX3 116 "AirTalkers$Air" "stations" "[LAirTalkers$Station;", Cond.fieldLink RX3 153 "AirTalkers$Station" "firstWait" "I", Cond.fieldLink RX3 39 "AirTalkers" "deeds" "LAirTalkers$Deeds;", Cond.methodLink RX3 113 yX0_has, Cond.instanceMethod yX0_has, Cond.selects RX0 yX0_has yX0_has, Cond.initialized RX0, Cond.code yX0_has cX0_has 2 (some .boolean), Cond.fieldLink RX0 17 "AirTalkers$Air" "size" "I", Cond.methodLink RX3 140 yX1_hasRoomFor, Cond.instanceMethod yX1_hasRoomFor, Cond.selects RX1 yX1_hasRoomFor yX1_hasRoomFor, Cond.initialized RX1, Cond.code yX1_hasRoomFor cX1_hasRoomFor 2 (some .boolean), Cond.fieldLink RX1 15 "AirTalkers$Deeds" "size" "I", Cond.methodLink RX3 143 yX3_deedOf, Cond.static yX3_deedOf, Cond.initialized RX3, Cond.code yX3_deedOf cX3_deedOf 3 (some .int), Cond.methodLink RX3 147 yX3_carryOut, Cond.instanceMethod yX3_carryOut, Cond.selects RX3 yX3_carryOut yX3_carryOut, Cond.code yX3_carryOut cX3_carryOut 2 (some .int)]
noncomputable def wsX3_first_r2 : List Cond := [Cond.methodLink RX3 233 yX1_add, Cond.instanceMethod yX1_add, Cond.selects RX1 yX1_add yX1_add, Cond.code yX1_add cX1_add 2 none, Cond.fieldLink RX1 9 "AirTalkers$Deeds" "numbers" "[I", Cond.methodLink RX3 236 yX0_act, Cond.instanceMethod yX0_act, Cond.selects RX0 yX0_act yX0_act, Cond.code yX0_act cX0_act 8 (some .int), Cond.fieldLink RX0 11 "AirTalkers$Air" "stations" "[LAirTalkers$Station;", Cond.fieldLink RX0 56 "AirTalkers$Station" "letters" "I", Cond.fieldLink RX0 50 "AirTalkers$Station" "firstWait" "I", Cond.methodLink RX0 97 yX0_has, Cond.methodLink RX0 91 yX0_goBy, Cond.instanceMethod yX0_goBy, Cond.selects RX0 yX0_goBy yX0_goBy, Cond.code yX0_goBy cX0_goBy 6 (some .int), Cond.fieldLink RX0 78 "AirTalkers$Station" "waiting" "I", Cond.fieldLink RX0 24 "AirTalkers$Air" "heard" "I", Cond.fieldLink RX0 21 "AirTalkers$Air" "slotNumber" "I", Cond.fieldLink RX0 27 "AirTalkers$Air" "lost" "I", Cond.fieldLink RX0 30 "AirTalkers$Air" "talked" "Z", Cond.methodLink RX0 70 yX0_talkers, Cond.instanceMethod yX0_talkers]
noncomputable def wsX3_first_r3 : List Cond := [Cond.selects RX0 yX0_talkers yX0_talkers, Cond.code yX0_talkers cX0_talkers 4 (some .int), Cond.methodLink RX0 66 yX2_wants, Cond.instanceMethod yX2_wants, Cond.selects RX2 yX2_wants yX2_wants, Cond.initialized RX2, Cond.code yX2_wants cX2_wants 2 (some .boolean), Cond.fieldLink RX2 21 "AirTalkers$Station" "letters" "I", Cond.fieldLink RX2 24 "AirTalkers$Station" "waiting" "I", Cond.methodLink RX2 34 yX2_isOf, Cond.instanceMethod yX2_isOf, Cond.selects RX2 yX2_isOf yX2_isOf, Cond.code yX2_isOf cX2_isOf 2 (some .boolean), Cond.fieldLink RX2 9 "AirTalkers$Station" "kind" "I", Cond.methodLink RX0 73 yJ6_bitCount_0f7a4, Cond.static yJ6_bitCount_0f7a4, Cond.initialized RJ6, Cond.code yJ6_bitCount_0f7a4 cJ6_bitCount_0f7a4 1 (some .int), Cond.constant RJ6 265 (1431655765), Cond.constant RJ6 266 (858993459), Cond.constant RJ6 267 (252645135), Cond.methodLink RX0 81 yX2_isHeard, Cond.instanceMethod yX2_isHeard, Cond.selects RX2 yX2_isHeard yX2_isHeard]
noncomputable def wsX3_first_r4 : List Cond := [Cond.code yX2_isHeard cX2_isHeard 1 none, Cond.fieldLink RX2 27 "AirTalkers$Station" "clashes" "I", Cond.methodLink RX0 84 yX2_meets, Cond.instanceMethod yX2_meets, Cond.selects RX2 yX2_meets yX2_meets, Cond.code yX2_meets cX2_meets 2 (some .boolean), Cond.methodLink RX2 54 yX2_rest, Cond.instanceMethod yX2_rest, Cond.selects RX2 yX2_rest yX2_rest, Cond.code yX2_rest cX2_rest 1 none, Cond.methodLink RX2 57 yX2_waitBehind, Cond.instanceMethod yX2_waitBehind, Cond.selects RX2 yX2_waitBehind yX2_waitBehind, Cond.code yX2_waitBehind cX2_waitBehind 4 (some .int), Cond.fieldLink RX2 15 "AirTalkers$Station" "firstWait" "I", Cond.fieldLink RX2 18 "AirTalkers$Station" "step" "I", Cond.methodLink RX2 47 yX2_doubleWait, Cond.instanceMethod yX2_doubleWait, Cond.selects RX2 yX2_doubleWait yX2_doubleWait, Cond.code yX2_doubleWait cX2_doubleWait 3 (some .int), Cond.methodLink RX2 38 Lib.Math.min.name, Cond.static Lib.Math.min.name, Cond.initialized "java/lang/Math", Cond.code Lib.Math.min.name Lib.Math.min.code 2 (some .int)]
noncomputable def wsX3_first_r5 : List Cond := [Cond.methodLink RX2 44 Lib.Math.max.name, Cond.static Lib.Math.max.name, Cond.code Lib.Math.max.name Lib.Math.max.code 2 (some .int), Cond.methodLink RX2 51 yX2_plainWait, Cond.instanceMethod yX2_plainWait, Cond.selects RX2 yX2_plainWait yX2_plainWait, Cond.code yX2_plainWait cX2_plainWait 2 (some .int), Cond.methodLink RX0 59 yX2_rest]
noncomputable def wsX3_first : List Cond := .code yX3_first cX3_first 3 (some .int) :: ((wsX3_first_r1 ++ (wsX3_first_r2 ++ (wsX3_first_r3 ++ (wsX3_first_r4 ++ wsX3_first_r5)))) ++ wsX30 ++ wsX00 ++ wsX20 ++ wsX10)
noncomputable def wsX3_goOnFromStart_r1 : List Cond := [Cond.fieldLink RX3 33 "AirTalkers" "now" "LAirTalkers$Air;", Cond.fieldLink RX3 29 "AirTalkers" "start" "LAirTalkers$Air;", Cond.fieldLink RX3 39 "AirTalkers" "deeds" "LAirTalkers$Deeds;", Cond.fieldLink RX3 76 "AirTalkers$Deeds" "size" "I", Cond.fieldLink RX3 239 "AirTalkers$Deeds" "numbers" "[I", Cond.methodLink RX3 108 yX0_become, Cond.instanceMethod yX0_become, Cond.selects RX0 yX0_become yX0_become, Cond.initialized RX0, Cond.code yX0_become cX0_become 3 none, Cond.fieldLink RX0 17 "AirTalkers$Air" "size" "I", Cond.fieldLink RX0 21 "AirTalkers$Air" "slotNumber" "I", Cond.fieldLink RX0 24 "AirTalkers$Air" "heard" "I", Cond.fieldLink RX0 27 "AirTalkers$Air" "lost" "I", Cond.fieldLink RX0 30 "AirTalkers$Air" "talked" "Z", Cond.fieldLink RX0 11 "AirTalkers$Air" "stations" "[LAirTalkers$Station;", Cond.methodLink RX0 35 yX2_become, Cond.instanceMethod yX2_become, Cond.selects RX2 yX2_become yX2_become, Cond.initialized RX2, Cond.code yX2_become cX2_become 2 none, Cond.fieldLink RX2 9 "AirTalkers$Station" "kind" "I", Cond.fieldLink RX2 15 "AirTalkers$Station" "firstWait" "I", Cond.fieldLink RX2 18 "AirTalkers$Station" "step" "I"]
noncomputable def wsX3_goOnFromStart_r2 : List Cond := [Cond.fieldLink RX2 21 "AirTalkers$Station" "letters" "I", Cond.fieldLink RX2 24 "AirTalkers$Station" "waiting" "I", Cond.fieldLink RX2 27 "AirTalkers$Station" "clashes" "I", Cond.methodLink RX3 236 yX0_act, Cond.instanceMethod yX0_act, Cond.selects RX0 yX0_act yX0_act, Cond.code yX0_act cX0_act 8 (some .int), Cond.fieldLink RX0 56 "AirTalkers$Station" "letters" "I", Cond.fieldLink RX0 50 "AirTalkers$Station" "firstWait" "I", Cond.methodLink RX0 97 yX0_has, Cond.instanceMethod yX0_has, Cond.selects RX0 yX0_has yX0_has, Cond.code yX0_has cX0_has 2 (some .boolean), Cond.methodLink RX0 91 yX0_goBy, Cond.instanceMethod yX0_goBy, Cond.selects RX0 yX0_goBy yX0_goBy, Cond.code yX0_goBy cX0_goBy 6 (some .int), Cond.fieldLink RX0 78 "AirTalkers$Station" "waiting" "I", Cond.methodLink RX0 70 yX0_talkers, Cond.instanceMethod yX0_talkers, Cond.selects RX0 yX0_talkers yX0_talkers, Cond.code yX0_talkers cX0_talkers 4 (some .int), Cond.methodLink RX0 66 yX2_wants, Cond.instanceMethod yX2_wants]
noncomputable def wsX3_goOnFromStart_r3 : List Cond := [Cond.selects RX2 yX2_wants yX2_wants, Cond.code yX2_wants cX2_wants 2 (some .boolean), Cond.methodLink RX2 34 yX2_isOf, Cond.instanceMethod yX2_isOf, Cond.selects RX2 yX2_isOf yX2_isOf, Cond.code yX2_isOf cX2_isOf 2 (some .boolean), Cond.methodLink RX0 73 yJ6_bitCount_0f7a4, Cond.static yJ6_bitCount_0f7a4, Cond.initialized RJ6, Cond.code yJ6_bitCount_0f7a4 cJ6_bitCount_0f7a4 1 (some .int), Cond.constant RJ6 265 (1431655765), Cond.constant RJ6 266 (858993459), Cond.constant RJ6 267 (252645135), Cond.methodLink RX0 81 yX2_isHeard, Cond.instanceMethod yX2_isHeard, Cond.selects RX2 yX2_isHeard yX2_isHeard, Cond.code yX2_isHeard cX2_isHeard 1 none, Cond.methodLink RX0 84 yX2_meets, Cond.instanceMethod yX2_meets, Cond.selects RX2 yX2_meets yX2_meets, Cond.code yX2_meets cX2_meets 2 (some .boolean), Cond.methodLink RX2 54 yX2_rest, Cond.instanceMethod yX2_rest, Cond.selects RX2 yX2_rest yX2_rest]
noncomputable def wsX3_goOnFromStart_r4 : List Cond := [Cond.code yX2_rest cX2_rest 1 none, Cond.methodLink RX2 57 yX2_waitBehind, Cond.instanceMethod yX2_waitBehind, Cond.selects RX2 yX2_waitBehind yX2_waitBehind, Cond.code yX2_waitBehind cX2_waitBehind 4 (some .int), Cond.methodLink RX2 47 yX2_doubleWait, Cond.instanceMethod yX2_doubleWait, Cond.selects RX2 yX2_doubleWait yX2_doubleWait, Cond.code yX2_doubleWait cX2_doubleWait 3 (some .int), Cond.methodLink RX2 38 Lib.Math.min.name, Cond.static Lib.Math.min.name, Cond.initialized "java/lang/Math", Cond.code Lib.Math.min.name Lib.Math.min.code 2 (some .int), Cond.methodLink RX2 44 Lib.Math.max.name, Cond.static Lib.Math.max.name, Cond.code Lib.Math.max.name Lib.Math.max.code 2 (some .int), Cond.methodLink RX2 51 yX2_plainWait, Cond.instanceMethod yX2_plainWait, Cond.selects RX2 yX2_plainWait yX2_plainWait, Cond.code yX2_plainWait cX2_plainWait 2 (some .int), Cond.methodLink RX0 59 yX2_rest]
noncomputable def wsX3_goOnFromStart : List Cond := .code yX3_goOnFromStart cX3_goOnFromStart 2 none :: ((wsX3_goOnFromStart_r1 ++ (wsX3_goOnFromStart_r2 ++ (wsX3_goOnFromStart_r3 ++ wsX3_goOnFromStart_r4))) ++ wsX30 ++ wsX10 ++ wsX00 ++ wsX20)
noncomputable def wsX3_undo_r1 : List Cond := [Cond.fieldLink RX3 39 "AirTalkers" "deeds" "LAirTalkers$Deeds;", Cond.fieldLink RX3 76 "AirTalkers$Deeds" "size" "I", Cond.methodLink RX3 156 yX3_goOnFromStart, Cond.instanceMethod yX3_goOnFromStart, Cond.selects RX3 yX3_goOnFromStart yX3_goOnFromStart, Cond.initialized RX3, Cond.code yX3_goOnFromStart cX3_goOnFromStart 2 none, Cond.fieldLink RX3 33 "AirTalkers" "now" "LAirTalkers$Air;", Cond.fieldLink RX3 29 "AirTalkers" "start" "LAirTalkers$Air;", Cond.fieldLink RX3 239 "AirTalkers$Deeds" "numbers" "[I", Cond.methodLink RX3 108 yX0_become, Cond.instanceMethod yX0_become, Cond.selects RX0 yX0_become yX0_become, Cond.initialized RX0, Cond.code yX0_become cX0_become 3 none, Cond.fieldLink RX0 17 "AirTalkers$Air" "size" "I", Cond.fieldLink RX0 21 "AirTalkers$Air" "slotNumber" "I", Cond.fieldLink RX0 24 "AirTalkers$Air" "heard" "I", Cond.fieldLink RX0 27 "AirTalkers$Air" "lost" "I", Cond.fieldLink RX0 30 "AirTalkers$Air" "talked" "Z", Cond.fieldLink RX0 11 "AirTalkers$Air" "stations" "[LAirTalkers$Station;", Cond.methodLink RX0 35 yX2_become, Cond.instanceMethod yX2_become, Cond.selects RX2 yX2_become yX2_become]
noncomputable def wsX3_undo_r2 : List Cond := [Cond.initialized RX2, Cond.code yX2_become cX2_become 2 none, Cond.fieldLink RX2 9 "AirTalkers$Station" "kind" "I", Cond.fieldLink RX2 15 "AirTalkers$Station" "firstWait" "I", Cond.fieldLink RX2 18 "AirTalkers$Station" "step" "I", Cond.fieldLink RX2 21 "AirTalkers$Station" "letters" "I", Cond.fieldLink RX2 24 "AirTalkers$Station" "waiting" "I", Cond.fieldLink RX2 27 "AirTalkers$Station" "clashes" "I", Cond.methodLink RX3 236 yX0_act, Cond.instanceMethod yX0_act, Cond.selects RX0 yX0_act yX0_act, Cond.code yX0_act cX0_act 8 (some .int), Cond.fieldLink RX0 56 "AirTalkers$Station" "letters" "I", Cond.fieldLink RX0 50 "AirTalkers$Station" "firstWait" "I", Cond.methodLink RX0 97 yX0_has, Cond.instanceMethod yX0_has, Cond.selects RX0 yX0_has yX0_has, Cond.code yX0_has cX0_has 2 (some .boolean), Cond.methodLink RX0 91 yX0_goBy, Cond.instanceMethod yX0_goBy, Cond.selects RX0 yX0_goBy yX0_goBy, Cond.code yX0_goBy cX0_goBy 6 (some .int), Cond.fieldLink RX0 78 "AirTalkers$Station" "waiting" "I", Cond.methodLink RX0 70 yX0_talkers]
noncomputable def wsX3_undo_r3 : List Cond := [Cond.instanceMethod yX0_talkers, Cond.selects RX0 yX0_talkers yX0_talkers, Cond.code yX0_talkers cX0_talkers 4 (some .int), Cond.methodLink RX0 66 yX2_wants, Cond.instanceMethod yX2_wants, Cond.selects RX2 yX2_wants yX2_wants, Cond.code yX2_wants cX2_wants 2 (some .boolean), Cond.methodLink RX2 34 yX2_isOf, Cond.instanceMethod yX2_isOf, Cond.selects RX2 yX2_isOf yX2_isOf, Cond.code yX2_isOf cX2_isOf 2 (some .boolean), Cond.methodLink RX0 73 yJ6_bitCount_0f7a4, Cond.static yJ6_bitCount_0f7a4, Cond.initialized RJ6, Cond.code yJ6_bitCount_0f7a4 cJ6_bitCount_0f7a4 1 (some .int), Cond.constant RJ6 265 (1431655765), Cond.constant RJ6 266 (858993459), Cond.constant RJ6 267 (252645135), Cond.methodLink RX0 81 yX2_isHeard, Cond.instanceMethod yX2_isHeard, Cond.selects RX2 yX2_isHeard yX2_isHeard, Cond.code yX2_isHeard cX2_isHeard 1 none, Cond.methodLink RX0 84 yX2_meets, Cond.instanceMethod yX2_meets]
noncomputable def wsX3_undo_r4 : List Cond := [Cond.selects RX2 yX2_meets yX2_meets, Cond.code yX2_meets cX2_meets 2 (some .boolean), Cond.methodLink RX2 54 yX2_rest, Cond.instanceMethod yX2_rest, Cond.selects RX2 yX2_rest yX2_rest, Cond.code yX2_rest cX2_rest 1 none, Cond.methodLink RX2 57 yX2_waitBehind, Cond.instanceMethod yX2_waitBehind, Cond.selects RX2 yX2_waitBehind yX2_waitBehind, Cond.code yX2_waitBehind cX2_waitBehind 4 (some .int), Cond.methodLink RX2 47 yX2_doubleWait, Cond.instanceMethod yX2_doubleWait, Cond.selects RX2 yX2_doubleWait yX2_doubleWait, Cond.code yX2_doubleWait cX2_doubleWait 3 (some .int), Cond.methodLink RX2 38 Lib.Math.min.name, Cond.static Lib.Math.min.name, Cond.initialized "java/lang/Math", Cond.code Lib.Math.min.name Lib.Math.min.code 2 (some .int), Cond.methodLink RX2 44 Lib.Math.max.name, Cond.static Lib.Math.max.name, Cond.code Lib.Math.max.name Lib.Math.max.code 2 (some .int), Cond.methodLink RX2 51 yX2_plainWait, Cond.instanceMethod yX2_plainWait, Cond.selects RX2 yX2_plainWait yX2_plainWait]
noncomputable def wsX3_undo_r5 : List Cond := [Cond.code yX2_plainWait cX2_plainWait 2 (some .int), Cond.methodLink RX0 59 yX2_rest]
noncomputable def wsX3_undo : List Cond := .code yX3_undo cX3_undo 3 (some .int) :: ((wsX3_undo_r1 ++ (wsX3_undo_r2 ++ (wsX3_undo_r3 ++ (wsX3_undo_r4 ++ wsX3_undo_r5)))) ++ wsX30 ++ wsX10 ++ wsX00 ++ wsX20)
noncomputable def wsX3_isKept : List Cond := .code yX3_isKept cX3_isKept 1 (some .boolean) :: ([])
noncomputable def wsX3_keep : List Cond := .code yX3_keep cX3_keep 2 (some .int) :: ([.fieldLink RX3 33 "AirTalkers" "now" "LAirTalkers$Air;", .fieldLink RX3 112 "AirTalkers$Air" "size" "I", .fieldLink RX3 43 "AirTalkers" "keptDeeds" "[LAirTalkers$Deeds;", .fieldLink RX3 39 "AirTalkers" "deeds" "LAirTalkers$Deeds;", .fieldLink RX3 76 "AirTalkers$Deeds" "size" "I", .methodLink RX3 159 yX3_isKept, .static yX3_isKept, .initialized RX3, .code yX3_isKept cX3_isKept 1 (some .boolean), .methodLink RX3 162 yX1_become, .instanceMethod yX1_become, .selects RX1 yX1_become yX1_become, .initialized RX1, .code yX1_become cX1_become 2 none, .fieldLink RX1 9 "AirTalkers$Deeds" "numbers" "[I", .methodLink RX1 19 arraycopyName, .native arraycopyName, .static arraycopyName, .initialized "java/lang/System", .fieldLink RX1 15 "AirTalkers$Deeds" "size" "I"] ++ wsX30 ++ wsX00 ++ wsX10)
noncomputable def wsX3_on_r1 : List Cond := [Cond.fieldLink RX3 43 "AirTalkers" "keptDeeds" "[LAirTalkers$Deeds;", Cond.fieldLink RX3 76 "AirTalkers$Deeds" "size" "I", Cond.fieldLink RX3 39 "AirTalkers" "deeds" "LAirTalkers$Deeds;", Cond.methodLink RX3 159 yX3_isKept, Cond.static yX3_isKept, Cond.initialized RX3, Cond.code yX3_isKept cX3_isKept 1 (some .boolean), Cond.methodLink RX3 83 yX3_found, Cond.instanceMethod yX3_found, Cond.selects RX3 yX3_found yX3_found, Cond.code yX3_found cX3_found 2 (some .int), Cond.fieldLink RX3 70 "AirTalkers" "latestFinding" "I", Cond.fieldLink RX3 73 "AirTalkers" "findingCounts" "[I", Cond.methodLink RX3 162 yX1_become, Cond.instanceMethod yX1_become, Cond.selects RX1 yX1_become yX1_become, Cond.initialized RX1, Cond.code yX1_become cX1_become 2 none, Cond.fieldLink RX1 9 "AirTalkers$Deeds" "numbers" "[I", Cond.methodLink RX1 19 arraycopyName, Cond.native arraycopyName, Cond.static arraycopyName, Cond.initialized "java/lang/System", Cond.fieldLink RX1 15 "AirTalkers$Deeds" "size" "I"]
noncomputable def wsX3_on_r2 : List Cond := [Cond.methodLink RX3 156 yX3_goOnFromStart, Cond.instanceMethod yX3_goOnFromStart, Cond.selects RX3 yX3_goOnFromStart yX3_goOnFromStart, Cond.code yX3_goOnFromStart cX3_goOnFromStart 2 none, Cond.fieldLink RX3 33 "AirTalkers" "now" "LAirTalkers$Air;", Cond.fieldLink RX3 29 "AirTalkers" "start" "LAirTalkers$Air;", Cond.fieldLink RX3 239 "AirTalkers$Deeds" "numbers" "[I", Cond.methodLink RX3 108 yX0_become, Cond.instanceMethod yX0_become, Cond.selects RX0 yX0_become yX0_become, Cond.initialized RX0, Cond.code yX0_become cX0_become 3 none, Cond.fieldLink RX0 17 "AirTalkers$Air" "size" "I", Cond.fieldLink RX0 21 "AirTalkers$Air" "slotNumber" "I", Cond.fieldLink RX0 24 "AirTalkers$Air" "heard" "I", Cond.fieldLink RX0 27 "AirTalkers$Air" "lost" "I", Cond.fieldLink RX0 30 "AirTalkers$Air" "talked" "Z", Cond.fieldLink RX0 11 "AirTalkers$Air" "stations" "[LAirTalkers$Station;", Cond.methodLink RX0 35 yX2_become, Cond.instanceMethod yX2_become, Cond.selects RX2 yX2_become yX2_become, Cond.initialized RX2, Cond.code yX2_become cX2_become 2 none, Cond.fieldLink RX2 9 "AirTalkers$Station" "kind" "I"]
noncomputable def wsX3_on_r3 : List Cond := [Cond.fieldLink RX2 15 "AirTalkers$Station" "firstWait" "I", Cond.fieldLink RX2 18 "AirTalkers$Station" "step" "I", Cond.fieldLink RX2 21 "AirTalkers$Station" "letters" "I", Cond.fieldLink RX2 24 "AirTalkers$Station" "waiting" "I", Cond.fieldLink RX2 27 "AirTalkers$Station" "clashes" "I", Cond.methodLink RX3 236 yX0_act, Cond.instanceMethod yX0_act, Cond.selects RX0 yX0_act yX0_act, Cond.code yX0_act cX0_act 8 (some .int), Cond.fieldLink RX0 56 "AirTalkers$Station" "letters" "I", Cond.fieldLink RX0 50 "AirTalkers$Station" "firstWait" "I", Cond.methodLink RX0 97 yX0_has, Cond.instanceMethod yX0_has, Cond.selects RX0 yX0_has yX0_has, Cond.code yX0_has cX0_has 2 (some .boolean), Cond.methodLink RX0 91 yX0_goBy, Cond.instanceMethod yX0_goBy, Cond.selects RX0 yX0_goBy yX0_goBy, Cond.code yX0_goBy cX0_goBy 6 (some .int), Cond.fieldLink RX0 78 "AirTalkers$Station" "waiting" "I", Cond.methodLink RX0 70 yX0_talkers, Cond.instanceMethod yX0_talkers, Cond.selects RX0 yX0_talkers yX0_talkers, Cond.code yX0_talkers cX0_talkers 4 (some .int)]
noncomputable def wsX3_on_r4 : List Cond := [Cond.methodLink RX0 66 yX2_wants, Cond.instanceMethod yX2_wants, Cond.selects RX2 yX2_wants yX2_wants, Cond.code yX2_wants cX2_wants 2 (some .boolean), Cond.methodLink RX2 34 yX2_isOf, Cond.instanceMethod yX2_isOf, Cond.selects RX2 yX2_isOf yX2_isOf, Cond.code yX2_isOf cX2_isOf 2 (some .boolean), Cond.methodLink RX0 73 yJ6_bitCount_0f7a4, Cond.static yJ6_bitCount_0f7a4, Cond.initialized RJ6, Cond.code yJ6_bitCount_0f7a4 cJ6_bitCount_0f7a4 1 (some .int), Cond.constant RJ6 265 (1431655765), Cond.constant RJ6 266 (858993459), Cond.constant RJ6 267 (252645135), Cond.methodLink RX0 81 yX2_isHeard, Cond.instanceMethod yX2_isHeard, Cond.selects RX2 yX2_isHeard yX2_isHeard, Cond.code yX2_isHeard cX2_isHeard 1 none, Cond.methodLink RX0 84 yX2_meets, Cond.instanceMethod yX2_meets, Cond.selects RX2 yX2_meets yX2_meets, Cond.code yX2_meets cX2_meets 2 (some .boolean), Cond.methodLink RX2 54 yX2_rest]
noncomputable def wsX3_on_r5 : List Cond := [Cond.instanceMethod yX2_rest, Cond.selects RX2 yX2_rest yX2_rest, Cond.code yX2_rest cX2_rest 1 none, Cond.methodLink RX2 57 yX2_waitBehind, Cond.instanceMethod yX2_waitBehind, Cond.selects RX2 yX2_waitBehind yX2_waitBehind, Cond.code yX2_waitBehind cX2_waitBehind 4 (some .int), Cond.methodLink RX2 47 yX2_doubleWait, Cond.instanceMethod yX2_doubleWait, Cond.selects RX2 yX2_doubleWait yX2_doubleWait, Cond.code yX2_doubleWait cX2_doubleWait 3 (some .int), Cond.methodLink RX2 38 Lib.Math.min.name, Cond.static Lib.Math.min.name, Cond.initialized "java/lang/Math", Cond.code Lib.Math.min.name Lib.Math.min.code 2 (some .int), Cond.methodLink RX2 44 Lib.Math.max.name, Cond.static Lib.Math.max.name, Cond.code Lib.Math.max.name Lib.Math.max.code 2 (some .int), Cond.methodLink RX2 51 yX2_plainWait, Cond.instanceMethod yX2_plainWait, Cond.selects RX2 yX2_plainWait yX2_plainWait, Cond.code yX2_plainWait cX2_plainWait 2 (some .int), Cond.methodLink RX0 59 yX2_rest]
noncomputable def wsX3_on : List Cond := .code yX3_on cX3_on 2 (some .int) :: ((wsX3_on_r1 ++ (wsX3_on_r2 ++ (wsX3_on_r3 ++ (wsX3_on_r4 ++ wsX3_on_r5)))) ++ wsX30 ++ wsX10 ++ wsX00 ++ wsX20)
noncomputable def wsX3_talks_r1 : List Cond := [Cond.fieldLink RX3 33 "AirTalkers" "now" "LAirTalkers$Air;", Cond.fieldLink RX3 59 "AirTalkers" "toldAsked" "I", Cond.methodLink RX3 165 yX0_talkers, Cond.instanceMethod yX0_talkers, Cond.selects RX0 yX0_talkers yX0_talkers, Cond.initialized RX0, Cond.code yX0_talkers cX0_talkers 4 (some .int), Cond.fieldLink RX0 17 "AirTalkers$Air" "size" "I", Cond.fieldLink RX0 11 "AirTalkers$Air" "stations" "[LAirTalkers$Station;", Cond.fieldLink RX0 30 "AirTalkers$Air" "talked" "Z", Cond.methodLink RX0 66 yX2_wants, Cond.instanceMethod yX2_wants, Cond.selects RX2 yX2_wants yX2_wants, Cond.initialized RX2, Cond.code yX2_wants cX2_wants 2 (some .boolean), Cond.fieldLink RX2 21 "AirTalkers$Station" "letters" "I", Cond.fieldLink RX2 24 "AirTalkers$Station" "waiting" "I", Cond.methodLink RX2 34 yX2_isOf, Cond.instanceMethod yX2_isOf, Cond.selects RX2 yX2_isOf yX2_isOf, Cond.code yX2_isOf cX2_isOf 2 (some .boolean), Cond.fieldLink RX2 9 "AirTalkers$Station" "kind" "I", Cond.methodLink RX3 168 yJ6_bitCount_0f7a4, Cond.static yJ6_bitCount_0f7a4]
noncomputable def wsX3_talks_r2 : List Cond := [Cond.initialized RJ6, Cond.code yJ6_bitCount_0f7a4 cJ6_bitCount_0f7a4 1 (some .int), Cond.constant RJ6 265 (1431655765), Cond.constant RJ6 266 (858993459), Cond.constant RJ6 267 (252645135)]
noncomputable def wsX3_talks : List Cond := .code yX3_talks cX3_talks 2 (some .int) :: ((wsX3_talks_r1 ++ wsX3_talks_r2) ++ wsX30 ++ wsX00 ++ wsX20)
noncomputable def wsX3_heardAside_r1 : List Cond := [Cond.fieldLink RX3 47 "AirTalkers" "aside" "LAirTalkers$Air;", Cond.fieldLink RX3 33 "AirTalkers" "now" "LAirTalkers$Air;", Cond.fieldLink RX3 223 "AirTalkers$Air" "heard" "I", Cond.methodLink RX3 108 yX0_become, Cond.instanceMethod yX0_become, Cond.selects RX0 yX0_become yX0_become, Cond.initialized RX0, Cond.code yX0_become cX0_become 3 none, Cond.fieldLink RX0 17 "AirTalkers$Air" "size" "I", Cond.fieldLink RX0 21 "AirTalkers$Air" "slotNumber" "I", Cond.fieldLink RX0 24 "AirTalkers$Air" "heard" "I", Cond.fieldLink RX0 27 "AirTalkers$Air" "lost" "I", Cond.fieldLink RX0 30 "AirTalkers$Air" "talked" "Z", Cond.fieldLink RX0 11 "AirTalkers$Air" "stations" "[LAirTalkers$Station;", Cond.methodLink RX0 35 yX2_become, Cond.instanceMethod yX2_become, Cond.selects RX2 yX2_become yX2_become, Cond.initialized RX2, Cond.code yX2_become cX2_become 2 none, Cond.fieldLink RX2 9 "AirTalkers$Station" "kind" "I", Cond.fieldLink RX2 15 "AirTalkers$Station" "firstWait" "I", Cond.fieldLink RX2 18 "AirTalkers$Station" "step" "I", Cond.fieldLink RX2 21 "AirTalkers$Station" "letters" "I", Cond.fieldLink RX2 24 "AirTalkers$Station" "waiting" "I"]
noncomputable def wsX3_heardAside_r2 : List Cond := [Cond.fieldLink RX2 27 "AirTalkers$Station" "clashes" "I", Cond.methodLink RX3 242 yX0_lettersBut, Cond.instanceMethod yX0_lettersBut, Cond.selects RX0 yX0_lettersBut yX0_lettersBut, Cond.code yX0_lettersBut cX0_lettersBut 4 (some .int), Cond.fieldLink RX0 56 "AirTalkers$Station" "letters" "I", Cond.methodLink RX3 183 yX0_goBy, Cond.instanceMethod yX0_goBy, Cond.selects RX0 yX0_goBy yX0_goBy, Cond.code yX0_goBy cX0_goBy 6 (some .int), Cond.fieldLink RX0 78 "AirTalkers$Station" "waiting" "I", Cond.methodLink RX0 70 yX0_talkers, Cond.instanceMethod yX0_talkers, Cond.selects RX0 yX0_talkers yX0_talkers, Cond.code yX0_talkers cX0_talkers 4 (some .int), Cond.methodLink RX0 66 yX2_wants, Cond.instanceMethod yX2_wants, Cond.selects RX2 yX2_wants yX2_wants, Cond.code yX2_wants cX2_wants 2 (some .boolean), Cond.methodLink RX2 34 yX2_isOf, Cond.instanceMethod yX2_isOf, Cond.selects RX2 yX2_isOf yX2_isOf, Cond.code yX2_isOf cX2_isOf 2 (some .boolean), Cond.methodLink RX0 73 yJ6_bitCount_0f7a4]
noncomputable def wsX3_heardAside_r3 : List Cond := [Cond.static yJ6_bitCount_0f7a4, Cond.initialized RJ6, Cond.code yJ6_bitCount_0f7a4 cJ6_bitCount_0f7a4 1 (some .int), Cond.constant RJ6 265 (1431655765), Cond.constant RJ6 266 (858993459), Cond.constant RJ6 267 (252645135), Cond.methodLink RX0 81 yX2_isHeard, Cond.instanceMethod yX2_isHeard, Cond.selects RX2 yX2_isHeard yX2_isHeard, Cond.code yX2_isHeard cX2_isHeard 1 none, Cond.methodLink RX0 84 yX2_meets, Cond.instanceMethod yX2_meets, Cond.selects RX2 yX2_meets yX2_meets, Cond.code yX2_meets cX2_meets 2 (some .boolean), Cond.methodLink RX2 54 yX2_rest, Cond.instanceMethod yX2_rest, Cond.selects RX2 yX2_rest yX2_rest, Cond.code yX2_rest cX2_rest 1 none, Cond.methodLink RX2 57 yX2_waitBehind, Cond.instanceMethod yX2_waitBehind, Cond.selects RX2 yX2_waitBehind yX2_waitBehind, Cond.code yX2_waitBehind cX2_waitBehind 4 (some .int), Cond.methodLink RX2 47 yX2_doubleWait, Cond.instanceMethod yX2_doubleWait]
noncomputable def wsX3_heardAside_r4 : List Cond := [Cond.selects RX2 yX2_doubleWait yX2_doubleWait, Cond.code yX2_doubleWait cX2_doubleWait 3 (some .int), Cond.methodLink RX2 38 Lib.Math.min.name, Cond.static Lib.Math.min.name, Cond.initialized "java/lang/Math", Cond.code Lib.Math.min.name Lib.Math.min.code 2 (some .int), Cond.methodLink RX2 44 Lib.Math.max.name, Cond.static Lib.Math.max.name, Cond.code Lib.Math.max.name Lib.Math.max.code 2 (some .int), Cond.methodLink RX2 51 yX2_plainWait, Cond.instanceMethod yX2_plainWait, Cond.selects RX2 yX2_plainWait yX2_plainWait, Cond.code yX2_plainWait cX2_plainWait 2 (some .int)]
noncomputable def wsX3_heardAside : List Cond := .code yX3_heardAside cX3_heardAside 4 (some .int) :: ((wsX3_heardAside_r1 ++ (wsX3_heardAside_r2 ++ (wsX3_heardAside_r3 ++ wsX3_heardAside_r4))) ++ wsX30 ++ wsX00 ++ wsX20)
noncomputable def wsX3_later_r1 : List Cond := [Cond.fieldLink RX3 33 "AirTalkers" "now" "LAirTalkers$Air;", Cond.fieldLink RX3 59 "AirTalkers" "toldAsked" "I", Cond.fieldLink RX3 47 "AirTalkers" "aside" "LAirTalkers$Air;", Cond.fieldLink RX3 116 "AirTalkers$Air" "stations" "[LAirTalkers$Station;", Cond.fieldLink RX3 150 "AirTalkers$Station" "letters" "I", Cond.methodLink RX3 113 yX0_has, Cond.instanceMethod yX0_has, Cond.selects RX0 yX0_has yX0_has, Cond.initialized RX0, Cond.code yX0_has cX0_has 2 (some .boolean), Cond.fieldLink RX0 17 "AirTalkers$Air" "size" "I", Cond.methodLink RX3 173 yX3_heardAside, Cond.instanceMethod yX3_heardAside, Cond.selects RX3 yX3_heardAside yX3_heardAside, Cond.initialized RX3, Cond.code yX3_heardAside cX3_heardAside 4 (some .int), Cond.fieldLink RX3 223 "AirTalkers$Air" "heard" "I", Cond.methodLink RX3 108 yX0_become, Cond.instanceMethod yX0_become, Cond.selects RX0 yX0_become yX0_become, Cond.code yX0_become cX0_become 3 none, Cond.fieldLink RX0 21 "AirTalkers$Air" "slotNumber" "I", Cond.fieldLink RX0 24 "AirTalkers$Air" "heard" "I", Cond.fieldLink RX0 27 "AirTalkers$Air" "lost" "I"]
noncomputable def wsX3_later_r2 : List Cond := [Cond.fieldLink RX0 30 "AirTalkers$Air" "talked" "Z", Cond.fieldLink RX0 11 "AirTalkers$Air" "stations" "[LAirTalkers$Station;", Cond.methodLink RX0 35 yX2_become, Cond.instanceMethod yX2_become, Cond.selects RX2 yX2_become yX2_become, Cond.initialized RX2, Cond.code yX2_become cX2_become 2 none, Cond.fieldLink RX2 9 "AirTalkers$Station" "kind" "I", Cond.fieldLink RX2 15 "AirTalkers$Station" "firstWait" "I", Cond.fieldLink RX2 18 "AirTalkers$Station" "step" "I", Cond.fieldLink RX2 21 "AirTalkers$Station" "letters" "I", Cond.fieldLink RX2 24 "AirTalkers$Station" "waiting" "I", Cond.fieldLink RX2 27 "AirTalkers$Station" "clashes" "I", Cond.methodLink RX3 242 yX0_lettersBut, Cond.instanceMethod yX0_lettersBut, Cond.selects RX0 yX0_lettersBut yX0_lettersBut, Cond.code yX0_lettersBut cX0_lettersBut 4 (some .int), Cond.fieldLink RX0 56 "AirTalkers$Station" "letters" "I", Cond.methodLink RX3 183 yX0_goBy, Cond.instanceMethod yX0_goBy, Cond.selects RX0 yX0_goBy yX0_goBy, Cond.code yX0_goBy cX0_goBy 6 (some .int), Cond.fieldLink RX0 78 "AirTalkers$Station" "waiting" "I", Cond.methodLink RX0 70 yX0_talkers]
noncomputable def wsX3_later_r3 : List Cond := [Cond.instanceMethod yX0_talkers, Cond.selects RX0 yX0_talkers yX0_talkers, Cond.code yX0_talkers cX0_talkers 4 (some .int), Cond.methodLink RX0 66 yX2_wants, Cond.instanceMethod yX2_wants, Cond.selects RX2 yX2_wants yX2_wants, Cond.code yX2_wants cX2_wants 2 (some .boolean), Cond.methodLink RX2 34 yX2_isOf, Cond.instanceMethod yX2_isOf, Cond.selects RX2 yX2_isOf yX2_isOf, Cond.code yX2_isOf cX2_isOf 2 (some .boolean), Cond.methodLink RX0 73 yJ6_bitCount_0f7a4, Cond.static yJ6_bitCount_0f7a4, Cond.initialized RJ6, Cond.code yJ6_bitCount_0f7a4 cJ6_bitCount_0f7a4 1 (some .int), Cond.constant RJ6 265 (1431655765), Cond.constant RJ6 266 (858993459), Cond.constant RJ6 267 (252645135), Cond.methodLink RX0 81 yX2_isHeard, Cond.instanceMethod yX2_isHeard, Cond.selects RX2 yX2_isHeard yX2_isHeard, Cond.code yX2_isHeard cX2_isHeard 1 none, Cond.methodLink RX0 84 yX2_meets, Cond.instanceMethod yX2_meets]
noncomputable def wsX3_later_r4 : List Cond := [Cond.selects RX2 yX2_meets yX2_meets, Cond.code yX2_meets cX2_meets 2 (some .boolean), Cond.methodLink RX2 54 yX2_rest, Cond.instanceMethod yX2_rest, Cond.selects RX2 yX2_rest yX2_rest, Cond.code yX2_rest cX2_rest 1 none, Cond.methodLink RX2 57 yX2_waitBehind, Cond.instanceMethod yX2_waitBehind, Cond.selects RX2 yX2_waitBehind yX2_waitBehind, Cond.code yX2_waitBehind cX2_waitBehind 4 (some .int), Cond.methodLink RX2 47 yX2_doubleWait, Cond.instanceMethod yX2_doubleWait, Cond.selects RX2 yX2_doubleWait yX2_doubleWait, Cond.code yX2_doubleWait cX2_doubleWait 3 (some .int), Cond.methodLink RX2 38 Lib.Math.min.name, Cond.static Lib.Math.min.name, Cond.initialized "java/lang/Math", Cond.code Lib.Math.min.name Lib.Math.min.code 2 (some .int), Cond.methodLink RX2 44 Lib.Math.max.name, Cond.static Lib.Math.max.name, Cond.code Lib.Math.max.name Lib.Math.max.code 2 (some .int), Cond.methodLink RX2 51 yX2_plainWait, Cond.instanceMethod yX2_plainWait, Cond.selects RX2 yX2_plainWait yX2_plainWait]
noncomputable def wsX3_later_r5 : List Cond := [Cond.code yX2_plainWait cX2_plainWait 2 (some .int)]
noncomputable def wsX3_later : List Cond := .code yX3_later cX3_later 3 (some .int) :: ((wsX3_later_r1 ++ (wsX3_later_r2 ++ (wsX3_later_r3 ++ (wsX3_later_r4 ++ wsX3_later_r5)))) ++ wsX30 ++ wsX00 ++ wsX20)
noncomputable def wsX3_ends_r1 : List Cond := [Cond.fieldLink RX3 33 "AirTalkers" "now" "LAirTalkers$Air;", Cond.fieldLink RX3 112 "AirTalkers$Air" "size" "I", Cond.fieldLink RX3 47 "AirTalkers" "aside" "LAirTalkers$Air;", Cond.fieldLink RX3 180 "AirTalkers$Air" "lost" "I", Cond.fieldLink RX3 59 "AirTalkers" "toldAsked" "I", Cond.methodLink RX3 108 yX0_become, Cond.instanceMethod yX0_become, Cond.selects RX0 yX0_become yX0_become, Cond.initialized RX0, Cond.code yX0_become cX0_become 3 none, Cond.fieldLink RX0 17 "AirTalkers$Air" "size" "I", Cond.fieldLink RX0 21 "AirTalkers$Air" "slotNumber" "I", Cond.fieldLink RX0 24 "AirTalkers$Air" "heard" "I", Cond.fieldLink RX0 27 "AirTalkers$Air" "lost" "I", Cond.fieldLink RX0 30 "AirTalkers$Air" "talked" "Z", Cond.fieldLink RX0 11 "AirTalkers$Air" "stations" "[LAirTalkers$Station;", Cond.methodLink RX0 35 yX2_become, Cond.instanceMethod yX2_become, Cond.selects RX2 yX2_become yX2_become, Cond.initialized RX2, Cond.code yX2_become cX2_become 2 none, Cond.fieldLink RX2 9 "AirTalkers$Station" "kind" "I", Cond.fieldLink RX2 15 "AirTalkers$Station" "firstWait" "I", Cond.fieldLink RX2 18 "AirTalkers$Station" "step" "I"]
noncomputable def wsX3_ends_r2 : List Cond := [Cond.fieldLink RX2 21 "AirTalkers$Station" "letters" "I", Cond.fieldLink RX2 24 "AirTalkers$Station" "waiting" "I", Cond.fieldLink RX2 27 "AirTalkers$Station" "clashes" "I", Cond.methodLink RX3 176 yX0_goToEnd, Cond.instanceMethod yX0_goToEnd, Cond.selects RX0 yX0_goToEnd yX0_goToEnd, Cond.code yX0_goToEnd cX0_goToEnd 2 (some .int), Cond.methodLink RX0 88 yX0_lettersBut, Cond.instanceMethod yX0_lettersBut, Cond.selects RX0 yX0_lettersBut yX0_lettersBut, Cond.code yX0_lettersBut cX0_lettersBut 4 (some .int), Cond.fieldLink RX0 56 "AirTalkers$Station" "letters" "I", Cond.methodLink RX0 91 yX0_goBy, Cond.instanceMethod yX0_goBy, Cond.selects RX0 yX0_goBy yX0_goBy, Cond.code yX0_goBy cX0_goBy 6 (some .int), Cond.fieldLink RX0 78 "AirTalkers$Station" "waiting" "I", Cond.methodLink RX0 70 yX0_talkers, Cond.instanceMethod yX0_talkers, Cond.selects RX0 yX0_talkers yX0_talkers, Cond.code yX0_talkers cX0_talkers 4 (some .int), Cond.methodLink RX0 66 yX2_wants, Cond.instanceMethod yX2_wants, Cond.selects RX2 yX2_wants yX2_wants]
noncomputable def wsX3_ends_r3 : List Cond := [Cond.code yX2_wants cX2_wants 2 (some .boolean), Cond.methodLink RX2 34 yX2_isOf, Cond.instanceMethod yX2_isOf, Cond.selects RX2 yX2_isOf yX2_isOf, Cond.code yX2_isOf cX2_isOf 2 (some .boolean), Cond.methodLink RX0 73 yJ6_bitCount_0f7a4, Cond.static yJ6_bitCount_0f7a4, Cond.initialized RJ6, Cond.code yJ6_bitCount_0f7a4 cJ6_bitCount_0f7a4 1 (some .int), Cond.constant RJ6 265 (1431655765), Cond.constant RJ6 266 (858993459), Cond.constant RJ6 267 (252645135), Cond.methodLink RX0 81 yX2_isHeard, Cond.instanceMethod yX2_isHeard, Cond.selects RX2 yX2_isHeard yX2_isHeard, Cond.code yX2_isHeard cX2_isHeard 1 none, Cond.methodLink RX0 84 yX2_meets, Cond.instanceMethod yX2_meets, Cond.selects RX2 yX2_meets yX2_meets, Cond.code yX2_meets cX2_meets 2 (some .boolean), Cond.methodLink RX2 54 yX2_rest, Cond.instanceMethod yX2_rest, Cond.selects RX2 yX2_rest yX2_rest, Cond.code yX2_rest cX2_rest 1 none]
noncomputable def wsX3_ends_r4 : List Cond := [Cond.methodLink RX2 57 yX2_waitBehind, Cond.instanceMethod yX2_waitBehind, Cond.selects RX2 yX2_waitBehind yX2_waitBehind, Cond.code yX2_waitBehind cX2_waitBehind 4 (some .int), Cond.methodLink RX2 47 yX2_doubleWait, Cond.instanceMethod yX2_doubleWait, Cond.selects RX2 yX2_doubleWait yX2_doubleWait, Cond.code yX2_doubleWait cX2_doubleWait 3 (some .int), Cond.methodLink RX2 38 Lib.Math.min.name, Cond.static Lib.Math.min.name, Cond.initialized "java/lang/Math", Cond.code Lib.Math.min.name Lib.Math.min.code 2 (some .int), Cond.methodLink RX2 44 Lib.Math.max.name, Cond.static Lib.Math.max.name, Cond.code Lib.Math.max.name Lib.Math.max.code 2 (some .int), Cond.methodLink RX2 51 yX2_plainWait, Cond.instanceMethod yX2_plainWait, Cond.selects RX2 yX2_plainWait yX2_plainWait, Cond.code yX2_plainWait cX2_plainWait 2 (some .int)]
noncomputable def wsX3_ends : List Cond := .code yX3_ends cX3_ends 2 (some .int) :: ((wsX3_ends_r1 ++ (wsX3_ends_r2 ++ (wsX3_ends_r3 ++ wsX3_ends_r4))) ++ wsX30 ++ wsX00 ++ wsX20)
noncomputable def wsX3_clash_r1 : List Cond := [Cond.fieldLink RX3 33 "AirTalkers" "now" "LAirTalkers$Air;", Cond.fieldLink RX3 112 "AirTalkers$Air" "size" "I", Cond.fieldLink RX3 47 "AirTalkers" "aside" "LAirTalkers$Air;", Cond.fieldLink RX3 59 "AirTalkers" "toldAsked" "I", Cond.methodLink RX3 108 yX0_become, Cond.instanceMethod yX0_become, Cond.selects RX0 yX0_become yX0_become, Cond.initialized RX0, Cond.code yX0_become cX0_become 3 none, Cond.fieldLink RX0 17 "AirTalkers$Air" "size" "I", Cond.fieldLink RX0 21 "AirTalkers$Air" "slotNumber" "I", Cond.fieldLink RX0 24 "AirTalkers$Air" "heard" "I", Cond.fieldLink RX0 27 "AirTalkers$Air" "lost" "I", Cond.fieldLink RX0 30 "AirTalkers$Air" "talked" "Z", Cond.fieldLink RX0 11 "AirTalkers$Air" "stations" "[LAirTalkers$Station;", Cond.methodLink RX0 35 yX2_become, Cond.instanceMethod yX2_become, Cond.selects RX2 yX2_become yX2_become, Cond.initialized RX2, Cond.code yX2_become cX2_become 2 none, Cond.fieldLink RX2 9 "AirTalkers$Station" "kind" "I", Cond.fieldLink RX2 15 "AirTalkers$Station" "firstWait" "I", Cond.fieldLink RX2 18 "AirTalkers$Station" "step" "I", Cond.fieldLink RX2 21 "AirTalkers$Station" "letters" "I"]
noncomputable def wsX3_clash_r2 : List Cond := [Cond.fieldLink RX2 24 "AirTalkers$Station" "waiting" "I", Cond.fieldLink RX2 27 "AirTalkers$Station" "clashes" "I", Cond.methodLink RX3 183 yX0_goBy, Cond.instanceMethod yX0_goBy, Cond.selects RX0 yX0_goBy yX0_goBy, Cond.code yX0_goBy cX0_goBy 6 (some .int), Cond.fieldLink RX0 78 "AirTalkers$Station" "waiting" "I", Cond.methodLink RX0 70 yX0_talkers, Cond.instanceMethod yX0_talkers, Cond.selects RX0 yX0_talkers yX0_talkers, Cond.code yX0_talkers cX0_talkers 4 (some .int), Cond.methodLink RX0 66 yX2_wants, Cond.instanceMethod yX2_wants, Cond.selects RX2 yX2_wants yX2_wants, Cond.code yX2_wants cX2_wants 2 (some .boolean), Cond.methodLink RX2 34 yX2_isOf, Cond.instanceMethod yX2_isOf, Cond.selects RX2 yX2_isOf yX2_isOf, Cond.code yX2_isOf cX2_isOf 2 (some .boolean), Cond.methodLink RX0 73 yJ6_bitCount_0f7a4, Cond.static yJ6_bitCount_0f7a4, Cond.initialized RJ6, Cond.code yJ6_bitCount_0f7a4 cJ6_bitCount_0f7a4 1 (some .int), Cond.constant RJ6 265 (1431655765)]
noncomputable def wsX3_clash_r3 : List Cond := [Cond.constant RJ6 266 (858993459), Cond.constant RJ6 267 (252645135), Cond.methodLink RX0 81 yX2_isHeard, Cond.instanceMethod yX2_isHeard, Cond.selects RX2 yX2_isHeard yX2_isHeard, Cond.code yX2_isHeard cX2_isHeard 1 none, Cond.methodLink RX0 84 yX2_meets, Cond.instanceMethod yX2_meets, Cond.selects RX2 yX2_meets yX2_meets, Cond.code yX2_meets cX2_meets 2 (some .boolean), Cond.methodLink RX2 54 yX2_rest, Cond.instanceMethod yX2_rest, Cond.selects RX2 yX2_rest yX2_rest, Cond.code yX2_rest cX2_rest 1 none, Cond.methodLink RX2 57 yX2_waitBehind, Cond.instanceMethod yX2_waitBehind, Cond.selects RX2 yX2_waitBehind yX2_waitBehind, Cond.code yX2_waitBehind cX2_waitBehind 4 (some .int), Cond.methodLink RX2 47 yX2_doubleWait, Cond.instanceMethod yX2_doubleWait, Cond.selects RX2 yX2_doubleWait yX2_doubleWait, Cond.code yX2_doubleWait cX2_doubleWait 3 (some .int), Cond.methodLink RX2 38 Lib.Math.min.name, Cond.static Lib.Math.min.name]
noncomputable def wsX3_clash_r4 : List Cond := [Cond.initialized "java/lang/Math", Cond.code Lib.Math.min.name Lib.Math.min.code 2 (some .int), Cond.methodLink RX2 44 Lib.Math.max.name, Cond.static Lib.Math.max.name, Cond.code Lib.Math.max.name Lib.Math.max.code 2 (some .int), Cond.methodLink RX2 51 yX2_plainWait, Cond.instanceMethod yX2_plainWait, Cond.selects RX2 yX2_plainWait yX2_plainWait, Cond.code yX2_plainWait cX2_plainWait 2 (some .int), Cond.methodLink RX3 168 yJ6_bitCount_0f7a4]
noncomputable def wsX3_clash : List Cond := .code yX3_clash cX3_clash 3 (some .int) :: ((wsX3_clash_r1 ++ (wsX3_clash_r2 ++ (wsX3_clash_r3 ++ wsX3_clash_r4))) ++ wsX30 ++ wsX00 ++ wsX20)
noncomputable def wsX3_countHeardAside_r1 : List Cond := [Cond.fieldLink RX3 53 "AirTalkers" "heardOf" "[I", Cond.fieldLink RX3 47 "AirTalkers" "aside" "LAirTalkers$Air;", Cond.fieldLink RX3 33 "AirTalkers" "now" "LAirTalkers$Air;", Cond.fieldLink RX3 112 "AirTalkers$Air" "size" "I", Cond.methodLink RX3 108 yX0_become, Cond.instanceMethod yX0_become, Cond.selects RX0 yX0_become yX0_become, Cond.initialized RX0, Cond.code yX0_become cX0_become 3 none, Cond.fieldLink RX0 17 "AirTalkers$Air" "size" "I", Cond.fieldLink RX0 21 "AirTalkers$Air" "slotNumber" "I", Cond.fieldLink RX0 24 "AirTalkers$Air" "heard" "I", Cond.fieldLink RX0 27 "AirTalkers$Air" "lost" "I", Cond.fieldLink RX0 30 "AirTalkers$Air" "talked" "Z", Cond.fieldLink RX0 11 "AirTalkers$Air" "stations" "[LAirTalkers$Station;", Cond.methodLink RX0 35 yX2_become, Cond.instanceMethod yX2_become, Cond.selects RX2 yX2_become yX2_become, Cond.initialized RX2, Cond.code yX2_become cX2_become 2 none, Cond.fieldLink RX2 9 "AirTalkers$Station" "kind" "I", Cond.fieldLink RX2 15 "AirTalkers$Station" "firstWait" "I", Cond.fieldLink RX2 18 "AirTalkers$Station" "step" "I", Cond.fieldLink RX2 21 "AirTalkers$Station" "letters" "I"]
noncomputable def wsX3_countHeardAside_r2 : List Cond := [Cond.fieldLink RX2 24 "AirTalkers$Station" "waiting" "I", Cond.fieldLink RX2 27 "AirTalkers$Station" "clashes" "I", Cond.methodLink RX3 183 yX0_goBy, Cond.instanceMethod yX0_goBy, Cond.selects RX0 yX0_goBy yX0_goBy, Cond.code yX0_goBy cX0_goBy 6 (some .int), Cond.fieldLink RX0 78 "AirTalkers$Station" "waiting" "I", Cond.methodLink RX0 70 yX0_talkers, Cond.instanceMethod yX0_talkers, Cond.selects RX0 yX0_talkers yX0_talkers, Cond.code yX0_talkers cX0_talkers 4 (some .int), Cond.methodLink RX0 66 yX2_wants, Cond.instanceMethod yX2_wants, Cond.selects RX2 yX2_wants yX2_wants, Cond.code yX2_wants cX2_wants 2 (some .boolean), Cond.methodLink RX2 34 yX2_isOf, Cond.instanceMethod yX2_isOf, Cond.selects RX2 yX2_isOf yX2_isOf, Cond.code yX2_isOf cX2_isOf 2 (some .boolean), Cond.methodLink RX0 73 yJ6_bitCount_0f7a4, Cond.static yJ6_bitCount_0f7a4, Cond.initialized RJ6, Cond.code yJ6_bitCount_0f7a4 cJ6_bitCount_0f7a4 1 (some .int), Cond.constant RJ6 265 (1431655765)]
noncomputable def wsX3_countHeardAside_r3 : List Cond := [Cond.constant RJ6 266 (858993459), Cond.constant RJ6 267 (252645135), Cond.methodLink RX0 81 yX2_isHeard, Cond.instanceMethod yX2_isHeard, Cond.selects RX2 yX2_isHeard yX2_isHeard, Cond.code yX2_isHeard cX2_isHeard 1 none, Cond.methodLink RX0 84 yX2_meets, Cond.instanceMethod yX2_meets, Cond.selects RX2 yX2_meets yX2_meets, Cond.code yX2_meets cX2_meets 2 (some .boolean), Cond.methodLink RX2 54 yX2_rest, Cond.instanceMethod yX2_rest, Cond.selects RX2 yX2_rest yX2_rest, Cond.code yX2_rest cX2_rest 1 none, Cond.methodLink RX2 57 yX2_waitBehind, Cond.instanceMethod yX2_waitBehind, Cond.selects RX2 yX2_waitBehind yX2_waitBehind, Cond.code yX2_waitBehind cX2_waitBehind 4 (some .int), Cond.methodLink RX2 47 yX2_doubleWait, Cond.instanceMethod yX2_doubleWait, Cond.selects RX2 yX2_doubleWait yX2_doubleWait, Cond.code yX2_doubleWait cX2_doubleWait 3 (some .int), Cond.methodLink RX2 38 Lib.Math.min.name, Cond.static Lib.Math.min.name]
noncomputable def wsX3_countHeardAside_r4 : List Cond := [Cond.initialized "java/lang/Math", Cond.code Lib.Math.min.name Lib.Math.min.code 2 (some .int), Cond.methodLink RX2 44 Lib.Math.max.name, Cond.static Lib.Math.max.name, Cond.code Lib.Math.max.name Lib.Math.max.code 2 (some .int), Cond.methodLink RX2 51 yX2_plainWait, Cond.instanceMethod yX2_plainWait, Cond.selects RX2 yX2_plainWait yX2_plainWait, Cond.code yX2_plainWait cX2_plainWait 2 (some .int)]
noncomputable def wsX3_countHeardAside : List Cond := .code yX3_countHeardAside cX3_countHeardAside 5 none :: ((wsX3_countHeardAside_r1 ++ (wsX3_countHeardAside_r2 ++ (wsX3_countHeardAside_r3 ++ wsX3_countHeardAside_r4))) ++ wsX30 ++ wsX00 ++ wsX20)
noncomputable def wsX3_most_r1 : List Cond := [Cond.fieldLink RX3 33 "AirTalkers" "now" "LAirTalkers$Air;", Cond.fieldLink RX3 112 "AirTalkers$Air" "size" "I", Cond.fieldLink RX3 53 "AirTalkers" "heardOf" "[I", Cond.fieldLink RX3 59 "AirTalkers" "toldAsked" "I", Cond.methodLink RX3 186 yX3_countHeardAside, Cond.instanceMethod yX3_countHeardAside, Cond.selects RX3 yX3_countHeardAside yX3_countHeardAside, Cond.initialized RX3, Cond.code yX3_countHeardAside cX3_countHeardAside 5 none, Cond.fieldLink RX3 47 "AirTalkers" "aside" "LAirTalkers$Air;", Cond.methodLink RX3 108 yX0_become, Cond.instanceMethod yX0_become, Cond.selects RX0 yX0_become yX0_become, Cond.initialized RX0, Cond.code yX0_become cX0_become 3 none, Cond.fieldLink RX0 17 "AirTalkers$Air" "size" "I", Cond.fieldLink RX0 21 "AirTalkers$Air" "slotNumber" "I", Cond.fieldLink RX0 24 "AirTalkers$Air" "heard" "I", Cond.fieldLink RX0 27 "AirTalkers$Air" "lost" "I", Cond.fieldLink RX0 30 "AirTalkers$Air" "talked" "Z", Cond.fieldLink RX0 11 "AirTalkers$Air" "stations" "[LAirTalkers$Station;", Cond.methodLink RX0 35 yX2_become, Cond.instanceMethod yX2_become, Cond.selects RX2 yX2_become yX2_become]
noncomputable def wsX3_most_r2 : List Cond := [Cond.initialized RX2, Cond.code yX2_become cX2_become 2 none, Cond.fieldLink RX2 9 "AirTalkers$Station" "kind" "I", Cond.fieldLink RX2 15 "AirTalkers$Station" "firstWait" "I", Cond.fieldLink RX2 18 "AirTalkers$Station" "step" "I", Cond.fieldLink RX2 21 "AirTalkers$Station" "letters" "I", Cond.fieldLink RX2 24 "AirTalkers$Station" "waiting" "I", Cond.fieldLink RX2 27 "AirTalkers$Station" "clashes" "I", Cond.methodLink RX3 183 yX0_goBy, Cond.instanceMethod yX0_goBy, Cond.selects RX0 yX0_goBy yX0_goBy, Cond.code yX0_goBy cX0_goBy 6 (some .int), Cond.fieldLink RX0 78 "AirTalkers$Station" "waiting" "I", Cond.methodLink RX0 70 yX0_talkers, Cond.instanceMethod yX0_talkers, Cond.selects RX0 yX0_talkers yX0_talkers, Cond.code yX0_talkers cX0_talkers 4 (some .int), Cond.methodLink RX0 66 yX2_wants, Cond.instanceMethod yX2_wants, Cond.selects RX2 yX2_wants yX2_wants, Cond.code yX2_wants cX2_wants 2 (some .boolean), Cond.methodLink RX2 34 yX2_isOf, Cond.instanceMethod yX2_isOf, Cond.selects RX2 yX2_isOf yX2_isOf]
noncomputable def wsX3_most_r3 : List Cond := [Cond.code yX2_isOf cX2_isOf 2 (some .boolean), Cond.methodLink RX0 73 yJ6_bitCount_0f7a4, Cond.static yJ6_bitCount_0f7a4, Cond.initialized RJ6, Cond.code yJ6_bitCount_0f7a4 cJ6_bitCount_0f7a4 1 (some .int), Cond.constant RJ6 265 (1431655765), Cond.constant RJ6 266 (858993459), Cond.constant RJ6 267 (252645135), Cond.methodLink RX0 81 yX2_isHeard, Cond.instanceMethod yX2_isHeard, Cond.selects RX2 yX2_isHeard yX2_isHeard, Cond.code yX2_isHeard cX2_isHeard 1 none, Cond.methodLink RX0 84 yX2_meets, Cond.instanceMethod yX2_meets, Cond.selects RX2 yX2_meets yX2_meets, Cond.code yX2_meets cX2_meets 2 (some .boolean), Cond.methodLink RX2 54 yX2_rest, Cond.instanceMethod yX2_rest, Cond.selects RX2 yX2_rest yX2_rest, Cond.code yX2_rest cX2_rest 1 none, Cond.methodLink RX2 57 yX2_waitBehind, Cond.instanceMethod yX2_waitBehind, Cond.selects RX2 yX2_waitBehind yX2_waitBehind, Cond.code yX2_waitBehind cX2_waitBehind 4 (some .int)]
noncomputable def wsX3_most_r4 : List Cond := [Cond.methodLink RX2 47 yX2_doubleWait, Cond.instanceMethod yX2_doubleWait, Cond.selects RX2 yX2_doubleWait yX2_doubleWait, Cond.code yX2_doubleWait cX2_doubleWait 3 (some .int), Cond.methodLink RX2 38 Lib.Math.min.name, Cond.static Lib.Math.min.name, Cond.initialized "java/lang/Math", Cond.code Lib.Math.min.name Lib.Math.min.code 2 (some .int), Cond.methodLink RX2 44 Lib.Math.max.name, Cond.static Lib.Math.max.name, Cond.code Lib.Math.max.name Lib.Math.max.code 2 (some .int), Cond.methodLink RX2 51 yX2_plainWait, Cond.instanceMethod yX2_plainWait, Cond.selects RX2 yX2_plainWait yX2_plainWait, Cond.code yX2_plainWait cX2_plainWait 2 (some .int)]
noncomputable def wsX3_most : List Cond := .code yX3_most cX3_most 5 (some .int) :: ((wsX3_most_r1 ++ (wsX3_most_r2 ++ (wsX3_most_r3 ++ wsX3_most_r4))) ++ wsX30 ++ wsX00 ++ wsX20)
noncomputable def wsX3_best_r1 : List Cond := [Cond.fieldLink RX3 33 "AirTalkers" "now" "LAirTalkers$Air;", Cond.fieldLink RX3 47 "AirTalkers" "aside" "LAirTalkers$Air;", Cond.fieldLink RX3 116 "AirTalkers$Air" "stations" "[LAirTalkers$Station;", Cond.fieldLink RX3 153 "AirTalkers$Station" "firstWait" "I", Cond.fieldLink RX3 59 "AirTalkers" "toldAsked" "I", Cond.methodLink RX3 113 yX0_has, Cond.instanceMethod yX0_has, Cond.selects RX0 yX0_has yX0_has, Cond.initialized RX0, Cond.code yX0_has cX0_has 2 (some .boolean), Cond.fieldLink RX0 17 "AirTalkers$Air" "size" "I", Cond.methodLink RX3 108 yX0_become, Cond.instanceMethod yX0_become, Cond.selects RX0 yX0_become yX0_become, Cond.code yX0_become cX0_become 3 none, Cond.fieldLink RX0 21 "AirTalkers$Air" "slotNumber" "I", Cond.fieldLink RX0 24 "AirTalkers$Air" "heard" "I", Cond.fieldLink RX0 27 "AirTalkers$Air" "lost" "I", Cond.fieldLink RX0 30 "AirTalkers$Air" "talked" "Z", Cond.fieldLink RX0 11 "AirTalkers$Air" "stations" "[LAirTalkers$Station;", Cond.methodLink RX0 35 yX2_become, Cond.instanceMethod yX2_become, Cond.selects RX2 yX2_become yX2_become, Cond.initialized RX2]
noncomputable def wsX3_best_r2 : List Cond := [Cond.code yX2_become cX2_become 2 none, Cond.fieldLink RX2 9 "AirTalkers$Station" "kind" "I", Cond.fieldLink RX2 15 "AirTalkers$Station" "firstWait" "I", Cond.fieldLink RX2 18 "AirTalkers$Station" "step" "I", Cond.fieldLink RX2 21 "AirTalkers$Station" "letters" "I", Cond.fieldLink RX2 24 "AirTalkers$Station" "waiting" "I", Cond.fieldLink RX2 27 "AirTalkers$Station" "clashes" "I", Cond.methodLink RX3 176 yX0_goToEnd, Cond.instanceMethod yX0_goToEnd, Cond.selects RX0 yX0_goToEnd yX0_goToEnd, Cond.code yX0_goToEnd cX0_goToEnd 2 (some .int), Cond.methodLink RX0 88 yX0_lettersBut, Cond.instanceMethod yX0_lettersBut, Cond.selects RX0 yX0_lettersBut yX0_lettersBut, Cond.code yX0_lettersBut cX0_lettersBut 4 (some .int), Cond.fieldLink RX0 56 "AirTalkers$Station" "letters" "I", Cond.methodLink RX0 91 yX0_goBy, Cond.instanceMethod yX0_goBy, Cond.selects RX0 yX0_goBy yX0_goBy, Cond.code yX0_goBy cX0_goBy 6 (some .int), Cond.fieldLink RX0 78 "AirTalkers$Station" "waiting" "I", Cond.methodLink RX0 70 yX0_talkers, Cond.instanceMethod yX0_talkers, Cond.selects RX0 yX0_talkers yX0_talkers]
noncomputable def wsX3_best_r3 : List Cond := [Cond.code yX0_talkers cX0_talkers 4 (some .int), Cond.methodLink RX0 66 yX2_wants, Cond.instanceMethod yX2_wants, Cond.selects RX2 yX2_wants yX2_wants, Cond.code yX2_wants cX2_wants 2 (some .boolean), Cond.methodLink RX2 34 yX2_isOf, Cond.instanceMethod yX2_isOf, Cond.selects RX2 yX2_isOf yX2_isOf, Cond.code yX2_isOf cX2_isOf 2 (some .boolean), Cond.methodLink RX0 73 yJ6_bitCount_0f7a4, Cond.static yJ6_bitCount_0f7a4, Cond.initialized RJ6, Cond.code yJ6_bitCount_0f7a4 cJ6_bitCount_0f7a4 1 (some .int), Cond.constant RJ6 265 (1431655765), Cond.constant RJ6 266 (858993459), Cond.constant RJ6 267 (252645135), Cond.methodLink RX0 81 yX2_isHeard, Cond.instanceMethod yX2_isHeard, Cond.selects RX2 yX2_isHeard yX2_isHeard, Cond.code yX2_isHeard cX2_isHeard 1 none, Cond.methodLink RX0 84 yX2_meets, Cond.instanceMethod yX2_meets, Cond.selects RX2 yX2_meets yX2_meets, Cond.code yX2_meets cX2_meets 2 (some .boolean)]
noncomputable def wsX3_best_r4 : List Cond := [Cond.methodLink RX2 54 yX2_rest, Cond.instanceMethod yX2_rest, Cond.selects RX2 yX2_rest yX2_rest, Cond.code yX2_rest cX2_rest 1 none, Cond.methodLink RX2 57 yX2_waitBehind, Cond.instanceMethod yX2_waitBehind, Cond.selects RX2 yX2_waitBehind yX2_waitBehind, Cond.code yX2_waitBehind cX2_waitBehind 4 (some .int), Cond.methodLink RX2 47 yX2_doubleWait, Cond.instanceMethod yX2_doubleWait, Cond.selects RX2 yX2_doubleWait yX2_doubleWait, Cond.code yX2_doubleWait cX2_doubleWait 3 (some .int), Cond.methodLink RX2 38 Lib.Math.min.name, Cond.static Lib.Math.min.name, Cond.initialized "java/lang/Math", Cond.code Lib.Math.min.name Lib.Math.min.code 2 (some .int), Cond.methodLink RX2 44 Lib.Math.max.name, Cond.static Lib.Math.max.name, Cond.code Lib.Math.max.name Lib.Math.max.code 2 (some .int), Cond.methodLink RX2 51 yX2_plainWait, Cond.instanceMethod yX2_plainWait, Cond.selects RX2 yX2_plainWait yX2_plainWait, Cond.code yX2_plainWait cX2_plainWait 2 (some .int)]
noncomputable def wsX3_best : List Cond := .code yX3_best cX3_best 6 (some .int) :: ((wsX3_best_r1 ++ (wsX3_best_r2 ++ (wsX3_best_r3 ++ wsX3_best_r4))) ++ wsX30 ++ wsX00 ++ wsX20)
noncomputable def wsX3_silence_r1 : List Cond := [Cond.fieldLink RX3 33 "AirTalkers" "now" "LAirTalkers$Air;", Cond.fieldLink RX3 112 "AirTalkers$Air" "size" "I", Cond.fieldLink RX3 59 "AirTalkers" "toldAsked" "I", Cond.methodLink RX3 190 yX0_sets, Cond.instanceMethod yX0_sets, Cond.selects RX0 yX0_sets yX0_sets, Cond.initialized RX0, Cond.code yX0_sets cX0_sets 1 (some .int), Cond.fieldLink RX0 17 "AirTalkers$Air" "size" "I", Cond.methodLink RX3 173 yX3_heardAside, Cond.instanceMethod yX3_heardAside, Cond.selects RX3 yX3_heardAside yX3_heardAside, Cond.initialized RX3, Cond.code yX3_heardAside cX3_heardAside 4 (some .int), Cond.fieldLink RX3 47 "AirTalkers" "aside" "LAirTalkers$Air;", Cond.fieldLink RX3 223 "AirTalkers$Air" "heard" "I", Cond.methodLink RX3 108 yX0_become, Cond.instanceMethod yX0_become, Cond.selects RX0 yX0_become yX0_become, Cond.code yX0_become cX0_become 3 none, Cond.fieldLink RX0 21 "AirTalkers$Air" "slotNumber" "I", Cond.fieldLink RX0 24 "AirTalkers$Air" "heard" "I", Cond.fieldLink RX0 27 "AirTalkers$Air" "lost" "I", Cond.fieldLink RX0 30 "AirTalkers$Air" "talked" "Z"]
noncomputable def wsX3_silence_r2 : List Cond := [Cond.fieldLink RX0 11 "AirTalkers$Air" "stations" "[LAirTalkers$Station;", Cond.methodLink RX0 35 yX2_become, Cond.instanceMethod yX2_become, Cond.selects RX2 yX2_become yX2_become, Cond.initialized RX2, Cond.code yX2_become cX2_become 2 none, Cond.fieldLink RX2 9 "AirTalkers$Station" "kind" "I", Cond.fieldLink RX2 15 "AirTalkers$Station" "firstWait" "I", Cond.fieldLink RX2 18 "AirTalkers$Station" "step" "I", Cond.fieldLink RX2 21 "AirTalkers$Station" "letters" "I", Cond.fieldLink RX2 24 "AirTalkers$Station" "waiting" "I", Cond.fieldLink RX2 27 "AirTalkers$Station" "clashes" "I", Cond.methodLink RX3 242 yX0_lettersBut, Cond.instanceMethod yX0_lettersBut, Cond.selects RX0 yX0_lettersBut yX0_lettersBut, Cond.code yX0_lettersBut cX0_lettersBut 4 (some .int), Cond.fieldLink RX0 56 "AirTalkers$Station" "letters" "I", Cond.methodLink RX3 183 yX0_goBy, Cond.instanceMethod yX0_goBy, Cond.selects RX0 yX0_goBy yX0_goBy, Cond.code yX0_goBy cX0_goBy 6 (some .int), Cond.fieldLink RX0 78 "AirTalkers$Station" "waiting" "I", Cond.methodLink RX0 70 yX0_talkers, Cond.instanceMethod yX0_talkers]
noncomputable def wsX3_silence_r3 : List Cond := [Cond.selects RX0 yX0_talkers yX0_talkers, Cond.code yX0_talkers cX0_talkers 4 (some .int), Cond.methodLink RX0 66 yX2_wants, Cond.instanceMethod yX2_wants, Cond.selects RX2 yX2_wants yX2_wants, Cond.code yX2_wants cX2_wants 2 (some .boolean), Cond.methodLink RX2 34 yX2_isOf, Cond.instanceMethod yX2_isOf, Cond.selects RX2 yX2_isOf yX2_isOf, Cond.code yX2_isOf cX2_isOf 2 (some .boolean), Cond.methodLink RX0 73 yJ6_bitCount_0f7a4, Cond.static yJ6_bitCount_0f7a4, Cond.initialized RJ6, Cond.code yJ6_bitCount_0f7a4 cJ6_bitCount_0f7a4 1 (some .int), Cond.constant RJ6 265 (1431655765), Cond.constant RJ6 266 (858993459), Cond.constant RJ6 267 (252645135), Cond.methodLink RX0 81 yX2_isHeard, Cond.instanceMethod yX2_isHeard, Cond.selects RX2 yX2_isHeard yX2_isHeard, Cond.code yX2_isHeard cX2_isHeard 1 none, Cond.methodLink RX0 84 yX2_meets, Cond.instanceMethod yX2_meets, Cond.selects RX2 yX2_meets yX2_meets]
noncomputable def wsX3_silence_r4 : List Cond := [Cond.code yX2_meets cX2_meets 2 (some .boolean), Cond.methodLink RX2 54 yX2_rest, Cond.instanceMethod yX2_rest, Cond.selects RX2 yX2_rest yX2_rest, Cond.code yX2_rest cX2_rest 1 none, Cond.methodLink RX2 57 yX2_waitBehind, Cond.instanceMethod yX2_waitBehind, Cond.selects RX2 yX2_waitBehind yX2_waitBehind, Cond.code yX2_waitBehind cX2_waitBehind 4 (some .int), Cond.methodLink RX2 47 yX2_doubleWait, Cond.instanceMethod yX2_doubleWait, Cond.selects RX2 yX2_doubleWait yX2_doubleWait, Cond.code yX2_doubleWait cX2_doubleWait 3 (some .int), Cond.methodLink RX2 38 Lib.Math.min.name, Cond.static Lib.Math.min.name, Cond.initialized "java/lang/Math", Cond.code Lib.Math.min.name Lib.Math.min.code 2 (some .int), Cond.methodLink RX2 44 Lib.Math.max.name, Cond.static Lib.Math.max.name, Cond.code Lib.Math.max.name Lib.Math.max.code 2 (some .int), Cond.methodLink RX2 51 yX2_plainWait, Cond.instanceMethod yX2_plainWait, Cond.selects RX2 yX2_plainWait yX2_plainWait, Cond.code yX2_plainWait cX2_plainWait 2 (some .int)]
noncomputable def wsX3_silence_r5 : List Cond := [Cond.methodLink RX3 168 yJ6_bitCount_0f7a4]
noncomputable def wsX3_silence : List Cond := .code yX3_silence cX3_silence 7 (some .int) :: ((wsX3_silence_r1 ++ (wsX3_silence_r2 ++ (wsX3_silence_r3 ++ (wsX3_silence_r4 ++ wsX3_silence_r5)))) ++ wsX30 ++ wsX00 ++ wsX20)
noncomputable def wsX3_refusedWatch : List Cond := .code yX3_refusedWatch cX3_refusedWatch 5 (some .int) :: ([.fieldLink RX3 33 "AirTalkers" "now" "LAirTalkers$Air;", .fieldLink RX3 14 "AirTalkers" "rowSizes" "[I", .fieldLink RX3 11 "AirTalkers" "rows" "[[I", .methodLink RX3 113 yX0_has, .instanceMethod yX0_has, .selects RX0 yX0_has yX0_has, .initialized RX0, .code yX0_has cX0_has 2 (some .boolean), .fieldLink RX0 17 "AirTalkers$Air" "size" "I", .methodLink RX3 79 yX3_isRow, .static yX3_isRow, .initialized RX3, .code yX3_isRow cX3_isRow 1 (some .boolean), .methodLink RX3 83 yX3_found, .instanceMethod yX3_found, .selects RX3 yX3_found yX3_found, .code yX3_found cX3_found 2 (some .int), .fieldLink RX3 70 "AirTalkers" "latestFinding" "I", .fieldLink RX3 73 "AirTalkers" "findingCounts" "[I"] ++ wsX30 ++ wsX00)
noncomputable def wsX3_asideFits_r1 : List Cond := [Cond.fieldLink RX3 14 "AirTalkers" "rowSizes" "[I", Cond.fieldLink RX3 47 "AirTalkers" "aside" "LAirTalkers$Air;", Cond.fieldLink RX3 11 "AirTalkers" "rows" "[[I", Cond.methodLink RX3 183 yX0_goBy, Cond.instanceMethod yX0_goBy, Cond.selects RX0 yX0_goBy yX0_goBy, Cond.initialized RX0, Cond.code yX0_goBy cX0_goBy 6 (some .int), Cond.fieldLink RX0 17 "AirTalkers$Air" "size" "I", Cond.fieldLink RX0 11 "AirTalkers$Air" "stations" "[LAirTalkers$Station;", Cond.fieldLink RX0 78 "AirTalkers$Station" "waiting" "I", Cond.fieldLink RX0 24 "AirTalkers$Air" "heard" "I", Cond.fieldLink RX0 21 "AirTalkers$Air" "slotNumber" "I", Cond.fieldLink RX0 27 "AirTalkers$Air" "lost" "I", Cond.fieldLink RX0 30 "AirTalkers$Air" "talked" "Z", Cond.methodLink RX0 70 yX0_talkers, Cond.instanceMethod yX0_talkers, Cond.selects RX0 yX0_talkers yX0_talkers, Cond.code yX0_talkers cX0_talkers 4 (some .int), Cond.methodLink RX0 66 yX2_wants, Cond.instanceMethod yX2_wants, Cond.selects RX2 yX2_wants yX2_wants, Cond.initialized RX2, Cond.code yX2_wants cX2_wants 2 (some .boolean)]
noncomputable def wsX3_asideFits_r2 : List Cond := [Cond.fieldLink RX2 21 "AirTalkers$Station" "letters" "I", Cond.fieldLink RX2 24 "AirTalkers$Station" "waiting" "I", Cond.methodLink RX2 34 yX2_isOf, Cond.instanceMethod yX2_isOf, Cond.selects RX2 yX2_isOf yX2_isOf, Cond.code yX2_isOf cX2_isOf 2 (some .boolean), Cond.fieldLink RX2 9 "AirTalkers$Station" "kind" "I", Cond.methodLink RX0 73 yJ6_bitCount_0f7a4, Cond.static yJ6_bitCount_0f7a4, Cond.initialized RJ6, Cond.code yJ6_bitCount_0f7a4 cJ6_bitCount_0f7a4 1 (some .int), Cond.constant RJ6 265 (1431655765), Cond.constant RJ6 266 (858993459), Cond.constant RJ6 267 (252645135), Cond.methodLink RX0 81 yX2_isHeard, Cond.instanceMethod yX2_isHeard, Cond.selects RX2 yX2_isHeard yX2_isHeard, Cond.code yX2_isHeard cX2_isHeard 1 none, Cond.fieldLink RX2 27 "AirTalkers$Station" "clashes" "I", Cond.methodLink RX0 84 yX2_meets, Cond.instanceMethod yX2_meets, Cond.selects RX2 yX2_meets yX2_meets, Cond.code yX2_meets cX2_meets 2 (some .boolean), Cond.methodLink RX2 54 yX2_rest]
noncomputable def wsX3_asideFits_r3 : List Cond := [Cond.instanceMethod yX2_rest, Cond.selects RX2 yX2_rest yX2_rest, Cond.code yX2_rest cX2_rest 1 none, Cond.methodLink RX2 57 yX2_waitBehind, Cond.instanceMethod yX2_waitBehind, Cond.selects RX2 yX2_waitBehind yX2_waitBehind, Cond.code yX2_waitBehind cX2_waitBehind 4 (some .int), Cond.fieldLink RX2 15 "AirTalkers$Station" "firstWait" "I", Cond.fieldLink RX2 18 "AirTalkers$Station" "step" "I", Cond.methodLink RX2 47 yX2_doubleWait, Cond.instanceMethod yX2_doubleWait, Cond.selects RX2 yX2_doubleWait yX2_doubleWait, Cond.code yX2_doubleWait cX2_doubleWait 3 (some .int), Cond.methodLink RX2 38 Lib.Math.min.name, Cond.static Lib.Math.min.name, Cond.initialized "java/lang/Math", Cond.code Lib.Math.min.name Lib.Math.min.code 2 (some .int), Cond.methodLink RX2 44 Lib.Math.max.name, Cond.static Lib.Math.max.name, Cond.code Lib.Math.max.name Lib.Math.max.code 2 (some .int), Cond.methodLink RX2 51 yX2_plainWait, Cond.instanceMethod yX2_plainWait, Cond.selects RX2 yX2_plainWait yX2_plainWait, Cond.code yX2_plainWait cX2_plainWait 2 (some .int)]
noncomputable def wsX3_asideFits_r4 : List Cond := [Cond.methodLink RX3 168 yJ6_bitCount_0f7a4]
noncomputable def wsX3_asideFits : List Cond := .code yX3_asideFits cX3_asideFits 3 (some .boolean) :: ((wsX3_asideFits_r1 ++ (wsX3_asideFits_r2 ++ (wsX3_asideFits_r3 ++ wsX3_asideFits_r4))) ++ wsX30 ++ wsX00 ++ wsX20)
noncomputable def wsX3_kindsThatFit_r1 : List Cond := [Cond.fieldLink RX3 47 "AirTalkers" "aside" "LAirTalkers$Air;", Cond.fieldLink RX3 33 "AirTalkers" "now" "LAirTalkers$Air;", Cond.fieldLink RX3 116 "AirTalkers$Air" "stations" "[LAirTalkers$Station;", Cond.fieldLink RX3 245 "AirTalkers$Station" "kind" "I", Cond.methodLink RX3 108 yX0_become, Cond.instanceMethod yX0_become, Cond.selects RX0 yX0_become yX0_become, Cond.initialized RX0, Cond.code yX0_become cX0_become 3 none, Cond.fieldLink RX0 17 "AirTalkers$Air" "size" "I", Cond.fieldLink RX0 21 "AirTalkers$Air" "slotNumber" "I", Cond.fieldLink RX0 24 "AirTalkers$Air" "heard" "I", Cond.fieldLink RX0 27 "AirTalkers$Air" "lost" "I", Cond.fieldLink RX0 30 "AirTalkers$Air" "talked" "Z", Cond.fieldLink RX0 11 "AirTalkers$Air" "stations" "[LAirTalkers$Station;", Cond.methodLink RX0 35 yX2_become, Cond.instanceMethod yX2_become, Cond.selects RX2 yX2_become yX2_become, Cond.initialized RX2, Cond.code yX2_become cX2_become 2 none, Cond.fieldLink RX2 9 "AirTalkers$Station" "kind" "I", Cond.fieldLink RX2 15 "AirTalkers$Station" "firstWait" "I", Cond.fieldLink RX2 18 "AirTalkers$Station" "step" "I", Cond.fieldLink RX2 21 "AirTalkers$Station" "letters" "I"]
noncomputable def wsX3_kindsThatFit_r2 : List Cond := [Cond.fieldLink RX2 24 "AirTalkers$Station" "waiting" "I", Cond.fieldLink RX2 27 "AirTalkers$Station" "clashes" "I", Cond.methodLink RX3 199 yX3_asideFits, Cond.instanceMethod yX3_asideFits, Cond.selects RX3 yX3_asideFits yX3_asideFits, Cond.initialized RX3, Cond.code yX3_asideFits cX3_asideFits 3 (some .boolean), Cond.fieldLink RX3 14 "AirTalkers" "rowSizes" "[I", Cond.fieldLink RX3 11 "AirTalkers" "rows" "[[I", Cond.methodLink RX3 183 yX0_goBy, Cond.instanceMethod yX0_goBy, Cond.selects RX0 yX0_goBy yX0_goBy, Cond.code yX0_goBy cX0_goBy 6 (some .int), Cond.fieldLink RX0 78 "AirTalkers$Station" "waiting" "I", Cond.methodLink RX0 70 yX0_talkers, Cond.instanceMethod yX0_talkers, Cond.selects RX0 yX0_talkers yX0_talkers, Cond.code yX0_talkers cX0_talkers 4 (some .int), Cond.methodLink RX0 66 yX2_wants, Cond.instanceMethod yX2_wants, Cond.selects RX2 yX2_wants yX2_wants, Cond.code yX2_wants cX2_wants 2 (some .boolean), Cond.methodLink RX2 34 yX2_isOf, Cond.instanceMethod yX2_isOf]
noncomputable def wsX3_kindsThatFit_r3 : List Cond := [Cond.selects RX2 yX2_isOf yX2_isOf, Cond.code yX2_isOf cX2_isOf 2 (some .boolean), Cond.methodLink RX0 73 yJ6_bitCount_0f7a4, Cond.static yJ6_bitCount_0f7a4, Cond.initialized RJ6, Cond.code yJ6_bitCount_0f7a4 cJ6_bitCount_0f7a4 1 (some .int), Cond.constant RJ6 265 (1431655765), Cond.constant RJ6 266 (858993459), Cond.constant RJ6 267 (252645135), Cond.methodLink RX0 81 yX2_isHeard, Cond.instanceMethod yX2_isHeard, Cond.selects RX2 yX2_isHeard yX2_isHeard, Cond.code yX2_isHeard cX2_isHeard 1 none, Cond.methodLink RX0 84 yX2_meets, Cond.instanceMethod yX2_meets, Cond.selects RX2 yX2_meets yX2_meets, Cond.code yX2_meets cX2_meets 2 (some .boolean), Cond.methodLink RX2 54 yX2_rest, Cond.instanceMethod yX2_rest, Cond.selects RX2 yX2_rest yX2_rest, Cond.code yX2_rest cX2_rest 1 none, Cond.methodLink RX2 57 yX2_waitBehind, Cond.instanceMethod yX2_waitBehind, Cond.selects RX2 yX2_waitBehind yX2_waitBehind]
noncomputable def wsX3_kindsThatFit_r4 : List Cond := [Cond.code yX2_waitBehind cX2_waitBehind 4 (some .int), Cond.methodLink RX2 47 yX2_doubleWait, Cond.instanceMethod yX2_doubleWait, Cond.selects RX2 yX2_doubleWait yX2_doubleWait, Cond.code yX2_doubleWait cX2_doubleWait 3 (some .int), Cond.methodLink RX2 38 Lib.Math.min.name, Cond.static Lib.Math.min.name, Cond.initialized "java/lang/Math", Cond.code Lib.Math.min.name Lib.Math.min.code 2 (some .int), Cond.methodLink RX2 44 Lib.Math.max.name, Cond.static Lib.Math.max.name, Cond.code Lib.Math.max.name Lib.Math.max.code 2 (some .int), Cond.methodLink RX2 51 yX2_plainWait, Cond.instanceMethod yX2_plainWait, Cond.selects RX2 yX2_plainWait yX2_plainWait, Cond.code yX2_plainWait cX2_plainWait 2 (some .int), Cond.methodLink RX3 168 yJ6_bitCount_0f7a4]
noncomputable def wsX3_kindsThatFit : List Cond := .code yX3_kindsThatFit cX3_kindsThatFit 5 (some .int) :: ((wsX3_kindsThatFit_r1 ++ (wsX3_kindsThatFit_r2 ++ (wsX3_kindsThatFit_r3 ++ wsX3_kindsThatFit_r4))) ++ wsX30 ++ wsX00 ++ wsX20)
noncomputable def wsX3_kinds_r1 : List Cond := [Cond.methodLink RX3 193 yX3_refusedWatch, Cond.instanceMethod yX3_refusedWatch, Cond.selects RX3 yX3_refusedWatch yX3_refusedWatch, Cond.initialized RX3, Cond.code yX3_refusedWatch cX3_refusedWatch 5 (some .int), Cond.fieldLink RX3 33 "AirTalkers" "now" "LAirTalkers$Air;", Cond.fieldLink RX3 14 "AirTalkers" "rowSizes" "[I", Cond.fieldLink RX3 11 "AirTalkers" "rows" "[[I", Cond.methodLink RX3 113 yX0_has, Cond.instanceMethod yX0_has, Cond.selects RX0 yX0_has yX0_has, Cond.initialized RX0, Cond.code yX0_has cX0_has 2 (some .boolean), Cond.fieldLink RX0 17 "AirTalkers$Air" "size" "I", Cond.methodLink RX3 79 yX3_isRow, Cond.static yX3_isRow, Cond.code yX3_isRow cX3_isRow 1 (some .boolean), Cond.methodLink RX3 83 yX3_found, Cond.instanceMethod yX3_found, Cond.selects RX3 yX3_found yX3_found, Cond.code yX3_found cX3_found 2 (some .int), Cond.fieldLink RX3 70 "AirTalkers" "latestFinding" "I", Cond.fieldLink RX3 73 "AirTalkers" "findingCounts" "[I", Cond.methodLink RX3 196 yX3_kindsThatFit]
noncomputable def wsX3_kinds_r2 : List Cond := [Cond.instanceMethod yX3_kindsThatFit, Cond.selects RX3 yX3_kindsThatFit yX3_kindsThatFit, Cond.code yX3_kindsThatFit cX3_kindsThatFit 5 (some .int), Cond.fieldLink RX3 47 "AirTalkers" "aside" "LAirTalkers$Air;", Cond.fieldLink RX3 116 "AirTalkers$Air" "stations" "[LAirTalkers$Station;", Cond.fieldLink RX3 245 "AirTalkers$Station" "kind" "I", Cond.methodLink RX3 108 yX0_become, Cond.instanceMethod yX0_become, Cond.selects RX0 yX0_become yX0_become, Cond.code yX0_become cX0_become 3 none, Cond.fieldLink RX0 21 "AirTalkers$Air" "slotNumber" "I", Cond.fieldLink RX0 24 "AirTalkers$Air" "heard" "I", Cond.fieldLink RX0 27 "AirTalkers$Air" "lost" "I", Cond.fieldLink RX0 30 "AirTalkers$Air" "talked" "Z", Cond.fieldLink RX0 11 "AirTalkers$Air" "stations" "[LAirTalkers$Station;", Cond.methodLink RX0 35 yX2_become, Cond.instanceMethod yX2_become, Cond.selects RX2 yX2_become yX2_become, Cond.initialized RX2, Cond.code yX2_become cX2_become 2 none, Cond.fieldLink RX2 9 "AirTalkers$Station" "kind" "I", Cond.fieldLink RX2 15 "AirTalkers$Station" "firstWait" "I", Cond.fieldLink RX2 18 "AirTalkers$Station" "step" "I", Cond.fieldLink RX2 21 "AirTalkers$Station" "letters" "I"]
noncomputable def wsX3_kinds_r3 : List Cond := [Cond.fieldLink RX2 24 "AirTalkers$Station" "waiting" "I", Cond.fieldLink RX2 27 "AirTalkers$Station" "clashes" "I", Cond.methodLink RX3 199 yX3_asideFits, Cond.instanceMethod yX3_asideFits, Cond.selects RX3 yX3_asideFits yX3_asideFits, Cond.code yX3_asideFits cX3_asideFits 3 (some .boolean), Cond.methodLink RX3 183 yX0_goBy, Cond.instanceMethod yX0_goBy, Cond.selects RX0 yX0_goBy yX0_goBy, Cond.code yX0_goBy cX0_goBy 6 (some .int), Cond.fieldLink RX0 78 "AirTalkers$Station" "waiting" "I", Cond.methodLink RX0 70 yX0_talkers, Cond.instanceMethod yX0_talkers, Cond.selects RX0 yX0_talkers yX0_talkers, Cond.code yX0_talkers cX0_talkers 4 (some .int), Cond.methodLink RX0 66 yX2_wants, Cond.instanceMethod yX2_wants, Cond.selects RX2 yX2_wants yX2_wants, Cond.code yX2_wants cX2_wants 2 (some .boolean), Cond.methodLink RX2 34 yX2_isOf, Cond.instanceMethod yX2_isOf, Cond.selects RX2 yX2_isOf yX2_isOf, Cond.code yX2_isOf cX2_isOf 2 (some .boolean), Cond.methodLink RX0 73 yJ6_bitCount_0f7a4]
noncomputable def wsX3_kinds_r4 : List Cond := [Cond.static yJ6_bitCount_0f7a4, Cond.initialized RJ6, Cond.code yJ6_bitCount_0f7a4 cJ6_bitCount_0f7a4 1 (some .int), Cond.constant RJ6 265 (1431655765), Cond.constant RJ6 266 (858993459), Cond.constant RJ6 267 (252645135), Cond.methodLink RX0 81 yX2_isHeard, Cond.instanceMethod yX2_isHeard, Cond.selects RX2 yX2_isHeard yX2_isHeard, Cond.code yX2_isHeard cX2_isHeard 1 none, Cond.methodLink RX0 84 yX2_meets, Cond.instanceMethod yX2_meets, Cond.selects RX2 yX2_meets yX2_meets, Cond.code yX2_meets cX2_meets 2 (some .boolean), Cond.methodLink RX2 54 yX2_rest, Cond.instanceMethod yX2_rest, Cond.selects RX2 yX2_rest yX2_rest, Cond.code yX2_rest cX2_rest 1 none, Cond.methodLink RX2 57 yX2_waitBehind, Cond.instanceMethod yX2_waitBehind, Cond.selects RX2 yX2_waitBehind yX2_waitBehind, Cond.code yX2_waitBehind cX2_waitBehind 4 (some .int), Cond.methodLink RX2 47 yX2_doubleWait, Cond.instanceMethod yX2_doubleWait]
noncomputable def wsX3_kinds_r5 : List Cond := [Cond.selects RX2 yX2_doubleWait yX2_doubleWait, Cond.code yX2_doubleWait cX2_doubleWait 3 (some .int), Cond.methodLink RX2 38 Lib.Math.min.name, Cond.static Lib.Math.min.name, Cond.initialized "java/lang/Math", Cond.code Lib.Math.min.name Lib.Math.min.code 2 (some .int), Cond.methodLink RX2 44 Lib.Math.max.name, Cond.static Lib.Math.max.name, Cond.code Lib.Math.max.name Lib.Math.max.code 2 (some .int), Cond.methodLink RX2 51 yX2_plainWait, Cond.instanceMethod yX2_plainWait, Cond.selects RX2 yX2_plainWait yX2_plainWait, Cond.code yX2_plainWait cX2_plainWait 2 (some .int), Cond.methodLink RX3 168 yJ6_bitCount_0f7a4]
noncomputable def wsX3_kinds : List Cond := .code yX3_kinds cX3_kinds 4 (some .int) :: ((wsX3_kinds_r1 ++ (wsX3_kinds_r2 ++ (wsX3_kinds_r3 ++ (wsX3_kinds_r4 ++ wsX3_kinds_r5)))) ++ wsX30 ++ wsX00 ++ wsX20)
noncomputable def wsX3_firsts_r1 : List Cond := [Cond.fieldLink RX3 47 "AirTalkers" "aside" "LAirTalkers$Air;", Cond.fieldLink RX3 33 "AirTalkers" "now" "LAirTalkers$Air;", Cond.fieldLink RX3 116 "AirTalkers$Air" "stations" "[LAirTalkers$Station;", Cond.fieldLink RX3 153 "AirTalkers$Station" "firstWait" "I", Cond.methodLink RX3 193 yX3_refusedWatch, Cond.instanceMethod yX3_refusedWatch, Cond.selects RX3 yX3_refusedWatch yX3_refusedWatch, Cond.initialized RX3, Cond.code yX3_refusedWatch cX3_refusedWatch 5 (some .int), Cond.fieldLink RX3 14 "AirTalkers" "rowSizes" "[I", Cond.fieldLink RX3 11 "AirTalkers" "rows" "[[I", Cond.methodLink RX3 113 yX0_has, Cond.instanceMethod yX0_has, Cond.selects RX0 yX0_has yX0_has, Cond.initialized RX0, Cond.code yX0_has cX0_has 2 (some .boolean), Cond.fieldLink RX0 17 "AirTalkers$Air" "size" "I", Cond.methodLink RX3 79 yX3_isRow, Cond.static yX3_isRow, Cond.code yX3_isRow cX3_isRow 1 (some .boolean), Cond.methodLink RX3 83 yX3_found, Cond.instanceMethod yX3_found, Cond.selects RX3 yX3_found yX3_found, Cond.code yX3_found cX3_found 2 (some .int)]
noncomputable def wsX3_firsts_r2 : List Cond := [Cond.fieldLink RX3 70 "AirTalkers" "latestFinding" "I", Cond.fieldLink RX3 73 "AirTalkers" "findingCounts" "[I", Cond.methodLink RX3 108 yX0_become, Cond.instanceMethod yX0_become, Cond.selects RX0 yX0_become yX0_become, Cond.code yX0_become cX0_become 3 none, Cond.fieldLink RX0 21 "AirTalkers$Air" "slotNumber" "I", Cond.fieldLink RX0 24 "AirTalkers$Air" "heard" "I", Cond.fieldLink RX0 27 "AirTalkers$Air" "lost" "I", Cond.fieldLink RX0 30 "AirTalkers$Air" "talked" "Z", Cond.fieldLink RX0 11 "AirTalkers$Air" "stations" "[LAirTalkers$Station;", Cond.methodLink RX0 35 yX2_become, Cond.instanceMethod yX2_become, Cond.selects RX2 yX2_become yX2_become, Cond.initialized RX2, Cond.code yX2_become cX2_become 2 none, Cond.fieldLink RX2 9 "AirTalkers$Station" "kind" "I", Cond.fieldLink RX2 15 "AirTalkers$Station" "firstWait" "I", Cond.fieldLink RX2 18 "AirTalkers$Station" "step" "I", Cond.fieldLink RX2 21 "AirTalkers$Station" "letters" "I", Cond.fieldLink RX2 24 "AirTalkers$Station" "waiting" "I", Cond.fieldLink RX2 27 "AirTalkers$Station" "clashes" "I", Cond.methodLink RX3 199 yX3_asideFits, Cond.instanceMethod yX3_asideFits]
noncomputable def wsX3_firsts_r3 : List Cond := [Cond.selects RX3 yX3_asideFits yX3_asideFits, Cond.code yX3_asideFits cX3_asideFits 3 (some .boolean), Cond.methodLink RX3 183 yX0_goBy, Cond.instanceMethod yX0_goBy, Cond.selects RX0 yX0_goBy yX0_goBy, Cond.code yX0_goBy cX0_goBy 6 (some .int), Cond.fieldLink RX0 78 "AirTalkers$Station" "waiting" "I", Cond.methodLink RX0 70 yX0_talkers, Cond.instanceMethod yX0_talkers, Cond.selects RX0 yX0_talkers yX0_talkers, Cond.code yX0_talkers cX0_talkers 4 (some .int), Cond.methodLink RX0 66 yX2_wants, Cond.instanceMethod yX2_wants, Cond.selects RX2 yX2_wants yX2_wants, Cond.code yX2_wants cX2_wants 2 (some .boolean), Cond.methodLink RX2 34 yX2_isOf, Cond.instanceMethod yX2_isOf, Cond.selects RX2 yX2_isOf yX2_isOf, Cond.code yX2_isOf cX2_isOf 2 (some .boolean), Cond.methodLink RX0 73 yJ6_bitCount_0f7a4, Cond.static yJ6_bitCount_0f7a4, Cond.initialized RJ6, Cond.code yJ6_bitCount_0f7a4 cJ6_bitCount_0f7a4 1 (some .int), Cond.constant RJ6 265 (1431655765)]
noncomputable def wsX3_firsts_r4 : List Cond := [Cond.constant RJ6 266 (858993459), Cond.constant RJ6 267 (252645135), Cond.methodLink RX0 81 yX2_isHeard, Cond.instanceMethod yX2_isHeard, Cond.selects RX2 yX2_isHeard yX2_isHeard, Cond.code yX2_isHeard cX2_isHeard 1 none, Cond.methodLink RX0 84 yX2_meets, Cond.instanceMethod yX2_meets, Cond.selects RX2 yX2_meets yX2_meets, Cond.code yX2_meets cX2_meets 2 (some .boolean), Cond.methodLink RX2 54 yX2_rest, Cond.instanceMethod yX2_rest, Cond.selects RX2 yX2_rest yX2_rest, Cond.code yX2_rest cX2_rest 1 none, Cond.methodLink RX2 57 yX2_waitBehind, Cond.instanceMethod yX2_waitBehind, Cond.selects RX2 yX2_waitBehind yX2_waitBehind, Cond.code yX2_waitBehind cX2_waitBehind 4 (some .int), Cond.methodLink RX2 47 yX2_doubleWait, Cond.instanceMethod yX2_doubleWait, Cond.selects RX2 yX2_doubleWait yX2_doubleWait, Cond.code yX2_doubleWait cX2_doubleWait 3 (some .int), Cond.methodLink RX2 38 Lib.Math.min.name, Cond.static Lib.Math.min.name]
noncomputable def wsX3_firsts_r5 : List Cond := [Cond.initialized "java/lang/Math", Cond.code Lib.Math.min.name Lib.Math.min.code 2 (some .int), Cond.methodLink RX2 44 Lib.Math.max.name, Cond.static Lib.Math.max.name, Cond.code Lib.Math.max.name Lib.Math.max.code 2 (some .int), Cond.methodLink RX2 51 yX2_plainWait, Cond.instanceMethod yX2_plainWait, Cond.selects RX2 yX2_plainWait yX2_plainWait, Cond.code yX2_plainWait cX2_plainWait 2 (some .int), Cond.methodLink RX3 168 yJ6_bitCount_0f7a4]
noncomputable def wsX3_firsts : List Cond := .code yX3_firsts cX3_firsts 6 (some .int) :: ((wsX3_firsts_r1 ++ (wsX3_firsts_r2 ++ (wsX3_firsts_r3 ++ (wsX3_firsts_r4 ++ wsX3_firsts_r5)))) ++ wsX30 ++ wsX00 ++ wsX20)
noncomputable def wsX3_watch_r1 : List Cond := [Cond.fieldLink RX3 47 "AirTalkers" "aside" "LAirTalkers$Air;", Cond.fieldLink RX3 33 "AirTalkers" "now" "LAirTalkers$Air;", Cond.fieldLink RX3 116 "AirTalkers$Air" "stations" "[LAirTalkers$Station;", Cond.fieldLink RX3 245 "AirTalkers$Station" "kind" "I", Cond.fieldLink RX3 56 "AirTalkers" "watched" "[[I", Cond.methodLink RX3 108 yX0_become, Cond.instanceMethod yX0_become, Cond.selects RX0 yX0_become yX0_become, Cond.initialized RX0, Cond.code yX0_become cX0_become 3 none, Cond.fieldLink RX0 17 "AirTalkers$Air" "size" "I", Cond.fieldLink RX0 21 "AirTalkers$Air" "slotNumber" "I", Cond.fieldLink RX0 24 "AirTalkers$Air" "heard" "I", Cond.fieldLink RX0 27 "AirTalkers$Air" "lost" "I", Cond.fieldLink RX0 30 "AirTalkers$Air" "talked" "Z", Cond.fieldLink RX0 11 "AirTalkers$Air" "stations" "[LAirTalkers$Station;", Cond.methodLink RX0 35 yX2_become, Cond.instanceMethod yX2_become, Cond.selects RX2 yX2_become yX2_become, Cond.initialized RX2, Cond.code yX2_become cX2_become 2 none, Cond.fieldLink RX2 9 "AirTalkers$Station" "kind" "I", Cond.fieldLink RX2 15 "AirTalkers$Station" "firstWait" "I", Cond.fieldLink RX2 18 "AirTalkers$Station" "step" "I"]
noncomputable def wsX3_watch_r2 : List Cond := [Cond.fieldLink RX2 21 "AirTalkers$Station" "letters" "I", Cond.fieldLink RX2 24 "AirTalkers$Station" "waiting" "I", Cond.fieldLink RX2 27 "AirTalkers$Station" "clashes" "I", Cond.methodLink RX3 183 yX0_goBy, Cond.instanceMethod yX0_goBy, Cond.selects RX0 yX0_goBy yX0_goBy, Cond.code yX0_goBy cX0_goBy 6 (some .int), Cond.fieldLink RX0 78 "AirTalkers$Station" "waiting" "I", Cond.methodLink RX0 70 yX0_talkers, Cond.instanceMethod yX0_talkers, Cond.selects RX0 yX0_talkers yX0_talkers, Cond.code yX0_talkers cX0_talkers 4 (some .int), Cond.methodLink RX0 66 yX2_wants, Cond.instanceMethod yX2_wants, Cond.selects RX2 yX2_wants yX2_wants, Cond.code yX2_wants cX2_wants 2 (some .boolean), Cond.methodLink RX2 34 yX2_isOf, Cond.instanceMethod yX2_isOf, Cond.selects RX2 yX2_isOf yX2_isOf, Cond.code yX2_isOf cX2_isOf 2 (some .boolean), Cond.methodLink RX0 73 yJ6_bitCount_0f7a4, Cond.static yJ6_bitCount_0f7a4, Cond.initialized RJ6, Cond.code yJ6_bitCount_0f7a4 cJ6_bitCount_0f7a4 1 (some .int)]
noncomputable def wsX3_watch_r3 : List Cond := [Cond.constant RJ6 265 (1431655765), Cond.constant RJ6 266 (858993459), Cond.constant RJ6 267 (252645135), Cond.methodLink RX0 81 yX2_isHeard, Cond.instanceMethod yX2_isHeard, Cond.selects RX2 yX2_isHeard yX2_isHeard, Cond.code yX2_isHeard cX2_isHeard 1 none, Cond.methodLink RX0 84 yX2_meets, Cond.instanceMethod yX2_meets, Cond.selects RX2 yX2_meets yX2_meets, Cond.code yX2_meets cX2_meets 2 (some .boolean), Cond.methodLink RX2 54 yX2_rest, Cond.instanceMethod yX2_rest, Cond.selects RX2 yX2_rest yX2_rest, Cond.code yX2_rest cX2_rest 1 none, Cond.methodLink RX2 57 yX2_waitBehind, Cond.instanceMethod yX2_waitBehind, Cond.selects RX2 yX2_waitBehind yX2_waitBehind, Cond.code yX2_waitBehind cX2_waitBehind 4 (some .int), Cond.methodLink RX2 47 yX2_doubleWait, Cond.instanceMethod yX2_doubleWait, Cond.selects RX2 yX2_doubleWait yX2_doubleWait, Cond.code yX2_doubleWait cX2_doubleWait 3 (some .int), Cond.methodLink RX2 38 Lib.Math.min.name]
noncomputable def wsX3_watch_r4 : List Cond := [Cond.static Lib.Math.min.name, Cond.initialized "java/lang/Math", Cond.code Lib.Math.min.name Lib.Math.min.code 2 (some .int), Cond.methodLink RX2 44 Lib.Math.max.name, Cond.static Lib.Math.max.name, Cond.code Lib.Math.max.name Lib.Math.max.code 2 (some .int), Cond.methodLink RX2 51 yX2_plainWait, Cond.instanceMethod yX2_plainWait, Cond.selects RX2 yX2_plainWait yX2_plainWait, Cond.code yX2_plainWait cX2_plainWait 2 (some .int), Cond.methodLink RX3 168 yJ6_bitCount_0f7a4]
noncomputable def wsX3_watch : List Cond := .code yX3_watch cX3_watch 5 none :: ((wsX3_watch_r1 ++ (wsX3_watch_r2 ++ (wsX3_watch_r3 ++ wsX3_watch_r4))) ++ wsX30 ++ wsX00 ++ wsX20)
noncomputable def wsX3_greatestPart : List Cond := .code yX3_greatestPart cX3_greatestPart 7 (some .int) :: ([.fieldLink RX3 56 "AirTalkers" "watched" "[[I", .methodLink RX3 248 Lib.Math.max.name, .static Lib.Math.max.name, .initialized "java/lang/Math", .code Lib.Math.max.name Lib.Math.max.code 2 (some .int)] ++ wsX30)
noncomputable def wsX3_test_r1 : List Cond := [Cond.fieldLink RX3 59 "AirTalkers" "toldAsked" "I", Cond.methodLink RX3 193 yX3_refusedWatch, Cond.instanceMethod yX3_refusedWatch, Cond.selects RX3 yX3_refusedWatch yX3_refusedWatch, Cond.initialized RX3, Cond.code yX3_refusedWatch cX3_refusedWatch 5 (some .int), Cond.fieldLink RX3 33 "AirTalkers" "now" "LAirTalkers$Air;", Cond.fieldLink RX3 14 "AirTalkers" "rowSizes" "[I", Cond.fieldLink RX3 11 "AirTalkers" "rows" "[[I", Cond.methodLink RX3 113 yX0_has, Cond.instanceMethod yX0_has, Cond.selects RX0 yX0_has yX0_has, Cond.initialized RX0, Cond.code yX0_has cX0_has 2 (some .boolean), Cond.fieldLink RX0 17 "AirTalkers$Air" "size" "I", Cond.methodLink RX3 79 yX3_isRow, Cond.static yX3_isRow, Cond.code yX3_isRow cX3_isRow 1 (some .boolean), Cond.methodLink RX3 83 yX3_found, Cond.instanceMethod yX3_found, Cond.selects RX3 yX3_found yX3_found, Cond.code yX3_found cX3_found 2 (some .int), Cond.fieldLink RX3 70 "AirTalkers" "latestFinding" "I", Cond.fieldLink RX3 73 "AirTalkers" "findingCounts" "[I"]
noncomputable def wsX3_test_r2 : List Cond := [Cond.methodLink RX3 196 yX3_kindsThatFit, Cond.instanceMethod yX3_kindsThatFit, Cond.selects RX3 yX3_kindsThatFit yX3_kindsThatFit, Cond.code yX3_kindsThatFit cX3_kindsThatFit 5 (some .int), Cond.fieldLink RX3 47 "AirTalkers" "aside" "LAirTalkers$Air;", Cond.fieldLink RX3 116 "AirTalkers$Air" "stations" "[LAirTalkers$Station;", Cond.fieldLink RX3 245 "AirTalkers$Station" "kind" "I", Cond.methodLink RX3 108 yX0_become, Cond.instanceMethod yX0_become, Cond.selects RX0 yX0_become yX0_become, Cond.code yX0_become cX0_become 3 none, Cond.fieldLink RX0 21 "AirTalkers$Air" "slotNumber" "I", Cond.fieldLink RX0 24 "AirTalkers$Air" "heard" "I", Cond.fieldLink RX0 27 "AirTalkers$Air" "lost" "I", Cond.fieldLink RX0 30 "AirTalkers$Air" "talked" "Z", Cond.fieldLink RX0 11 "AirTalkers$Air" "stations" "[LAirTalkers$Station;", Cond.methodLink RX0 35 yX2_become, Cond.instanceMethod yX2_become, Cond.selects RX2 yX2_become yX2_become, Cond.initialized RX2, Cond.code yX2_become cX2_become 2 none, Cond.fieldLink RX2 9 "AirTalkers$Station" "kind" "I", Cond.fieldLink RX2 15 "AirTalkers$Station" "firstWait" "I", Cond.fieldLink RX2 18 "AirTalkers$Station" "step" "I"]
noncomputable def wsX3_test_r3 : List Cond := [Cond.fieldLink RX2 21 "AirTalkers$Station" "letters" "I", Cond.fieldLink RX2 24 "AirTalkers$Station" "waiting" "I", Cond.fieldLink RX2 27 "AirTalkers$Station" "clashes" "I", Cond.methodLink RX3 199 yX3_asideFits, Cond.instanceMethod yX3_asideFits, Cond.selects RX3 yX3_asideFits yX3_asideFits, Cond.code yX3_asideFits cX3_asideFits 3 (some .boolean), Cond.methodLink RX3 183 yX0_goBy, Cond.instanceMethod yX0_goBy, Cond.selects RX0 yX0_goBy yX0_goBy, Cond.code yX0_goBy cX0_goBy 6 (some .int), Cond.fieldLink RX0 78 "AirTalkers$Station" "waiting" "I", Cond.methodLink RX0 70 yX0_talkers, Cond.instanceMethod yX0_talkers, Cond.selects RX0 yX0_talkers yX0_talkers, Cond.code yX0_talkers cX0_talkers 4 (some .int), Cond.methodLink RX0 66 yX2_wants, Cond.instanceMethod yX2_wants, Cond.selects RX2 yX2_wants yX2_wants, Cond.code yX2_wants cX2_wants 2 (some .boolean), Cond.methodLink RX2 34 yX2_isOf, Cond.instanceMethod yX2_isOf, Cond.selects RX2 yX2_isOf yX2_isOf, Cond.code yX2_isOf cX2_isOf 2 (some .boolean)]
noncomputable def wsX3_test_r4 : List Cond := [Cond.methodLink RX0 73 yJ6_bitCount_0f7a4, Cond.static yJ6_bitCount_0f7a4, Cond.initialized RJ6, Cond.code yJ6_bitCount_0f7a4 cJ6_bitCount_0f7a4 1 (some .int), Cond.constant RJ6 265 (1431655765), Cond.constant RJ6 266 (858993459), Cond.constant RJ6 267 (252645135), Cond.methodLink RX0 81 yX2_isHeard, Cond.instanceMethod yX2_isHeard, Cond.selects RX2 yX2_isHeard yX2_isHeard, Cond.code yX2_isHeard cX2_isHeard 1 none, Cond.methodLink RX0 84 yX2_meets, Cond.instanceMethod yX2_meets, Cond.selects RX2 yX2_meets yX2_meets, Cond.code yX2_meets cX2_meets 2 (some .boolean), Cond.methodLink RX2 54 yX2_rest, Cond.instanceMethod yX2_rest, Cond.selects RX2 yX2_rest yX2_rest, Cond.code yX2_rest cX2_rest 1 none, Cond.methodLink RX2 57 yX2_waitBehind, Cond.instanceMethod yX2_waitBehind, Cond.selects RX2 yX2_waitBehind yX2_waitBehind, Cond.code yX2_waitBehind cX2_waitBehind 4 (some .int), Cond.methodLink RX2 47 yX2_doubleWait]
noncomputable def wsX3_test_r5 : List Cond := [Cond.instanceMethod yX2_doubleWait, Cond.selects RX2 yX2_doubleWait yX2_doubleWait, Cond.code yX2_doubleWait cX2_doubleWait 3 (some .int), Cond.methodLink RX2 38 Lib.Math.min.name, Cond.static Lib.Math.min.name, Cond.initialized "java/lang/Math", Cond.code Lib.Math.min.name Lib.Math.min.code 2 (some .int), Cond.methodLink RX2 44 Lib.Math.max.name, Cond.static Lib.Math.max.name, Cond.code Lib.Math.max.name Lib.Math.max.code 2 (some .int), Cond.methodLink RX2 51 yX2_plainWait, Cond.instanceMethod yX2_plainWait, Cond.selects RX2 yX2_plainWait yX2_plainWait, Cond.code yX2_plainWait cX2_plainWait 2 (some .int), Cond.methodLink RX3 168 yJ6_bitCount_0f7a4, Cond.methodLink RX3 202 yX3_watch, Cond.instanceMethod yX3_watch, Cond.selects RX3 yX3_watch yX3_watch, Cond.code yX3_watch cX3_watch 5 none, Cond.fieldLink RX3 56 "AirTalkers" "watched" "[[I", Cond.methodLink RX3 206 yX3_greatestPart, Cond.instanceMethod yX3_greatestPart, Cond.selects RX3 yX3_greatestPart yX3_greatestPart, Cond.code yX3_greatestPart cX3_greatestPart 7 (some .int)]
noncomputable def wsX3_test_r6 : List Cond := [Cond.methodLink RX3 248 Lib.Math.max.name]
noncomputable def wsX3_test : List Cond := .code yX3_test cX3_test 9 (some .int) :: ((wsX3_test_r1 ++ (wsX3_test_r2 ++ (wsX3_test_r3 ++ (wsX3_test_r4 ++ (wsX3_test_r5 ++ wsX3_test_r6))))) ++ wsX30 ++ wsX00 ++ wsX20)
noncomputable def wsX3_endByTurns_r1 : List Cond := [Cond.fieldLink RX3 47 "AirTalkers" "aside" "LAirTalkers$Air;", Cond.fieldLink RX3 50 "AirTalkers" "trial" "LAirTalkers$Air;", Cond.fieldLink RX3 112 "AirTalkers$Air" "size" "I", Cond.fieldLink RX3 116 "AirTalkers$Air" "stations" "[LAirTalkers$Station;", Cond.fieldLink RX3 150 "AirTalkers$Station" "letters" "I", Cond.methodLink RX3 248 Lib.Math.max.name, Cond.static Lib.Math.max.name, Cond.initialized "java/lang/Math", Cond.code Lib.Math.max.name Lib.Math.max.code 2 (some .int), Cond.methodLink RX3 253 Lib.Math.min.name, Cond.static Lib.Math.min.name, Cond.code Lib.Math.min.name Lib.Math.min.code 2 (some .int), Cond.methodLink RX3 108 yX0_become, Cond.instanceMethod yX0_become, Cond.selects RX0 yX0_become yX0_become, Cond.initialized RX0, Cond.code yX0_become cX0_become 3 none, Cond.fieldLink RX0 17 "AirTalkers$Air" "size" "I", Cond.fieldLink RX0 21 "AirTalkers$Air" "slotNumber" "I", Cond.fieldLink RX0 24 "AirTalkers$Air" "heard" "I", Cond.fieldLink RX0 27 "AirTalkers$Air" "lost" "I", Cond.fieldLink RX0 30 "AirTalkers$Air" "talked" "Z", Cond.fieldLink RX0 11 "AirTalkers$Air" "stations" "[LAirTalkers$Station;", Cond.methodLink RX0 35 yX2_become]
noncomputable def wsX3_endByTurns_r2 : List Cond := [Cond.instanceMethod yX2_become, Cond.selects RX2 yX2_become yX2_become, Cond.initialized RX2, Cond.code yX2_become cX2_become 2 none, Cond.fieldLink RX2 9 "AirTalkers$Station" "kind" "I", Cond.fieldLink RX2 15 "AirTalkers$Station" "firstWait" "I", Cond.fieldLink RX2 18 "AirTalkers$Station" "step" "I", Cond.fieldLink RX2 21 "AirTalkers$Station" "letters" "I", Cond.fieldLink RX2 24 "AirTalkers$Station" "waiting" "I", Cond.fieldLink RX2 27 "AirTalkers$Station" "clashes" "I", Cond.methodLink RX3 176 yX0_goToEnd, Cond.instanceMethod yX0_goToEnd, Cond.selects RX0 yX0_goToEnd yX0_goToEnd, Cond.code yX0_goToEnd cX0_goToEnd 2 (some .int), Cond.methodLink RX0 88 yX0_lettersBut, Cond.instanceMethod yX0_lettersBut, Cond.selects RX0 yX0_lettersBut yX0_lettersBut, Cond.code yX0_lettersBut cX0_lettersBut 4 (some .int), Cond.fieldLink RX0 56 "AirTalkers$Station" "letters" "I", Cond.methodLink RX0 91 yX0_goBy, Cond.instanceMethod yX0_goBy, Cond.selects RX0 yX0_goBy yX0_goBy, Cond.code yX0_goBy cX0_goBy 6 (some .int), Cond.fieldLink RX0 78 "AirTalkers$Station" "waiting" "I"]
noncomputable def wsX3_endByTurns_r3 : List Cond := [Cond.methodLink RX0 70 yX0_talkers, Cond.instanceMethod yX0_talkers, Cond.selects RX0 yX0_talkers yX0_talkers, Cond.code yX0_talkers cX0_talkers 4 (some .int), Cond.methodLink RX0 66 yX2_wants, Cond.instanceMethod yX2_wants, Cond.selects RX2 yX2_wants yX2_wants, Cond.code yX2_wants cX2_wants 2 (some .boolean), Cond.methodLink RX2 34 yX2_isOf, Cond.instanceMethod yX2_isOf, Cond.selects RX2 yX2_isOf yX2_isOf, Cond.code yX2_isOf cX2_isOf 2 (some .boolean), Cond.methodLink RX0 73 yJ6_bitCount_0f7a4, Cond.static yJ6_bitCount_0f7a4, Cond.initialized RJ6, Cond.code yJ6_bitCount_0f7a4 cJ6_bitCount_0f7a4 1 (some .int), Cond.constant RJ6 265 (1431655765), Cond.constant RJ6 266 (858993459), Cond.constant RJ6 267 (252645135), Cond.methodLink RX0 81 yX2_isHeard, Cond.instanceMethod yX2_isHeard, Cond.selects RX2 yX2_isHeard yX2_isHeard, Cond.code yX2_isHeard cX2_isHeard 1 none, Cond.methodLink RX0 84 yX2_meets]
noncomputable def wsX3_endByTurns_r4 : List Cond := [Cond.instanceMethod yX2_meets, Cond.selects RX2 yX2_meets yX2_meets, Cond.code yX2_meets cX2_meets 2 (some .boolean), Cond.methodLink RX2 54 yX2_rest, Cond.instanceMethod yX2_rest, Cond.selects RX2 yX2_rest yX2_rest, Cond.code yX2_rest cX2_rest 1 none, Cond.methodLink RX2 57 yX2_waitBehind, Cond.instanceMethod yX2_waitBehind, Cond.selects RX2 yX2_waitBehind yX2_waitBehind, Cond.code yX2_waitBehind cX2_waitBehind 4 (some .int), Cond.methodLink RX2 47 yX2_doubleWait, Cond.instanceMethod yX2_doubleWait, Cond.selects RX2 yX2_doubleWait yX2_doubleWait, Cond.code yX2_doubleWait cX2_doubleWait 3 (some .int), Cond.methodLink RX2 38 Lib.Math.min.name, Cond.methodLink RX2 44 Lib.Math.max.name, Cond.methodLink RX2 51 yX2_plainWait, Cond.instanceMethod yX2_plainWait, Cond.selects RX2 yX2_plainWait yX2_plainWait, Cond.code yX2_plainWait cX2_plainWait 2 (some .int), Cond.methodLink RX3 209 yX3_endByTurns, Cond.instanceMethod yX3_endByTurns, Cond.selects RX3 yX3_endByTurns yX3_endByTurns]
noncomputable def wsX3_endByTurns_r5 : List Cond := [Cond.initialized RX3]
noncomputable def wsX3_endByTurns : List Cond := .code yX3_endByTurns cX3_endByTurns 9 (some .int) :: ((wsX3_endByTurns_r1 ++ (wsX3_endByTurns_r2 ++ (wsX3_endByTurns_r3 ++ (wsX3_endByTurns_r4 ++ wsX3_endByTurns_r5)))) ++ wsX30 ++ wsX00 ++ wsX20)
noncomputable def wsX3_duel_r1 : List Cond := [Cond.fieldLink RX3 33 "AirTalkers" "now" "LAirTalkers$Air;", Cond.fieldLink RX3 112 "AirTalkers$Air" "size" "I", Cond.fieldLink RX3 50 "AirTalkers" "trial" "LAirTalkers$Air;", Cond.methodLink RX3 108 yX0_become, Cond.instanceMethod yX0_become, Cond.selects RX0 yX0_become yX0_become, Cond.initialized RX0, Cond.code yX0_become cX0_become 3 none, Cond.fieldLink RX0 17 "AirTalkers$Air" "size" "I", Cond.fieldLink RX0 21 "AirTalkers$Air" "slotNumber" "I", Cond.fieldLink RX0 24 "AirTalkers$Air" "heard" "I", Cond.fieldLink RX0 27 "AirTalkers$Air" "lost" "I", Cond.fieldLink RX0 30 "AirTalkers$Air" "talked" "Z", Cond.fieldLink RX0 11 "AirTalkers$Air" "stations" "[LAirTalkers$Station;", Cond.methodLink RX0 35 yX2_become, Cond.instanceMethod yX2_become, Cond.selects RX2 yX2_become yX2_become, Cond.initialized RX2, Cond.code yX2_become cX2_become 2 none, Cond.fieldLink RX2 9 "AirTalkers$Station" "kind" "I", Cond.fieldLink RX2 15 "AirTalkers$Station" "firstWait" "I", Cond.fieldLink RX2 18 "AirTalkers$Station" "step" "I", Cond.fieldLink RX2 21 "AirTalkers$Station" "letters" "I", Cond.fieldLink RX2 24 "AirTalkers$Station" "waiting" "I"]
noncomputable def wsX3_duel_r2 : List Cond := [Cond.fieldLink RX2 27 "AirTalkers$Station" "clashes" "I", Cond.methodLink RX3 209 yX3_endByTurns, Cond.instanceMethod yX3_endByTurns, Cond.selects RX3 yX3_endByTurns yX3_endByTurns, Cond.initialized RX3, Cond.code yX3_endByTurns cX3_endByTurns 9 (some .int), Cond.fieldLink RX3 47 "AirTalkers" "aside" "LAirTalkers$Air;", Cond.fieldLink RX3 116 "AirTalkers$Air" "stations" "[LAirTalkers$Station;", Cond.fieldLink RX3 150 "AirTalkers$Station" "letters" "I", Cond.methodLink RX3 248 Lib.Math.max.name, Cond.static Lib.Math.max.name, Cond.initialized "java/lang/Math", Cond.code Lib.Math.max.name Lib.Math.max.code 2 (some .int), Cond.methodLink RX3 253 Lib.Math.min.name, Cond.static Lib.Math.min.name, Cond.code Lib.Math.min.name Lib.Math.min.code 2 (some .int), Cond.methodLink RX3 176 yX0_goToEnd, Cond.instanceMethod yX0_goToEnd, Cond.selects RX0 yX0_goToEnd yX0_goToEnd, Cond.code yX0_goToEnd cX0_goToEnd 2 (some .int), Cond.methodLink RX0 88 yX0_lettersBut, Cond.instanceMethod yX0_lettersBut, Cond.selects RX0 yX0_lettersBut yX0_lettersBut, Cond.code yX0_lettersBut cX0_lettersBut 4 (some .int)]
noncomputable def wsX3_duel_r3 : List Cond := [Cond.fieldLink RX0 56 "AirTalkers$Station" "letters" "I", Cond.methodLink RX0 91 yX0_goBy, Cond.instanceMethod yX0_goBy, Cond.selects RX0 yX0_goBy yX0_goBy, Cond.code yX0_goBy cX0_goBy 6 (some .int), Cond.fieldLink RX0 78 "AirTalkers$Station" "waiting" "I", Cond.methodLink RX0 70 yX0_talkers, Cond.instanceMethod yX0_talkers, Cond.selects RX0 yX0_talkers yX0_talkers, Cond.code yX0_talkers cX0_talkers 4 (some .int), Cond.methodLink RX0 66 yX2_wants, Cond.instanceMethod yX2_wants, Cond.selects RX2 yX2_wants yX2_wants, Cond.code yX2_wants cX2_wants 2 (some .boolean), Cond.methodLink RX2 34 yX2_isOf, Cond.instanceMethod yX2_isOf, Cond.selects RX2 yX2_isOf yX2_isOf, Cond.code yX2_isOf cX2_isOf 2 (some .boolean), Cond.methodLink RX0 73 yJ6_bitCount_0f7a4, Cond.static yJ6_bitCount_0f7a4, Cond.initialized RJ6, Cond.code yJ6_bitCount_0f7a4 cJ6_bitCount_0f7a4 1 (some .int), Cond.constant RJ6 265 (1431655765), Cond.constant RJ6 266 (858993459)]
noncomputable def wsX3_duel_r4 : List Cond := [Cond.constant RJ6 267 (252645135), Cond.methodLink RX0 81 yX2_isHeard, Cond.instanceMethod yX2_isHeard, Cond.selects RX2 yX2_isHeard yX2_isHeard, Cond.code yX2_isHeard cX2_isHeard 1 none, Cond.methodLink RX0 84 yX2_meets, Cond.instanceMethod yX2_meets, Cond.selects RX2 yX2_meets yX2_meets, Cond.code yX2_meets cX2_meets 2 (some .boolean), Cond.methodLink RX2 54 yX2_rest, Cond.instanceMethod yX2_rest, Cond.selects RX2 yX2_rest yX2_rest, Cond.code yX2_rest cX2_rest 1 none, Cond.methodLink RX2 57 yX2_waitBehind, Cond.instanceMethod yX2_waitBehind, Cond.selects RX2 yX2_waitBehind yX2_waitBehind, Cond.code yX2_waitBehind cX2_waitBehind 4 (some .int), Cond.methodLink RX2 47 yX2_doubleWait, Cond.instanceMethod yX2_doubleWait, Cond.selects RX2 yX2_doubleWait yX2_doubleWait, Cond.code yX2_doubleWait cX2_doubleWait 3 (some .int), Cond.methodLink RX2 38 Lib.Math.min.name, Cond.methodLink RX2 44 Lib.Math.max.name, Cond.methodLink RX2 51 yX2_plainWait]
noncomputable def wsX3_duel_r5 : List Cond := [Cond.instanceMethod yX2_plainWait, Cond.selects RX2 yX2_plainWait yX2_plainWait, Cond.code yX2_plainWait cX2_plainWait 2 (some .int)]
noncomputable def wsX3_duel : List Cond := .code yX3_duel cX3_duel 2 (some .int) :: ((wsX3_duel_r1 ++ (wsX3_duel_r2 ++ (wsX3_duel_r3 ++ (wsX3_duel_r4 ++ wsX3_duel_r5)))) ++ wsX30 ++ wsX00 ++ wsX20)
noncomputable def wsX3_weightOf : List Cond := .code yX3_weightOf cX3_weightOf 6 (some .long) :: ([.fieldLink RX3 33 "AirTalkers" "now" "LAirTalkers$Air;", .fieldLink RX3 112 "AirTalkers$Air" "size" "I"] ++ wsX30 ++ wsX00)
noncomputable def wsX3_tellRatio : List Cond := .code yX3_tellRatio cX3_tellRatio 12 none :: ([.fieldLink RX3 63 "AirTalkers" "toldUpper" "J", .fieldLink RX3 67 "AirTalkers" "toldLower" "J"] ++ wsX30)
noncomputable def wsX3_tellMean_r1 : List Cond := [Cond.fieldLink RX3 33 "AirTalkers" "now" "LAirTalkers$Air;", Cond.fieldLink RX3 112 "AirTalkers$Air" "size" "I", Cond.fieldLink RX3 47 "AirTalkers" "aside" "LAirTalkers$Air;", Cond.methodLink RX3 190 yX0_sets, Cond.instanceMethod yX0_sets, Cond.selects RX0 yX0_sets yX0_sets, Cond.initialized RX0, Cond.code yX0_sets cX0_sets 1 (some .int), Cond.fieldLink RX0 17 "AirTalkers$Air" "size" "I", Cond.methodLink RX3 256 yX3_weightOf, Cond.instanceMethod yX3_weightOf, Cond.selects RX3 yX3_weightOf yX3_weightOf, Cond.initialized RX3, Cond.code yX3_weightOf cX3_weightOf 6 (some .long), Cond.methodLink RX3 173 yX3_heardAside, Cond.instanceMethod yX3_heardAside, Cond.selects RX3 yX3_heardAside yX3_heardAside, Cond.code yX3_heardAside cX3_heardAside 4 (some .int), Cond.fieldLink RX3 223 "AirTalkers$Air" "heard" "I", Cond.methodLink RX3 108 yX0_become, Cond.instanceMethod yX0_become, Cond.selects RX0 yX0_become yX0_become, Cond.code yX0_become cX0_become 3 none, Cond.fieldLink RX0 21 "AirTalkers$Air" "slotNumber" "I"]
noncomputable def wsX3_tellMean_r2 : List Cond := [Cond.fieldLink RX0 24 "AirTalkers$Air" "heard" "I", Cond.fieldLink RX0 27 "AirTalkers$Air" "lost" "I", Cond.fieldLink RX0 30 "AirTalkers$Air" "talked" "Z", Cond.fieldLink RX0 11 "AirTalkers$Air" "stations" "[LAirTalkers$Station;", Cond.methodLink RX0 35 yX2_become, Cond.instanceMethod yX2_become, Cond.selects RX2 yX2_become yX2_become, Cond.initialized RX2, Cond.code yX2_become cX2_become 2 none, Cond.fieldLink RX2 9 "AirTalkers$Station" "kind" "I", Cond.fieldLink RX2 15 "AirTalkers$Station" "firstWait" "I", Cond.fieldLink RX2 18 "AirTalkers$Station" "step" "I", Cond.fieldLink RX2 21 "AirTalkers$Station" "letters" "I", Cond.fieldLink RX2 24 "AirTalkers$Station" "waiting" "I", Cond.fieldLink RX2 27 "AirTalkers$Station" "clashes" "I", Cond.methodLink RX3 242 yX0_lettersBut, Cond.instanceMethod yX0_lettersBut, Cond.selects RX0 yX0_lettersBut yX0_lettersBut, Cond.code yX0_lettersBut cX0_lettersBut 4 (some .int), Cond.fieldLink RX0 56 "AirTalkers$Station" "letters" "I", Cond.methodLink RX3 183 yX0_goBy, Cond.instanceMethod yX0_goBy, Cond.selects RX0 yX0_goBy yX0_goBy, Cond.code yX0_goBy cX0_goBy 6 (some .int)]
noncomputable def wsX3_tellMean_r3 : List Cond := [Cond.fieldLink RX0 78 "AirTalkers$Station" "waiting" "I", Cond.methodLink RX0 70 yX0_talkers, Cond.instanceMethod yX0_talkers, Cond.selects RX0 yX0_talkers yX0_talkers, Cond.code yX0_talkers cX0_talkers 4 (some .int), Cond.methodLink RX0 66 yX2_wants, Cond.instanceMethod yX2_wants, Cond.selects RX2 yX2_wants yX2_wants, Cond.code yX2_wants cX2_wants 2 (some .boolean), Cond.methodLink RX2 34 yX2_isOf, Cond.instanceMethod yX2_isOf, Cond.selects RX2 yX2_isOf yX2_isOf, Cond.code yX2_isOf cX2_isOf 2 (some .boolean), Cond.methodLink RX0 73 yJ6_bitCount_0f7a4, Cond.static yJ6_bitCount_0f7a4, Cond.initialized RJ6, Cond.code yJ6_bitCount_0f7a4 cJ6_bitCount_0f7a4 1 (some .int), Cond.constant RJ6 265 (1431655765), Cond.constant RJ6 266 (858993459), Cond.constant RJ6 267 (252645135), Cond.methodLink RX0 81 yX2_isHeard, Cond.instanceMethod yX2_isHeard, Cond.selects RX2 yX2_isHeard yX2_isHeard, Cond.code yX2_isHeard cX2_isHeard 1 none]
noncomputable def wsX3_tellMean_r4 : List Cond := [Cond.methodLink RX0 84 yX2_meets, Cond.instanceMethod yX2_meets, Cond.selects RX2 yX2_meets yX2_meets, Cond.code yX2_meets cX2_meets 2 (some .boolean), Cond.methodLink RX2 54 yX2_rest, Cond.instanceMethod yX2_rest, Cond.selects RX2 yX2_rest yX2_rest, Cond.code yX2_rest cX2_rest 1 none, Cond.methodLink RX2 57 yX2_waitBehind, Cond.instanceMethod yX2_waitBehind, Cond.selects RX2 yX2_waitBehind yX2_waitBehind, Cond.code yX2_waitBehind cX2_waitBehind 4 (some .int), Cond.methodLink RX2 47 yX2_doubleWait, Cond.instanceMethod yX2_doubleWait, Cond.selects RX2 yX2_doubleWait yX2_doubleWait, Cond.code yX2_doubleWait cX2_doubleWait 3 (some .int), Cond.methodLink RX2 38 Lib.Math.min.name, Cond.static Lib.Math.min.name, Cond.initialized "java/lang/Math", Cond.code Lib.Math.min.name Lib.Math.min.code 2 (some .int), Cond.methodLink RX2 44 Lib.Math.max.name, Cond.static Lib.Math.max.name, Cond.code Lib.Math.max.name Lib.Math.max.code 2 (some .int), Cond.methodLink RX2 51 yX2_plainWait]
noncomputable def wsX3_tellMean_r5 : List Cond := [Cond.instanceMethod yX2_plainWait, Cond.selects RX2 yX2_plainWait yX2_plainWait, Cond.code yX2_plainWait cX2_plainWait 2 (some .int), Cond.methodLink RX3 260 yX3_tellRatio, Cond.instanceMethod yX3_tellRatio, Cond.selects RX3 yX3_tellRatio yX3_tellRatio, Cond.code yX3_tellRatio cX3_tellRatio 12 none, Cond.fieldLink RX3 63 "AirTalkers" "toldUpper" "J", Cond.fieldLink RX3 67 "AirTalkers" "toldLower" "J"]
noncomputable def wsX3_tellMean : List Cond := .code yX3_tellMean cX3_tellMean 13 (some .int) :: ((wsX3_tellMean_r1 ++ (wsX3_tellMean_r2 ++ (wsX3_tellMean_r3 ++ (wsX3_tellMean_r4 ++ wsX3_tellMean_r5)))) ++ wsX30 ++ wsX00 ++ wsX20)
noncomputable def wsX3_odds_r1 : List Cond := [Cond.methodLink RX3 213 yX3_tellMean, Cond.instanceMethod yX3_tellMean, Cond.selects RX3 yX3_tellMean yX3_tellMean, Cond.initialized RX3, Cond.code yX3_tellMean cX3_tellMean 13 (some .int), Cond.fieldLink RX3 33 "AirTalkers" "now" "LAirTalkers$Air;", Cond.fieldLink RX3 112 "AirTalkers$Air" "size" "I", Cond.fieldLink RX3 47 "AirTalkers" "aside" "LAirTalkers$Air;", Cond.methodLink RX3 190 yX0_sets, Cond.instanceMethod yX0_sets, Cond.selects RX0 yX0_sets yX0_sets, Cond.initialized RX0, Cond.code yX0_sets cX0_sets 1 (some .int), Cond.fieldLink RX0 17 "AirTalkers$Air" "size" "I", Cond.methodLink RX3 256 yX3_weightOf, Cond.instanceMethod yX3_weightOf, Cond.selects RX3 yX3_weightOf yX3_weightOf, Cond.code yX3_weightOf cX3_weightOf 6 (some .long), Cond.methodLink RX3 173 yX3_heardAside, Cond.instanceMethod yX3_heardAside, Cond.selects RX3 yX3_heardAside yX3_heardAside, Cond.code yX3_heardAside cX3_heardAside 4 (some .int), Cond.fieldLink RX3 223 "AirTalkers$Air" "heard" "I", Cond.methodLink RX3 108 yX0_become]
noncomputable def wsX3_odds_r2 : List Cond := [Cond.instanceMethod yX0_become, Cond.selects RX0 yX0_become yX0_become, Cond.code yX0_become cX0_become 3 none, Cond.fieldLink RX0 21 "AirTalkers$Air" "slotNumber" "I", Cond.fieldLink RX0 24 "AirTalkers$Air" "heard" "I", Cond.fieldLink RX0 27 "AirTalkers$Air" "lost" "I", Cond.fieldLink RX0 30 "AirTalkers$Air" "talked" "Z", Cond.fieldLink RX0 11 "AirTalkers$Air" "stations" "[LAirTalkers$Station;", Cond.methodLink RX0 35 yX2_become, Cond.instanceMethod yX2_become, Cond.selects RX2 yX2_become yX2_become, Cond.initialized RX2, Cond.code yX2_become cX2_become 2 none, Cond.fieldLink RX2 9 "AirTalkers$Station" "kind" "I", Cond.fieldLink RX2 15 "AirTalkers$Station" "firstWait" "I", Cond.fieldLink RX2 18 "AirTalkers$Station" "step" "I", Cond.fieldLink RX2 21 "AirTalkers$Station" "letters" "I", Cond.fieldLink RX2 24 "AirTalkers$Station" "waiting" "I", Cond.fieldLink RX2 27 "AirTalkers$Station" "clashes" "I", Cond.methodLink RX3 242 yX0_lettersBut, Cond.instanceMethod yX0_lettersBut, Cond.selects RX0 yX0_lettersBut yX0_lettersBut, Cond.code yX0_lettersBut cX0_lettersBut 4 (some .int), Cond.fieldLink RX0 56 "AirTalkers$Station" "letters" "I"]
noncomputable def wsX3_odds_r3 : List Cond := [Cond.methodLink RX3 183 yX0_goBy, Cond.instanceMethod yX0_goBy, Cond.selects RX0 yX0_goBy yX0_goBy, Cond.code yX0_goBy cX0_goBy 6 (some .int), Cond.fieldLink RX0 78 "AirTalkers$Station" "waiting" "I", Cond.methodLink RX0 70 yX0_talkers, Cond.instanceMethod yX0_talkers, Cond.selects RX0 yX0_talkers yX0_talkers, Cond.code yX0_talkers cX0_talkers 4 (some .int), Cond.methodLink RX0 66 yX2_wants, Cond.instanceMethod yX2_wants, Cond.selects RX2 yX2_wants yX2_wants, Cond.code yX2_wants cX2_wants 2 (some .boolean), Cond.methodLink RX2 34 yX2_isOf, Cond.instanceMethod yX2_isOf, Cond.selects RX2 yX2_isOf yX2_isOf, Cond.code yX2_isOf cX2_isOf 2 (some .boolean), Cond.methodLink RX0 73 yJ6_bitCount_0f7a4, Cond.static yJ6_bitCount_0f7a4, Cond.initialized RJ6, Cond.code yJ6_bitCount_0f7a4 cJ6_bitCount_0f7a4 1 (some .int), Cond.constant RJ6 265 (1431655765), Cond.constant RJ6 266 (858993459), Cond.constant RJ6 267 (252645135)]
noncomputable def wsX3_odds_r4 : List Cond := [Cond.methodLink RX0 81 yX2_isHeard, Cond.instanceMethod yX2_isHeard, Cond.selects RX2 yX2_isHeard yX2_isHeard, Cond.code yX2_isHeard cX2_isHeard 1 none, Cond.methodLink RX0 84 yX2_meets, Cond.instanceMethod yX2_meets, Cond.selects RX2 yX2_meets yX2_meets, Cond.code yX2_meets cX2_meets 2 (some .boolean), Cond.methodLink RX2 54 yX2_rest, Cond.instanceMethod yX2_rest, Cond.selects RX2 yX2_rest yX2_rest, Cond.code yX2_rest cX2_rest 1 none, Cond.methodLink RX2 57 yX2_waitBehind, Cond.instanceMethod yX2_waitBehind, Cond.selects RX2 yX2_waitBehind yX2_waitBehind, Cond.code yX2_waitBehind cX2_waitBehind 4 (some .int), Cond.methodLink RX2 47 yX2_doubleWait, Cond.instanceMethod yX2_doubleWait, Cond.selects RX2 yX2_doubleWait yX2_doubleWait, Cond.code yX2_doubleWait cX2_doubleWait 3 (some .int), Cond.methodLink RX2 38 Lib.Math.min.name, Cond.static Lib.Math.min.name, Cond.initialized "java/lang/Math", Cond.code Lib.Math.min.name Lib.Math.min.code 2 (some .int)]
noncomputable def wsX3_odds_r5 : List Cond := [Cond.methodLink RX2 44 Lib.Math.max.name, Cond.static Lib.Math.max.name, Cond.code Lib.Math.max.name Lib.Math.max.code 2 (some .int), Cond.methodLink RX2 51 yX2_plainWait, Cond.instanceMethod yX2_plainWait, Cond.selects RX2 yX2_plainWait yX2_plainWait, Cond.code yX2_plainWait cX2_plainWait 2 (some .int), Cond.methodLink RX3 260 yX3_tellRatio, Cond.instanceMethod yX3_tellRatio, Cond.selects RX3 yX3_tellRatio yX3_tellRatio, Cond.code yX3_tellRatio cX3_tellRatio 12 none, Cond.fieldLink RX3 63 "AirTalkers" "toldUpper" "J", Cond.fieldLink RX3 67 "AirTalkers" "toldLower" "J"]
noncomputable def wsX3_odds : List Cond := .code yX3_odds cX3_odds 3 (some .int) :: ((wsX3_odds_r1 ++ (wsX3_odds_r2 ++ (wsX3_odds_r3 ++ (wsX3_odds_r4 ++ wsX3_odds_r5)))) ++ wsX30 ++ wsX00 ++ wsX20)
noncomputable def wsX3_mid_r1 : List Cond := [Cond.methodLink RX3 213 yX3_tellMean, Cond.instanceMethod yX3_tellMean, Cond.selects RX3 yX3_tellMean yX3_tellMean, Cond.initialized RX3, Cond.code yX3_tellMean cX3_tellMean 13 (some .int), Cond.fieldLink RX3 33 "AirTalkers" "now" "LAirTalkers$Air;", Cond.fieldLink RX3 112 "AirTalkers$Air" "size" "I", Cond.fieldLink RX3 47 "AirTalkers" "aside" "LAirTalkers$Air;", Cond.methodLink RX3 190 yX0_sets, Cond.instanceMethod yX0_sets, Cond.selects RX0 yX0_sets yX0_sets, Cond.initialized RX0, Cond.code yX0_sets cX0_sets 1 (some .int), Cond.fieldLink RX0 17 "AirTalkers$Air" "size" "I", Cond.methodLink RX3 256 yX3_weightOf, Cond.instanceMethod yX3_weightOf, Cond.selects RX3 yX3_weightOf yX3_weightOf, Cond.code yX3_weightOf cX3_weightOf 6 (some .long), Cond.methodLink RX3 173 yX3_heardAside, Cond.instanceMethod yX3_heardAside, Cond.selects RX3 yX3_heardAside yX3_heardAside, Cond.code yX3_heardAside cX3_heardAside 4 (some .int), Cond.fieldLink RX3 223 "AirTalkers$Air" "heard" "I", Cond.methodLink RX3 108 yX0_become]
noncomputable def wsX3_mid_r2 : List Cond := [Cond.instanceMethod yX0_become, Cond.selects RX0 yX0_become yX0_become, Cond.code yX0_become cX0_become 3 none, Cond.fieldLink RX0 21 "AirTalkers$Air" "slotNumber" "I", Cond.fieldLink RX0 24 "AirTalkers$Air" "heard" "I", Cond.fieldLink RX0 27 "AirTalkers$Air" "lost" "I", Cond.fieldLink RX0 30 "AirTalkers$Air" "talked" "Z", Cond.fieldLink RX0 11 "AirTalkers$Air" "stations" "[LAirTalkers$Station;", Cond.methodLink RX0 35 yX2_become, Cond.instanceMethod yX2_become, Cond.selects RX2 yX2_become yX2_become, Cond.initialized RX2, Cond.code yX2_become cX2_become 2 none, Cond.fieldLink RX2 9 "AirTalkers$Station" "kind" "I", Cond.fieldLink RX2 15 "AirTalkers$Station" "firstWait" "I", Cond.fieldLink RX2 18 "AirTalkers$Station" "step" "I", Cond.fieldLink RX2 21 "AirTalkers$Station" "letters" "I", Cond.fieldLink RX2 24 "AirTalkers$Station" "waiting" "I", Cond.fieldLink RX2 27 "AirTalkers$Station" "clashes" "I", Cond.methodLink RX3 242 yX0_lettersBut, Cond.instanceMethod yX0_lettersBut, Cond.selects RX0 yX0_lettersBut yX0_lettersBut, Cond.code yX0_lettersBut cX0_lettersBut 4 (some .int), Cond.fieldLink RX0 56 "AirTalkers$Station" "letters" "I"]
noncomputable def wsX3_mid_r3 : List Cond := [Cond.methodLink RX3 183 yX0_goBy, Cond.instanceMethod yX0_goBy, Cond.selects RX0 yX0_goBy yX0_goBy, Cond.code yX0_goBy cX0_goBy 6 (some .int), Cond.fieldLink RX0 78 "AirTalkers$Station" "waiting" "I", Cond.methodLink RX0 70 yX0_talkers, Cond.instanceMethod yX0_talkers, Cond.selects RX0 yX0_talkers yX0_talkers, Cond.code yX0_talkers cX0_talkers 4 (some .int), Cond.methodLink RX0 66 yX2_wants, Cond.instanceMethod yX2_wants, Cond.selects RX2 yX2_wants yX2_wants, Cond.code yX2_wants cX2_wants 2 (some .boolean), Cond.methodLink RX2 34 yX2_isOf, Cond.instanceMethod yX2_isOf, Cond.selects RX2 yX2_isOf yX2_isOf, Cond.code yX2_isOf cX2_isOf 2 (some .boolean), Cond.methodLink RX0 73 yJ6_bitCount_0f7a4, Cond.static yJ6_bitCount_0f7a4, Cond.initialized RJ6, Cond.code yJ6_bitCount_0f7a4 cJ6_bitCount_0f7a4 1 (some .int), Cond.constant RJ6 265 (1431655765), Cond.constant RJ6 266 (858993459), Cond.constant RJ6 267 (252645135)]
noncomputable def wsX3_mid_r4 : List Cond := [Cond.methodLink RX0 81 yX2_isHeard, Cond.instanceMethod yX2_isHeard, Cond.selects RX2 yX2_isHeard yX2_isHeard, Cond.code yX2_isHeard cX2_isHeard 1 none, Cond.methodLink RX0 84 yX2_meets, Cond.instanceMethod yX2_meets, Cond.selects RX2 yX2_meets yX2_meets, Cond.code yX2_meets cX2_meets 2 (some .boolean), Cond.methodLink RX2 54 yX2_rest, Cond.instanceMethod yX2_rest, Cond.selects RX2 yX2_rest yX2_rest, Cond.code yX2_rest cX2_rest 1 none, Cond.methodLink RX2 57 yX2_waitBehind, Cond.instanceMethod yX2_waitBehind, Cond.selects RX2 yX2_waitBehind yX2_waitBehind, Cond.code yX2_waitBehind cX2_waitBehind 4 (some .int), Cond.methodLink RX2 47 yX2_doubleWait, Cond.instanceMethod yX2_doubleWait, Cond.selects RX2 yX2_doubleWait yX2_doubleWait, Cond.code yX2_doubleWait cX2_doubleWait 3 (some .int), Cond.methodLink RX2 38 Lib.Math.min.name, Cond.static Lib.Math.min.name, Cond.initialized "java/lang/Math", Cond.code Lib.Math.min.name Lib.Math.min.code 2 (some .int)]
noncomputable def wsX3_mid_r5 : List Cond := [Cond.methodLink RX2 44 Lib.Math.max.name, Cond.static Lib.Math.max.name, Cond.code Lib.Math.max.name Lib.Math.max.code 2 (some .int), Cond.methodLink RX2 51 yX2_plainWait, Cond.instanceMethod yX2_plainWait, Cond.selects RX2 yX2_plainWait yX2_plainWait, Cond.code yX2_plainWait cX2_plainWait 2 (some .int), Cond.methodLink RX3 260 yX3_tellRatio, Cond.instanceMethod yX3_tellRatio, Cond.selects RX3 yX3_tellRatio yX3_tellRatio, Cond.code yX3_tellRatio cX3_tellRatio 12 none, Cond.fieldLink RX3 63 "AirTalkers" "toldUpper" "J", Cond.fieldLink RX3 67 "AirTalkers" "toldLower" "J"]
noncomputable def wsX3_mid : List Cond := .code yX3_mid cX3_mid 3 (some .int) :: ((wsX3_mid_r1 ++ (wsX3_mid_r2 ++ (wsX3_mid_r3 ++ (wsX3_mid_r4 ++ wsX3_mid_r5)))) ++ wsX30 ++ wsX00 ++ wsX20)
noncomputable def wsX3_deedByLot : List Cond := .code yX3_deedByLot cX3_deedByLot 5 (some .int) :: ([.fieldLink RX3 33 "AirTalkers" "now" "LAirTalkers$Air;", .fieldLink RX3 112 "AirTalkers$Air" "size" "I", .fieldLink RX3 116 "AirTalkers$Air" "stations" "[LAirTalkers$Station;", .fieldLink RX3 150 "AirTalkers$Station" "letters" "I", .fieldLink RX3 133 "AirTalkers$Air" "slotNumber" "I", .methodLink RX3 143 yX3_deedOf, .static yX3_deedOf, .initialized RX3, .code yX3_deedOf cX3_deedOf 3 (some .int)] ++ wsX30 ++ wsX00 ++ wsX20)
noncomputable def wsX3_lots_r1 : List Cond := [Cond.constantLong RX3 216 (2147483647), Cond.fieldLink RX3 33 "AirTalkers" "now" "LAirTalkers$Air;", Cond.fieldLink RX3 112 "AirTalkers$Air" "size" "I", Cond.fieldLink RX3 39 "AirTalkers" "deeds" "LAirTalkers$Deeds;", Cond.constantLong RX3 218 (48271), Cond.fieldLink RX3 223 "AirTalkers$Air" "heard" "I", Cond.methodLink RX3 140 yX1_hasRoomFor, Cond.instanceMethod yX1_hasRoomFor, Cond.selects RX1 yX1_hasRoomFor yX1_hasRoomFor, Cond.initialized RX1, Cond.code yX1_hasRoomFor cX1_hasRoomFor 2 (some .boolean), Cond.fieldLink RX1 15 "AirTalkers$Deeds" "size" "I", Cond.methodLink RX3 220 yX3_deedByLot, Cond.instanceMethod yX3_deedByLot, Cond.selects RX3 yX3_deedByLot yX3_deedByLot, Cond.initialized RX3, Cond.code yX3_deedByLot cX3_deedByLot 5 (some .int), Cond.fieldLink RX3 116 "AirTalkers$Air" "stations" "[LAirTalkers$Station;", Cond.fieldLink RX3 150 "AirTalkers$Station" "letters" "I", Cond.fieldLink RX3 133 "AirTalkers$Air" "slotNumber" "I", Cond.methodLink RX3 143 yX3_deedOf, Cond.static yX3_deedOf, Cond.code yX3_deedOf cX3_deedOf 3 (some .int), Cond.methodLink RX3 147 yX3_carryOut]
noncomputable def wsX3_lots_r2 : List Cond := [Cond.instanceMethod yX3_carryOut, Cond.selects RX3 yX3_carryOut yX3_carryOut, Cond.code yX3_carryOut cX3_carryOut 2 (some .int), Cond.methodLink RX3 233 yX1_add, Cond.instanceMethod yX1_add, Cond.selects RX1 yX1_add yX1_add, Cond.code yX1_add cX1_add 2 none, Cond.fieldLink RX1 9 "AirTalkers$Deeds" "numbers" "[I", Cond.methodLink RX3 236 yX0_act, Cond.instanceMethod yX0_act, Cond.selects RX0 yX0_act yX0_act, Cond.initialized RX0, Cond.code yX0_act cX0_act 8 (some .int), Cond.fieldLink RX0 11 "AirTalkers$Air" "stations" "[LAirTalkers$Station;", Cond.fieldLink RX0 56 "AirTalkers$Station" "letters" "I", Cond.fieldLink RX0 50 "AirTalkers$Station" "firstWait" "I", Cond.methodLink RX0 97 yX0_has, Cond.instanceMethod yX0_has, Cond.selects RX0 yX0_has yX0_has, Cond.code yX0_has cX0_has 2 (some .boolean), Cond.fieldLink RX0 17 "AirTalkers$Air" "size" "I", Cond.methodLink RX0 91 yX0_goBy, Cond.instanceMethod yX0_goBy, Cond.selects RX0 yX0_goBy yX0_goBy]
noncomputable def wsX3_lots_r3 : List Cond := [Cond.code yX0_goBy cX0_goBy 6 (some .int), Cond.fieldLink RX0 78 "AirTalkers$Station" "waiting" "I", Cond.fieldLink RX0 24 "AirTalkers$Air" "heard" "I", Cond.fieldLink RX0 21 "AirTalkers$Air" "slotNumber" "I", Cond.fieldLink RX0 27 "AirTalkers$Air" "lost" "I", Cond.fieldLink RX0 30 "AirTalkers$Air" "talked" "Z", Cond.methodLink RX0 70 yX0_talkers, Cond.instanceMethod yX0_talkers, Cond.selects RX0 yX0_talkers yX0_talkers, Cond.code yX0_talkers cX0_talkers 4 (some .int), Cond.methodLink RX0 66 yX2_wants, Cond.instanceMethod yX2_wants, Cond.selects RX2 yX2_wants yX2_wants, Cond.initialized RX2, Cond.code yX2_wants cX2_wants 2 (some .boolean), Cond.fieldLink RX2 21 "AirTalkers$Station" "letters" "I", Cond.fieldLink RX2 24 "AirTalkers$Station" "waiting" "I", Cond.methodLink RX2 34 yX2_isOf, Cond.instanceMethod yX2_isOf, Cond.selects RX2 yX2_isOf yX2_isOf, Cond.code yX2_isOf cX2_isOf 2 (some .boolean), Cond.fieldLink RX2 9 "AirTalkers$Station" "kind" "I", Cond.methodLink RX0 73 yJ6_bitCount_0f7a4, Cond.static yJ6_bitCount_0f7a4]
noncomputable def wsX3_lots_r4 : List Cond := [Cond.initialized RJ6, Cond.code yJ6_bitCount_0f7a4 cJ6_bitCount_0f7a4 1 (some .int), Cond.constant RJ6 265 (1431655765), Cond.constant RJ6 266 (858993459), Cond.constant RJ6 267 (252645135), Cond.methodLink RX0 81 yX2_isHeard, Cond.instanceMethod yX2_isHeard, Cond.selects RX2 yX2_isHeard yX2_isHeard, Cond.code yX2_isHeard cX2_isHeard 1 none, Cond.fieldLink RX2 27 "AirTalkers$Station" "clashes" "I", Cond.methodLink RX0 84 yX2_meets, Cond.instanceMethod yX2_meets, Cond.selects RX2 yX2_meets yX2_meets, Cond.code yX2_meets cX2_meets 2 (some .boolean), Cond.methodLink RX2 54 yX2_rest, Cond.instanceMethod yX2_rest, Cond.selects RX2 yX2_rest yX2_rest, Cond.code yX2_rest cX2_rest 1 none, Cond.methodLink RX2 57 yX2_waitBehind, Cond.instanceMethod yX2_waitBehind, Cond.selects RX2 yX2_waitBehind yX2_waitBehind, Cond.code yX2_waitBehind cX2_waitBehind 4 (some .int), Cond.fieldLink RX2 15 "AirTalkers$Station" "firstWait" "I", Cond.fieldLink RX2 18 "AirTalkers$Station" "step" "I"]
noncomputable def wsX3_lots_r5 : List Cond := [Cond.methodLink RX2 47 yX2_doubleWait, Cond.instanceMethod yX2_doubleWait, Cond.selects RX2 yX2_doubleWait yX2_doubleWait, Cond.code yX2_doubleWait cX2_doubleWait 3 (some .int), Cond.methodLink RX2 38 Lib.Math.min.name, Cond.static Lib.Math.min.name, Cond.initialized "java/lang/Math", Cond.code Lib.Math.min.name Lib.Math.min.code 2 (some .int), Cond.methodLink RX2 44 Lib.Math.max.name, Cond.static Lib.Math.max.name, Cond.code Lib.Math.max.name Lib.Math.max.code 2 (some .int), Cond.methodLink RX2 51 yX2_plainWait, Cond.instanceMethod yX2_plainWait, Cond.selects RX2 yX2_plainWait yX2_plainWait, Cond.code yX2_plainWait cX2_plainWait 2 (some .int), Cond.methodLink RX0 59 yX2_rest]
noncomputable def wsX3_lots : List Cond := .code yX3_lots cX3_lots 6 (some .int) :: ((wsX3_lots_r1 ++ (wsX3_lots_r2 ++ (wsX3_lots_r3 ++ (wsX3_lots_r4 ++ wsX3_lots_r5)))) ++ wsX30 ++ wsX00 ++ wsX10 ++ wsX20)
noncomputable def wsX3_asked : List Cond := .code yX3_asked cX3_asked 1 (some .int) :: ([.fieldLink RX3 59 "AirTalkers" "toldAsked" "I"] ++ wsX30)
noncomputable def wsX3_upper : List Cond := .code yX3_upper cX3_upper 1 (some .long) :: ([.fieldLink RX3 63 "AirTalkers" "toldUpper" "J"] ++ wsX30)
noncomputable def wsX3_lower : List Cond := .code yX3_lower cX3_lower 1 (some .long) :: ([.fieldLink RX3 67 "AirTalkers" "toldLower" "J"] ++ wsX30)
noncomputable def wsX3_countThere : List Cond := .code yX3_countThere cX3_countThere 6 (some .int) :: ([])
noncomputable def wsX3_countKept : List Cond := .code yX3_countKept cX3_countKept 3 (some .int) :: ([.fieldLink RX3 43 "AirTalkers" "keptDeeds" "[LAirTalkers$Deeds;", .fieldLink RX3 76 "AirTalkers$Deeds" "size" "I"] ++ wsX30 ++ wsX10)
noncomputable def wsX3_counted_r1 : List Cond := [Cond.fieldLink RX3 33 "AirTalkers" "now" "LAirTalkers$Air;", Cond.fieldLink RX3 112 "AirTalkers$Air" "size" "I", Cond.fieldLink RX3 133 "AirTalkers$Air" "slotNumber" "I", Cond.fieldLink RX3 39 "AirTalkers" "deeds" "LAirTalkers$Deeds;", Cond.fieldLink RX3 76 "AirTalkers$Deeds" "size" "I", Cond.fieldLink RX3 223 "AirTalkers$Air" "heard" "I", Cond.fieldLink RX3 180 "AirTalkers$Air" "lost" "I", Cond.fieldLink RX3 120 "AirTalkers$Air" "talked" "Z", Cond.fieldLink RX3 14 "AirTalkers" "rowSizes" "[I", Cond.fieldLink RX3 23 "AirTalkers" "textSizes" "[I", Cond.methodLink RX3 242 yX0_lettersBut, Cond.instanceMethod yX0_lettersBut, Cond.selects RX0 yX0_lettersBut yX0_lettersBut, Cond.initialized RX0, Cond.code yX0_lettersBut cX0_lettersBut 4 (some .int), Cond.fieldLink RX0 17 "AirTalkers$Air" "size" "I", Cond.fieldLink RX0 11 "AirTalkers$Air" "stations" "[LAirTalkers$Station;", Cond.fieldLink RX0 56 "AirTalkers$Station" "letters" "I", Cond.methodLink RX3 264 yX3_countThere, Cond.static yX3_countThere, Cond.initialized RX3, Cond.code yX3_countThere cX3_countThere 6 (some .int), Cond.methodLink RX3 268 yX3_countKept, Cond.instanceMethod yX3_countKept]
noncomputable def wsX3_counted_r2 : List Cond := [Cond.selects RX3 yX3_countKept yX3_countKept, Cond.code yX3_countKept cX3_countKept 3 (some .int), Cond.fieldLink RX3 43 "AirTalkers" "keptDeeds" "[LAirTalkers$Deeds;", Cond.methodLink RX3 271 yX0_countOf, Cond.instanceMethod yX0_countOf, Cond.selects RX0 yX0_countOf yX0_countOf, Cond.code yX0_countOf cX0_countOf 4 (some .int), Cond.methodLink RX0 94 yX2_isOf, Cond.instanceMethod yX2_isOf, Cond.selects RX2 yX2_isOf yX2_isOf, Cond.initialized RX2, Cond.code yX2_isOf cX2_isOf 2 (some .boolean), Cond.fieldLink RX2 9 "AirTalkers$Station" "kind" "I"]
noncomputable def wsX3_counted : List Cond := .code yX3_counted cX3_counted 2 (some .int) :: ((wsX3_counted_r1 ++ wsX3_counted_r2) ++ wsX30 ++ wsX00 ++ wsX10 ++ wsX20)
noncomputable def wsX3_count_r1 : List Cond := [Cond.methodLink RX3 226 yX3_counted, Cond.instanceMethod yX3_counted, Cond.selects RX3 yX3_counted yX3_counted, Cond.initialized RX3, Cond.code yX3_counted cX3_counted 2 (some .int), Cond.fieldLink RX3 33 "AirTalkers" "now" "LAirTalkers$Air;", Cond.fieldLink RX3 112 "AirTalkers$Air" "size" "I", Cond.fieldLink RX3 133 "AirTalkers$Air" "slotNumber" "I", Cond.fieldLink RX3 39 "AirTalkers" "deeds" "LAirTalkers$Deeds;", Cond.fieldLink RX3 76 "AirTalkers$Deeds" "size" "I", Cond.fieldLink RX3 223 "AirTalkers$Air" "heard" "I", Cond.fieldLink RX3 180 "AirTalkers$Air" "lost" "I", Cond.fieldLink RX3 120 "AirTalkers$Air" "talked" "Z", Cond.fieldLink RX3 14 "AirTalkers" "rowSizes" "[I", Cond.fieldLink RX3 23 "AirTalkers" "textSizes" "[I", Cond.methodLink RX3 242 yX0_lettersBut, Cond.instanceMethod yX0_lettersBut, Cond.selects RX0 yX0_lettersBut yX0_lettersBut, Cond.initialized RX0, Cond.code yX0_lettersBut cX0_lettersBut 4 (some .int), Cond.fieldLink RX0 17 "AirTalkers$Air" "size" "I", Cond.fieldLink RX0 11 "AirTalkers$Air" "stations" "[LAirTalkers$Station;", Cond.fieldLink RX0 56 "AirTalkers$Station" "letters" "I", Cond.methodLink RX3 264 yX3_countThere]
noncomputable def wsX3_count_r2 : List Cond := [Cond.static yX3_countThere, Cond.code yX3_countThere cX3_countThere 6 (some .int), Cond.methodLink RX3 268 yX3_countKept, Cond.instanceMethod yX3_countKept, Cond.selects RX3 yX3_countKept yX3_countKept, Cond.code yX3_countKept cX3_countKept 3 (some .int), Cond.fieldLink RX3 43 "AirTalkers" "keptDeeds" "[LAirTalkers$Deeds;", Cond.methodLink RX3 271 yX0_countOf, Cond.instanceMethod yX0_countOf, Cond.selects RX0 yX0_countOf yX0_countOf, Cond.code yX0_countOf cX0_countOf 4 (some .int), Cond.methodLink RX0 94 yX2_isOf, Cond.instanceMethod yX2_isOf, Cond.selects RX2 yX2_isOf yX2_isOf, Cond.initialized RX2, Cond.code yX2_isOf cX2_isOf 2 (some .boolean), Cond.fieldLink RX2 9 "AirTalkers$Station" "kind" "I"]
noncomputable def wsX3_count : List Cond := .code yX3_count cX3_count 2 (some .int) :: ((wsX3_count_r1 ++ wsX3_count_r2) ++ wsX30 ++ wsX00 ++ wsX10 ++ wsX20)
noncomputable def wsX3_finding : List Cond := .code yX3_finding cX3_finding 1 (some .int) :: ([.fieldLink RX3 70 "AirTalkers" "latestFinding" "I"] ++ wsX30)
noncomputable def wsX3_findings : List Cond := .code yX3_findings cX3_findings 2 (some .int) :: ([.fieldLink RX3 73 "AirTalkers" "findingCounts" "[I"] ++ wsX30)
noncomputable def wsX3_digest_r1 : List Cond := [Cond.constantLong RX3 229 (17), Cond.constantLong RX3 231 (31), Cond.fieldLink RX3 33 "AirTalkers" "now" "LAirTalkers$Air;", Cond.fieldLink RX3 112 "AirTalkers$Air" "size" "I", Cond.fieldLink RX3 116 "AirTalkers$Air" "stations" "[LAirTalkers$Station;", Cond.fieldLink RX3 120 "AirTalkers$Air" "talked" "Z", Cond.fieldLink RX3 43 "AirTalkers" "keptDeeds" "[LAirTalkers$Deeds;", Cond.fieldLink RX3 76 "AirTalkers$Deeds" "size" "I", Cond.fieldLink RX3 14 "AirTalkers" "rowSizes" "[I", Cond.fieldLink RX3 11 "AirTalkers" "rows" "[[I", Cond.fieldLink RX3 23 "AirTalkers" "textSizes" "[I", Cond.fieldLink RX3 20 "AirTalkers" "texts" "[[B", Cond.methodLink RX3 226 yX3_counted, Cond.instanceMethod yX3_counted, Cond.selects RX3 yX3_counted yX3_counted, Cond.initialized RX3, Cond.code yX3_counted cX3_counted 2 (some .int), Cond.fieldLink RX3 133 "AirTalkers$Air" "slotNumber" "I", Cond.fieldLink RX3 39 "AirTalkers" "deeds" "LAirTalkers$Deeds;", Cond.fieldLink RX3 223 "AirTalkers$Air" "heard" "I", Cond.fieldLink RX3 180 "AirTalkers$Air" "lost" "I", Cond.methodLink RX3 242 yX0_lettersBut, Cond.instanceMethod yX0_lettersBut, Cond.selects RX0 yX0_lettersBut yX0_lettersBut]
noncomputable def wsX3_digest_r2 : List Cond := [Cond.initialized RX0, Cond.code yX0_lettersBut cX0_lettersBut 4 (some .int), Cond.fieldLink RX0 17 "AirTalkers$Air" "size" "I", Cond.fieldLink RX0 11 "AirTalkers$Air" "stations" "[LAirTalkers$Station;", Cond.fieldLink RX0 56 "AirTalkers$Station" "letters" "I", Cond.methodLink RX3 264 yX3_countThere, Cond.static yX3_countThere, Cond.code yX3_countThere cX3_countThere 6 (some .int), Cond.methodLink RX3 268 yX3_countKept, Cond.instanceMethod yX3_countKept, Cond.selects RX3 yX3_countKept yX3_countKept, Cond.code yX3_countKept cX3_countKept 3 (some .int), Cond.methodLink RX3 271 yX0_countOf, Cond.instanceMethod yX0_countOf, Cond.selects RX0 yX0_countOf yX0_countOf, Cond.code yX0_countOf cX0_countOf 4 (some .int), Cond.methodLink RX0 94 yX2_isOf, Cond.instanceMethod yX2_isOf, Cond.selects RX2 yX2_isOf yX2_isOf, Cond.initialized RX2, Cond.code yX2_isOf cX2_isOf 2 (some .boolean), Cond.fieldLink RX2 9 "AirTalkers$Station" "kind" "I", Cond.methodLink RX3 124 yX2_told, Cond.instanceMethod yX2_told]
noncomputable def wsX3_digest_r3 : List Cond := [Cond.selects RX2 yX2_told yX2_told, Cond.code yX2_told cX2_told 3 (some .int), Cond.fieldLink RX2 15 "AirTalkers$Station" "firstWait" "I", Cond.fieldLink RX2 18 "AirTalkers$Station" "step" "I", Cond.fieldLink RX2 21 "AirTalkers$Station" "letters" "I", Cond.fieldLink RX2 24 "AirTalkers$Station" "waiting" "I", Cond.fieldLink RX2 27 "AirTalkers$Station" "clashes" "I", Cond.methodLink RX2 60 yX2_wants, Cond.instanceMethod yX2_wants, Cond.selects RX2 yX2_wants yX2_wants, Cond.code yX2_wants cX2_wants 2 (some .boolean), Cond.methodLink RX2 34 yX2_isOf]
noncomputable def wsX3_digest : List Cond := .code yX3_digest cX3_digest 5 (some .long) :: ((wsX3_digest_r1 ++ (wsX3_digest_r2 ++ wsX3_digest_r3)) ++ wsX30 ++ wsX00 ++ wsX10 ++ wsX20)
noncomputable def wsX4_init : List Cond := .code yX4_init cX4_init 2 none :: ([.methodLink RX4 1 objectInit, .instanceMethod objectInit, .code objectInit ⟨#[0xb1]⟩ 1 none, .arrayClass .int, .fieldLink RX4 7 "AirTalkersModel" "sizes" "[I", .fieldLink RX4 13 "AirTalkersModel" "rows" "[I", .fieldLink RX4 16 "AirTalkersModel" "moved" "[I", .fieldLink RX4 19 "AirTalkersModel" "lengths" "[I", .arrayClass .byte, .fieldLink RX4 22 "AirTalkersModel" "texts" "[B", .fieldLink RX4 26 "AirTalkersModel" "s" "[I", .fieldLink RX4 29 "AirTalkersModel" "draft" "[I", .fieldLink RX4 32 "AirTalkersModel" "then" "[I", .fieldLink RX4 35 "AirTalkersModel" "other" "[I", .fieldLink RX4 38 "AirTalkersModel" "past" "[I", .fieldLink RX4 41 "AirTalkersModel" "airs" "[I", .fieldLink RX4 44 "AirTalkersModel" "pasts" "[I", .fieldLink RX4 47 "AirTalkersModel" "kept" "[I", .fieldLink RX4 50 "AirTalkersModel" "lower" "J", .fieldLink RX4 54 "AirTalkersModel" "found" "[I", .fieldLink RX4 57 "AirTalkersModel" "times" "[I", .fieldLink RX4 60 "AirTalkersModel" "parts" "[I", .fieldLink RX4 63 "AirTalkersModel" "films" "[I"] ++ wsX40)
noncomputable def wsX4_in : List Cond := .code yX4_in cX4_in 3 (some .boolean) :: ([])
noncomputable def wsX4_finds : List Cond := .code yX4_finds cX4_finds 2 (some .int) :: ([.fieldLink RX4 66 "AirTalkersModel" "finding" "I", .fieldLink RX4 54 "AirTalkersModel" "found" "[I"] ++ wsX40)
noncomputable def wsX4_tells : List Cond := .code yX4_tells cX4_tells 2 (some .int) :: ([.fieldLink RX4 70 "AirTalkersModel" "asked" "I"] ++ wsX40)
noncomputable def wsX4_isRow : List Cond := .code yX4_isRow cX4_isRow 1 (some .boolean) :: ([.methodLink RX4 73 yX4_in, .static yX4_in, .initialized RX4, .code yX4_in cX4_in 3 (some .boolean)])
noncomputable def wsX4_isText : List Cond := .code yX4_isText cX4_isText 1 (some .boolean) :: ([.methodLink RX4 73 yX4_in, .static yX4_in, .initialized RX4, .code yX4_in cX4_in 3 (some .boolean)])
noncomputable def wsX4_anew : List Cond := .code yX4_anew cX4_anew 4 none :: ([.fieldLink RX4 7 "AirTalkersModel" "sizes" "[I", .fieldLink RX4 13 "AirTalkersModel" "rows" "[I"] ++ wsX40)
noncomputable def wsX4_row : List Cond := .code yX4_row cX4_row 3 (some .int) :: ([.methodLink RX4 77 yX4_isRow, .static yX4_isRow, .initialized RX4, .code yX4_isRow cX4_isRow 1 (some .boolean), .methodLink RX4 73 yX4_in, .static yX4_in, .code yX4_in cX4_in 3 (some .boolean), .methodLink RX4 81 yX4_finds, .instanceMethod yX4_finds, .selects RX4 yX4_finds yX4_finds, .code yX4_finds cX4_finds 2 (some .int), .fieldLink RX4 66 "AirTalkersModel" "finding" "I", .fieldLink RX4 54 "AirTalkersModel" "found" "[I", .methodLink RX4 85 yX4_anew, .instanceMethod yX4_anew, .selects RX4 yX4_anew yX4_anew, .code yX4_anew cX4_anew 4 none, .fieldLink RX4 7 "AirTalkersModel" "sizes" "[I", .fieldLink RX4 13 "AirTalkersModel" "rows" "[I"] ++ wsX40)
noncomputable def wsX4_lay : List Cond := .code yX4_lay cX4_lay 5 (some .int) :: ([.fieldLink RX4 7 "AirTalkersModel" "sizes" "[I", .fieldLink RX4 13 "AirTalkersModel" "rows" "[I", .methodLink RX4 77 yX4_isRow, .static yX4_isRow, .initialized RX4, .code yX4_isRow cX4_isRow 1 (some .boolean), .methodLink RX4 73 yX4_in, .static yX4_in, .code yX4_in cX4_in 3 (some .boolean), .methodLink RX4 81 yX4_finds, .instanceMethod yX4_finds, .selects RX4 yX4_finds yX4_finds, .code yX4_finds cX4_finds 2 (some .int), .fieldLink RX4 66 "AirTalkersModel" "finding" "I", .fieldLink RX4 54 "AirTalkersModel" "found" "[I", .methodLink RX4 89 yX4_tells, .instanceMethod yX4_tells, .selects RX4 yX4_tells yX4_tells, .code yX4_tells cX4_tells 2 (some .int), .fieldLink RX4 70 "AirTalkersModel" "asked" "I"] ++ wsX40)
noncomputable def wsX4_at : List Cond := .code yX4_at cX4_at 3 (some .int) :: ([.fieldLink RX4 7 "AirTalkersModel" "sizes" "[I", .fieldLink RX4 13 "AirTalkersModel" "rows" "[I", .methodLink RX4 77 yX4_isRow, .static yX4_isRow, .initialized RX4, .code yX4_isRow cX4_isRow 1 (some .boolean), .methodLink RX4 73 yX4_in, .static yX4_in, .code yX4_in cX4_in 3 (some .boolean), .methodLink RX4 81 yX4_finds, .instanceMethod yX4_finds, .selects RX4 yX4_finds yX4_finds, .code yX4_finds cX4_finds 2 (some .int), .fieldLink RX4 66 "AirTalkersModel" "finding" "I", .fieldLink RX4 54 "AirTalkersModel" "found" "[I", .methodLink RX4 89 yX4_tells, .instanceMethod yX4_tells, .selects RX4 yX4_tells yX4_tells, .code yX4_tells cX4_tells 2 (some .int), .fieldLink RX4 70 "AirTalkersModel" "asked" "I"] ++ wsX40)
noncomputable def wsX4_tear : List Cond := .code yX4_tear cX4_tear 2 (some .int) :: ([.fieldLink RX4 7 "AirTalkersModel" "sizes" "[I", .methodLink RX4 77 yX4_isRow, .static yX4_isRow, .initialized RX4, .code yX4_isRow cX4_isRow 1 (some .boolean), .methodLink RX4 73 yX4_in, .static yX4_in, .code yX4_in cX4_in 3 (some .boolean), .methodLink RX4 81 yX4_finds, .instanceMethod yX4_finds, .selects RX4 yX4_finds yX4_finds, .code yX4_finds cX4_finds 2 (some .int), .fieldLink RX4 66 "AirTalkersModel" "finding" "I", .fieldLink RX4 54 "AirTalkersModel" "found" "[I"] ++ wsX40)
noncomputable def wsX4_lies : List Cond := .code yX4_lies cX4_lies 4 (some .boolean) :: ([.fieldLink RX4 7 "AirTalkersModel" "sizes" "[I"] ++ wsX40)
noncomputable def wsX4_copy : List Cond := .code yX4_copy cX4_copy 7 (some .int) :: ([.fieldLink RX4 7 "AirTalkersModel" "sizes" "[I", .fieldLink RX4 16 "AirTalkersModel" "moved" "[I", .fieldLink RX4 13 "AirTalkersModel" "rows" "[I", .methodLink RX4 77 yX4_isRow, .static yX4_isRow, .initialized RX4, .code yX4_isRow cX4_isRow 1 (some .boolean), .methodLink RX4 73 yX4_in, .static yX4_in, .code yX4_in cX4_in 3 (some .boolean), .methodLink RX4 81 yX4_finds, .instanceMethod yX4_finds, .selects RX4 yX4_finds yX4_finds, .code yX4_finds cX4_finds 2 (some .int), .fieldLink RX4 66 "AirTalkersModel" "finding" "I", .fieldLink RX4 54 "AirTalkersModel" "found" "[I", .methodLink RX4 92 yX4_lies, .instanceMethod yX4_lies, .selects RX4 yX4_lies yX4_lies, .code yX4_lies cX4_lies 4 (some .boolean)] ++ wsX40)
noncomputable def wsX4_mean : List Cond := .code yX4_mean cX4_mean 5 (some .int) :: ([.fieldLink RX4 7 "AirTalkersModel" "sizes" "[I", .fieldLink RX4 13 "AirTalkersModel" "rows" "[I", .methodLink RX4 77 yX4_isRow, .static yX4_isRow, .initialized RX4, .code yX4_isRow cX4_isRow 1 (some .boolean), .methodLink RX4 73 yX4_in, .static yX4_in, .code yX4_in cX4_in 3 (some .boolean), .methodLink RX4 81 yX4_finds, .instanceMethod yX4_finds, .selects RX4 yX4_finds yX4_finds, .code yX4_finds cX4_finds 2 (some .int), .fieldLink RX4 66 "AirTalkersModel" "finding" "I", .fieldLink RX4 54 "AirTalkersModel" "found" "[I", .methodLink RX4 89 yX4_tells, .instanceMethod yX4_tells, .selects RX4 yX4_tells yX4_tells, .code yX4_tells cX4_tells 2 (some .int), .fieldLink RX4 70 "AirTalkersModel" "asked" "I"] ++ wsX40)
noncomputable def wsX4_text : List Cond := .code yX4_text cX4_text 4 (some .int) :: ([.fieldLink RX4 19 "AirTalkersModel" "lengths" "[I", .fieldLink RX4 22 "AirTalkersModel" "texts" "[B", .methodLink RX4 95 yX4_isText, .static yX4_isText, .initialized RX4, .code yX4_isText cX4_isText 1 (some .boolean), .methodLink RX4 73 yX4_in, .static yX4_in, .code yX4_in cX4_in 3 (some .boolean), .methodLink RX4 81 yX4_finds, .instanceMethod yX4_finds, .selects RX4 yX4_finds yX4_finds, .code yX4_finds cX4_finds 2 (some .int), .fieldLink RX4 66 "AirTalkersModel" "finding" "I", .fieldLink RX4 54 "AirTalkersModel" "found" "[I"] ++ wsX40)
noncomputable def wsX4_put : List Cond := .code yX4_put cX4_put 5 (some .int) :: ([.fieldLink RX4 19 "AirTalkersModel" "lengths" "[I", .fieldLink RX4 22 "AirTalkersModel" "texts" "[B", .methodLink RX4 95 yX4_isText, .static yX4_isText, .initialized RX4, .code yX4_isText cX4_isText 1 (some .boolean), .methodLink RX4 73 yX4_in, .static yX4_in, .code yX4_in cX4_in 3 (some .boolean), .methodLink RX4 81 yX4_finds, .instanceMethod yX4_finds, .selects RX4 yX4_finds yX4_finds, .code yX4_finds cX4_finds 2 (some .int), .fieldLink RX4 66 "AirTalkersModel" "finding" "I", .fieldLink RX4 54 "AirTalkersModel" "found" "[I"] ++ wsX40)
noncomputable def wsX4_byteAt : List Cond := .code yX4_byteAt cX4_byteAt 3 (some .int) :: ([.fieldLink RX4 19 "AirTalkersModel" "lengths" "[I", .fieldLink RX4 22 "AirTalkersModel" "texts" "[B"] ++ wsX40)
noncomputable def wsX4_skips : List Cond := .code yX4_skips cX4_skips 4 (some .int) :: ([.methodLink RX4 98 yX4_byteAt, .instanceMethod yX4_byteAt, .selects RX4 yX4_byteAt yX4_byteAt, .initialized RX4, .code yX4_byteAt cX4_byteAt 3 (some .int), .fieldLink RX4 19 "AirTalkersModel" "lengths" "[I", .fieldLink RX4 22 "AirTalkersModel" "texts" "[B"] ++ wsX40)
noncomputable def wsX4_kindBy : List Cond := .code yX4_kindBy cX4_kindBy 1 (some .int) :: ([])
noncomputable def wsX4_reads : List Cond := .code yX4_reads cX4_reads 6 (some .int) :: ([.fieldLink RX4 29 "AirTalkersModel" "draft" "[I", .fieldLink RX4 19 "AirTalkersModel" "lengths" "[I", .methodLink RX4 102 yX4_skips, .instanceMethod yX4_skips, .selects RX4 yX4_skips yX4_skips, .initialized RX4, .code yX4_skips cX4_skips 4 (some .int), .methodLink RX4 98 yX4_byteAt, .instanceMethod yX4_byteAt, .selects RX4 yX4_byteAt yX4_byteAt, .code yX4_byteAt cX4_byteAt 3 (some .int), .fieldLink RX4 22 "AirTalkersModel" "texts" "[B", .methodLink RX4 105 yX4_kindBy, .static yX4_kindBy, .code yX4_kindBy cX4_kindBy 1 (some .int), .methodLink RX4 73 yX4_in, .static yX4_in, .code yX4_in cX4_in 3 (some .boolean)] ++ wsX40)
noncomputable def wsX4_fault_r1 : List Cond := [Cond.fieldLink RX4 19 "AirTalkersModel" "lengths" "[I", Cond.methodLink RX4 95 yX4_isText, Cond.static yX4_isText, Cond.initialized RX4, Cond.code yX4_isText cX4_isText 1 (some .boolean), Cond.methodLink RX4 73 yX4_in, Cond.static yX4_in, Cond.code yX4_in cX4_in 3 (some .boolean), Cond.methodLink RX4 81 yX4_finds, Cond.instanceMethod yX4_finds, Cond.selects RX4 yX4_finds yX4_finds, Cond.code yX4_finds cX4_finds 2 (some .int), Cond.fieldLink RX4 66 "AirTalkersModel" "finding" "I", Cond.fieldLink RX4 54 "AirTalkersModel" "found" "[I", Cond.methodLink RX4 108 yX4_reads, Cond.instanceMethod yX4_reads, Cond.selects RX4 yX4_reads yX4_reads, Cond.code yX4_reads cX4_reads 6 (some .int), Cond.fieldLink RX4 29 "AirTalkersModel" "draft" "[I", Cond.methodLink RX4 102 yX4_skips, Cond.instanceMethod yX4_skips, Cond.selects RX4 yX4_skips yX4_skips, Cond.code yX4_skips cX4_skips 4 (some .int), Cond.methodLink RX4 98 yX4_byteAt]
noncomputable def wsX4_fault_r2 : List Cond := [Cond.instanceMethod yX4_byteAt, Cond.selects RX4 yX4_byteAt yX4_byteAt, Cond.code yX4_byteAt cX4_byteAt 3 (some .int), Cond.fieldLink RX4 22 "AirTalkersModel" "texts" "[B", Cond.methodLink RX4 105 yX4_kindBy, Cond.static yX4_kindBy, Cond.code yX4_kindBy cX4_kindBy 1 (some .int)]
noncomputable def wsX4_fault : List Cond := .code yX4_fault cX4_fault 2 (some .int) :: ((wsX4_fault_r1 ++ wsX4_fault_r2) ++ wsX40)
noncomputable def wsX4_air_r1 : List Cond := [Cond.fieldLink RX4 19 "AirTalkersModel" "lengths" "[I", Cond.fieldLink RX4 26 "AirTalkersModel" "s" "[I", Cond.fieldLink RX4 29 "AirTalkersModel" "draft" "[I", Cond.fieldLink RX4 111 "AirTalkersModel" "deeds" "I", Cond.fieldLink RX4 47 "AirTalkersModel" "kept" "[I", Cond.methodLink RX4 95 yX4_isText, Cond.static yX4_isText, Cond.initialized RX4, Cond.code yX4_isText cX4_isText 1 (some .boolean), Cond.methodLink RX4 73 yX4_in, Cond.static yX4_in, Cond.code yX4_in cX4_in 3 (some .boolean), Cond.methodLink RX4 81 yX4_finds, Cond.instanceMethod yX4_finds, Cond.selects RX4 yX4_finds yX4_finds, Cond.code yX4_finds cX4_finds 2 (some .int), Cond.fieldLink RX4 66 "AirTalkersModel" "finding" "I", Cond.fieldLink RX4 54 "AirTalkersModel" "found" "[I", Cond.methodLink RX4 108 yX4_reads, Cond.instanceMethod yX4_reads, Cond.selects RX4 yX4_reads yX4_reads, Cond.code yX4_reads cX4_reads 6 (some .int), Cond.methodLink RX4 102 yX4_skips, Cond.instanceMethod yX4_skips]
noncomputable def wsX4_air_r2 : List Cond := [Cond.selects RX4 yX4_skips yX4_skips, Cond.code yX4_skips cX4_skips 4 (some .int), Cond.methodLink RX4 98 yX4_byteAt, Cond.instanceMethod yX4_byteAt, Cond.selects RX4 yX4_byteAt yX4_byteAt, Cond.code yX4_byteAt cX4_byteAt 3 (some .int), Cond.fieldLink RX4 22 "AirTalkersModel" "texts" "[B", Cond.methodLink RX4 105 yX4_kindBy, Cond.static yX4_kindBy, Cond.code yX4_kindBy cX4_kindBy 1 (some .int)]
noncomputable def wsX4_air : List Cond := .code yX4_air cX4_air 3 (some .int) :: ((wsX4_air_r1 ++ wsX4_air_r2) ++ wsX40)
noncomputable def wsX4_isStation : List Cond := .code yX4_isStation cX4_isStation 2 (some .boolean) :: ([.fieldLink RX4 26 "AirTalkersModel" "s" "[I", .methodLink RX4 73 yX4_in, .static yX4_in, .initialized RX4, .code yX4_in cX4_in 3 (some .boolean)] ++ wsX40)
noncomputable def wsX4_has : List Cond := .code yX4_has cX4_has 2 (some .boolean) :: ([])
noncomputable def wsX4_is : List Cond := .code yX4_is cX4_is 2 (some .boolean) :: ([])
noncomputable def wsX4_capped : List Cond := .code yX4_capped cX4_capped 1 (some .int) :: ([])
noncomputable def wsX4_doubled : List Cond := .code yX4_doubled cX4_doubled 3 (some .int) :: ([.methodLink RX4 114 yX4_capped, .static yX4_capped, .initialized RX4, .code yX4_capped cX4_capped 1 (some .int)])
noncomputable def wsX4_waitBy : List Cond := .code yX4_waitBy cX4_waitBy 6 (some .int) :: ([.methodLink RX4 117 yX4_doubled, .static yX4_doubled, .initialized RX4, .code yX4_doubled cX4_doubled 3 (some .int), .methodLink RX4 114 yX4_capped, .static yX4_capped, .code yX4_capped cX4_capped 1 (some .int)])
noncomputable def wsX4_wants : List Cond := .code yX4_wants cX4_wants 2 (some .boolean) :: ([.methodLink RX4 121 yX4_is, .static yX4_is, .initialized RX4, .code yX4_is cX4_is 2 (some .boolean), .methodLink RX4 125 yX4_has, .static yX4_has, .code yX4_has cX4_has 2 (some .boolean)])
noncomputable def wsX4_of : List Cond := .code yX4_of cX4_of 3 (some .int) :: ([.fieldLink RX4 26 "AirTalkersModel" "s" "[I", .methodLink RX4 128 yX4_wants, .static yX4_wants, .initialized RX4, .code yX4_wants cX4_wants 2 (some .boolean), .methodLink RX4 121 yX4_is, .static yX4_is, .code yX4_is cX4_is 2 (some .boolean), .methodLink RX4 125 yX4_has, .static yX4_has, .code yX4_has cX4_has 2 (some .boolean)] ++ wsX40)
noncomputable def wsX4_station_r1 : List Cond := [Cond.methodLink RX4 132 yX4_isStation, Cond.instanceMethod yX4_isStation, Cond.selects RX4 yX4_isStation yX4_isStation, Cond.initialized RX4, Cond.code yX4_isStation cX4_isStation 2 (some .boolean), Cond.fieldLink RX4 26 "AirTalkersModel" "s" "[I", Cond.methodLink RX4 73 yX4_in, Cond.static yX4_in, Cond.code yX4_in cX4_in 3 (some .boolean), Cond.methodLink RX4 135 yX4_of, Cond.instanceMethod yX4_of, Cond.selects RX4 yX4_of yX4_of, Cond.code yX4_of cX4_of 3 (some .int), Cond.methodLink RX4 128 yX4_wants, Cond.static yX4_wants, Cond.code yX4_wants cX4_wants 2 (some .boolean), Cond.methodLink RX4 121 yX4_is, Cond.static yX4_is, Cond.code yX4_is cX4_is 2 (some .boolean), Cond.methodLink RX4 125 yX4_has, Cond.static yX4_has, Cond.code yX4_has cX4_has 2 (some .boolean), Cond.methodLink RX4 89 yX4_tells, Cond.instanceMethod yX4_tells]
noncomputable def wsX4_station_r2 : List Cond := [Cond.selects RX4 yX4_tells yX4_tells, Cond.code yX4_tells cX4_tells 2 (some .int), Cond.fieldLink RX4 70 "AirTalkersModel" "asked" "I"]
noncomputable def wsX4_station : List Cond := .code yX4_station cX4_station 3 (some .int) :: ((wsX4_station_r1 ++ wsX4_station_r2) ++ wsX40)
noncomputable def wsX4_wouldWait : List Cond := .code yX4_wouldWait cX4_wouldWait 3 (some .int) :: ([.fieldLink RX4 26 "AirTalkersModel" "s" "[I", .methodLink RX4 138 yX4_waitBy, .static yX4_waitBy, .initialized RX4, .code yX4_waitBy cX4_waitBy 6 (some .int), .methodLink RX4 117 yX4_doubled, .static yX4_doubled, .code yX4_doubled cX4_doubled 3 (some .int), .methodLink RX4 114 yX4_capped, .static yX4_capped, .code yX4_capped cX4_capped 1 (some .int)] ++ wsX40)
noncomputable def wsX4_mark_r1 : List Cond := [Cond.fieldLink RX4 26 "AirTalkersModel" "s" "[I", Cond.methodLink RX4 132 yX4_isStation, Cond.instanceMethod yX4_isStation, Cond.selects RX4 yX4_isStation yX4_isStation, Cond.initialized RX4, Cond.code yX4_isStation cX4_isStation 2 (some .boolean), Cond.methodLink RX4 73 yX4_in, Cond.static yX4_in, Cond.code yX4_in cX4_in 3 (some .boolean), Cond.methodLink RX4 121 yX4_is, Cond.static yX4_is, Cond.code yX4_is cX4_is 2 (some .boolean), Cond.methodLink RX4 81 yX4_finds, Cond.instanceMethod yX4_finds, Cond.selects RX4 yX4_finds yX4_finds, Cond.code yX4_finds cX4_finds 2 (some .int), Cond.fieldLink RX4 66 "AirTalkersModel" "finding" "I", Cond.fieldLink RX4 54 "AirTalkersModel" "found" "[I", Cond.methodLink RX4 142 yX4_wouldWait, Cond.instanceMethod yX4_wouldWait, Cond.selects RX4 yX4_wouldWait yX4_wouldWait, Cond.code yX4_wouldWait cX4_wouldWait 3 (some .int), Cond.methodLink RX4 138 yX4_waitBy, Cond.static yX4_waitBy]
noncomputable def wsX4_mark_r2 : List Cond := [Cond.code yX4_waitBy cX4_waitBy 6 (some .int), Cond.methodLink RX4 117 yX4_doubled, Cond.static yX4_doubled, Cond.code yX4_doubled cX4_doubled 3 (some .int), Cond.methodLink RX4 114 yX4_capped, Cond.static yX4_capped, Cond.code yX4_capped cX4_capped 1 (some .int)]
noncomputable def wsX4_mark : List Cond := .code yX4_mark cX4_mark 4 (some .int) :: ((wsX4_mark_r1 ++ wsX4_mark_r2) ++ wsX40)
noncomputable def wsX4_does : List Cond := .code yX4_does cX4_does 2 none :: ([.fieldLink RX4 38 "AirTalkersModel" "past" "[I", .fieldLink RX4 111 "AirTalkersModel" "deeds" "I", .fieldLink RX4 26 "AirTalkersModel" "s" "[I"] ++ wsX40)
noncomputable def wsX4_talkers : List Cond := .code yX4_talkers cX4_talkers 3 (some .int) :: ([.methodLink RX4 128 yX4_wants, .static yX4_wants, .initialized RX4, .code yX4_wants cX4_wants 2 (some .boolean), .methodLink RX4 121 yX4_is, .static yX4_is, .code yX4_is cX4_is 2 (some .boolean), .methodLink RX4 125 yX4_has, .static yX4_has, .code yX4_has cX4_has 2 (some .boolean)])
noncomputable def wsX4_ones : List Cond := .code yX4_ones cX4_ones 3 (some .int) :: ([])
noncomputable def wsX4_clashes : List Cond := .code yX4_clashes cX4_clashes 4 none :: ([.methodLink RX4 138 yX4_waitBy, .static yX4_waitBy, .initialized RX4, .code yX4_waitBy cX4_waitBy 6 (some .int), .methodLink RX4 117 yX4_doubled, .static yX4_doubled, .code yX4_doubled cX4_doubled 3 (some .int), .methodLink RX4 114 yX4_capped, .static yX4_capped, .code yX4_capped cX4_capped 1 (some .int)])
noncomputable def wsX4_goes_r1 : List Cond := [Cond.methodLink RX4 145 yX4_talkers, Cond.static yX4_talkers, Cond.initialized RX4, Cond.code yX4_talkers cX4_talkers 3 (some .int), Cond.methodLink RX4 128 yX4_wants, Cond.static yX4_wants, Cond.code yX4_wants cX4_wants 2 (some .boolean), Cond.methodLink RX4 121 yX4_is, Cond.static yX4_is, Cond.code yX4_is cX4_is 2 (some .boolean), Cond.methodLink RX4 125 yX4_has, Cond.static yX4_has, Cond.code yX4_has cX4_has 2 (some .boolean), Cond.methodLink RX4 149 yX4_ones, Cond.static yX4_ones, Cond.code yX4_ones cX4_ones 3 (some .int), Cond.methodLink RX4 152 yX4_clashes, Cond.static yX4_clashes, Cond.code yX4_clashes cX4_clashes 4 none, Cond.methodLink RX4 138 yX4_waitBy, Cond.static yX4_waitBy, Cond.code yX4_waitBy cX4_waitBy 6 (some .int), Cond.methodLink RX4 117 yX4_doubled, Cond.static yX4_doubled]
noncomputable def wsX4_goes_r2 : List Cond := [Cond.code yX4_doubled cX4_doubled 3 (some .int), Cond.methodLink RX4 114 yX4_capped, Cond.static yX4_capped, Cond.code yX4_capped cX4_capped 1 (some .int)]
noncomputable def wsX4_goes : List Cond := .code yX4_goes cX4_goes 4 (some .int) :: ((wsX4_goes_r1 ++ wsX4_goes_r2))
noncomputable def wsX4_slot_r1 : List Cond := [Cond.fieldLink RX4 26 "AirTalkersModel" "s" "[I", Cond.fieldLink RX4 111 "AirTalkersModel" "deeds" "I", Cond.methodLink RX4 156 yX4_does, Cond.instanceMethod yX4_does, Cond.selects RX4 yX4_does yX4_does, Cond.initialized RX4, Cond.code yX4_does cX4_does 2 none, Cond.fieldLink RX4 38 "AirTalkersModel" "past" "[I", Cond.methodLink RX4 159 yX4_goes, Cond.static yX4_goes, Cond.code yX4_goes cX4_goes 4 (some .int), Cond.methodLink RX4 145 yX4_talkers, Cond.static yX4_talkers, Cond.code yX4_talkers cX4_talkers 3 (some .int), Cond.methodLink RX4 128 yX4_wants, Cond.static yX4_wants, Cond.code yX4_wants cX4_wants 2 (some .boolean), Cond.methodLink RX4 121 yX4_is, Cond.static yX4_is, Cond.code yX4_is cX4_is 2 (some .boolean), Cond.methodLink RX4 125 yX4_has, Cond.static yX4_has, Cond.code yX4_has cX4_has 2 (some .boolean), Cond.methodLink RX4 149 yX4_ones]
noncomputable def wsX4_slot_r2 : List Cond := [Cond.static yX4_ones, Cond.code yX4_ones cX4_ones 3 (some .int), Cond.methodLink RX4 152 yX4_clashes, Cond.static yX4_clashes, Cond.code yX4_clashes cX4_clashes 4 none, Cond.methodLink RX4 138 yX4_waitBy, Cond.static yX4_waitBy, Cond.code yX4_waitBy cX4_waitBy 6 (some .int), Cond.methodLink RX4 117 yX4_doubled, Cond.static yX4_doubled, Cond.code yX4_doubled cX4_doubled 3 (some .int), Cond.methodLink RX4 114 yX4_capped, Cond.static yX4_capped, Cond.code yX4_capped cX4_capped 1 (some .int)]
noncomputable def wsX4_slot : List Cond := .code yX4_slot cX4_slot 1 (some .int) :: ((wsX4_slot_r1 ++ wsX4_slot_r2) ++ wsX40)
noncomputable def wsX4_give : List Cond := .code yX4_give cX4_give 3 (some .int) :: ([.fieldLink RX4 26 "AirTalkersModel" "s" "[I", .fieldLink RX4 111 "AirTalkersModel" "deeds" "I", .methodLink RX4 132 yX4_isStation, .instanceMethod yX4_isStation, .selects RX4 yX4_isStation yX4_isStation, .initialized RX4, .code yX4_isStation cX4_isStation 2 (some .boolean), .methodLink RX4 73 yX4_in, .static yX4_in, .code yX4_in cX4_in 3 (some .boolean), .methodLink RX4 156 yX4_does, .instanceMethod yX4_does, .selects RX4 yX4_does yX4_does, .code yX4_does cX4_does 2 none, .fieldLink RX4 38 "AirTalkersModel" "past" "[I"] ++ wsX40)
noncomputable def wsX4_drops : List Cond := .code yX4_drops cX4_drops 2 none :: ([])
noncomputable def wsX4_drop : List Cond := .code yX4_drop cX4_drop 3 (some .int) :: ([.fieldLink RX4 26 "AirTalkersModel" "s" "[I", .fieldLink RX4 111 "AirTalkersModel" "deeds" "I", .methodLink RX4 132 yX4_isStation, .instanceMethod yX4_isStation, .selects RX4 yX4_isStation yX4_isStation, .initialized RX4, .code yX4_isStation cX4_isStation 2 (some .boolean), .methodLink RX4 73 yX4_in, .static yX4_in, .code yX4_in cX4_in 3 (some .boolean), .methodLink RX4 156 yX4_does, .instanceMethod yX4_does, .selects RX4 yX4_does yX4_does, .code yX4_does cX4_does 2 none, .fieldLink RX4 38 "AirTalkersModel" "past" "[I", .methodLink RX4 162 yX4_drops, .static yX4_drops, .code yX4_drops cX4_drops 2 none] ++ wsX40)
noncomputable def wsX4_first : List Cond := .code yX4_first cX4_first 4 (some .int) :: ([.fieldLink RX4 26 "AirTalkersModel" "s" "[I", .fieldLink RX4 111 "AirTalkersModel" "deeds" "I", .methodLink RX4 132 yX4_isStation, .instanceMethod yX4_isStation, .selects RX4 yX4_isStation yX4_isStation, .initialized RX4, .code yX4_isStation cX4_isStation 2 (some .boolean), .methodLink RX4 73 yX4_in, .static yX4_in, .code yX4_in cX4_in 3 (some .boolean), .methodLink RX4 156 yX4_does, .instanceMethod yX4_does, .selects RX4 yX4_does yX4_does, .code yX4_does cX4_does 2 none, .fieldLink RX4 38 "AirTalkersModel" "past" "[I"] ++ wsX40)
noncomputable def wsX4_undo : List Cond := .code yX4_undo cX4_undo 4 (some .int) :: ([.fieldLink RX4 111 "AirTalkersModel" "deeds" "I", .fieldLink RX4 26 "AirTalkersModel" "s" "[I", .fieldLink RX4 38 "AirTalkersModel" "past" "[I", .methodLink RX4 73 yX4_in, .static yX4_in, .initialized RX4, .code yX4_in cX4_in 3 (some .boolean)] ++ wsX40)
noncomputable def wsX4_keep : List Cond := .code yX4_keep cX4_keep 3 (some .int) :: ([.fieldLink RX4 26 "AirTalkersModel" "s" "[I", .fieldLink RX4 41 "AirTalkersModel" "airs" "[I", .fieldLink RX4 38 "AirTalkersModel" "past" "[I", .fieldLink RX4 44 "AirTalkersModel" "pasts" "[I", .fieldLink RX4 47 "AirTalkersModel" "kept" "[I", .fieldLink RX4 111 "AirTalkersModel" "deeds" "I", .methodLink RX4 73 yX4_in, .static yX4_in, .initialized RX4, .code yX4_in cX4_in 3 (some .boolean)] ++ wsX40)
noncomputable def wsX4_on : List Cond := .code yX4_on cX4_on 3 (some .int) :: ([.fieldLink RX4 47 "AirTalkersModel" "kept" "[I", .fieldLink RX4 26 "AirTalkersModel" "s" "[I", .fieldLink RX4 41 "AirTalkersModel" "airs" "[I", .fieldLink RX4 38 "AirTalkersModel" "past" "[I", .fieldLink RX4 44 "AirTalkersModel" "pasts" "[I", .fieldLink RX4 111 "AirTalkersModel" "deeds" "I", .methodLink RX4 73 yX4_in, .static yX4_in, .initialized RX4, .code yX4_in cX4_in 3 (some .boolean), .methodLink RX4 81 yX4_finds, .instanceMethod yX4_finds, .selects RX4 yX4_finds yX4_finds, .code yX4_finds cX4_finds 2 (some .int), .fieldLink RX4 66 "AirTalkersModel" "finding" "I", .fieldLink RX4 54 "AirTalkersModel" "found" "[I"] ++ wsX40)
noncomputable def wsX4_copies : List Cond := .code yX4_copies cX4_copies 3 none :: ([])
noncomputable def wsX4_talks : List Cond := .code yX4_talks cX4_talks 2 (some .int) :: ([.fieldLink RX4 26 "AirTalkersModel" "s" "[I", .fieldLink RX4 70 "AirTalkersModel" "asked" "I", .methodLink RX4 145 yX4_talkers, .static yX4_talkers, .initialized RX4, .code yX4_talkers cX4_talkers 3 (some .int), .methodLink RX4 128 yX4_wants, .static yX4_wants, .code yX4_wants cX4_wants 2 (some .boolean), .methodLink RX4 121 yX4_is, .static yX4_is, .code yX4_is cX4_is 2 (some .boolean), .methodLink RX4 125 yX4_has, .static yX4_has, .code yX4_has cX4_has 2 (some .boolean), .methodLink RX4 149 yX4_ones, .static yX4_ones, .code yX4_ones cX4_ones 3 (some .int)] ++ wsX40)
noncomputable def wsX4_later_r1 : List Cond := [Cond.fieldLink RX4 26 "AirTalkersModel" "s" "[I", Cond.fieldLink RX4 32 "AirTalkersModel" "then" "[I", Cond.fieldLink RX4 70 "AirTalkersModel" "asked" "I", Cond.methodLink RX4 132 yX4_isStation, Cond.instanceMethod yX4_isStation, Cond.selects RX4 yX4_isStation yX4_isStation, Cond.initialized RX4, Cond.code yX4_isStation cX4_isStation 2 (some .boolean), Cond.methodLink RX4 73 yX4_in, Cond.static yX4_in, Cond.code yX4_in cX4_in 3 (some .boolean), Cond.methodLink RX4 165 yX4_copies, Cond.static yX4_copies, Cond.code yX4_copies cX4_copies 3 none, Cond.methodLink RX4 159 yX4_goes, Cond.static yX4_goes, Cond.code yX4_goes cX4_goes 4 (some .int), Cond.methodLink RX4 145 yX4_talkers, Cond.static yX4_talkers, Cond.code yX4_talkers cX4_talkers 3 (some .int), Cond.methodLink RX4 128 yX4_wants, Cond.static yX4_wants, Cond.code yX4_wants cX4_wants 2 (some .boolean), Cond.methodLink RX4 121 yX4_is]
noncomputable def wsX4_later_r2 : List Cond := [Cond.static yX4_is, Cond.code yX4_is cX4_is 2 (some .boolean), Cond.methodLink RX4 125 yX4_has, Cond.static yX4_has, Cond.code yX4_has cX4_has 2 (some .boolean), Cond.methodLink RX4 149 yX4_ones, Cond.static yX4_ones, Cond.code yX4_ones cX4_ones 3 (some .int), Cond.methodLink RX4 152 yX4_clashes, Cond.static yX4_clashes, Cond.code yX4_clashes cX4_clashes 4 none, Cond.methodLink RX4 138 yX4_waitBy, Cond.static yX4_waitBy, Cond.code yX4_waitBy cX4_waitBy 6 (some .int), Cond.methodLink RX4 117 yX4_doubled, Cond.static yX4_doubled, Cond.code yX4_doubled cX4_doubled 3 (some .int), Cond.methodLink RX4 114 yX4_capped, Cond.static yX4_capped, Cond.code yX4_capped cX4_capped 1 (some .int)]
noncomputable def wsX4_later : List Cond := .code yX4_later cX4_later 4 (some .int) :: ((wsX4_later_r1 ++ wsX4_later_r2) ++ wsX40)
noncomputable def wsX4_lettersOf : List Cond := .code yX4_lettersOf cX4_lettersOf 3 (some .int) :: ([])
noncomputable def wsX4_done_r1 : List Cond := [Cond.methodLink RX4 169 yX4_lettersOf, Cond.static yX4_lettersOf, Cond.initialized RX4, Cond.code yX4_lettersOf cX4_lettersOf 3 (some .int), Cond.methodLink RX4 159 yX4_goes, Cond.static yX4_goes, Cond.code yX4_goes cX4_goes 4 (some .int), Cond.methodLink RX4 145 yX4_talkers, Cond.static yX4_talkers, Cond.code yX4_talkers cX4_talkers 3 (some .int), Cond.methodLink RX4 128 yX4_wants, Cond.static yX4_wants, Cond.code yX4_wants cX4_wants 2 (some .boolean), Cond.methodLink RX4 121 yX4_is, Cond.static yX4_is, Cond.code yX4_is cX4_is 2 (some .boolean), Cond.methodLink RX4 125 yX4_has, Cond.static yX4_has, Cond.code yX4_has cX4_has 2 (some .boolean), Cond.methodLink RX4 149 yX4_ones, Cond.static yX4_ones, Cond.code yX4_ones cX4_ones 3 (some .int), Cond.methodLink RX4 152 yX4_clashes, Cond.static yX4_clashes]
noncomputable def wsX4_done_r2 : List Cond := [Cond.code yX4_clashes cX4_clashes 4 none, Cond.methodLink RX4 138 yX4_waitBy, Cond.static yX4_waitBy, Cond.code yX4_waitBy cX4_waitBy 6 (some .int), Cond.methodLink RX4 117 yX4_doubled, Cond.static yX4_doubled, Cond.code yX4_doubled cX4_doubled 3 (some .int), Cond.methodLink RX4 114 yX4_capped, Cond.static yX4_capped, Cond.code yX4_capped cX4_capped 1 (some .int)]
noncomputable def wsX4_done : List Cond := .code yX4_done cX4_done 2 (some .int) :: ((wsX4_done_r1 ++ wsX4_done_r2))
noncomputable def wsX4_ends_r1 : List Cond := [Cond.fieldLink RX4 26 "AirTalkersModel" "s" "[I", Cond.fieldLink RX4 32 "AirTalkersModel" "then" "[I", Cond.fieldLink RX4 70 "AirTalkersModel" "asked" "I", Cond.methodLink RX4 165 yX4_copies, Cond.static yX4_copies, Cond.initialized RX4, Cond.code yX4_copies cX4_copies 3 none, Cond.methodLink RX4 172 yX4_done, Cond.static yX4_done, Cond.code yX4_done cX4_done 2 (some .int), Cond.methodLink RX4 169 yX4_lettersOf, Cond.static yX4_lettersOf, Cond.code yX4_lettersOf cX4_lettersOf 3 (some .int), Cond.methodLink RX4 159 yX4_goes, Cond.static yX4_goes, Cond.code yX4_goes cX4_goes 4 (some .int), Cond.methodLink RX4 145 yX4_talkers, Cond.static yX4_talkers, Cond.code yX4_talkers cX4_talkers 3 (some .int), Cond.methodLink RX4 128 yX4_wants, Cond.static yX4_wants, Cond.code yX4_wants cX4_wants 2 (some .boolean), Cond.methodLink RX4 121 yX4_is, Cond.static yX4_is]
noncomputable def wsX4_ends_r2 : List Cond := [Cond.code yX4_is cX4_is 2 (some .boolean), Cond.methodLink RX4 125 yX4_has, Cond.static yX4_has, Cond.code yX4_has cX4_has 2 (some .boolean), Cond.methodLink RX4 149 yX4_ones, Cond.static yX4_ones, Cond.code yX4_ones cX4_ones 3 (some .int), Cond.methodLink RX4 152 yX4_clashes, Cond.static yX4_clashes, Cond.code yX4_clashes cX4_clashes 4 none, Cond.methodLink RX4 138 yX4_waitBy, Cond.static yX4_waitBy, Cond.code yX4_waitBy cX4_waitBy 6 (some .int), Cond.methodLink RX4 117 yX4_doubled, Cond.static yX4_doubled, Cond.code yX4_doubled cX4_doubled 3 (some .int), Cond.methodLink RX4 114 yX4_capped, Cond.static yX4_capped, Cond.code yX4_capped cX4_capped 1 (some .int)]
noncomputable def wsX4_ends : List Cond := .code yX4_ends cX4_ends 2 (some .int) :: ((wsX4_ends_r1 ++ wsX4_ends_r2) ++ wsX40)
noncomputable def wsX4_clash_r1 : List Cond := [Cond.fieldLink RX4 26 "AirTalkersModel" "s" "[I", Cond.fieldLink RX4 32 "AirTalkersModel" "then" "[I", Cond.fieldLink RX4 70 "AirTalkersModel" "asked" "I", Cond.methodLink RX4 165 yX4_copies, Cond.static yX4_copies, Cond.initialized RX4, Cond.code yX4_copies cX4_copies 3 none, Cond.methodLink RX4 159 yX4_goes, Cond.static yX4_goes, Cond.code yX4_goes cX4_goes 4 (some .int), Cond.methodLink RX4 145 yX4_talkers, Cond.static yX4_talkers, Cond.code yX4_talkers cX4_talkers 3 (some .int), Cond.methodLink RX4 128 yX4_wants, Cond.static yX4_wants, Cond.code yX4_wants cX4_wants 2 (some .boolean), Cond.methodLink RX4 121 yX4_is, Cond.static yX4_is, Cond.code yX4_is cX4_is 2 (some .boolean), Cond.methodLink RX4 125 yX4_has, Cond.static yX4_has, Cond.code yX4_has cX4_has 2 (some .boolean), Cond.methodLink RX4 149 yX4_ones, Cond.static yX4_ones]
noncomputable def wsX4_clash_r2 : List Cond := [Cond.code yX4_ones cX4_ones 3 (some .int), Cond.methodLink RX4 152 yX4_clashes, Cond.static yX4_clashes, Cond.code yX4_clashes cX4_clashes 4 none, Cond.methodLink RX4 138 yX4_waitBy, Cond.static yX4_waitBy, Cond.code yX4_waitBy cX4_waitBy 6 (some .int), Cond.methodLink RX4 117 yX4_doubled, Cond.static yX4_doubled, Cond.code yX4_doubled cX4_doubled 3 (some .int), Cond.methodLink RX4 114 yX4_capped, Cond.static yX4_capped, Cond.code yX4_capped cX4_capped 1 (some .int)]
noncomputable def wsX4_clash : List Cond := .code yX4_clash cX4_clash 3 (some .int) :: ((wsX4_clash_r1 ++ wsX4_clash_r2) ++ wsX40)
noncomputable def wsX4_most_r1 : List Cond := [Cond.fieldLink RX4 26 "AirTalkersModel" "s" "[I", Cond.fieldLink RX4 57 "AirTalkersModel" "times" "[I", Cond.fieldLink RX4 32 "AirTalkersModel" "then" "[I", Cond.fieldLink RX4 70 "AirTalkersModel" "asked" "I", Cond.methodLink RX4 73 yX4_in, Cond.static yX4_in, Cond.initialized RX4, Cond.code yX4_in cX4_in 3 (some .boolean), Cond.methodLink RX4 165 yX4_copies, Cond.static yX4_copies, Cond.code yX4_copies cX4_copies 3 none, Cond.methodLink RX4 159 yX4_goes, Cond.static yX4_goes, Cond.code yX4_goes cX4_goes 4 (some .int), Cond.methodLink RX4 145 yX4_talkers, Cond.static yX4_talkers, Cond.code yX4_talkers cX4_talkers 3 (some .int), Cond.methodLink RX4 128 yX4_wants, Cond.static yX4_wants, Cond.code yX4_wants cX4_wants 2 (some .boolean), Cond.methodLink RX4 121 yX4_is, Cond.static yX4_is, Cond.code yX4_is cX4_is 2 (some .boolean), Cond.methodLink RX4 125 yX4_has]
noncomputable def wsX4_most_r2 : List Cond := [Cond.static yX4_has, Cond.code yX4_has cX4_has 2 (some .boolean), Cond.methodLink RX4 149 yX4_ones, Cond.static yX4_ones, Cond.code yX4_ones cX4_ones 3 (some .int), Cond.methodLink RX4 152 yX4_clashes, Cond.static yX4_clashes, Cond.code yX4_clashes cX4_clashes 4 none, Cond.methodLink RX4 138 yX4_waitBy, Cond.static yX4_waitBy, Cond.code yX4_waitBy cX4_waitBy 6 (some .int), Cond.methodLink RX4 117 yX4_doubled, Cond.static yX4_doubled, Cond.code yX4_doubled cX4_doubled 3 (some .int), Cond.methodLink RX4 114 yX4_capped, Cond.static yX4_capped, Cond.code yX4_capped cX4_capped 1 (some .int)]
noncomputable def wsX4_most : List Cond := .code yX4_most cX4_most 5 (some .int) :: ((wsX4_most_r1 ++ wsX4_most_r2) ++ wsX40)
noncomputable def wsX4_best_r1 : List Cond := [Cond.fieldLink RX4 26 "AirTalkersModel" "s" "[I", Cond.fieldLink RX4 32 "AirTalkersModel" "then" "[I", Cond.fieldLink RX4 70 "AirTalkersModel" "asked" "I", Cond.methodLink RX4 132 yX4_isStation, Cond.instanceMethod yX4_isStation, Cond.selects RX4 yX4_isStation yX4_isStation, Cond.initialized RX4, Cond.code yX4_isStation cX4_isStation 2 (some .boolean), Cond.methodLink RX4 73 yX4_in, Cond.static yX4_in, Cond.code yX4_in cX4_in 3 (some .boolean), Cond.methodLink RX4 165 yX4_copies, Cond.static yX4_copies, Cond.code yX4_copies cX4_copies 3 none, Cond.methodLink RX4 172 yX4_done, Cond.static yX4_done, Cond.code yX4_done cX4_done 2 (some .int), Cond.methodLink RX4 169 yX4_lettersOf, Cond.static yX4_lettersOf, Cond.code yX4_lettersOf cX4_lettersOf 3 (some .int), Cond.methodLink RX4 159 yX4_goes, Cond.static yX4_goes, Cond.code yX4_goes cX4_goes 4 (some .int), Cond.methodLink RX4 145 yX4_talkers]
noncomputable def wsX4_best_r2 : List Cond := [Cond.static yX4_talkers, Cond.code yX4_talkers cX4_talkers 3 (some .int), Cond.methodLink RX4 128 yX4_wants, Cond.static yX4_wants, Cond.code yX4_wants cX4_wants 2 (some .boolean), Cond.methodLink RX4 121 yX4_is, Cond.static yX4_is, Cond.code yX4_is cX4_is 2 (some .boolean), Cond.methodLink RX4 125 yX4_has, Cond.static yX4_has, Cond.code yX4_has cX4_has 2 (some .boolean), Cond.methodLink RX4 149 yX4_ones, Cond.static yX4_ones, Cond.code yX4_ones cX4_ones 3 (some .int), Cond.methodLink RX4 152 yX4_clashes, Cond.static yX4_clashes, Cond.code yX4_clashes cX4_clashes 4 none, Cond.methodLink RX4 138 yX4_waitBy, Cond.static yX4_waitBy, Cond.code yX4_waitBy cX4_waitBy 6 (some .int), Cond.methodLink RX4 117 yX4_doubled, Cond.static yX4_doubled, Cond.code yX4_doubled cX4_doubled 3 (some .int), Cond.methodLink RX4 114 yX4_capped]
noncomputable def wsX4_best_r3 : List Cond := [Cond.static yX4_capped, Cond.code yX4_capped cX4_capped 1 (some .int)]
noncomputable def wsX4_best : List Cond := .code yX4_best cX4_best 7 (some .int) :: ((wsX4_best_r1 ++ (wsX4_best_r2 ++ wsX4_best_r3)) ++ wsX40)
noncomputable def wsX4_silence_r1 : List Cond := [Cond.fieldLink RX4 26 "AirTalkersModel" "s" "[I", Cond.fieldLink RX4 32 "AirTalkersModel" "then" "[I", Cond.fieldLink RX4 70 "AirTalkersModel" "asked" "I", Cond.methodLink RX4 73 yX4_in, Cond.static yX4_in, Cond.initialized RX4, Cond.code yX4_in cX4_in 3 (some .boolean), Cond.methodLink RX4 165 yX4_copies, Cond.static yX4_copies, Cond.code yX4_copies cX4_copies 3 none, Cond.methodLink RX4 159 yX4_goes, Cond.static yX4_goes, Cond.code yX4_goes cX4_goes 4 (some .int), Cond.methodLink RX4 145 yX4_talkers, Cond.static yX4_talkers, Cond.code yX4_talkers cX4_talkers 3 (some .int), Cond.methodLink RX4 128 yX4_wants, Cond.static yX4_wants, Cond.code yX4_wants cX4_wants 2 (some .boolean), Cond.methodLink RX4 121 yX4_is, Cond.static yX4_is, Cond.code yX4_is cX4_is 2 (some .boolean), Cond.methodLink RX4 125 yX4_has, Cond.static yX4_has]
noncomputable def wsX4_silence_r2 : List Cond := [Cond.code yX4_has cX4_has 2 (some .boolean), Cond.methodLink RX4 149 yX4_ones, Cond.static yX4_ones, Cond.code yX4_ones cX4_ones 3 (some .int), Cond.methodLink RX4 152 yX4_clashes, Cond.static yX4_clashes, Cond.code yX4_clashes cX4_clashes 4 none, Cond.methodLink RX4 138 yX4_waitBy, Cond.static yX4_waitBy, Cond.code yX4_waitBy cX4_waitBy 6 (some .int), Cond.methodLink RX4 117 yX4_doubled, Cond.static yX4_doubled, Cond.code yX4_doubled cX4_doubled 3 (some .int), Cond.methodLink RX4 114 yX4_capped, Cond.static yX4_capped, Cond.code yX4_capped cX4_capped 1 (some .int)]
noncomputable def wsX4_silence : List Cond := .code yX4_silence cX4_silence 7 (some .int) :: ((wsX4_silence_r1 ++ wsX4_silence_r2) ++ wsX40)
noncomputable def wsX4_unfit : List Cond := .code yX4_unfit cX4_unfit 4 (some .int) :: ([.fieldLink RX4 7 "AirTalkersModel" "sizes" "[I", .fieldLink RX4 13 "AirTalkersModel" "rows" "[I", .methodLink RX4 73 yX4_in, .static yX4_in, .initialized RX4, .code yX4_in cX4_in 3 (some .boolean)] ++ wsX40)
noncomputable def wsX4_fitting_r1 : List Cond := [Cond.fieldLink RX4 26 "AirTalkersModel" "s" "[I", Cond.fieldLink RX4 32 "AirTalkersModel" "then" "[I", Cond.fieldLink RX4 7 "AirTalkersModel" "sizes" "[I", Cond.fieldLink RX4 13 "AirTalkersModel" "rows" "[I", Cond.methodLink RX4 165 yX4_copies, Cond.static yX4_copies, Cond.initialized RX4, Cond.code yX4_copies cX4_copies 3 none, Cond.methodLink RX4 159 yX4_goes, Cond.static yX4_goes, Cond.code yX4_goes cX4_goes 4 (some .int), Cond.methodLink RX4 145 yX4_talkers, Cond.static yX4_talkers, Cond.code yX4_talkers cX4_talkers 3 (some .int), Cond.methodLink RX4 128 yX4_wants, Cond.static yX4_wants, Cond.code yX4_wants cX4_wants 2 (some .boolean), Cond.methodLink RX4 121 yX4_is, Cond.static yX4_is, Cond.code yX4_is cX4_is 2 (some .boolean), Cond.methodLink RX4 125 yX4_has, Cond.static yX4_has, Cond.code yX4_has cX4_has 2 (some .boolean), Cond.methodLink RX4 149 yX4_ones]
noncomputable def wsX4_fitting_r2 : List Cond := [Cond.static yX4_ones, Cond.code yX4_ones cX4_ones 3 (some .int), Cond.methodLink RX4 152 yX4_clashes, Cond.static yX4_clashes, Cond.code yX4_clashes cX4_clashes 4 none, Cond.methodLink RX4 138 yX4_waitBy, Cond.static yX4_waitBy, Cond.code yX4_waitBy cX4_waitBy 6 (some .int), Cond.methodLink RX4 117 yX4_doubled, Cond.static yX4_doubled, Cond.code yX4_doubled cX4_doubled 3 (some .int), Cond.methodLink RX4 114 yX4_capped, Cond.static yX4_capped, Cond.code yX4_capped cX4_capped 1 (some .int)]
noncomputable def wsX4_fitting : List Cond := .code yX4_fitting cX4_fitting 9 (some .int) :: ((wsX4_fitting_r1 ++ wsX4_fitting_r2) ++ wsX40)
noncomputable def wsX4_kinds_r1 : List Cond := [Cond.methodLink RX4 132 yX4_isStation, Cond.instanceMethod yX4_isStation, Cond.selects RX4 yX4_isStation yX4_isStation, Cond.initialized RX4, Cond.code yX4_isStation cX4_isStation 2 (some .boolean), Cond.fieldLink RX4 26 "AirTalkersModel" "s" "[I", Cond.methodLink RX4 73 yX4_in, Cond.static yX4_in, Cond.code yX4_in cX4_in 3 (some .boolean), Cond.methodLink RX4 77 yX4_isRow, Cond.static yX4_isRow, Cond.code yX4_isRow cX4_isRow 1 (some .boolean), Cond.methodLink RX4 175 yX4_unfit, Cond.instanceMethod yX4_unfit, Cond.selects RX4 yX4_unfit yX4_unfit, Cond.code yX4_unfit cX4_unfit 4 (some .int), Cond.fieldLink RX4 7 "AirTalkersModel" "sizes" "[I", Cond.fieldLink RX4 13 "AirTalkersModel" "rows" "[I", Cond.methodLink RX4 81 yX4_finds, Cond.instanceMethod yX4_finds, Cond.selects RX4 yX4_finds yX4_finds, Cond.code yX4_finds cX4_finds 2 (some .int), Cond.fieldLink RX4 66 "AirTalkersModel" "finding" "I", Cond.fieldLink RX4 54 "AirTalkersModel" "found" "[I"]
noncomputable def wsX4_kinds_r2 : List Cond := [Cond.methodLink RX4 178 yX4_fitting, Cond.instanceMethod yX4_fitting, Cond.selects RX4 yX4_fitting yX4_fitting, Cond.code yX4_fitting cX4_fitting 9 (some .int), Cond.fieldLink RX4 32 "AirTalkersModel" "then" "[I", Cond.methodLink RX4 165 yX4_copies, Cond.static yX4_copies, Cond.code yX4_copies cX4_copies 3 none, Cond.methodLink RX4 159 yX4_goes, Cond.static yX4_goes, Cond.code yX4_goes cX4_goes 4 (some .int), Cond.methodLink RX4 145 yX4_talkers, Cond.static yX4_talkers, Cond.code yX4_talkers cX4_talkers 3 (some .int), Cond.methodLink RX4 128 yX4_wants, Cond.static yX4_wants, Cond.code yX4_wants cX4_wants 2 (some .boolean), Cond.methodLink RX4 121 yX4_is, Cond.static yX4_is, Cond.code yX4_is cX4_is 2 (some .boolean), Cond.methodLink RX4 125 yX4_has, Cond.static yX4_has, Cond.code yX4_has cX4_has 2 (some .boolean), Cond.methodLink RX4 149 yX4_ones]
noncomputable def wsX4_kinds_r3 : List Cond := [Cond.static yX4_ones, Cond.code yX4_ones cX4_ones 3 (some .int), Cond.methodLink RX4 152 yX4_clashes, Cond.static yX4_clashes, Cond.code yX4_clashes cX4_clashes 4 none, Cond.methodLink RX4 138 yX4_waitBy, Cond.static yX4_waitBy, Cond.code yX4_waitBy cX4_waitBy 6 (some .int), Cond.methodLink RX4 117 yX4_doubled, Cond.static yX4_doubled, Cond.code yX4_doubled cX4_doubled 3 (some .int), Cond.methodLink RX4 114 yX4_capped, Cond.static yX4_capped, Cond.code yX4_capped cX4_capped 1 (some .int)]
noncomputable def wsX4_kinds : List Cond := .code yX4_kinds cX4_kinds 4 (some .int) :: ((wsX4_kinds_r1 ++ (wsX4_kinds_r2 ++ wsX4_kinds_r3)) ++ wsX40)
noncomputable def wsX4_firsts_r1 : List Cond := [Cond.methodLink RX4 132 yX4_isStation, Cond.instanceMethod yX4_isStation, Cond.selects RX4 yX4_isStation yX4_isStation, Cond.initialized RX4, Cond.code yX4_isStation cX4_isStation 2 (some .boolean), Cond.fieldLink RX4 26 "AirTalkersModel" "s" "[I", Cond.methodLink RX4 73 yX4_in, Cond.static yX4_in, Cond.code yX4_in cX4_in 3 (some .boolean), Cond.methodLink RX4 77 yX4_isRow, Cond.static yX4_isRow, Cond.code yX4_isRow cX4_isRow 1 (some .boolean), Cond.methodLink RX4 175 yX4_unfit, Cond.instanceMethod yX4_unfit, Cond.selects RX4 yX4_unfit yX4_unfit, Cond.code yX4_unfit cX4_unfit 4 (some .int), Cond.fieldLink RX4 7 "AirTalkersModel" "sizes" "[I", Cond.fieldLink RX4 13 "AirTalkersModel" "rows" "[I", Cond.methodLink RX4 81 yX4_finds, Cond.instanceMethod yX4_finds, Cond.selects RX4 yX4_finds yX4_finds, Cond.code yX4_finds cX4_finds 2 (some .int), Cond.fieldLink RX4 66 "AirTalkersModel" "finding" "I", Cond.fieldLink RX4 54 "AirTalkersModel" "found" "[I"]
noncomputable def wsX4_firsts_r2 : List Cond := [Cond.methodLink RX4 178 yX4_fitting, Cond.instanceMethod yX4_fitting, Cond.selects RX4 yX4_fitting yX4_fitting, Cond.code yX4_fitting cX4_fitting 9 (some .int), Cond.fieldLink RX4 32 "AirTalkersModel" "then" "[I", Cond.methodLink RX4 165 yX4_copies, Cond.static yX4_copies, Cond.code yX4_copies cX4_copies 3 none, Cond.methodLink RX4 159 yX4_goes, Cond.static yX4_goes, Cond.code yX4_goes cX4_goes 4 (some .int), Cond.methodLink RX4 145 yX4_talkers, Cond.static yX4_talkers, Cond.code yX4_talkers cX4_talkers 3 (some .int), Cond.methodLink RX4 128 yX4_wants, Cond.static yX4_wants, Cond.code yX4_wants cX4_wants 2 (some .boolean), Cond.methodLink RX4 121 yX4_is, Cond.static yX4_is, Cond.code yX4_is cX4_is 2 (some .boolean), Cond.methodLink RX4 125 yX4_has, Cond.static yX4_has, Cond.code yX4_has cX4_has 2 (some .boolean), Cond.methodLink RX4 149 yX4_ones]
noncomputable def wsX4_firsts_r3 : List Cond := [Cond.static yX4_ones, Cond.code yX4_ones cX4_ones 3 (some .int), Cond.methodLink RX4 152 yX4_clashes, Cond.static yX4_clashes, Cond.code yX4_clashes cX4_clashes 4 none, Cond.methodLink RX4 138 yX4_waitBy, Cond.static yX4_waitBy, Cond.code yX4_waitBy cX4_waitBy 6 (some .int), Cond.methodLink RX4 117 yX4_doubled, Cond.static yX4_doubled, Cond.code yX4_doubled cX4_doubled 3 (some .int), Cond.methodLink RX4 114 yX4_capped, Cond.static yX4_capped, Cond.code yX4_capped cX4_capped 1 (some .int)]
noncomputable def wsX4_firsts : List Cond := .code yX4_firsts cX4_firsts 4 (some .int) :: ((wsX4_firsts_r1 ++ (wsX4_firsts_r2 ++ wsX4_firsts_r3)) ++ wsX40)
noncomputable def wsX4_test_r1 : List Cond := [Cond.fieldLink RX4 26 "AirTalkersModel" "s" "[I", Cond.fieldLink RX4 32 "AirTalkersModel" "then" "[I", Cond.fieldLink RX4 63 "AirTalkersModel" "films" "[I", Cond.fieldLink RX4 60 "AirTalkersModel" "parts" "[I", Cond.fieldLink RX4 70 "AirTalkersModel" "asked" "I", Cond.methodLink RX4 132 yX4_isStation, Cond.instanceMethod yX4_isStation, Cond.selects RX4 yX4_isStation yX4_isStation, Cond.initialized RX4, Cond.code yX4_isStation cX4_isStation 2 (some .boolean), Cond.methodLink RX4 73 yX4_in, Cond.static yX4_in, Cond.code yX4_in cX4_in 3 (some .boolean), Cond.methodLink RX4 77 yX4_isRow, Cond.static yX4_isRow, Cond.code yX4_isRow cX4_isRow 1 (some .boolean), Cond.methodLink RX4 175 yX4_unfit, Cond.instanceMethod yX4_unfit, Cond.selects RX4 yX4_unfit yX4_unfit, Cond.code yX4_unfit cX4_unfit 4 (some .int), Cond.fieldLink RX4 7 "AirTalkersModel" "sizes" "[I", Cond.fieldLink RX4 13 "AirTalkersModel" "rows" "[I", Cond.methodLink RX4 81 yX4_finds, Cond.instanceMethod yX4_finds]
noncomputable def wsX4_test_r2 : List Cond := [Cond.selects RX4 yX4_finds yX4_finds, Cond.code yX4_finds cX4_finds 2 (some .int), Cond.fieldLink RX4 66 "AirTalkersModel" "finding" "I", Cond.fieldLink RX4 54 "AirTalkersModel" "found" "[I", Cond.methodLink RX4 178 yX4_fitting, Cond.instanceMethod yX4_fitting, Cond.selects RX4 yX4_fitting yX4_fitting, Cond.code yX4_fitting cX4_fitting 9 (some .int), Cond.methodLink RX4 165 yX4_copies, Cond.static yX4_copies, Cond.code yX4_copies cX4_copies 3 none, Cond.methodLink RX4 159 yX4_goes, Cond.static yX4_goes, Cond.code yX4_goes cX4_goes 4 (some .int), Cond.methodLink RX4 145 yX4_talkers, Cond.static yX4_talkers, Cond.code yX4_talkers cX4_talkers 3 (some .int), Cond.methodLink RX4 128 yX4_wants, Cond.static yX4_wants, Cond.code yX4_wants cX4_wants 2 (some .boolean), Cond.methodLink RX4 121 yX4_is, Cond.static yX4_is, Cond.code yX4_is cX4_is 2 (some .boolean), Cond.methodLink RX4 125 yX4_has]
noncomputable def wsX4_test_r3 : List Cond := [Cond.static yX4_has, Cond.code yX4_has cX4_has 2 (some .boolean), Cond.methodLink RX4 149 yX4_ones, Cond.static yX4_ones, Cond.code yX4_ones cX4_ones 3 (some .int), Cond.methodLink RX4 152 yX4_clashes, Cond.static yX4_clashes, Cond.code yX4_clashes cX4_clashes 4 none, Cond.methodLink RX4 138 yX4_waitBy, Cond.static yX4_waitBy, Cond.code yX4_waitBy cX4_waitBy 6 (some .int), Cond.methodLink RX4 117 yX4_doubled, Cond.static yX4_doubled, Cond.code yX4_doubled cX4_doubled 3 (some .int), Cond.methodLink RX4 114 yX4_capped, Cond.static yX4_capped, Cond.code yX4_capped cX4_capped 1 (some .int)]
noncomputable def wsX4_test : List Cond := .code yX4_test cX4_test 11 (some .int) :: ((wsX4_test_r1 ++ (wsX4_test_r2 ++ wsX4_test_r3)) ++ wsX40)
noncomputable def wsX4_late_r1 : List Cond := [Cond.fieldLink RX4 35 "AirTalkersModel" "other" "[I", Cond.fieldLink RX4 32 "AirTalkersModel" "then" "[I", Cond.methodLink RX4 165 yX4_copies, Cond.static yX4_copies, Cond.initialized RX4, Cond.code yX4_copies cX4_copies 3 none, Cond.methodLink RX4 172 yX4_done, Cond.static yX4_done, Cond.code yX4_done cX4_done 2 (some .int), Cond.methodLink RX4 169 yX4_lettersOf, Cond.static yX4_lettersOf, Cond.code yX4_lettersOf cX4_lettersOf 3 (some .int), Cond.methodLink RX4 159 yX4_goes, Cond.static yX4_goes, Cond.code yX4_goes cX4_goes 4 (some .int), Cond.methodLink RX4 145 yX4_talkers, Cond.static yX4_talkers, Cond.code yX4_talkers cX4_talkers 3 (some .int), Cond.methodLink RX4 128 yX4_wants, Cond.static yX4_wants, Cond.code yX4_wants cX4_wants 2 (some .boolean), Cond.methodLink RX4 121 yX4_is, Cond.static yX4_is, Cond.code yX4_is cX4_is 2 (some .boolean)]
noncomputable def wsX4_late_r2 : List Cond := [Cond.methodLink RX4 125 yX4_has, Cond.static yX4_has, Cond.code yX4_has cX4_has 2 (some .boolean), Cond.methodLink RX4 149 yX4_ones, Cond.static yX4_ones, Cond.code yX4_ones cX4_ones 3 (some .int), Cond.methodLink RX4 152 yX4_clashes, Cond.static yX4_clashes, Cond.code yX4_clashes cX4_clashes 4 none, Cond.methodLink RX4 138 yX4_waitBy, Cond.static yX4_waitBy, Cond.code yX4_waitBy cX4_waitBy 6 (some .int), Cond.methodLink RX4 117 yX4_doubled, Cond.static yX4_doubled, Cond.code yX4_doubled cX4_doubled 3 (some .int), Cond.methodLink RX4 114 yX4_capped, Cond.static yX4_capped, Cond.code yX4_capped cX4_capped 1 (some .int)]
noncomputable def wsX4_late : List Cond := .code yX4_late cX4_late 2 (some .int) :: ((wsX4_late_r1 ++ wsX4_late_r2) ++ wsX40)
noncomputable def wsX4_lastTurn_r1 : List Cond := [Cond.fieldLink RX4 26 "AirTalkersModel" "s" "[I", Cond.fieldLink RX4 35 "AirTalkersModel" "other" "[I", Cond.methodLink RX4 182 yX4_late, Cond.instanceMethod yX4_late, Cond.selects RX4 yX4_late yX4_late, Cond.initialized RX4, Cond.code yX4_late cX4_late 2 (some .int), Cond.fieldLink RX4 32 "AirTalkersModel" "then" "[I", Cond.methodLink RX4 165 yX4_copies, Cond.static yX4_copies, Cond.code yX4_copies cX4_copies 3 none, Cond.methodLink RX4 172 yX4_done, Cond.static yX4_done, Cond.code yX4_done cX4_done 2 (some .int), Cond.methodLink RX4 169 yX4_lettersOf, Cond.static yX4_lettersOf, Cond.code yX4_lettersOf cX4_lettersOf 3 (some .int), Cond.methodLink RX4 159 yX4_goes, Cond.static yX4_goes, Cond.code yX4_goes cX4_goes 4 (some .int), Cond.methodLink RX4 145 yX4_talkers, Cond.static yX4_talkers, Cond.code yX4_talkers cX4_talkers 3 (some .int), Cond.methodLink RX4 128 yX4_wants]
noncomputable def wsX4_lastTurn_r2 : List Cond := [Cond.static yX4_wants, Cond.code yX4_wants cX4_wants 2 (some .boolean), Cond.methodLink RX4 121 yX4_is, Cond.static yX4_is, Cond.code yX4_is cX4_is 2 (some .boolean), Cond.methodLink RX4 125 yX4_has, Cond.static yX4_has, Cond.code yX4_has cX4_has 2 (some .boolean), Cond.methodLink RX4 149 yX4_ones, Cond.static yX4_ones, Cond.code yX4_ones cX4_ones 3 (some .int), Cond.methodLink RX4 152 yX4_clashes, Cond.static yX4_clashes, Cond.code yX4_clashes cX4_clashes 4 none, Cond.methodLink RX4 138 yX4_waitBy, Cond.static yX4_waitBy, Cond.code yX4_waitBy cX4_waitBy 6 (some .int), Cond.methodLink RX4 117 yX4_doubled, Cond.static yX4_doubled, Cond.code yX4_doubled cX4_doubled 3 (some .int), Cond.methodLink RX4 114 yX4_capped, Cond.static yX4_capped, Cond.code yX4_capped cX4_capped 1 (some .int)]
noncomputable def wsX4_lastTurn : List Cond := .code yX4_lastTurn cX4_lastTurn 5 (some .int) :: ((wsX4_lastTurn_r1 ++ wsX4_lastTurn_r2) ++ wsX40)
noncomputable def wsX4_twoTurns_r1 : List Cond := [Cond.fieldLink RX4 26 "AirTalkersModel" "s" "[I", Cond.fieldLink RX4 35 "AirTalkersModel" "other" "[I", Cond.methodLink RX4 186 yX4_lastTurn, Cond.instanceMethod yX4_lastTurn, Cond.selects RX4 yX4_lastTurn yX4_lastTurn, Cond.initialized RX4, Cond.code yX4_lastTurn cX4_lastTurn 5 (some .int), Cond.methodLink RX4 182 yX4_late, Cond.instanceMethod yX4_late, Cond.selects RX4 yX4_late yX4_late, Cond.code yX4_late cX4_late 2 (some .int), Cond.fieldLink RX4 32 "AirTalkersModel" "then" "[I", Cond.methodLink RX4 165 yX4_copies, Cond.static yX4_copies, Cond.code yX4_copies cX4_copies 3 none, Cond.methodLink RX4 172 yX4_done, Cond.static yX4_done, Cond.code yX4_done cX4_done 2 (some .int), Cond.methodLink RX4 169 yX4_lettersOf, Cond.static yX4_lettersOf, Cond.code yX4_lettersOf cX4_lettersOf 3 (some .int), Cond.methodLink RX4 159 yX4_goes, Cond.static yX4_goes, Cond.code yX4_goes cX4_goes 4 (some .int)]
noncomputable def wsX4_twoTurns_r2 : List Cond := [Cond.methodLink RX4 145 yX4_talkers, Cond.static yX4_talkers, Cond.code yX4_talkers cX4_talkers 3 (some .int), Cond.methodLink RX4 128 yX4_wants, Cond.static yX4_wants, Cond.code yX4_wants cX4_wants 2 (some .boolean), Cond.methodLink RX4 121 yX4_is, Cond.static yX4_is, Cond.code yX4_is cX4_is 2 (some .boolean), Cond.methodLink RX4 125 yX4_has, Cond.static yX4_has, Cond.code yX4_has cX4_has 2 (some .boolean), Cond.methodLink RX4 149 yX4_ones, Cond.static yX4_ones, Cond.code yX4_ones cX4_ones 3 (some .int), Cond.methodLink RX4 152 yX4_clashes, Cond.static yX4_clashes, Cond.code yX4_clashes cX4_clashes 4 none, Cond.methodLink RX4 138 yX4_waitBy, Cond.static yX4_waitBy, Cond.code yX4_waitBy cX4_waitBy 6 (some .int), Cond.methodLink RX4 117 yX4_doubled, Cond.static yX4_doubled, Cond.code yX4_doubled cX4_doubled 3 (some .int)]
noncomputable def wsX4_twoTurns_r3 : List Cond := [Cond.methodLink RX4 114 yX4_capped, Cond.static yX4_capped, Cond.code yX4_capped cX4_capped 1 (some .int)]
noncomputable def wsX4_twoTurns : List Cond := .code yX4_twoTurns cX4_twoTurns 5 (some .int) :: ((wsX4_twoTurns_r1 ++ (wsX4_twoTurns_r2 ++ wsX4_twoTurns_r3)) ++ wsX40)
noncomputable def wsX4_duel_r1 : List Cond := [Cond.fieldLink RX4 26 "AirTalkersModel" "s" "[I", Cond.fieldLink RX4 35 "AirTalkersModel" "other" "[I", Cond.methodLink RX4 73 yX4_in, Cond.static yX4_in, Cond.initialized RX4, Cond.code yX4_in cX4_in 3 (some .boolean), Cond.methodLink RX4 165 yX4_copies, Cond.static yX4_copies, Cond.code yX4_copies cX4_copies 3 none, Cond.methodLink RX4 182 yX4_late, Cond.instanceMethod yX4_late, Cond.selects RX4 yX4_late yX4_late, Cond.code yX4_late cX4_late 2 (some .int), Cond.fieldLink RX4 32 "AirTalkersModel" "then" "[I", Cond.methodLink RX4 172 yX4_done, Cond.static yX4_done, Cond.code yX4_done cX4_done 2 (some .int), Cond.methodLink RX4 169 yX4_lettersOf, Cond.static yX4_lettersOf, Cond.code yX4_lettersOf cX4_lettersOf 3 (some .int), Cond.methodLink RX4 159 yX4_goes, Cond.static yX4_goes, Cond.code yX4_goes cX4_goes 4 (some .int), Cond.methodLink RX4 145 yX4_talkers]
noncomputable def wsX4_duel_r2 : List Cond := [Cond.static yX4_talkers, Cond.code yX4_talkers cX4_talkers 3 (some .int), Cond.methodLink RX4 128 yX4_wants, Cond.static yX4_wants, Cond.code yX4_wants cX4_wants 2 (some .boolean), Cond.methodLink RX4 121 yX4_is, Cond.static yX4_is, Cond.code yX4_is cX4_is 2 (some .boolean), Cond.methodLink RX4 125 yX4_has, Cond.static yX4_has, Cond.code yX4_has cX4_has 2 (some .boolean), Cond.methodLink RX4 149 yX4_ones, Cond.static yX4_ones, Cond.code yX4_ones cX4_ones 3 (some .int), Cond.methodLink RX4 152 yX4_clashes, Cond.static yX4_clashes, Cond.code yX4_clashes cX4_clashes 4 none, Cond.methodLink RX4 138 yX4_waitBy, Cond.static yX4_waitBy, Cond.code yX4_waitBy cX4_waitBy 6 (some .int), Cond.methodLink RX4 117 yX4_doubled, Cond.static yX4_doubled, Cond.code yX4_doubled cX4_doubled 3 (some .int), Cond.methodLink RX4 114 yX4_capped]
noncomputable def wsX4_duel_r3 : List Cond := [Cond.static yX4_capped, Cond.code yX4_capped cX4_capped 1 (some .int), Cond.methodLink RX4 186 yX4_lastTurn, Cond.instanceMethod yX4_lastTurn, Cond.selects RX4 yX4_lastTurn yX4_lastTurn, Cond.code yX4_lastTurn cX4_lastTurn 5 (some .int), Cond.methodLink RX4 190 yX4_twoTurns, Cond.instanceMethod yX4_twoTurns, Cond.selects RX4 yX4_twoTurns yX4_twoTurns, Cond.code yX4_twoTurns cX4_twoTurns 5 (some .int)]
noncomputable def wsX4_duel : List Cond := .code yX4_duel cX4_duel 5 (some .int) :: ((wsX4_duel_r1 ++ (wsX4_duel_r2 ++ wsX4_duel_r3)) ++ wsX40)
noncomputable def wsX4_lowest : List Cond := .code yX4_lowest cX4_lowest 11 none :: ([.fieldLink RX4 193 "AirTalkersModel" "upper" "J", .fieldLink RX4 50 "AirTalkersModel" "lower" "J"] ++ wsX40)
noncomputable def wsX4_chances_r1 : List Cond := [Cond.fieldLink RX4 26 "AirTalkersModel" "s" "[I", Cond.constantLong RX4 196 (12), Cond.fieldLink RX4 32 "AirTalkersModel" "then" "[I", Cond.methodLink RX4 165 yX4_copies, Cond.static yX4_copies, Cond.initialized RX4, Cond.code yX4_copies cX4_copies 3 none, Cond.methodLink RX4 125 yX4_has, Cond.static yX4_has, Cond.code yX4_has cX4_has 2 (some .boolean), Cond.methodLink RX4 159 yX4_goes, Cond.static yX4_goes, Cond.code yX4_goes cX4_goes 4 (some .int), Cond.methodLink RX4 145 yX4_talkers, Cond.static yX4_talkers, Cond.code yX4_talkers cX4_talkers 3 (some .int), Cond.methodLink RX4 128 yX4_wants, Cond.static yX4_wants, Cond.code yX4_wants cX4_wants 2 (some .boolean), Cond.methodLink RX4 121 yX4_is, Cond.static yX4_is, Cond.code yX4_is cX4_is 2 (some .boolean), Cond.methodLink RX4 149 yX4_ones, Cond.static yX4_ones]
noncomputable def wsX4_chances_r2 : List Cond := [Cond.code yX4_ones cX4_ones 3 (some .int), Cond.methodLink RX4 152 yX4_clashes, Cond.static yX4_clashes, Cond.code yX4_clashes cX4_clashes 4 none, Cond.methodLink RX4 138 yX4_waitBy, Cond.static yX4_waitBy, Cond.code yX4_waitBy cX4_waitBy 6 (some .int), Cond.methodLink RX4 117 yX4_doubled, Cond.static yX4_doubled, Cond.code yX4_doubled cX4_doubled 3 (some .int), Cond.methodLink RX4 114 yX4_capped, Cond.static yX4_capped, Cond.code yX4_capped cX4_capped 1 (some .int), Cond.methodLink RX4 169 yX4_lettersOf, Cond.static yX4_lettersOf, Cond.code yX4_lettersOf cX4_lettersOf 3 (some .int), Cond.methodLink RX4 198 yX4_lowest, Cond.instanceMethod yX4_lowest, Cond.selects RX4 yX4_lowest yX4_lowest, Cond.code yX4_lowest cX4_lowest 11 none, Cond.fieldLink RX4 193 "AirTalkersModel" "upper" "J", Cond.fieldLink RX4 50 "AirTalkersModel" "lower" "J"]
noncomputable def wsX4_chances : List Cond := .code yX4_chances cX4_chances 12 none :: ((wsX4_chances_r1 ++ wsX4_chances_r2) ++ wsX40)
noncomputable def wsX4_odds_r1 : List Cond := [Cond.fieldLink RX4 26 "AirTalkersModel" "s" "[I", Cond.methodLink RX4 73 yX4_in, Cond.static yX4_in, Cond.initialized RX4, Cond.code yX4_in cX4_in 3 (some .boolean), Cond.methodLink RX4 202 yX4_chances, Cond.instanceMethod yX4_chances, Cond.selects RX4 yX4_chances yX4_chances, Cond.code yX4_chances cX4_chances 12 none, Cond.constantLong RX4 196 (12), Cond.fieldLink RX4 32 "AirTalkersModel" "then" "[I", Cond.methodLink RX4 165 yX4_copies, Cond.static yX4_copies, Cond.code yX4_copies cX4_copies 3 none, Cond.methodLink RX4 125 yX4_has, Cond.static yX4_has, Cond.code yX4_has cX4_has 2 (some .boolean), Cond.methodLink RX4 159 yX4_goes, Cond.static yX4_goes, Cond.code yX4_goes cX4_goes 4 (some .int), Cond.methodLink RX4 145 yX4_talkers, Cond.static yX4_talkers, Cond.code yX4_talkers cX4_talkers 3 (some .int), Cond.methodLink RX4 128 yX4_wants]
noncomputable def wsX4_odds_r2 : List Cond := [Cond.static yX4_wants, Cond.code yX4_wants cX4_wants 2 (some .boolean), Cond.methodLink RX4 121 yX4_is, Cond.static yX4_is, Cond.code yX4_is cX4_is 2 (some .boolean), Cond.methodLink RX4 149 yX4_ones, Cond.static yX4_ones, Cond.code yX4_ones cX4_ones 3 (some .int), Cond.methodLink RX4 152 yX4_clashes, Cond.static yX4_clashes, Cond.code yX4_clashes cX4_clashes 4 none, Cond.methodLink RX4 138 yX4_waitBy, Cond.static yX4_waitBy, Cond.code yX4_waitBy cX4_waitBy 6 (some .int), Cond.methodLink RX4 117 yX4_doubled, Cond.static yX4_doubled, Cond.code yX4_doubled cX4_doubled 3 (some .int), Cond.methodLink RX4 114 yX4_capped, Cond.static yX4_capped, Cond.code yX4_capped cX4_capped 1 (some .int), Cond.methodLink RX4 169 yX4_lettersOf, Cond.static yX4_lettersOf, Cond.code yX4_lettersOf cX4_lettersOf 3 (some .int), Cond.methodLink RX4 198 yX4_lowest]
noncomputable def wsX4_odds_r3 : List Cond := [Cond.instanceMethod yX4_lowest, Cond.selects RX4 yX4_lowest yX4_lowest, Cond.code yX4_lowest cX4_lowest 11 none, Cond.fieldLink RX4 193 "AirTalkersModel" "upper" "J", Cond.fieldLink RX4 50 "AirTalkersModel" "lower" "J"]
noncomputable def wsX4_odds : List Cond := .code yX4_odds cX4_odds 3 (some .int) :: ((wsX4_odds_r1 ++ (wsX4_odds_r2 ++ wsX4_odds_r3)) ++ wsX40)
noncomputable def wsX4_mid_r1 : List Cond := [Cond.fieldLink RX4 26 "AirTalkersModel" "s" "[I", Cond.methodLink RX4 73 yX4_in, Cond.static yX4_in, Cond.initialized RX4, Cond.code yX4_in cX4_in 3 (some .boolean), Cond.methodLink RX4 202 yX4_chances, Cond.instanceMethod yX4_chances, Cond.selects RX4 yX4_chances yX4_chances, Cond.code yX4_chances cX4_chances 12 none, Cond.constantLong RX4 196 (12), Cond.fieldLink RX4 32 "AirTalkersModel" "then" "[I", Cond.methodLink RX4 165 yX4_copies, Cond.static yX4_copies, Cond.code yX4_copies cX4_copies 3 none, Cond.methodLink RX4 125 yX4_has, Cond.static yX4_has, Cond.code yX4_has cX4_has 2 (some .boolean), Cond.methodLink RX4 159 yX4_goes, Cond.static yX4_goes, Cond.code yX4_goes cX4_goes 4 (some .int), Cond.methodLink RX4 145 yX4_talkers, Cond.static yX4_talkers, Cond.code yX4_talkers cX4_talkers 3 (some .int), Cond.methodLink RX4 128 yX4_wants]
noncomputable def wsX4_mid_r2 : List Cond := [Cond.static yX4_wants, Cond.code yX4_wants cX4_wants 2 (some .boolean), Cond.methodLink RX4 121 yX4_is, Cond.static yX4_is, Cond.code yX4_is cX4_is 2 (some .boolean), Cond.methodLink RX4 149 yX4_ones, Cond.static yX4_ones, Cond.code yX4_ones cX4_ones 3 (some .int), Cond.methodLink RX4 152 yX4_clashes, Cond.static yX4_clashes, Cond.code yX4_clashes cX4_clashes 4 none, Cond.methodLink RX4 138 yX4_waitBy, Cond.static yX4_waitBy, Cond.code yX4_waitBy cX4_waitBy 6 (some .int), Cond.methodLink RX4 117 yX4_doubled, Cond.static yX4_doubled, Cond.code yX4_doubled cX4_doubled 3 (some .int), Cond.methodLink RX4 114 yX4_capped, Cond.static yX4_capped, Cond.code yX4_capped cX4_capped 1 (some .int), Cond.methodLink RX4 169 yX4_lettersOf, Cond.static yX4_lettersOf, Cond.code yX4_lettersOf cX4_lettersOf 3 (some .int), Cond.methodLink RX4 198 yX4_lowest]
noncomputable def wsX4_mid_r3 : List Cond := [Cond.instanceMethod yX4_lowest, Cond.selects RX4 yX4_lowest yX4_lowest, Cond.code yX4_lowest cX4_lowest 11 none, Cond.fieldLink RX4 193 "AirTalkersModel" "upper" "J", Cond.fieldLink RX4 50 "AirTalkersModel" "lower" "J"]
noncomputable def wsX4_mid : List Cond := .code yX4_mid cX4_mid 3 (some .int) :: ((wsX4_mid_r1 ++ (wsX4_mid_r2 ++ wsX4_mid_r3)) ++ wsX40)
noncomputable def wsX4_lots_r1 : List Cond := [Cond.constant RX4 206 (2147483646), Cond.fieldLink RX4 26 "AirTalkersModel" "s" "[I", Cond.fieldLink RX4 111 "AirTalkersModel" "deeds" "I", Cond.constantLong RX4 207 (48271), Cond.constantLong RX4 209 (2147483647), Cond.constantLong RX4 211 (8), Cond.methodLink RX4 73 yX4_in, Cond.static yX4_in, Cond.initialized RX4, Cond.code yX4_in cX4_in 3 (some .boolean), Cond.methodLink RX4 156 yX4_does, Cond.instanceMethod yX4_does, Cond.selects RX4 yX4_does yX4_does, Cond.code yX4_does cX4_does 2 none, Cond.fieldLink RX4 38 "AirTalkersModel" "past" "[I", Cond.methodLink RX4 162 yX4_drops, Cond.static yX4_drops, Cond.code yX4_drops cX4_drops 2 none, Cond.methodLink RX4 159 yX4_goes, Cond.static yX4_goes, Cond.code yX4_goes cX4_goes 4 (some .int), Cond.methodLink RX4 145 yX4_talkers, Cond.static yX4_talkers, Cond.code yX4_talkers cX4_talkers 3 (some .int)]
noncomputable def wsX4_lots_r2 : List Cond := [Cond.methodLink RX4 128 yX4_wants, Cond.static yX4_wants, Cond.code yX4_wants cX4_wants 2 (some .boolean), Cond.methodLink RX4 121 yX4_is, Cond.static yX4_is, Cond.code yX4_is cX4_is 2 (some .boolean), Cond.methodLink RX4 125 yX4_has, Cond.static yX4_has, Cond.code yX4_has cX4_has 2 (some .boolean), Cond.methodLink RX4 149 yX4_ones, Cond.static yX4_ones, Cond.code yX4_ones cX4_ones 3 (some .int), Cond.methodLink RX4 152 yX4_clashes, Cond.static yX4_clashes, Cond.code yX4_clashes cX4_clashes 4 none, Cond.methodLink RX4 138 yX4_waitBy, Cond.static yX4_waitBy, Cond.code yX4_waitBy cX4_waitBy 6 (some .int), Cond.methodLink RX4 117 yX4_doubled, Cond.static yX4_doubled, Cond.code yX4_doubled cX4_doubled 3 (some .int), Cond.methodLink RX4 114 yX4_capped, Cond.static yX4_capped, Cond.code yX4_capped cX4_capped 1 (some .int)]
noncomputable def wsX4_lots : List Cond := .code yX4_lots cX4_lots 8 (some .int) :: ((wsX4_lots_r1 ++ wsX4_lots_r2) ++ wsX40)
noncomputable def wsX4_asked : List Cond := .code yX4_asked cX4_asked 1 (some .int) :: ([.fieldLink RX4 70 "AirTalkersModel" "asked" "I"] ++ wsX40)
noncomputable def wsX4_upper : List Cond := .code yX4_upper cX4_upper 1 (some .long) :: ([.fieldLink RX4 193 "AirTalkersModel" "upper" "J"] ++ wsX40)
noncomputable def wsX4_lower : List Cond := .code yX4_lower cX4_lower 1 (some .long) :: ([.fieldLink RX4 50 "AirTalkersModel" "lower" "J"] ++ wsX40)
noncomputable def wsX4_ofKind : List Cond := .code yX4_ofKind cX4_ofKind 4 (some .int) :: ([.fieldLink RX4 26 "AirTalkersModel" "s" "[I", .methodLink RX4 121 yX4_is, .static yX4_is, .initialized RX4, .code yX4_is cX4_is 2 (some .boolean)] ++ wsX40)
noncomputable def wsX4_count : List Cond := .code yX4_count cX4_count 4 (some .int) :: ([.fieldLink RX4 26 "AirTalkersModel" "s" "[I", .fieldLink RX4 111 "AirTalkersModel" "deeds" "I", .fieldLink RX4 7 "AirTalkersModel" "sizes" "[I", .fieldLink RX4 19 "AirTalkersModel" "lengths" "[I", .fieldLink RX4 47 "AirTalkersModel" "kept" "[I", .methodLink RX4 169 yX4_lettersOf, .static yX4_lettersOf, .initialized RX4, .code yX4_lettersOf cX4_lettersOf 3 (some .int), .methodLink RX4 213 yX4_ofKind, .instanceMethod yX4_ofKind, .selects RX4 yX4_ofKind yX4_ofKind, .code yX4_ofKind cX4_ofKind 4 (some .int), .methodLink RX4 121 yX4_is, .static yX4_is, .code yX4_is cX4_is 2 (some .boolean)] ++ wsX40)
noncomputable def wsX4_finding : List Cond := .code yX4_finding cX4_finding 1 (some .int) :: ([.fieldLink RX4 66 "AirTalkersModel" "finding" "I"] ++ wsX40)
noncomputable def wsX4_findings : List Cond := .code yX4_findings cX4_findings 2 (some .int) :: ([.fieldLink RX4 54 "AirTalkersModel" "found" "[I", .methodLink RX4 73 yX4_in, .static yX4_in, .initialized RX4, .code yX4_in cX4_in 3 (some .boolean)] ++ wsX40)
noncomputable def wsX4_digest_r1 : List Cond := [Cond.constantLong RX4 216 (17), Cond.constantLong RX4 218 (31), Cond.fieldLink RX4 26 "AirTalkersModel" "s" "[I", Cond.fieldLink RX4 47 "AirTalkersModel" "kept" "[I", Cond.fieldLink RX4 7 "AirTalkersModel" "sizes" "[I", Cond.fieldLink RX4 13 "AirTalkersModel" "rows" "[I", Cond.fieldLink RX4 19 "AirTalkersModel" "lengths" "[I", Cond.fieldLink RX4 22 "AirTalkersModel" "texts" "[B", Cond.methodLink RX4 220 yX4_count, Cond.instanceMethod yX4_count, Cond.selects RX4 yX4_count yX4_count, Cond.initialized RX4, Cond.code yX4_count cX4_count 4 (some .int), Cond.fieldLink RX4 111 "AirTalkersModel" "deeds" "I", Cond.methodLink RX4 169 yX4_lettersOf, Cond.static yX4_lettersOf, Cond.code yX4_lettersOf cX4_lettersOf 3 (some .int), Cond.methodLink RX4 213 yX4_ofKind, Cond.instanceMethod yX4_ofKind, Cond.selects RX4 yX4_ofKind yX4_ofKind, Cond.code yX4_ofKind cX4_ofKind 4 (some .int), Cond.methodLink RX4 121 yX4_is, Cond.static yX4_is, Cond.code yX4_is cX4_is 2 (some .boolean)]
noncomputable def wsX4_digest_r2 : List Cond := [Cond.methodLink RX4 135 yX4_of, Cond.instanceMethod yX4_of, Cond.selects RX4 yX4_of yX4_of, Cond.code yX4_of cX4_of 3 (some .int), Cond.methodLink RX4 128 yX4_wants, Cond.static yX4_wants, Cond.code yX4_wants cX4_wants 2 (some .boolean), Cond.methodLink RX4 125 yX4_has, Cond.static yX4_has, Cond.code yX4_has cX4_has 2 (some .boolean)]
noncomputable def wsX4_digest : List Cond := .code yX4_digest cX4_digest 5 (some .long) :: ((wsX4_digest_r1 ++ wsX4_digest_r2) ++ wsX40)
noncomputable def wsJ9_max_7cf53 : List Cond := .code yJ9_max_7cf53 cJ9_max_7cf53 2 (some .int) :: ([])
noncomputable def wsJ9_min_7cf53 : List Cond := .code yJ9_min_7cf53 cJ9_min_7cf53 2 (some .int) :: ([])
abbrev vwCl : List vw_C := [(RX0, TX0, 6), (RX1, TX1, 2), (RX2, TX2, 6), (RX3, TX3, 17), (RX4, TX4, 22)]
/-! ===== END printed: names ===== -/
end
section
/-! THE UNIFORM WORLD: memory (what each cell's number slots hold), geometry (which cells there are, which references they hold), and a row an instruction over them. -/
abbrev mm_M : Type := (Nat → Nat → Int32) × (Nat → Nat → Int64)
def mm_up (σ : mm_M) (a j : Nat) (v : Int32) : mm_M := (fun b k => if b = a ∧ k = j then v else σ.1 b k, σ.2)
def mm_upL (σ : mm_M) (a j : Nat) (v : Int64) : mm_M := (σ.1, fun b k => if b = a ∧ k = j then v else σ.2 b k)
def mm_cpy (σ : mm_M) (a0 a sp dp n : Nat) : mm_M := (fun b k => if b = a then va_cpy (σ.1 a0) (σ.1 a) sp dp n k else σ.1 b k, σ.2)
abbrev mm_G : Type := List Nat × (Nat → Nat) × (Nat → Nat → Nat) × (Nat → Nat) × (Nat → ClassId) × va_G × (Nat → Nat)
abbrev mm_L (G : mm_G) : List Nat := G.1
abbrev mm_K (G : mm_G) : Nat → Nat := G.2.1
abbrev mm_R (G : mm_G) : Nat → Nat → Nat := G.2.2.1
abbrev mm_N (G : mm_G) : Nat → Nat := G.2.2.2.1
abbrev mm_C (G : mm_G) : Nat → ClassId := G.2.2.2.2.1
abbrev mm_D (G : mm_G) : va_G := G.2.2.2.2.2.1
abbrev mm_T (G : mm_G) : Nat → Nat := G.2.2.2.2.2.2
def mm_fs (G : mm_G) (σ : mm_M) (ci a : Nat) : List Value := match ci with
  | 0 => [.ref (mm_R G a 0), .int (σ.1 a 1), .int (σ.1 a 2), .int (σ.1 a 3), .int (σ.1 a 4), .int (σ.1 a 5)]
  | 1 => [.ref (mm_R G a 0), .int (σ.1 a 1)]
  | 2 => [.int (σ.1 a 0), .int (σ.1 a 1), .int (σ.1 a 2), .int (σ.1 a 3), .int (σ.1 a 4), .int (σ.1 a 5)]
  | 3 => [.ref (mm_R G a 0), .ref (mm_R G a 1), .ref (mm_R G a 2), .ref (mm_R G a 3), .ref (mm_R G a 4), .ref (mm_R G a 5), .ref (mm_R G a 6), .ref (mm_R G a 7), .ref (mm_R G a 8), .ref (mm_R G a 9), .ref (mm_R G a 10), .ref (mm_R G a 11), .int (σ.1 a 12), .long (σ.2 a 13), .long (σ.2 a 14), .int (σ.1 a 15), .ref (mm_R G a 16)]
  | _ => [.ref (mm_R G a 0), .ref (mm_R G a 1), .ref (mm_R G a 2), .ref (mm_R G a 3), .ref (mm_R G a 4), .ref (mm_R G a 5), .ref (mm_R G a 6), .ref (mm_R G a 7), .ref (mm_R G a 8), .ref (mm_R G a 9), .int (σ.1 a 10), .ref (mm_R G a 11), .ref (mm_R G a 12), .ref (mm_R G a 13), .int (σ.1 a 14), .long (σ.2 a 15), .long (σ.2 a 16), .int (σ.1 a 17), .ref (mm_R G a 18), .ref (mm_R G a 19), .ref (mm_R G a 20), .ref (mm_R G a 21)]
def mm_cf (G : mm_G) (σ : mm_M) (a : Nat) : va_E :=
  if mm_K G a < 5 then .inr (mm_K G a, mm_fs G σ (mm_K G a) a)
  else if mm_K G a < 7 then .inl (mm_C G (mm_K G a), mm_N G a, .inl (σ.1 a))
  else .inl (mm_C G (mm_K G a), mm_N G a, .inr (.inr (.inr (.inr (fun i => some (mm_R G a i))))))
def mm_ws (G : mm_G) (σ : mm_M) : va_W := va_pl (mm_L G) (mm_cf G σ)
def mm_tys (G : mm_G) : List (ClassId × FieldType) := [(mm_C G 5, .byte), (mm_C G 6, .int), (mm_C G 7, .object RX1), (mm_C G 8, .object RX2), (mm_C G 9, .array .byte), (mm_C G 10, .array .int)]
/-- a cell of the world, of a kind -/
def mm_Is (G : mm_G) (k a : Nat) : Prop := a ∈ mm_L G ∧ mm_K G a = k
/-- which cells a method may change -/
def mm_A (G : mm_G) (sz : Nat) : Nat → Prop := fun q => q ∈ mm_L G ∨ sz ≤ q
theorem mm_fs_congr {G : mm_G} {σ σ' : mm_M} {a : Nat} (h1 : σ'.1 a = σ.1 a) (h2 : σ'.2 a = σ.2 a) (ci : Nat) : mm_fs G σ' ci a = mm_fs G σ ci a := by
  unfold mm_fs
  rw [h1, h2]
theorem mm_cf_congr {G : mm_G} {σ σ' : mm_M} {a : Nat} (h1 : σ'.1 a = σ.1 a) (h2 : σ'.2 a = σ.2 a) : mm_cf G σ' a = mm_cf G σ a := by
  unfold mm_cf
  rw [h1, mm_fs_congr h1 h2]
theorem mm_cf_o {G : mm_G} {σ : mm_M} {ci a : Nat} (h : mm_K G a = ci) (hc : ci < 5) : mm_cf G σ a = .inr (ci, mm_fs G σ ci a) := by
  unfold mm_cf
  rw [h, if_pos hc]
theorem mm_cf_n {G : mm_G} {σ : mm_M} {ci a : Nat} (h : mm_K G a = ci) (h1 : ¬ ci < 5) (h2 : ci < 7) : mm_cf G σ a = .inl (mm_C G ci, mm_N G a, .inl (σ.1 a)) := by
  unfold mm_cf
  rw [h, if_neg h1, if_pos h2]
theorem mm_cf_q {G : mm_G} {σ : mm_M} {ci a : Nat} (h : mm_K G a = ci) (h1 : ¬ ci < 5) (h2 : ¬ ci < 7) : mm_cf G σ a = .inl (mm_C G ci, mm_N G a, .inr (.inr (.inr (.inr (fun i => some (mm_R G a i)))))) := by
  unfold mm_cf
  rw [h, if_neg h1, if_neg h2]
theorem mm_ws_get {G : mm_G} {σ : mm_M} {a : Nat} (h : a ∈ mm_L G) : ∃ k : Nat, (mm_ws G σ)[k]? = some (a, mm_cf G σ a) := va_pl_get (X := []) h
theorem mm_ws_set {G : mm_G} {σ σ' : mm_M} {A : Nat → Prop} {a k : Nat} {e : va_E} (hD : va_D A (mm_ws G σ)) (h : a ∈ mm_L G) (hk : (mm_ws G σ)[k]? = some (a, mm_cf G σ a)) (he : mm_cf G σ' a = e) (hne : ∀ b, b ≠ a → σ'.1 b = σ.1 b ∧ σ'.2 b = σ.2 b) : (mm_ws G σ).set k (a, e) = mm_ws G σ' := by
  have h1 : (mm_ws G σ).set k (a, e) = va_pl (mm_L G) (va_up (mm_cf G σ) a e) := va_pl_set (X := []) hD h hk
  rw [h1]
  unfold mm_ws
  refine va_pl_congr (fun b => ?_)
  by_cases hb : b = a
  · subst hb
    rw [va_up_self, he]
  · rw [va_up_ne _ _ hb]
    exact (mm_cf_congr (hne b hb).1 (hne b hb).2).symm
theorem mm_ws_D {G : mm_G} {σ σ' : mm_M} {A : Nat → Prop} (hD : va_D A (mm_ws G σ)) : va_D A (mm_ws G σ') := by
  have key : ∀ (k : Nat) (q : Nat × va_E), (mm_ws G σ')[k]? = some q → ∃ q0, (mm_ws G σ)[k]? = some q0 ∧ q0.1 = q.1 := by
    intro k q hk
    simp only [mm_ws, va_pl, List.getElem?_map] at hk ⊢
    cases hb : (mm_L G)[k]? with
    | none => rw [hb] at hk; cases hk
    | some b =>
      rw [hb] at hk
      exact ⟨_, rfl, by rw [← Option.some.inj hk]⟩
  refine ⟨fun i j x y hi hj hxy => ?_, fun k q hk => ?_⟩
  · obtain ⟨x0, h1, h2⟩ := key i x hi
    obtain ⟨y0, h3, h4⟩ := key j y hj
    exact hD.1 i j x0 y0 h1 h3 (h2.trans (hxy.trans h4.symm))
  · obtain ⟨q0, h1, h2⟩ := key k q hk
    rw [← h2]
    exact hD.2 k q0 h1
theorem mm_ws_A {G : mm_G} {σ : mm_M} {A : Nat → Prop} {sz : Nat} (hD : va_D A (mm_ws G σ)) : va_D (mm_A G sz) (mm_ws G σ) := by
  refine ⟨hD.1, fun k q hk => Or.inl ?_⟩
  have h := List.mem_of_getElem? hk
  simp only [mm_ws, va_pl] at h
  obtain ⟨a, ha, rfl⟩ := List.mem_map.mp h
  exact ha
theorem mm_up_ne {σ : mm_M} {a j : Nat} {v : Int32} : ∀ b, b ≠ a → (mm_up σ a j v).1 b = σ.1 b ∧ (mm_up σ a j v).2 b = σ.2 b := fun b hb => ⟨funext fun k => if_neg (fun q => hb q.1), rfl⟩
theorem mm_upL_ne {σ : mm_M} {a j : Nat} {v : Int64} : ∀ b, b ≠ a → (mm_upL σ a j v).1 b = σ.1 b ∧ (mm_upL σ a j v).2 b = σ.2 b := fun b hb => ⟨rfl, funext fun k => if_neg (fun q => hb q.1)⟩
theorem mm_cpy_ne {σ : mm_M} {a0 a sp dp n : Nat} : ∀ b, b ≠ a → (mm_cpy σ a0 a sp dp n).1 b = σ.1 b ∧ (mm_cpy σ a0 a sp dp n).2 b = σ.2 b := fun b hb => ⟨funext fun k => if_neg hb, rfl⟩
/-! what a field's write makes of the fields -/
theorem ms_0_1 (G : mm_G) (σ : mm_M) (a : Nat) (v : Int32) : (mm_fs G σ 0 a).set 1 (.int v) = mm_fs G (mm_up σ a 1 v) 0 a := by simp [mm_fs, mm_up]
theorem ms_0_2 (G : mm_G) (σ : mm_M) (a : Nat) (v : Int32) : (mm_fs G σ 0 a).set 2 (.int v) = mm_fs G (mm_up σ a 2 v) 0 a := by simp [mm_fs, mm_up]
theorem ms_0_3 (G : mm_G) (σ : mm_M) (a : Nat) (v : Int32) : (mm_fs G σ 0 a).set 3 (.int v) = mm_fs G (mm_up σ a 3 v) 0 a := by simp [mm_fs, mm_up]
theorem ms_0_4 (G : mm_G) (σ : mm_M) (a : Nat) (v : Int32) : (mm_fs G σ 0 a).set 4 (.int v) = mm_fs G (mm_up σ a 4 v) 0 a := by simp [mm_fs, mm_up]
theorem ms_0_5 (G : mm_G) (σ : mm_M) (a : Nat) (v : Int32) : (mm_fs G σ 0 a).set 5 (.int v) = mm_fs G (mm_up σ a 5 v) 0 a := by simp [mm_fs, mm_up]
theorem ms_1_1 (G : mm_G) (σ : mm_M) (a : Nat) (v : Int32) : (mm_fs G σ 1 a).set 1 (.int v) = mm_fs G (mm_up σ a 1 v) 1 a := by simp [mm_fs, mm_up]
theorem ms_2_0 (G : mm_G) (σ : mm_M) (a : Nat) (v : Int32) : (mm_fs G σ 2 a).set 0 (.int v) = mm_fs G (mm_up σ a 0 v) 2 a := by simp [mm_fs, mm_up]
theorem ms_2_1 (G : mm_G) (σ : mm_M) (a : Nat) (v : Int32) : (mm_fs G σ 2 a).set 1 (.int v) = mm_fs G (mm_up σ a 1 v) 2 a := by simp [mm_fs, mm_up]
theorem ms_2_2 (G : mm_G) (σ : mm_M) (a : Nat) (v : Int32) : (mm_fs G σ 2 a).set 2 (.int v) = mm_fs G (mm_up σ a 2 v) 2 a := by simp [mm_fs, mm_up]
theorem ms_2_3 (G : mm_G) (σ : mm_M) (a : Nat) (v : Int32) : (mm_fs G σ 2 a).set 3 (.int v) = mm_fs G (mm_up σ a 3 v) 2 a := by simp [mm_fs, mm_up]
theorem ms_2_4 (G : mm_G) (σ : mm_M) (a : Nat) (v : Int32) : (mm_fs G σ 2 a).set 4 (.int v) = mm_fs G (mm_up σ a 4 v) 2 a := by simp [mm_fs, mm_up]
theorem ms_2_5 (G : mm_G) (σ : mm_M) (a : Nat) (v : Int32) : (mm_fs G σ 2 a).set 5 (.int v) = mm_fs G (mm_up σ a 5 v) 2 a := by simp [mm_fs, mm_up]
theorem ms_3_12 (G : mm_G) (σ : mm_M) (a : Nat) (v : Int32) : (mm_fs G σ 3 a).set 12 (.int v) = mm_fs G (mm_up σ a 12 v) 3 a := by simp [mm_fs, mm_up]
theorem ms_3_15 (G : mm_G) (σ : mm_M) (a : Nat) (v : Int32) : (mm_fs G σ 3 a).set 15 (.int v) = mm_fs G (mm_up σ a 15 v) 3 a := by simp [mm_fs, mm_up]
theorem ms_3_13 (G : mm_G) (σ : mm_M) (a : Nat) (v : Int64) : (mm_fs G σ 3 a).set 13 (.long v) = mm_fs G (mm_upL σ a 13 v) 3 a := by simp [mm_fs, mm_upL]
theorem ms_3_14 (G : mm_G) (σ : mm_M) (a : Nat) (v : Int64) : (mm_fs G σ 3 a).set 14 (.long v) = mm_fs G (mm_upL σ a 14 v) 3 a := by simp [mm_fs, mm_upL]
theorem ms_4_10 (G : mm_G) (σ : mm_M) (a : Nat) (v : Int32) : (mm_fs G σ 4 a).set 10 (.int v) = mm_fs G (mm_up σ a 10 v) 4 a := by simp [mm_fs, mm_up]
theorem ms_4_14 (G : mm_G) (σ : mm_M) (a : Nat) (v : Int32) : (mm_fs G σ 4 a).set 14 (.int v) = mm_fs G (mm_up σ a 14 v) 4 a := by simp [mm_fs, mm_up]
theorem ms_4_17 (G : mm_G) (σ : mm_M) (a : Nat) (v : Int32) : (mm_fs G σ 4 a).set 17 (.int v) = mm_fs G (mm_up σ a 17 v) 4 a := by simp [mm_fs, mm_up]
theorem ms_4_15 (G : mm_G) (σ : mm_M) (a : Nat) (v : Int64) : (mm_fs G σ 4 a).set 15 (.long v) = mm_fs G (mm_upL σ a 15 v) 4 a := by simp [mm_fs, mm_upL]
theorem ms_4_16 (G : mm_G) (σ : mm_M) (a : Nat) (v : Int64) : (mm_fs G σ 4 a).set 16 (.long v) = mm_fs G (mm_upL σ a 16 v) 4 a := by simp [mm_fs, mm_upL]
/-! the class's two tables -/
def mm_tab (t j : Nat) : Int32 := if t = 0 then (if j = 0 then -1 else if j = 4 then 1 else if j = 5 then 2 else 0) else (if j = 0 then 112 else if j = 1 then 100 else if j = 2 then 111 else if j = 3 then 115 else if j = 4 then 108 else 121)
def mm_St1 (G : mm_G) (t : Nat) (n : String) (w : Cond) (U : State) : Prop := va_Z "AirTalkers" n "[I" (.ref (mm_T G t)) (fun q => q ∈ mm_L G) U U.heap ∧ va_T .int (mm_T G t) 6 (fun j => .int (mm_tab t j)) (fun q => q ∈ mm_L G) U U.heap ∧ va_Nw w U
abbrev mm_w0 : Cond := .fieldLinkNest RX2 30 "AirTalkers" "KIND_ABOVE" "[I" "AirTalkers"
abbrev mm_w1 : Cond := .fieldLinkNest RX0 62 "AirTalkers" "KIND_LETTERS" "[I" "AirTalkers"
def mm_St (G : mm_G) (U : State) : Prop := mm_St1 G 0 "KIND_ABOVE" mm_w0 U ∧ mm_St1 G 1 "KIND_LETTERS" mm_w1 U
/-- which references lead where -/
def mm_WF (G : mm_G) : Prop :=
  (∀ a, mm_Is G 0 a → mm_Is G 8 (mm_R G a 0)) ∧ (∀ a, mm_Is G 1 a → mm_Is G 6 (mm_R G a 0)) ∧
  (∀ a, mm_Is G 3 a → mm_Is G 10 (mm_R G a 0) ∧ mm_Is G 6 (mm_R G a 1) ∧ mm_Is G 9 (mm_R G a 2) ∧ mm_Is G 6 (mm_R G a 3) ∧ mm_Is G 0 (mm_R G a 4) ∧ mm_Is G 0 (mm_R G a 5) ∧ mm_Is G 1 (mm_R G a 6) ∧ mm_Is G 7 (mm_R G a 7) ∧ mm_Is G 0 (mm_R G a 8) ∧ mm_Is G 0 (mm_R G a 9) ∧ mm_Is G 6 (mm_R G a 10) ∧ mm_Is G 10 (mm_R G a 11) ∧ mm_Is G 6 (mm_R G a 16)) ∧
  (∀ a, mm_Is G 4 a → mm_Is G 6 (mm_R G a 0) ∧ mm_Is G 6 (mm_R G a 1) ∧ mm_Is G 6 (mm_R G a 2) ∧ mm_Is G 6 (mm_R G a 3) ∧ mm_Is G 5 (mm_R G a 4) ∧ mm_Is G 6 (mm_R G a 5) ∧ mm_Is G 6 (mm_R G a 6) ∧ mm_Is G 6 (mm_R G a 7) ∧ mm_Is G 6 (mm_R G a 8) ∧ mm_Is G 6 (mm_R G a 9) ∧ mm_Is G 6 (mm_R G a 11) ∧ mm_Is G 6 (mm_R G a 12) ∧ mm_Is G 6 (mm_R G a 13) ∧ mm_Is G 6 (mm_R G a 18) ∧ mm_Is G 6 (mm_R G a 19) ∧ mm_Is G 6 (mm_R G a 20) ∧ mm_Is G 6 (mm_R G a 21)) ∧
  (∀ a i, mm_Is G 7 a → i < mm_N G a → mm_Is G 1 (mm_R G a i)) ∧ (∀ a i, mm_Is G 8 a → i < mm_N G a → mm_Is G 2 (mm_R G a i)) ∧ (∀ a i, mm_Is G 9 a → i < mm_N G a → mm_Is G 5 (mm_R G a i)) ∧ (∀ a i, mm_Is G 10 a → i < mm_N G a → mm_Is G 6 (mm_R G a i))
/-! the machine's side, in one tuple -/
abbrev mm_E : Type := Program × Launch × Env × Room × State × MethodId × Array Value × List Frame × Method × Code × Nat × Nat
abbrev eP (E : mm_E) : Program := E.1
abbrev eL (E : mm_E) : Launch := E.2.1
abbrev eE (E : mm_E) : Env := E.2.2.1
abbrev eR (E : mm_E) : Room := E.2.2.2.1
abbrev eS (E : mm_E) : State := E.2.2.2.2.1
abbrev eM (E : mm_E) : MethodId := E.2.2.2.2.2.1
abbrev eA (E : mm_E) : Array Value := E.2.2.2.2.2.2.1
abbrev eB (E : mm_E) : List Frame := E.2.2.2.2.2.2.2.1
abbrev eT (E : mm_E) : Method := E.2.2.2.2.2.2.2.2.1
abbrev eC (E : mm_E) : Code := E.2.2.2.2.2.2.2.2.2.1
abbrev eK (E : mm_E) : Nat := E.2.2.2.2.2.2.2.2.2.2.1
abbrev eZ (E : mm_E) : Nat := E.2.2.2.2.2.2.2.2.2.2.2
def mm_Cx (E : mm_E) (G : mm_G) (cc : ByteArray) (nL : Nat) (own : String) (Ts : List Cond) (rm : Room) (ret : Option FieldType) : Prop :=
  (eP E).tables.exec = Jvm.exec ∧ (eC E).code = cc ∧ (eC E).maxLocals = nL ∧ (eS E).vm.findClass own = some (eM E).cls ∧ (∀ w ∈ Ts, w.before (eA E) (eS E) = true) ∧ va_K (mm_D G) vwCl (mm_tys G) (eS E) ∧ mm_St G (eS E) ∧ mm_WF G ∧ (eT E).locks = false ∧ eR E = rm ∧ (eT E).sig.returnType = ret ∧ eK E ≤ (eR E).cells ∧ eZ E ≤ (eR E).slots
def mm_At (E : mm_E) (G : mm_G) (nL : Nat) (Q : State → Prop) (σ : mm_M) (pc : Nat) (lv : List (Nat × Value)) (st : List Value) : Prop :=
  ∀ (H : Heap) (locs : List Loc) (ls : Array Slot), va_P (mm_D G) vwCl (mm_ws G σ) H → va_D (mm_A G (eS E).heap.size) (mm_ws G σ) → va_S (mm_A G (eS E).heap.size) (eS E).heap H locs → lv_has ls nL lv →
    W (eP E) (eL E) (eE E) (eR E) (eS E) (eM E) (eA E) (eB E) (eT E) (eC E) H locs (eK E) (eZ E) Q (F0 (eM E) pc ls st)
theorem mm_St1.go {G : mm_G} {t : Nat} {n : String} {a : String} {i : Nat} {b nn d h : String} {s U : State} {H : Heap} {locs : List Loc} (hx : mm_St1 G t n (.fieldLinkNest a i b nn d h) s) (hS : va_S (mm_A G s.heap.size) s.heap H locs) (hU : U.heap = H) (hW : s.WarmedH U.vm) : mm_St1 G t n (.fieldLinkNest a i b nn d h) U := by
  have hk : ∀ q : Nat, q < s.heap.size → ¬ (q ∈ mm_L G) → U.heap[q]? = s.heap[q]? := fun q h1 h2 => by
    rw [hU]
    exact hS.2.1 q h1 (fun z => z.elim h2 (fun z => absurd h1 (Nat.not_lt.mpr z)))
  exact ⟨(hx.1.kept hk).moved hW.alike, (hx.2.1.kept hk).moved hW.alike, hx.2.2.warmF hW⟩
theorem mm_St.go {G : mm_G} {s U : State} {H : Heap} {locs : List Loc} (hx : mm_St G s) (hS : va_S (mm_A G s.heap.size) s.heap H locs) (hU : U.heap = H) (hW : s.WarmedH U.vm) : mm_St G U := ⟨hx.1.go hS hU hW, hx.2.go hS hU hW⟩
theorem mm_Zn {C n d : String} {v : Value} {G : mm_G} {U : State} (h : va_Z C n d v (fun q => q ∈ mm_L G) U U.heap) : va_Z C n d v (mm_A G U.heap.size) U U.heap := by
  obtain ⟨cf, kf, fi, f, a, cell, h1, h2, h3, h4, h5, h6, h7, h8⟩ := h
  exact ⟨cf, kf, fi, f, a, cell, h1, h2, h3, h4, h5, h6, h7, fun z => z.elim h8 (fun z => absurd (Array.getElem?_eq_some_iff.mp h5).1 (Nat.not_lt.mpr z))⟩
theorem mm_Tn {ty : FieldType} {t N : Nat} {f : Nat → Value} {G : mm_G} {U : State} (h : va_T ty t N f (fun q => q ∈ mm_L G) U U.heap) : va_T ty t N f (mm_A G U.heap.size) U U.heap := by
  obtain ⟨cell, h1, h2, h3, h4, h5, h6, h7⟩ := h
  exact ⟨cell, h1, h2, h3, h4, h5, h6, fun z => z.elim h7 (fun z => absurd (Array.getElem?_eq_some_iff.mp h1).1 (Nat.not_lt.mpr z))⟩
/-! pure rows of the decompiled texts -/
theorem mm_pos {c : Prop} {i : Decidable c} {α : Sort _} {x y z : α} (hc : c) (h : (@ite α c i x y) = z) : x = z := by rw [if_pos hc] at h; exact h
theorem mm_neg {c : Prop} {i : Decidable c} {α : Sort _} {x y z : α} (hc : ¬ c) (h : (@ite α c i x y) = z) : y = z := by rw [if_neg hc] at h; exact h
theorem mm_chk {c : Prop} {i : Decidable c} {α : Type} {x : Option α} {z : α} (h : (@ite (Option α) c i none x) = some z) : ¬ c ∧ x = some z := by
  by_cases hc : c
  · rw [if_pos hc] at h; cases h
  · rw [if_neg hc] at h; exact ⟨hc, h⟩
theorem mm_bind {α β : Type} {o : Option α} {f : α → Option β} {z : β} (h : o.bind f = some z) : ∃ q, o = some q ∧ f q = some z := by
  cases o with
  | none => cases h
  | some q => exact ⟨q, rfl, h⟩
def mm_it {α β : Type} (f : α → Option (β ⊕ α)) : Nat → α → Option β
  | 0, _ => none
  | n + 1, s => match f s with
    | none => none
    | some (.inl b) => some b
    | some (.inr s') => mm_it f n s'
theorem mm_it_succ {α β : Type} {f : α → Option (β ⊕ α)} {b : β} : ∀ (n : Nat) (s : α), mm_it f n s = some b → mm_it f (n + 1) s = some b
  | 0, s, h => by cases h
  | n + 1, s, h => by
    unfold mm_it at h ⊢
    cases hf : f s with
    | none => rw [hf] at h; cases h
    | some o =>
      cases o with
      | inl x => rw [hf] at h; exact h
      | inr s' => rw [hf] at h; exact mm_it_succ n s' h
theorem mm_it_le {α β : Type} {f : α → Option (β ⊕ α)} {b : β} {s : α} {n : Nat} (h : mm_it f n s = some b) : ∀ (k : Nat), mm_it f (n + k) s = some b
  | 0 => h
  | k + 1 => mm_it_succ _ _ (mm_it_le h k)
theorem mm_it_one {α β : Type} {f : α → Option (β ⊕ α)} {b b' : β} {s : α} {n n' : Nat} (h : mm_it f n s = some b) (h' : mm_it f n' s = some b') : b = b' := by
  have h1 := mm_it_le h n'
  have h2 := mm_it_le h' n
  rw [Nat.add_comm n' n] at h2
  exact Option.some.inj (h1.symm.trans h2)
noncomputable def mm_lim {α β : Type} (f : α → Option (β ⊕ α)) (s : α) : Option β := @dite (Option β) (∃ b, ∃ n, mm_it f n s = some b) (Classical.propDecidable _) (fun h => some (Classical.choose h)) (fun _ => none)
theorem mm_lim_iff {α β : Type} {f : α → Option (β ⊕ α)} {s : α} {b : β} : mm_lim f s = some b ↔ ∃ n, mm_it f n s = some b := by
  unfold mm_lim
  constructor
  · intro h
    split at h
    next hx =>
      have := Classical.choose_spec hx
      rw [Option.some.inj h] at this
      exact this
    next => cases h
  · rintro ⟨n, hn⟩
    have hx : ∃ b, ∃ n, mm_it f n s = some b := ⟨b, n, hn⟩
    rw [dif_pos hx]
    obtain ⟨k, hk⟩ := Classical.choose_spec hx
    rw [mm_it_one hn hk]
theorem mm_lim_ret {α β : Type} {f : α → Option (β ⊕ α)} {s : α} {b : β} (h : f s = some (.inl b)) : mm_lim f s = some b := mm_lim_iff.mpr ⟨1, by unfold mm_it; rw [h]⟩
theorem mm_lim_go {α β : Type} {f : α → Option (β ⊕ α)} {s s' : α} (h : f s = some (.inr s')) : mm_lim f s = mm_lim f s' := by
  apply Option.ext
  intro b
  rw [mm_lim_iff, mm_lim_iff]
  constructor
  · rintro ⟨n, hn⟩
    cases n with
    | zero => cases hn
    | succ n => unfold mm_it at hn; rw [h] at hn; exact ⟨n, hn⟩
  · rintro ⟨n, hn⟩
    exact ⟨n + 1, by unfold mm_it; rw [h]; exact hn⟩
theorem mm_it_ind {α β : Type} {f : α → Option (β ⊕ α)} {b : β} {P : α → Prop} (hr : ∀ s, f s = some (.inl b) → P s) (hg : ∀ s s', f s = some (.inr s') → P s' → P s) : ∀ (n : Nat) (s : α), mm_it f n s = some b → P s
  | 0, s, h => by cases h
  | n + 1, s, h => by
    unfold mm_it at h
    cases hf : f s with
    | none => rw [hf] at h; cases h
    | some o =>
      cases o with
      | inl x => rw [hf] at h; cases h; exact hr s hf
      | inr s' => rw [hf] at h; exact hg s s' hf (mm_it_ind hr hg n s' h)
/-- behind a stretch: an end, or a loop's head -/
def mm_Ok {α β : Type} (b : β) (P : α → Prop) : β ⊕ α → Prop
  | .inl x => x = b
  | .inr s => P s
/-- a method with loops: its first stretch, then its loops' heads till the end -/
noncomputable def mm_run {α β : Type} (o : Option (β ⊕ α)) (f : α → Option (β ⊕ α)) : Option β := o.bind (fun x => match x with
  | .inl b => some b
  | .inr s => mm_lim f s)
theorem mm_run_ok {α β : Type} {o : Option (β ⊕ α)} {f : α → Option (β ⊕ α)} {b : β} (h : mm_run o f = some b) {P : α → Prop} (hf : ∀ s o, f s = some o → mm_Ok b P o → P s) : ∃ x, o = some x ∧ mm_Ok b P x := by
  obtain ⟨x, h1, h2⟩ := mm_bind h
  refine ⟨x, h1, ?_⟩
  cases x with
  | inl y => exact Option.some.inj h2
  | inr s =>
    obtain ⟨n, hn⟩ := mm_lim_iff.mp h2
    exact mm_it_ind (P := P) (fun s h => hf s _ h rfl) (fun s s' h hp => hf s _ h hp) n s hn
theorem mm_inl {α β : Type} {x b : β} {P : α → Prop} {o : β ⊕ α} (h : (some (.inl x) : Option (β ⊕ α)) = some o) (hk : mm_Ok b P o) : x = b := by
  rw [← Option.some.inj h] at hk
  exact hk
theorem mm_inr {α β : Type} {s : α} {b : β} {P : α → Prop} {o : β ⊕ α} (h : (some (.inr s) : Option (β ⊕ α)) = some o) (hk : mm_Ok b P o) : P s := by
  rw [← Option.some.inj h] at hk
  exact hk
end
section
/-! A ROW AN INSTRUCTION over memory, place, locals and stack (mm_At). X: the method's context. -/
section MMR
variable {E : mm_E} {G : mm_G} {cc : ByteArray} {nL : Nat} {own : String} {Ts : List Cond} {rm : Room} {ret : Option FieldType} {Q : State → Prop} {σ : mm_M} {pc : Nat} {lv : List (Nat × Value)} {st : List Value}
theorem mm_Cx.hx (X : mm_Cx E G cc nL own Ts rm ret) : (eP E).tables.exec = Jvm.exec := X.1
theorem mm_Cx.hb (X : mm_Cx E G cc nL own Ts rm ret) : (eC E).code = cc := X.2.1
theorem mm_Cx.ml (X : mm_Cx E G cc nL own Ts rm ret) : (eC E).maxLocals = nL := X.2.2.1
theorem mm_Cx.ho (X : mm_Cx E G cc nL own Ts rm ret) : (eS E).vm.findClass own = some (eM E).cls := X.2.2.2.1
theorem mm_Cx.ts (X : mm_Cx E G cc nL own Ts rm ret) : ∀ w ∈ Ts, w.before (eA E) (eS E) = true := X.2.2.2.2.1
theorem mm_Cx.kk (X : mm_Cx E G cc nL own Ts rm ret) : va_K (mm_D G) vwCl (mm_tys G) (eS E) := X.2.2.2.2.2.1
theorem mm_Cx.sx (X : mm_Cx E G cc nL own Ts rm ret) : mm_St G (eS E) := X.2.2.2.2.2.2.1
theorem mm_Cx.wf (X : mm_Cx E G cc nL own Ts rm ret) : mm_WF G := X.2.2.2.2.2.2.2.1
theorem mm_Cx.lk (X : mm_Cx E G cc nL own Ts rm ret) : (eT E).locks = false := X.2.2.2.2.2.2.2.2.1
theorem mm_Cx.ro (X : mm_Cx E G cc nL own Ts rm ret) : eR E = rm := X.2.2.2.2.2.2.2.2.2.1
theorem mm_Cx.rt (X : mm_Cx E G cc nL own Ts rm ret) : (eT E).sig.returnType = ret := X.2.2.2.2.2.2.2.2.2.2.1
theorem mm_Cx.cz (X : mm_Cx E G cc nL own Ts rm ret) : eK E ≤ (eR E).cells ∧ eZ E ≤ (eR E).slots := X.2.2.2.2.2.2.2.2.2.2.2
theorem at_sub {lv' : List (Nat × Value)} (ks : List Nat) (hl : lv_pick lv ks = lv') (k : mm_At E G nL Q σ pc lv' st) : mm_At E G nL Q σ pc lv st := fun H locs ls hP hD hS h => k H locs ls hP hD hS (lv_sub h ks hl)
theorem at_iconst (X : mm_Cx E G cc nL own Ts rm ret) {n : Int} (v : Int32) (d : decode cc pc = .ok (.iconst n, 1)) (hv : Int32.ofInt n = v) (k : mm_At E G nL Q σ (pc + 1) lv (.int v :: st)) : mm_At E G nL Q σ pc lv st := fun H locs ls hP hD hS hl => lv_iconst X.hx X.hb d hv (k H locs ls hP hD hS hl)
theorem at_bipush (X : mm_Cx E G cc nL own Ts rm ret) {n : Int} (v : Int32) (d : decode cc pc = .ok (.bipush n, 2)) (hv : (Int8.ofInt n).toInt32 = v) (k : mm_At E G nL Q σ (pc + 2) lv (.int v :: st)) : mm_At E G nL Q σ pc lv st := fun H locs ls hP hD hS hl => lv_bipush X.hx X.hb d hv (k H locs ls hP hD hS hl)
theorem at_sipush (X : mm_Cx E G cc nL own Ts rm ret) {n : Int} (v : Int32) (d : decode cc pc = .ok (.sipush n, 3)) (hv : (Int16.ofInt n).toInt32 = v) (k : mm_At E G nL Q σ (pc + 3) lv (.int v :: st)) : mm_At E G nL Q σ pc lv st := fun H locs ls hP hD hS hl => lv_sipush X.hx X.hb d hv (k H locs ls hP hD hS hl)
theorem at_lconst (X : mm_Cx E G cc nL own Ts rm ret) {n : Fin 2} (v : Int64) (d : decode cc pc = .ok (.lconst n, 1)) (hv : Int64.ofNat (n : Nat) = v) (k : mm_At E G nL Q σ (pc + 1) lv (.long v :: st)) : mm_At E G nL Q σ pc lv st := fun H locs ls hP hD hS hl => lv_lconst X.hx X.hb d hv (k H locs ls hP hD hS hl)
theorem at_iload_n (X : mm_Cx E G cc nL own Ts rm ret) {n : Fin 4} {x : Int32} (i j : Nat) (d : decode cc pc = .ok (.iload_n n, 1)) (hi : (n : Nat) = i) (hx : lv[j]? = some (i, .int x)) (k : mm_At E G nL Q σ (pc + 1) lv (.int x :: st)) : mm_At E G nL Q σ pc lv st := fun H locs ls hP hD hS hl => lv_iload_n X.hx X.hb d hi (lv_at hl j hx) (k H locs ls hP hD hS hl)
theorem at_iload (X : mm_Cx E G cc nL own Ts rm ret) {x : Int32} (i j : Nat) (d : decode cc pc = .ok (.iload i, 2)) (hx : lv[j]? = some (i, .int x)) (k : mm_At E G nL Q σ (pc + 2) lv (.int x :: st)) : mm_At E G nL Q σ pc lv st := fun H locs ls hP hD hS hl => lv_iload X.hx X.hb d (lv_at hl j hx) (k H locs ls hP hD hS hl)
theorem at_istore_n (X : mm_Cx E G cc nL own Ts rm ret) {n : Fin 4} {x : Int32} (i : Nat) (lv' : List (Nat × Value)) (d : decode cc pc = .ok (.istore_n n, 1)) (hi : (n : Nat) = i) (hn : i < nL) (hl2 : (i, Value.int x) :: lv.filter (fun q => !(q.1 == i) && !(q.1 + 1 == i && q.2.category == 2)) = lv') (k : mm_At E G nL Q σ (pc + 1) lv' st) : mm_At E G nL Q σ pc lv (.int x :: st) := fun H locs ls hP hD hS hl => lv_istore_n X.hx X.hb d hi hl hn hl2 (fun ls2 h2 => k H locs ls2 hP hD hS h2)
theorem at_istore (X : mm_Cx E G cc nL own Ts rm ret) {x : Int32} (i : Nat) (lv' : List (Nat × Value)) (d : decode cc pc = .ok (.istore i, 2)) (hn : i < nL) (hl2 : (i, Value.int x) :: lv.filter (fun q => !(q.1 == i) && !(q.1 + 1 == i && q.2.category == 2)) = lv') (k : mm_At E G nL Q σ (pc + 2) lv' st) : mm_At E G nL Q σ pc lv (.int x :: st) := fun H locs ls hP hD hS hl => lv_istore X.hx X.hb d hl hn hl2 (fun ls2 h2 => k H locs ls2 hP hD hS h2)
theorem at_lload_n (X : mm_Cx E G cc nL own Ts rm ret) {n : Fin 4} {x : Int64} (i j : Nat) (d : decode cc pc = .ok (.lload_n n, 1)) (hi : (n : Nat) = i) (hx : lv[j]? = some (i, .long x)) (k : mm_At E G nL Q σ (pc + 1) lv (.long x :: st)) : mm_At E G nL Q σ pc lv st := fun H locs ls hP hD hS hl => lv_lload_n X.hx X.hb d hi (lv_at hl j hx) (k H locs ls hP hD hS hl)
theorem at_lload (X : mm_Cx E G cc nL own Ts rm ret) {x : Int64} (i j : Nat) (d : decode cc pc = .ok (.lload i, 2)) (hx : lv[j]? = some (i, .long x)) (k : mm_At E G nL Q σ (pc + 2) lv (.long x :: st)) : mm_At E G nL Q σ pc lv st := fun H locs ls hP hD hS hl => lv_lload X.hx X.hb d (lv_at hl j hx) (k H locs ls hP hD hS hl)
theorem at_lstore_n (X : mm_Cx E G cc nL own Ts rm ret) {n : Fin 4} {x : Int64} (i : Nat) (lv' : List (Nat × Value)) (d : decode cc pc = .ok (.lstore_n n, 1)) (hi : (n : Nat) = i) (hn : i + 1 < nL) (hl2 : (i, Value.long x) :: lv.filter (fun q => !(q.1 == i) && (!(q.1 == i + 1) && !(q.1 + 1 == i && q.2.category == 2))) = lv') (k : mm_At E G nL Q σ (pc + 1) lv' st) : mm_At E G nL Q σ pc lv (.long x :: st) := fun H locs ls hP hD hS hl => lv_lstore_n X.hx X.hb d hi hl hn hl2 (fun ls2 h2 => k H locs ls2 hP hD hS h2)
theorem at_lstore (X : mm_Cx E G cc nL own Ts rm ret) {x : Int64} (i : Nat) (lv' : List (Nat × Value)) (d : decode cc pc = .ok (.lstore i, 2)) (hn : i + 1 < nL) (hl2 : (i, Value.long x) :: lv.filter (fun q => !(q.1 == i) && (!(q.1 == i + 1) && !(q.1 + 1 == i && q.2.category == 2))) = lv') (k : mm_At E G nL Q σ (pc + 2) lv' st) : mm_At E G nL Q σ pc lv (.long x :: st) := fun H locs ls hP hD hS hl => lv_lstore X.hx X.hb d hl hn hl2 (fun ls2 h2 => k H locs ls2 hP hD hS h2)
theorem at_aload_n (X : mm_Cx E G cc nL own Ts rm ret) {n : Fin 4} {x : Nat} (i j : Nat) (d : decode cc pc = .ok (.aload_n n, 1)) (hi : (n : Nat) = i) (hx : lv[j]? = some (i, .ref x)) (k : mm_At E G nL Q σ (pc + 1) lv (.ref x :: st)) : mm_At E G nL Q σ pc lv st := fun H locs ls hP hD hS hl => lv_aload_n X.hx X.hb d hi (lv_at hl j hx) (k H locs ls hP hD hS hl)
theorem at_aload (X : mm_Cx E G cc nL own Ts rm ret) {x : Nat} (i j : Nat) (d : decode cc pc = .ok (.aload i, 2)) (hx : lv[j]? = some (i, .ref x)) (k : mm_At E G nL Q σ (pc + 2) lv (.ref x :: st)) : mm_At E G nL Q σ pc lv st := fun H locs ls hP hD hS hl => lv_aload X.hx X.hb d (lv_at hl j hx) (k H locs ls hP hD hS hl)
theorem at_astore_n (X : mm_Cx E G cc nL own Ts rm ret) {n : Fin 4} {x : Nat} (i : Nat) (lv' : List (Nat × Value)) (d : decode cc pc = .ok (.astore_n n, 1)) (hi : (n : Nat) = i) (hn : i < nL) (hl2 : (i, Value.ref x) :: lv.filter (fun q => !(q.1 == i) && !(q.1 + 1 == i && q.2.category == 2)) = lv') (k : mm_At E G nL Q σ (pc + 1) lv' st) : mm_At E G nL Q σ pc lv (.ref x :: st) := fun H locs ls hP hD hS hl => lv_astore_n X.hx X.hb d hi hl hn hl2 (fun ls2 h2 => k H locs ls2 hP hD hS h2)
theorem at_astore (X : mm_Cx E G cc nL own Ts rm ret) {x : Nat} (i : Nat) (lv' : List (Nat × Value)) (d : decode cc pc = .ok (.astore i, 2)) (hn : i < nL) (hl2 : (i, Value.ref x) :: lv.filter (fun q => !(q.1 == i) && !(q.1 + 1 == i && q.2.category == 2)) = lv') (k : mm_At E G nL Q σ (pc + 2) lv' st) : mm_At E G nL Q σ pc lv (.ref x :: st) := fun H locs ls hP hD hS hl => lv_astore X.hx X.hb d hl hn hl2 (fun ls2 h2 => k H locs ls2 hP hD hS h2)
theorem at_iinc (X : mm_Cx E G cc nL own Ts rm ret) {n : Int} {x : Int32} (i j : Nat) (v : Int32) (lv' : List (Nat × Value)) (d : decode cc pc = .ok (.iinc i n, 3)) (hx : lv[j]? = some (i, .int x)) (hv : x + Int32.ofInt n = v) (hn : i < nL) (hl2 : (i, Value.int v) :: lv.filter (fun q => !(q.1 == i) && !(q.1 + 1 == i && q.2.category == 2)) = lv') (k : mm_At E G nL Q σ (pc + 3) lv' st) : mm_At E G nL Q σ pc lv st := fun H locs ls hP hD hS hl => lv_iinc X.hx X.hb d hl hx hv hn hl2 (fun ls2 h2 => k H locs ls2 hP hD hS h2)
theorem at_iadd (X : mm_Cx E G cc nL own Ts rm ret) {x y : Int32} (d : decode cc pc = .ok (.iadd, 1)) (k : mm_At E G nL Q σ (pc + 1) lv (.int (x + y) :: st)) : mm_At E G nL Q σ pc lv (.int y :: .int x :: st) := fun H locs ls hP hD hS hl => lv_iadd X.hx X.hb d (k H locs ls hP hD hS hl)
theorem at_isub (X : mm_Cx E G cc nL own Ts rm ret) {x y : Int32} (d : decode cc pc = .ok (.isub, 1)) (k : mm_At E G nL Q σ (pc + 1) lv (.int (x - y) :: st)) : mm_At E G nL Q σ pc lv (.int y :: .int x :: st) := fun H locs ls hP hD hS hl => lv_isub X.hx X.hb d (k H locs ls hP hD hS hl)
theorem at_imul (X : mm_Cx E G cc nL own Ts rm ret) {x y : Int32} (d : decode cc pc = .ok (.imul, 1)) (k : mm_At E G nL Q σ (pc + 1) lv (.int (x * y) :: st)) : mm_At E G nL Q σ pc lv (.int y :: .int x :: st) := fun H locs ls hP hD hS hl => lv_imul X.hx X.hb d (k H locs ls hP hD hS hl)
theorem at_iand (X : mm_Cx E G cc nL own Ts rm ret) {x y : Int32} (d : decode cc pc = .ok (.iand, 1)) (k : mm_At E G nL Q σ (pc + 1) lv (.int (x &&& y) :: st)) : mm_At E G nL Q σ pc lv (.int y :: .int x :: st) := fun H locs ls hP hD hS hl => lv_iand X.hx X.hb d (k H locs ls hP hD hS hl)
theorem at_ior (X : mm_Cx E G cc nL own Ts rm ret) {x y : Int32} (d : decode cc pc = .ok (.ior, 1)) (k : mm_At E G nL Q σ (pc + 1) lv (.int (x ||| y) :: st)) : mm_At E G nL Q σ pc lv (.int y :: .int x :: st) := fun H locs ls hP hD hS hl => lv_ior X.hx X.hb d (k H locs ls hP hD hS hl)
theorem at_ishl (X : mm_Cx E G cc nL own Ts rm ret) {x y : Int32} (d : decode cc pc = .ok (.ishl, 1)) (k : mm_At E G nL Q σ (pc + 1) lv (.int (x <<< (y &&& 31)) :: st)) : mm_At E G nL Q σ pc lv (.int y :: .int x :: st) := fun H locs ls hP hD hS hl => lv_ishl X.hx X.hb d (k H locs ls hP hD hS hl)
theorem at_ishr (X : mm_Cx E G cc nL own Ts rm ret) {x y : Int32} (d : decode cc pc = .ok (.ishr, 1)) (k : mm_At E G nL Q σ (pc + 1) lv (.int (x >>> (y &&& 31)) :: st)) : mm_At E G nL Q σ pc lv (.int y :: .int x :: st) := fun H locs ls hP hD hS hl => lv_ishr X.hx X.hb d (k H locs ls hP hD hS hl)
theorem at_idiv (X : mm_Cx E G cc nL own Ts rm ret) {x y : Int32} (hne : ¬ y = 0) (d : decode cc pc = .ok (.idiv, 1)) (k : mm_At E G nL Q σ (pc + 1) lv (.int (x / y) :: st)) : mm_At E G nL Q σ pc lv (.int y :: .int x :: st) := fun H locs ls hP hD hS hl => lv_idiv X.hx X.hb d hne (k H locs ls hP hD hS hl)
theorem at_irem (X : mm_Cx E G cc nL own Ts rm ret) {x y : Int32} (hne : ¬ y = 0) (d : decode cc pc = .ok (.irem, 1)) (k : mm_At E G nL Q σ (pc + 1) lv (.int (x - x / y * y) :: st)) : mm_At E G nL Q σ pc lv (.int y :: .int x :: st) := fun H locs ls hP hD hS hl => lv_irem X.hx X.hb d hne (k H locs ls hP hD hS hl)
theorem at_ladd (X : mm_Cx E G cc nL own Ts rm ret) {x y : Int64} (d : decode cc pc = .ok (.ladd, 1)) (k : mm_At E G nL Q σ (pc + 1) lv (.long (x + y) :: st)) : mm_At E G nL Q σ pc lv (.long y :: .long x :: st) := fun H locs ls hP hD hS hl => lv_ladd X.hx X.hb d (k H locs ls hP hD hS hl)
theorem at_lsub (X : mm_Cx E G cc nL own Ts rm ret) {x y : Int64} (d : decode cc pc = .ok (.lsub, 1)) (k : mm_At E G nL Q σ (pc + 1) lv (.long (x - y) :: st)) : mm_At E G nL Q σ pc lv (.long y :: .long x :: st) := fun H locs ls hP hD hS hl => lv_lsub X.hx X.hb d (k H locs ls hP hD hS hl)
theorem at_lmul (X : mm_Cx E G cc nL own Ts rm ret) {x y : Int64} (d : decode cc pc = .ok (.lmul, 1)) (k : mm_At E G nL Q σ (pc + 1) lv (.long (x * y) :: st)) : mm_At E G nL Q σ pc lv (.long y :: .long x :: st) := fun H locs ls hP hD hS hl => lv_lmul X.hx X.hb d (k H locs ls hP hD hS hl)
theorem at_ldiv (X : mm_Cx E G cc nL own Ts rm ret) {x y : Int64} (hne : ¬ y = 0) (d : decode cc pc = .ok (.ldiv, 1)) (k : mm_At E G nL Q σ (pc + 1) lv (.long (x / y) :: st)) : mm_At E G nL Q σ pc lv (.long y :: .long x :: st) := fun H locs ls hP hD hS hl => lv_ldiv X.hx X.hb d hne (k H locs ls hP hD hS hl)
theorem at_lrem (X : mm_Cx E G cc nL own Ts rm ret) {x y : Int64} (hne : ¬ y = 0) (d : decode cc pc = .ok (.lrem, 1)) (k : mm_At E G nL Q σ (pc + 1) lv (.long (x - x / y * y) :: st)) : mm_At E G nL Q σ pc lv (.long y :: .long x :: st) := fun H locs ls hP hD hS hl => lv_lrem X.hx X.hb d hne (k H locs ls hP hD hS hl)
theorem at_iushr (X : mm_Cx E G cc nL own Ts rm ret) {x y : Int32} (d : decode cc pc = .ok (.iushr, 1)) (k : mm_At E G nL Q σ (pc + 1) lv (.int ((x.toUInt32 >>> (y.toUInt32 &&& Int32.toUInt32 31)).toInt32) :: st)) : mm_At E G nL Q σ pc lv (.int y :: .int x :: st) := fun H locs ls hP hD hS hl => lv_iushr X.hx X.hb d rfl (k H locs ls hP hD hS hl)
theorem at_i2l (X : mm_Cx E G cc nL own Ts rm ret) {x : Int32} (d : decode cc pc = .ok (.i2l, 1)) (k : mm_At E G nL Q σ (pc + 1) lv (.long x.toInt64 :: st)) : mm_At E G nL Q σ pc lv (.int x :: st) := fun H locs ls hP hD hS hl => lv_i2l X.hx X.hb d rfl (k H locs ls hP hD hS hl)
theorem at_l2i (X : mm_Cx E G cc nL own Ts rm ret) {x : Int64} (d : decode cc pc = .ok (.l2i, 1)) (k : mm_At E G nL Q σ (pc + 1) lv (.int x.toInt32 :: st)) : mm_At E G nL Q σ pc lv (.long x :: st) := fun H locs ls hP hD hS hl => lv_l2i X.hx X.hb d rfl (k H locs ls hP hD hS hl)
theorem at_i2b (X : mm_Cx E G cc nL own Ts rm ret) {x : Int32} (d : decode cc pc = .ok (.i2b, 1)) (k : mm_At E G nL Q σ (pc + 1) lv (.int x.toInt8.toInt32 :: st)) : mm_At E G nL Q σ pc lv (.int x :: st) := fun H locs ls hP hD hS hl => lv_i2b X.hx X.hb d rfl (k H locs ls hP hD hS hl)
theorem at_lcmp (X : mm_Cx E G cc nL own Ts rm ret) {x y : Int64} (d : decode cc pc = .ok (.lcmp, 1)) (k : mm_At E G nL Q σ (pc + 1) lv (.int (lg_cmp x y) :: st)) : mm_At E G nL Q σ pc lv (.long y :: .long x :: st) := fun H locs ls hP hD hS hl => W.lcmp X.hx X.hb d (k H locs ls hP hD hS hl)
theorem at_dup (X : mm_Cx E G cc nL own Ts rm ret) {v : Value} (d : decode cc pc = .ok (.dup, 1)) (hv : v.category = 1) (k : mm_At E G nL Q σ (pc + 1) lv (v :: v :: st)) : mm_At E G nL Q σ pc lv (v :: st) := fun H locs ls hP hD hS hl => lv_dup X.hx X.hb d hv (k H locs ls hP hD hS hl)
theorem at_pop (X : mm_Cx E G cc nL own Ts rm ret) {v : Value} (d : decode cc pc = .ok (.pop, 1)) (hv : v.category = 1) (k : mm_At E G nL Q σ (pc + 1) lv st) : mm_At E G nL Q σ pc lv (v :: st) := fun H locs ls hP hD hS hl => lv_pop X.hx X.hb d hv (k H locs ls hP hD hS hl)
theorem at_dup2 (X : mm_Cx E G cc nL own Ts rm ret) {v u : Value} (d : decode cc pc = .ok (.dup2, 1)) (hv : v.category = 1) (hu : u.category = 1) (k : mm_At E G nL Q σ (pc + 1) lv (v :: u :: v :: u :: st)) : mm_At E G nL Q σ pc lv (v :: u :: st) := fun H locs ls hP hD hS hl => lv_dup2_11 X.hx X.hb d hv hu (k H locs ls hP hD hS hl)
theorem at_goto (X : mm_Cx E G cc nL own Ts rm ret) {off : Int} (tgt : Nat) (d : decode cc pc = .ok (.goto off, 3)) (ht : (pc : Int) + off = (tgt : Int)) (k : mm_At E G nL Q σ tgt lv st) : mm_At E G nL Q σ pc lv st := fun H locs ls hP hD hS hl => lv_goto X.hx X.hb d ht (k H locs ls hP hD hS hl)
theorem at_if_eq (X : mm_Cx E G cc nL own Ts rm ret) {x : Int32} {off : Int} (tgt : Nat) (d : decode cc pc = .ok (.ifCond .eq off, 3)) (ht : (pc : Int) + off = (tgt : Int)) (kt : x = 0 → mm_At E G nL Q σ tgt lv st) (kf : ¬ x = 0 → mm_At E G nL Q σ (pc + 3) lv st) : mm_At E G nL Q σ pc lv (.int x :: st) := fun H locs ls hP hD hS hl => lv_if_eq X.hx X.hb d ht (fun c => kt c H locs ls hP hD hS hl) (fun c => kf c H locs ls hP hD hS hl)
theorem at_if_ne (X : mm_Cx E G cc nL own Ts rm ret) {x : Int32} {off : Int} (tgt : Nat) (d : decode cc pc = .ok (.ifCond .ne off, 3)) (ht : (pc : Int) + off = (tgt : Int)) (kt : ¬ x = 0 → mm_At E G nL Q σ tgt lv st) (kf : x = 0 → mm_At E G nL Q σ (pc + 3) lv st) : mm_At E G nL Q σ pc lv (.int x :: st) := fun H locs ls hP hD hS hl => lv_if_ne X.hx X.hb d ht (fun c => kt c H locs ls hP hD hS hl) (fun c => kf c H locs ls hP hD hS hl)
theorem at_if_lt (X : mm_Cx E G cc nL own Ts rm ret) {x : Int32} {off : Int} (tgt : Nat) (d : decode cc pc = .ok (.ifCond .lt off, 3)) (ht : (pc : Int) + off = (tgt : Int)) (kt : x < 0 → mm_At E G nL Q σ tgt lv st) (kf : ¬ x < 0 → mm_At E G nL Q σ (pc + 3) lv st) : mm_At E G nL Q σ pc lv (.int x :: st) := fun H locs ls hP hD hS hl => lv_if_lt X.hx X.hb d ht (fun c => kt c H locs ls hP hD hS hl) (fun c => kf c H locs ls hP hD hS hl)
theorem at_if_ge (X : mm_Cx E G cc nL own Ts rm ret) {x : Int32} {off : Int} (tgt : Nat) (d : decode cc pc = .ok (.ifCond .ge off, 3)) (ht : (pc : Int) + off = (tgt : Int)) (kt : ¬ x < 0 → mm_At E G nL Q σ tgt lv st) (kf : x < 0 → mm_At E G nL Q σ (pc + 3) lv st) : mm_At E G nL Q σ pc lv (.int x :: st) := fun H locs ls hP hD hS hl => lv_if_ge X.hx X.hb d ht (fun c => kt (Int32.not_lt.mpr c) H locs ls hP hD hS hl) (fun c => kf (Int32.not_le.mp c) H locs ls hP hD hS hl)
theorem at_if_gt (X : mm_Cx E G cc nL own Ts rm ret) {x : Int32} {off : Int} (tgt : Nat) (d : decode cc pc = .ok (.ifCond .gt off, 3)) (ht : (pc : Int) + off = (tgt : Int)) (kt : 0 < x → mm_At E G nL Q σ tgt lv st) (kf : ¬ 0 < x → mm_At E G nL Q σ (pc + 3) lv st) : mm_At E G nL Q σ pc lv (.int x :: st) := fun H locs ls hP hD hS hl => lv_if_gt X.hx X.hb d ht (fun c => kt c H locs ls hP hD hS hl) (fun c => kf c H locs ls hP hD hS hl)
theorem at_if_le (X : mm_Cx E G cc nL own Ts rm ret) {x : Int32} {off : Int} (tgt : Nat) (d : decode cc pc = .ok (.ifCond .le off, 3)) (ht : (pc : Int) + off = (tgt : Int)) (kt : ¬ 0 < x → mm_At E G nL Q σ tgt lv st) (kf : 0 < x → mm_At E G nL Q σ (pc + 3) lv st) : mm_At E G nL Q σ pc lv (.int x :: st) := fun H locs ls hP hD hS hl => lv_if_le X.hx X.hb d ht (fun c => kt (Int32.not_lt.mpr c) H locs ls hP hD hS hl) (fun c => kf (Int32.not_le.mp c) H locs ls hP hD hS hl)
theorem at_icmp_eq (X : mm_Cx E G cc nL own Ts rm ret) {x y : Int32} {off : Int} (tgt : Nat) (d : decode cc pc = .ok (.if_icmp .eq off, 3)) (ht : (pc : Int) + off = (tgt : Int)) (kt : x = y → mm_At E G nL Q σ tgt lv st) (kf : ¬ x = y → mm_At E G nL Q σ (pc + 3) lv st) : mm_At E G nL Q σ pc lv (.int y :: .int x :: st) := fun H locs ls hP hD hS hl => lv_icmp_eq X.hx X.hb d ht (fun c => kt c H locs ls hP hD hS hl) (fun c => kf c H locs ls hP hD hS hl)
theorem at_icmp_ne (X : mm_Cx E G cc nL own Ts rm ret) {x y : Int32} {off : Int} (tgt : Nat) (d : decode cc pc = .ok (.if_icmp .ne off, 3)) (ht : (pc : Int) + off = (tgt : Int)) (kt : ¬ x = y → mm_At E G nL Q σ tgt lv st) (kf : x = y → mm_At E G nL Q σ (pc + 3) lv st) : mm_At E G nL Q σ pc lv (.int y :: .int x :: st) := fun H locs ls hP hD hS hl => lv_icmp_ne X.hx X.hb d ht (fun c => kt c H locs ls hP hD hS hl) (fun c => kf c H locs ls hP hD hS hl)
theorem at_icmp_lt (X : mm_Cx E G cc nL own Ts rm ret) {x y : Int32} {off : Int} (tgt : Nat) (d : decode cc pc = .ok (.if_icmp .lt off, 3)) (ht : (pc : Int) + off = (tgt : Int)) (kt : x < y → mm_At E G nL Q σ tgt lv st) (kf : ¬ x < y → mm_At E G nL Q σ (pc + 3) lv st) : mm_At E G nL Q σ pc lv (.int y :: .int x :: st) := fun H locs ls hP hD hS hl => lv_icmp_lt X.hx X.hb d ht (fun c => kt c H locs ls hP hD hS hl) (fun c => kf c H locs ls hP hD hS hl)
theorem at_icmp_ge (X : mm_Cx E G cc nL own Ts rm ret) {x y : Int32} {off : Int} (tgt : Nat) (d : decode cc pc = .ok (.if_icmp .ge off, 3)) (ht : (pc : Int) + off = (tgt : Int)) (kt : ¬ x < y → mm_At E G nL Q σ tgt lv st) (kf : x < y → mm_At E G nL Q σ (pc + 3) lv st) : mm_At E G nL Q σ pc lv (.int y :: .int x :: st) := fun H locs ls hP hD hS hl => lv_icmp_ge X.hx X.hb d ht (fun c => kt (Int32.not_lt.mpr c) H locs ls hP hD hS hl) (fun c => kf (Int32.not_le.mp c) H locs ls hP hD hS hl)
theorem at_icmp_gt (X : mm_Cx E G cc nL own Ts rm ret) {x y : Int32} {off : Int} (tgt : Nat) (d : decode cc pc = .ok (.if_icmp .gt off, 3)) (ht : (pc : Int) + off = (tgt : Int)) (kt : y < x → mm_At E G nL Q σ tgt lv st) (kf : ¬ y < x → mm_At E G nL Q σ (pc + 3) lv st) : mm_At E G nL Q σ pc lv (.int y :: .int x :: st) := fun H locs ls hP hD hS hl => lv_icmp_gt X.hx X.hb d ht (fun c => kt c H locs ls hP hD hS hl) (fun c => kf c H locs ls hP hD hS hl)
theorem at_icmp_le (X : mm_Cx E G cc nL own Ts rm ret) {x y : Int32} {off : Int} (tgt : Nat) (d : decode cc pc = .ok (.if_icmp .le off, 3)) (ht : (pc : Int) + off = (tgt : Int)) (kt : ¬ y < x → mm_At E G nL Q σ tgt lv st) (kf : y < x → mm_At E G nL Q σ (pc + 3) lv st) : mm_At E G nL Q σ pc lv (.int y :: .int x :: st) := fun H locs ls hP hD hS hl => lv_icmp_le X.hx X.hb d ht (fun c => kt (Int32.not_lt.mpr c) H locs ls hP hD hS hl) (fun c => kf (Int32.not_le.mp c) H locs ls hP hD hS hl)
theorem at_ldc (X : mm_Cx E G cc nL own Ts rm ret) {idx : Nat} (v : Int32) (hw : Cond.constant own idx v ∈ Ts) (d : decode cc pc = .ok (.ldc idx, 2)) (k : mm_At E G nL Q σ (pc + 2) lv (.int v :: st)) : mm_At E G nL Q σ pc lv st := fun H locs ls hP hD hS hl => lv_ldc X.hx X.hb X.ho (X.ts _ hw) d (k H locs ls hP hD hS hl)
theorem at_ldc_w (X : mm_Cx E G cc nL own Ts rm ret) {idx : Nat} (v : Int32) (hw : Cond.constant own idx v ∈ Ts) (d : decode cc pc = .ok (.ldc_w idx, 3)) (k : mm_At E G nL Q σ (pc + 3) lv (.int v :: st)) : mm_At E G nL Q σ pc lv st := fun H locs ls hP hD hS hl => lv_ldcw X.hx X.hb X.ho (X.ts _ hw) d (k H locs ls hP hD hS hl)
theorem at_ldc2_w (X : mm_Cx E G cc nL own Ts rm ret) {idx : Nat} (v : Int64) (hw : Cond.constantLong own idx v ∈ Ts) (d : decode cc pc = .ok (.ldc2_w idx, 3)) (k : mm_At E G nL Q σ (pc + 3) lv (.long v :: st)) : mm_At E G nL Q σ pc lv st := fun H locs ls hP hD hS hl => lv_ldc2 X.hx X.hb X.ho (X.ts _ hw) d (k H locs ls hP hD hS hl)
theorem at_swOut (X : mm_Cx E G cc nL own Ts rm ret) {dflt lo hi : Int} {offs : Array Int} {len : Nat} {x : Int32} (tgt : Nat) (d : decode cc pc = .ok (.tableswitch dflt lo hi offs, len)) (h : x.toInt < lo ∨ hi < x.toInt) (ht : (pc : Int) + dflt = (tgt : Int)) (k : mm_At E G nL Q σ tgt lv st) : mm_At E G nL Q σ pc lv (.int x :: st) := fun H locs ls hP hD hS hl => lv_tableOut X.hx X.hb d h ht (k H locs ls hP hD hS hl)
theorem at_swIn (X : mm_Cx E G cc nL own Ts rm ret) {dflt lo hi : Int} {offs : Array Int} {len : Nat} {x : Int32} {off : Int} (tgt : Nat) (d : decode cc pc = .ok (.tableswitch dflt lo hi offs, len)) (h1 : ¬ x.toInt < lo) (h2 : ¬ hi < x.toInt) (ho : offs[(x.toInt - lo).toNat]? = some off) (ht : (pc : Int) + off = (tgt : Int)) (k : mm_At E G nL Q σ tgt lv st) : mm_At E G nL Q σ pc lv (.int x :: st) := fun H locs ls hP hD hS hl => lv_tableIn X.hx X.hb d h1 h2 ho ht (k H locs ls hP hD hS hl)
theorem at_get (X : mm_Cx E G cc nL own Ts rm ret) {N idx a : Nat} {C : String} {T : u_T} (ci k : Nat) (v : Value) (ha : mm_Is G ci a) (hci : ci < 5) (hc : vwCl[ci]? = some (C, T, N)) (hin : ∀ w ∈ u_ws C T N, w ∈ Ts) (hk : k < N) (hw : Cond.fieldLink own idx (T k).1 (T k).2.1 (T k).2.2.1 ∈ Ts) (hv : (mm_fs G σ ci a)[k]? = some v) (d : decode cc pc = .ok (.getfield idx, 3)) (kk : mm_At E G nL Q σ (pc + 3) lv (v :: st)) : mm_At E G nL Q σ pc lv (.ref a :: st) := by
  intro H locs ls hP hD hS hl
  obtain ⟨q0, hq⟩ := mm_ws_get (G := G) (σ := σ) ha.1
  rw [mm_cf_o ha.2 hci] at hq
  exact va_get X.hx X.hb X.ts hin X.ho X.kk hP q0 hq hc k hk (X.ts _ hw) (fun _ h => h) hv d (kk H locs ls hP hD hS hl)
theorem at_put (X : mm_Cx E G cc nL own Ts rm ret) {N idx a : Nat} {C : String} {T : u_T} (ci k : Nat) {v : Value} {σ' : mm_M} (ha : mm_Is G ci a) (hci : ci < 5) (hc : vwCl[ci]? = some (C, T, N)) (hin : ∀ w ∈ u_ws C T N, w ∈ Ts) (ty0 : Nat → FieldType) (hty : ∀ k, k < N → parseFieldDescriptor (T k).2.2.1 = some (ty0 k)) (hnm : ∀ a, a < N → ∀ b, b < N → a ≠ b → (T a).2.1 ≠ (T b).2.1) (hk : k < N) (hw : Cond.fieldLink own idx (T k).1 (T k).2.1 (T k).2.2.1 ∈ Ts) (hfin : (T k).2.2.2 = false) {ty : FieldType} (hd : parseFieldDescriptor (T k).2.2.1 = some ty) (hn : narrow ty v = v) (hfit : fits ty v = true) (hl2 : k < (mm_fs G σ ci a).length) (hset : (mm_fs G σ ci a).set k v = mm_fs G σ' ci a) (hne : ∀ b, b ≠ a → σ'.1 b = σ.1 b ∧ σ'.2 b = σ.2 b) (d : decode cc pc = .ok (.putfield idx, 3)) (kk : mm_At E G nL Q σ' (pc + 3) lv st) : mm_At E G nL Q σ pc lv (v :: .ref a :: st) := by
  intro H locs ls hP hD hS hl
  obtain ⟨q0, hq0⟩ := mm_ws_get (G := G) (σ := σ) ha.1
  have hq := hq0
  rw [mm_cf_o ha.2 hci] at hq
  refine va_put X.hx X.hb X.ts hin ty0 hty hnm X.ho X.kk hP hD hS q0 hq hc k hk (X.ts _ hw) (fun _ h => h) hfin hd hn hfit hl2 d (fun H1 locs1 hP1 hD1 hS1 => ?_)
  rw [hset, mm_ws_set hD ha.1 hq0 (mm_cf_o ha.2 hci) hne] at hP1 hD1
  exact kk H1 locs1 ls hP1 hD1 hS1 hl
theorem at_iald (X : mm_Cx E G cc nL own Ts rm ret) {a : Nat} {i : Int32} (ha : mm_Is G 6 a) (hin : ¬ (i < 0 ∨ mm_N G a ≤ i.toNatClampNeg)) (d : decode cc pc = .ok (.iaload, 1)) (kk : mm_At E G nL Q σ (pc + 1) lv (.int (σ.1 a i.toNatClampNeg) :: st)) : mm_At E G nL Q σ pc lv (.int i :: .ref a :: st) := by
  intro H locs ls hP hD hS hl
  obtain ⟨q0, hq⟩ := mm_ws_get (G := G) (σ := σ) ha.1
  rw [mm_cf_n ha.2 (by decide) (by decide)] at hq
  exact va_iald X.hx X.hb X.kk hP q0 1 hq rfl hin d (kk H locs ls hP hD hS hl)
theorem at_bald (X : mm_Cx E G cc nL own Ts rm ret) {a : Nat} {i : Int32} (ha : mm_Is G 5 a) (hin : ¬ (i < 0 ∨ mm_N G a ≤ i.toNatClampNeg)) (d : decode cc pc = .ok (.baload, 1)) (kk : mm_At E G nL Q σ (pc + 1) lv (.int (σ.1 a i.toNatClampNeg) :: st)) : mm_At E G nL Q σ pc lv (.int i :: .ref a :: st) := by
  intro H locs ls hP hD hS hl
  obtain ⟨q0, hq⟩ := mm_ws_get (G := G) (σ := σ) ha.1
  rw [mm_cf_n ha.2 (by decide) (by decide)] at hq
  exact va_bald X.hx X.hb X.kk hP q0 0 hq rfl hin d (kk H locs ls hP hD hS hl)
theorem at_aald (X : mm_Cx E G cc nL own Ts rm ret) {a : Nat} {i : Int32} (ci t0 : Nat) {ty : FieldType} (ha : mm_Is G ci a) (h5 : ¬ ci < 5) (h7 : ¬ ci < 7) (ht : (mm_tys G)[t0]? = some (mm_C G ci, ty)) (hty : ty.isReference = true) (hin : ¬ (i < 0 ∨ mm_N G a ≤ i.toNatClampNeg)) (d : decode cc pc = .ok (.aaload, 1)) (kk : mm_At E G nL Q σ (pc + 1) lv (.ref (mm_R G a i.toNatClampNeg) :: st)) : mm_At E G nL Q σ pc lv (.int i :: .ref a :: st) := by
  intro H locs ls hP hD hS hl
  obtain ⟨q0, hq⟩ := mm_ws_get (G := G) (σ := σ) ha.1
  rw [mm_cf_q ha.2 h5 h7] at hq
  have hlt : i.toNatClampNeg < mm_N G a := Nat.not_le.mp fun q => hin (Or.inr q)
  exact W.aald (v := .ref (mm_R G a i.toNatClampNeg)) (ty := ty) X.hx X.hb (hP q0 _ hq) ((X.kk.2 t0 _ ht).1 (mm_N G a) (fun j => va_rf (some (mm_R G a j)))) hty (fun q => by cases q) (by show ¬ (i < 0 ∨ (arrV _ _ _).slots.size ≤ _); rw [arrV_size]; exact hin) (by show (arrV _ _ _).slots[_]? = _; rw [arrV_read _ _ hlt]; rfl) rfl rfl d (kk H locs ls hP hD hS hl)
theorem at_alen (X : mm_Cx E G cc nL own Ts rm ret) {a : Nat} (ha : mm_Is G 6 a) (d : decode cc pc = .ok (.arraylength, 1)) (kk : mm_At E G nL Q σ (pc + 1) lv (.int (Int32.ofNat (mm_N G a)) :: st)) : mm_At E G nL Q σ pc lv (.ref a :: st) := by
  intro H locs ls hP hD hS hl
  obtain ⟨q0, hq⟩ := mm_ws_get (G := G) (σ := σ) ha.1
  rw [mm_cf_n ha.2 (by decide) (by decide)] at hq
  exact va_alen X.hx X.hb X.kk hP q0 1 hq (ty := .int) rfl rfl d (kk H locs ls hP hD hS hl)
theorem mm_upA (σ : mm_M) (a i : Nat) (x : Int32) : (mm_up σ a i x).1 a = upd (σ.1 a) i x := by
  funext k
  by_cases h : k = i
  · subst h; simp [mm_up, upd]
  · simp [mm_up, upd, h]
theorem at_iast (X : mm_Cx E G cc nL own Ts rm ret) {a : Nat} {i x : Int32} (ha : mm_Is G 6 a) (hin : ¬ (i < 0 ∨ mm_N G a ≤ i.toNatClampNeg)) (d : decode cc pc = .ok (.iastore, 1)) (kk : mm_At E G nL Q (mm_up σ a i.toNatClampNeg x) (pc + 1) lv st) : mm_At E G nL Q σ pc lv (.int x :: .int i :: .ref a :: st) := by
  intro H locs ls hP hD hS hl
  obtain ⟨q0, hq0⟩ := mm_ws_get (G := G) (σ := σ) ha.1
  have hq := hq0
  rw [mm_cf_n ha.2 (by decide) (by decide)] at hq
  refine va_iast X.hx X.hb X.kk hP hD hS q0 1 hq rfl hin d (fun H1 locs1 hP1 hD1 hS1 => ?_)
  rw [mm_ws_set hD ha.1 hq0 (σ' := mm_up σ a i.toNatClampNeg x) (by rw [mm_cf_n ha.2 (by decide) (by decide), mm_upA]) mm_up_ne] at hP1 hD1
  exact kk H1 locs1 ls hP1 hD1 hS1 hl
theorem at_bast (X : mm_Cx E G cc nL own Ts rm ret) {a : Nat} {i x : Int32} (ha : mm_Is G 5 a) (hin : ¬ (i < 0 ∨ mm_N G a ≤ i.toNatClampNeg)) (d : decode cc pc = .ok (.bastore, 1)) (kk : mm_At E G nL Q (mm_up σ a i.toNatClampNeg (vp_nar .byte x)) (pc + 1) lv st) : mm_At E G nL Q σ pc lv (.int x :: .int i :: .ref a :: st) := by
  intro H locs ls hP hD hS hl
  obtain ⟨q0, hq0⟩ := mm_ws_get (G := G) (σ := σ) ha.1
  have hq := hq0
  rw [mm_cf_n ha.2 (by decide) (by decide)] at hq
  refine va_bast X.hx X.hb X.kk hP hD hS q0 0 hq rfl hin d (fun H1 locs1 hP1 hD1 hS1 => ?_)
  rw [mm_ws_set hD ha.1 hq0 (σ' := mm_up σ a i.toNatClampNeg (vp_nar .byte x)) (by rw [mm_cf_n ha.2 (by decide) (by decide), mm_upA]) mm_up_ne] at hP1 hD1
  exact kk H1 locs1 ls hP1 hD1 hS1 hl
theorem at_gets0 (X : mm_Cx E G cc nL own Ts rm ret) (ho : own = RX2) (d : decode cc pc = .ok (.getstatic 30, 3)) (kk : mm_At E G nL Q σ (pc + 3) lv (.ref (mm_T G 0) :: st)) : mm_At E G nL Q σ pc lv st := fun H locs ls hP hD hS hl => va_getsN X.hx X.hb (mm_Zn X.sx.1.1) hS X.ho (show (Cond.fieldLinkNest own 30 "AirTalkers" "KIND_ABOVE" "[I" "AirTalkers").before (eA E) (eS E) = true by rw [ho]; exact va_Nw.use rfl X.sx.1.2.2) (fun _ h => h) d (kk H locs ls hP hD hS hl)
theorem at_gets1 (X : mm_Cx E G cc nL own Ts rm ret) (ho : own = RX0) (d : decode cc pc = .ok (.getstatic 62, 3)) (kk : mm_At E G nL Q σ (pc + 3) lv (.ref (mm_T G 1) :: st)) : mm_At E G nL Q σ pc lv st := fun H locs ls hP hD hS hl => va_getsN X.hx X.hb (mm_Zn X.sx.2.1) hS X.ho (show (Cond.fieldLinkNest own 62 "AirTalkers" "KIND_LETTERS" "[I" "AirTalkers").before (eA E) (eS E) = true by rw [ho]; exact va_Nw.use rfl X.sx.2.2.2) (fun _ h => h) d (kk H locs ls hP hD hS hl)
theorem at_tab0 (X : mm_Cx E G cc nL own Ts rm ret) {i : Int32} (hin : ¬ (i < 0 ∨ 6 ≤ i.toNatClampNeg)) (d : decode cc pc = .ok (.iaload, 1)) (kk : mm_At E G nL Q σ (pc + 1) lv (.int (mm_tab 0 i.toNatClampNeg) :: st)) : mm_At E G nL Q σ pc lv (.int i :: .ref (mm_T G 0) :: st) := fun H locs ls hP hD hS hl => va_ti X.hx X.hb (mm_Tn X.sx.1.2.1) hS hin rfl d (kk H locs ls hP hD hS hl)
theorem at_tab1 (X : mm_Cx E G cc nL own Ts rm ret) {i : Int32} (hin : ¬ (i < 0 ∨ 6 ≤ i.toNatClampNeg)) (d : decode cc pc = .ok (.iaload, 1)) (kk : mm_At E G nL Q σ (pc + 1) lv (.int (mm_tab 1 i.toNatClampNeg) :: st)) : mm_At E G nL Q σ pc lv (.int i :: .ref (mm_T G 1) :: st) := fun H locs ls hP hD hS hl => va_ti X.hx X.hb (mm_Tn X.sx.2.2.1) hS hin rfl d (kk H locs ls hP hD hS hl)
theorem at_mmax (X : mm_Cx E G cc nL own Ts rm ret) {idx : Nat} {x y : Int32} (h1 : Cond.methodLink own idx Lib.Math.max.name ∈ Ts) (h2 : Cond.static Lib.Math.max.name ∈ Ts) (h3 : Cond.initialized "java/lang/Math" ∈ Ts) (h4 : Cond.code Lib.Math.max.name Lib.Math.max.code 2 (some .int) ∈ Ts) (hf : 1 ≤ rm.frames) (hlo : (st.map fun v => v.category).sum + 13 ≤ rm.locals) (d : decode cc pc = .ok (.invokestatic idx, 3)) (kk : mm_At E G nL Q σ (pc + 3) lv (.int (if x < y then y else x) :: st)) : mm_At E G nL Q σ pc lv (.int y :: .int x :: st) := fun H locs ls hP hD hS hl => va_mmax X.hx X.hb (X.ml.trans hl.1.symm) X.ho (X.ts _ h1) (X.ts _ h2) (X.ts _ h3) (X.ts _ h4) (by rw [X.ro]; exact hf) (by rw [X.ro]; exact hlo) X.cz.1 X.cz.2 d (kk H locs ls hP hD hS hl)
theorem at_mmin (X : mm_Cx E G cc nL own Ts rm ret) {idx : Nat} {x y : Int32} (h1 : Cond.methodLink own idx Lib.Math.min.name ∈ Ts) (h2 : Cond.static Lib.Math.min.name ∈ Ts) (h3 : Cond.initialized "java/lang/Math" ∈ Ts) (h4 : Cond.code Lib.Math.min.name Lib.Math.min.code 2 (some .int) ∈ Ts) (hf : 1 ≤ rm.frames) (hlo : (st.map fun v => v.category).sum + 13 ≤ rm.locals) (d : decode cc pc = .ok (.invokestatic idx, 3)) (kk : mm_At E G nL Q σ (pc + 3) lv (.int (if y < x then y else x) :: st)) : mm_At E G nL Q σ pc lv (.int y :: .int x :: st) := fun H locs ls hP hD hS hl => va_mmin X.hx X.hb (X.ml.trans hl.1.symm) X.ho (X.ts _ h1) (X.ts _ h2) (X.ts _ h3) (X.ts _ h4) (by rw [X.ro]; exact hf) (by rw [X.ro]; exact hlo) X.cz.1 X.cz.2 d (kk H locs ls hP hD hS hl)
theorem mm_cpyA (σ : mm_M) (a0 a sp dp n : Nat) : (mm_cpy σ a0 a sp dp n).1 a = va_cpy (σ.1 a0) (σ.1 a) sp dp n := funext fun k => if_pos rfl
theorem at_acopy (X : mm_Cx E G cc nL own Ts rm ret) {idx a0 a : Nat} {sp dp n : Int32} (h1 : Cond.methodLink own idx arraycopyName ∈ Ts) (h2 : Cond.native arraycopyName ∈ Ts) (h3 : Cond.static arraycopyName ∈ Ts) (h4 : Cond.initialized "java/lang/System" ∈ Ts) (hf : 1 ≤ rm.frames) (hlo : (st.map fun v => v.category).sum + (nativeFrameWords "java/lang/System" "arraycopy" 5 + 11) ≤ rm.locals) (ha0 : mm_Is G 6 a0) (ha : mm_Is G 6 a) (hok : ¬ (sp < 0 ∨ dp < 0 ∨ n < 0 ∨ mm_N G a0 < sp.toNatClampNeg + n.toNatClampNeg ∨ mm_N G a < dp.toNatClampNeg + n.toNatClampNeg)) (d : decode cc pc = .ok (.invokestatic idx, 3)) (kk : mm_At E G nL Q (mm_cpy σ a0 a sp.toNatClampNeg dp.toNatClampNeg n.toNatClampNeg) (pc + 3) lv st) : mm_At E G nL Q σ pc lv (.int n :: .int dp :: .ref a :: .int sp :: .ref a0 :: st) := by
  intro H locs ls hP hD hS hl
  obtain ⟨q0, hq0⟩ := mm_ws_get (G := G) (σ := σ) ha0.1
  obtain ⟨q1, hq1⟩ := mm_ws_get (G := G) (σ := σ) ha.1
  have hq := hq1
  rw [mm_cf_n ha0.2 (by decide) (by decide)] at hq0
  rw [mm_cf_n ha.2 (by decide) (by decide)] at hq
  refine va_copyi X.hx X.hb (X.ml.trans hl.1.symm) X.ho (X.ts _ h1) (X.ts _ h2) (X.ts _ h3) (X.ts _ h4) X.kk hP hD hS q0 q1 1 1 hq0 hq (ty := .int) rfl rfl rfl (fun h => hok (Or.inl h)) (fun h => hok (Or.inr (Or.inl h))) (fun h => hok (Or.inr (Or.inr (Or.inl h)))) (Nat.not_lt.mp fun h => hok (Or.inr (Or.inr (Or.inr (Or.inl h))))) (Nat.not_lt.mp fun h => hok (Or.inr (Or.inr (Or.inr (Or.inr h))))) (fun _ _ => rfl) (by rw [X.ro]; exact hf) (by rw [X.ro]; exact hlo) d (fun H1 locs1 hP1 hD1 hS1 => ?_)
  rw [mm_ws_set hD ha.1 hq1 (σ' := mm_cpy σ a0 a sp.toNatClampNeg dp.toNatClampNeg n.toNatClampNeg) (by rw [mm_cf_n ha.2 (by decide) (by decide), mm_cpyA]) mm_cpy_ne] at hP1 hD1
  exact kk H1 locs1 ls hP1 hD1 hS1 hl
/-! contracts -/
def mm_Pre (G : mm_G) (σ : mm_M) (sz : Nat) (U : State) : Prop := U.heap.size = sz ∧ va_P (mm_D G) vwCl (mm_ws G σ) U.heap ∧ va_K (mm_D G) vwCl (mm_tys G) U ∧ va_D (mm_A G sz) (mm_ws G σ) ∧ mm_St G U
def mm_Bp (G : mm_G) (u : mm_M) (t : State) : Prop := va_P (mm_D G) vwCl (mm_ws G u) t.heap
def mm_Mi (l : Launch) (y : MethodName) (ws : List Cond) (rm : Room) (G : mm_G) (av : List Value) (σ : mm_M) (q : Int32 × mm_M) : Prop := ∀ sz, Met l y ws rm (va_Pc av (mm_Pre G σ sz)) (va_Qi (fun r u => (r, u) = q) (mm_Bp G) (mm_A G sz)) 0 0 (mm_A G sz)
def mm_Ml (l : Launch) (y : MethodName) (ws : List Cond) (rm : Room) (G : mm_G) (av : List Value) (σ : mm_M) (q : Int64 × mm_M) : Prop := ∀ sz, Met l y ws rm (va_Pc av (mm_Pre G σ sz)) (va_Ql (fun r u => (r, u) = q) (mm_Bp G) (mm_A G sz)) 0 0 (mm_A G sz)
def mm_Mv (l : Launch) (y : MethodName) (ws : List Cond) (rm : Room) (G : mm_G) (av : List Value) (σ : mm_M) (q : mm_M) : Prop := ∀ sz, Met l y ws rm (va_Pc av (mm_Pre G σ sz)) (va_Qv (fun u => u = q) (mm_Bp G) (mm_A G sz)) 0 0 (mm_A G sz)
def mm_Qi (E : mm_E) (G : mm_G) (q : Int32 × mm_M) : State → Prop := MQ (eB E) (va_Qi (fun r u => (r, u) = q) (mm_Bp G) (mm_A G (eS E).heap.size)) (eA E) (eS E) (eK E) (eZ E) (mm_A G (eS E).heap.size)
def mm_Ql (E : mm_E) (G : mm_G) (q : Int64 × mm_M) : State → Prop := MQ (eB E) (va_Ql (fun r u => (r, u) = q) (mm_Bp G) (mm_A G (eS E).heap.size)) (eA E) (eS E) (eK E) (eZ E) (mm_A G (eS E).heap.size)
def mm_Qv (E : mm_E) (G : mm_G) (q : mm_M) : State → Prop := MQ (eB E) (va_Qv (fun u => u = q) (mm_Bp G) (mm_A G (eS E).heap.size)) (eA E) (eS E) (eK E) (eZ E) (mm_A G (eS E).heap.size)
theorem mm_blind {G : mm_G} {σ : mm_M} {sz : Nat} {av : List Value} : FrameBlind (va_Pc av (mm_Pre G σ sz)) := by
  intro a U g mk q
  obtain ⟨q0, q1, qP, qK, qD, q3, q4⟩ := q
  exact ⟨q0, q1, qP, va_K.moved (u := U) (U := U.calling g mk a) (Vm.Alike.refl U.vm) qK, qD, ⟨q3.1.moved (u := U) (U := U.calling g mk a) (Vm.Alike.refl U.vm), q3.2.1.moved (u := U) (U := U.calling g mk a) (Vm.Alike.refl U.vm), q3.2.2.same rfl rfl⟩, ⟨q4.1.moved (u := U) (U := U.calling g mk a) (Vm.Alike.refl U.vm), q4.2.1.moved (u := U) (U := U.calling g mk a) (Vm.Alike.refl U.vm), q4.2.2.same rfl rfl⟩⟩
theorem mm_pre (X : mm_Cx E G cc nL own Ts rm ret) {H : Heap} {locs : List Loc} {U : State} (hP : va_P (mm_D G) vwCl (mm_ws G σ) H) (hD : va_D (mm_A G (eS E).heap.size) (mm_ws G σ)) (hS : va_S (mm_A G (eS E).heap.size) (eS E).heap H locs) (hU : U.heap = H) (hW : (eS E).WarmedH U.vm) : mm_Pre G σ H.size U := ⟨by rw [hU], by rw [hU]; exact hP, va_K.moved hW.alike X.kk, mm_ws_A hD, X.sx.go hS hU hW⟩
theorem mm_sub {H0 H : Heap} {locs : List Loc} (hS : va_S (mm_A G H0.size) H0 H locs) (q : Nat) (h : mm_A G H.size q) : mm_A G H0.size q := h.elim Or.inl (fun h => Or.inr (Nat.le_trans hS.1 h))
theorem at_calli (X : mm_Cx E G cc nL own Ts rm ret) {y : MethodName} {ws ws' : List Cond} {rm2 : Room} {q : Int32 × mm_M} {C : String} {T : u_T} {N b idx n maxL : Nat} {bytes : ByteArray} {ret2 : Option FieldType} (ci : Nat) (As rest : List Value) (hM : mm_Mi (eL E) y ws rm2 G (.ref b :: As) σ q) (g : GoodIn Ts (wsV own idx C y ws)) (hw : ws = Cond.code y bytes maxL ret2 :: ws') (hz : rm2.cells = 0 ∧ rm2.slots = 0) (hd : y.cls = C ∧ y.cls ≠ "java/lang/invoke/MethodHandle" ∧ y.cls ≠ "java/lang/invoke/VarHandle" ∧ (parseMethodDescriptor y.desc).map (fun d => d.parameters.length) = some n) (hR : rm2.frames + 1 ≤ rm.frames ∧ 8 + (maxL + 11) + rm2.locals ≤ rm.locals) (hci : ci < 5) (hc : vwCl[ci]? = some (C, T, N)) (ha : mm_Is G ci b) (hn : As.length = n) (hst : st = As.reverse ++ .ref b :: rest) (h8 : (rest.map fun v => v.category).sum ≤ 8) (d : decode cc pc = .ok (.invokevirtual idx, 3)) (kk : mm_At E G nL Q q.2 (pc + 3) lv (.int q.1 :: rest)) : mm_At E G nL Q σ pc lv st := by
  intro H locs ls hP hD hS hl
  obtain ⟨q0, hq⟩ := mm_ws_get (G := G) (σ := σ) ha.1
  rw [mm_cf_o ha.2 hci] at hq
  refine va_calli (va_runV (As := As) (rest := rest) ⟨X.hx, X.hb, X.ml, X.ho, X.ts⟩ (hM H.size) (cwV n X.ts g hw hz.1 hz.2 hd (by rw [X.ro]; exact hR)) ⟨mm_blind, va_recv X.kk hP hc hq, fun U hU hW => ⟨rfl, mm_pre X hP hD hS hU hW⟩⟩ rfl hn hl.1 hst (lv_room h8) d X.cz) hS (fun q _ h => mm_sub hS q h) (fun q h => mm_sub hS q h) (fun r u t H1 locs1 ht hvm hw hB hz1 hk1 hS1 => ?_)
  subst hw
  have hB2 : va_P (mm_D G) vwCl _ t.heap := hB
  rw [ht] at hB2
  exact kk H1 locs1 ls hB2 (mm_ws_D hD) hS1 hl
theorem at_scalli (X : mm_Cx E G cc nL own Ts rm ret) {y : MethodName} {ws ws' : List Cond} {rm2 : Room} {q : Int32 × mm_M} {idx n maxL : Nat} {bytes : ByteArray} {ret2 : Option FieldType} (As rest : List Value) (hM : mm_Mi (eL E) y ws rm2 G As σ q) (g : GoodIn Ts (va_wsS own idx y ws)) (hw : ws = Cond.code y bytes maxL ret2 :: ws') (hz : rm2.cells = 0 ∧ rm2.slots = 0) (hd : y.cls ≠ "java/lang/invoke/MethodHandle" ∧ y.cls ≠ "java/lang/invoke/VarHandle" ∧ (parseMethodDescriptor y.desc).map (fun d => d.parameters.length) = some n) (hR : rm2.frames + 1 ≤ rm.frames ∧ 8 + (maxL + 11) + rm2.locals ≤ rm.locals) (hn : As.length = n) (hst : st = As.reverse ++ rest) (h8 : (rest.map fun v => v.category).sum ≤ 8) (d : decode cc pc = .ok (.invokestatic idx, 3)) (kk : mm_At E G nL Q q.2 (pc + 3) lv (.int q.1 :: rest)) : mm_At E G nL Q σ pc lv st := by
  intro H locs ls hP hD hS hl
  refine va_calli (va_runS (As := As) (rest := rest) ⟨X.hx, X.hb, X.ml, X.ho, X.ts⟩ (hM H.size) (va_cwS n X.ts g hw hz.1 hz.2 hd (by rw [X.ro]; exact hR)) ⟨mm_blind, fun U hU hW => ⟨rfl, mm_pre X hP hD hS hU hW⟩⟩ rfl hn hl.1 hst (lv_room h8) d X.cz) hS (fun q _ h => mm_sub hS q h) (fun q h => mm_sub hS q h) (fun r u t H1 locs1 ht hvm hw hB hz1 hk1 hS1 => ?_)
  subst hw
  have hB2 : va_P (mm_D G) vwCl _ t.heap := hB
  rw [ht] at hB2
  exact kk H1 locs1 ls hB2 (mm_ws_D hD) hS1 hl
theorem at_calll (X : mm_Cx E G cc nL own Ts rm ret) {y : MethodName} {ws ws' : List Cond} {rm2 : Room} {q : Int64 × mm_M} {C : String} {T : u_T} {N b idx n maxL : Nat} {bytes : ByteArray} {ret2 : Option FieldType} (ci : Nat) (As rest : List Value) (hM : mm_Ml (eL E) y ws rm2 G (.ref b :: As) σ q) (g : GoodIn Ts (wsV own idx C y ws)) (hw : ws = Cond.code y bytes maxL ret2 :: ws') (hz : rm2.cells = 0 ∧ rm2.slots = 0) (hd : y.cls = C ∧ y.cls ≠ "java/lang/invoke/MethodHandle" ∧ y.cls ≠ "java/lang/invoke/VarHandle" ∧ (parseMethodDescriptor y.desc).map (fun d => d.parameters.length) = some n) (hR : rm2.frames + 1 ≤ rm.frames ∧ 8 + (maxL + 11) + rm2.locals ≤ rm.locals) (hci : ci < 5) (hc : vwCl[ci]? = some (C, T, N)) (ha : mm_Is G ci b) (hn : As.length = n) (hst : st = As.reverse ++ .ref b :: rest) (h8 : (rest.map fun v => v.category).sum ≤ 8) (d : decode cc pc = .ok (.invokevirtual idx, 3)) (kk : mm_At E G nL Q q.2 (pc + 3) lv (.long q.1 :: rest)) : mm_At E G nL Q σ pc lv st := by
  intro H locs ls hP hD hS hl
  obtain ⟨q0, hq⟩ := mm_ws_get (G := G) (σ := σ) ha.1
  rw [mm_cf_o ha.2 hci] at hq
  refine va_calll (va_runV (As := As) (rest := rest) ⟨X.hx, X.hb, X.ml, X.ho, X.ts⟩ (hM H.size) (cwV n X.ts g hw hz.1 hz.2 hd (by rw [X.ro]; exact hR)) ⟨mm_blind, va_recv X.kk hP hc hq, fun U hU hW => ⟨rfl, mm_pre X hP hD hS hU hW⟩⟩ rfl hn hl.1 hst (lv_room h8) d X.cz) hS (fun q _ h => mm_sub hS q h) (fun q h => mm_sub hS q h) (fun r u t H1 locs1 ht hvm hw hB hz1 hk1 hS1 => ?_)
  subst hw
  have hB2 : va_P (mm_D G) vwCl _ t.heap := hB
  rw [ht] at hB2
  exact kk H1 locs1 ls hB2 (mm_ws_D hD) hS1 hl
theorem at_scalll (X : mm_Cx E G cc nL own Ts rm ret) {y : MethodName} {ws ws' : List Cond} {rm2 : Room} {q : Int64 × mm_M} {idx n maxL : Nat} {bytes : ByteArray} {ret2 : Option FieldType} (As rest : List Value) (hM : mm_Ml (eL E) y ws rm2 G As σ q) (g : GoodIn Ts (va_wsS own idx y ws)) (hw : ws = Cond.code y bytes maxL ret2 :: ws') (hz : rm2.cells = 0 ∧ rm2.slots = 0) (hd : y.cls ≠ "java/lang/invoke/MethodHandle" ∧ y.cls ≠ "java/lang/invoke/VarHandle" ∧ (parseMethodDescriptor y.desc).map (fun d => d.parameters.length) = some n) (hR : rm2.frames + 1 ≤ rm.frames ∧ 8 + (maxL + 11) + rm2.locals ≤ rm.locals) (hn : As.length = n) (hst : st = As.reverse ++ rest) (h8 : (rest.map fun v => v.category).sum ≤ 8) (d : decode cc pc = .ok (.invokestatic idx, 3)) (kk : mm_At E G nL Q q.2 (pc + 3) lv (.long q.1 :: rest)) : mm_At E G nL Q σ pc lv st := by
  intro H locs ls hP hD hS hl
  refine va_calll (va_runS (As := As) (rest := rest) ⟨X.hx, X.hb, X.ml, X.ho, X.ts⟩ (hM H.size) (va_cwS n X.ts g hw hz.1 hz.2 hd (by rw [X.ro]; exact hR)) ⟨mm_blind, fun U hU hW => ⟨rfl, mm_pre X hP hD hS hU hW⟩⟩ rfl hn hl.1 hst (lv_room h8) d X.cz) hS (fun q _ h => mm_sub hS q h) (fun q h => mm_sub hS q h) (fun r u t H1 locs1 ht hvm hw hB hz1 hk1 hS1 => ?_)
  subst hw
  have hB2 : va_P (mm_D G) vwCl _ t.heap := hB
  rw [ht] at hB2
  exact kk H1 locs1 ls hB2 (mm_ws_D hD) hS1 hl
theorem at_callv (X : mm_Cx E G cc nL own Ts rm ret) {y : MethodName} {ws ws' : List Cond} {rm2 : Room} {q : mm_M} {C : String} {T : u_T} {N b idx n maxL : Nat} {bytes : ByteArray} {ret2 : Option FieldType} (ci : Nat) (As rest : List Value) (hM : mm_Mv (eL E) y ws rm2 G (.ref b :: As) σ q) (g : GoodIn Ts (wsV own idx C y ws)) (hw : ws = Cond.code y bytes maxL ret2 :: ws') (hz : rm2.cells = 0 ∧ rm2.slots = 0) (hd : y.cls = C ∧ y.cls ≠ "java/lang/invoke/MethodHandle" ∧ y.cls ≠ "java/lang/invoke/VarHandle" ∧ (parseMethodDescriptor y.desc).map (fun d => d.parameters.length) = some n) (hR : rm2.frames + 1 ≤ rm.frames ∧ 8 + (maxL + 11) + rm2.locals ≤ rm.locals) (hci : ci < 5) (hc : vwCl[ci]? = some (C, T, N)) (ha : mm_Is G ci b) (hn : As.length = n) (hst : st = As.reverse ++ .ref b :: rest) (h8 : (rest.map fun v => v.category).sum ≤ 8) (d : decode cc pc = .ok (.invokevirtual idx, 3)) (kk : mm_At E G nL Q q (pc + 3) lv rest) : mm_At E G nL Q σ pc lv st := by
  intro H locs ls hP hD hS hl
  obtain ⟨q0, hq⟩ := mm_ws_get (G := G) (σ := σ) ha.1
  rw [mm_cf_o ha.2 hci] at hq
  refine va_callv (va_runV (As := As) (rest := rest) ⟨X.hx, X.hb, X.ml, X.ho, X.ts⟩ (hM H.size) (cwV n X.ts g hw hz.1 hz.2 hd (by rw [X.ro]; exact hR)) ⟨mm_blind, va_recv X.kk hP hc hq, fun U hU hW => ⟨rfl, mm_pre X hP hD hS hU hW⟩⟩ rfl hn hl.1 hst (lv_room h8) d X.cz) hS (fun q _ h => mm_sub hS q h) (fun q h => mm_sub hS q h) (fun u t H1 locs1 ht hvm hw hB hz1 hk1 hS1 => ?_)
  subst hw
  have hB2 : va_P (mm_D G) vwCl _ t.heap := hB
  rw [ht] at hB2
  exact kk H1 locs1 ls hB2 (mm_ws_D hD) hS1 hl
theorem at_scallv (X : mm_Cx E G cc nL own Ts rm ret) {y : MethodName} {ws ws' : List Cond} {rm2 : Room} {q : mm_M} {idx n maxL : Nat} {bytes : ByteArray} {ret2 : Option FieldType} (As rest : List Value) (hM : mm_Mv (eL E) y ws rm2 G As σ q) (g : GoodIn Ts (va_wsS own idx y ws)) (hw : ws = Cond.code y bytes maxL ret2 :: ws') (hz : rm2.cells = 0 ∧ rm2.slots = 0) (hd : y.cls ≠ "java/lang/invoke/MethodHandle" ∧ y.cls ≠ "java/lang/invoke/VarHandle" ∧ (parseMethodDescriptor y.desc).map (fun d => d.parameters.length) = some n) (hR : rm2.frames + 1 ≤ rm.frames ∧ 8 + (maxL + 11) + rm2.locals ≤ rm.locals) (hn : As.length = n) (hst : st = As.reverse ++ rest) (h8 : (rest.map fun v => v.category).sum ≤ 8) (d : decode cc pc = .ok (.invokestatic idx, 3)) (kk : mm_At E G nL Q q (pc + 3) lv rest) : mm_At E G nL Q σ pc lv st := by
  intro H locs ls hP hD hS hl
  refine va_callv (va_runS (As := As) (rest := rest) ⟨X.hx, X.hb, X.ml, X.ho, X.ts⟩ (hM H.size) (va_cwS n X.ts g hw hz.1 hz.2 hd (by rw [X.ro]; exact hR)) ⟨mm_blind, fun U hU hW => ⟨rfl, mm_pre X hP hD hS hU hW⟩⟩ rfl hn hl.1 hst (lv_room h8) d X.cz) hS (fun q _ h => mm_sub hS q h) (fun q h => mm_sub hS q h) (fun u t H1 locs1 ht hvm hw hB hz1 hk1 hS1 => ?_)
  subst hw
  have hB2 : va_P (mm_D G) vwCl _ t.heap := hB
  rw [ht] at hB2
  exact kk H1 locs1 ls hB2 (mm_ws_D hD) hS1 hl
theorem at_iret (X : mm_Cx E G cc nL own Ts rm (some .int)) {v : Int32} {q : Int32 × mm_M} (h : (v, σ) = q) (d : decode cc pc = .ok (.ireturn, 1)) : mm_At E G nL (mm_Qi E G q) σ pc lv [.int v] := fun H locs ls hP hD hS hl => W.iret X.hx X.hb X.rt (fun t ht hW => ⟨⟨v, σ, rfl, h, by show va_P _ _ _ t.heap; rw [ht]; exact hP⟩, hS.F ht⟩) hS.2.2 d (hlocks := X.lk)
theorem mm_z01 {v : Int32} (h : v = 0 ∨ v = 1) : narrow .boolean (.int v) = .int v := by rcases h with rfl | rfl <;> rfl
theorem mm_f01 {v : Int32} (h : v = 0 ∨ v = 1) : fits .boolean (.int v) = true := by rcases h with rfl | rfl <;> rfl
theorem at_zret (X : mm_Cx E G cc nL own Ts rm (some .boolean)) {v : Int32} {q : Int32 × mm_M} (h0 : v = 0 ∨ v = 1) (h : (v, σ) = q) (d : decode cc pc = .ok (.ireturn, 1)) : mm_At E G nL (mm_Qi E G q) σ pc lv [.int v] := fun H locs ls hP hD hS hl => W.zret X.hx X.hb X.rt (mm_z01 h0) (fun t ht hW => ⟨⟨v, σ, rfl, h, by show va_P _ _ _ t.heap; rw [ht]; exact hP⟩, hS.F ht⟩) hS.2.2 d (hlocks := X.lk)
theorem at_lret (X : mm_Cx E G cc nL own Ts rm (some .long)) {v : Int64} {q : Int64 × mm_M} (h : (v, σ) = q) (d : decode cc pc = .ok (.lreturn, 1)) : mm_At E G nL (mm_Ql E G q) σ pc lv [.long v] := fun H locs ls hP hD hS hl => W.lret X.hx X.hb X.rt (fun t ht hW => ⟨⟨v, σ, rfl, h, by show va_P _ _ _ t.heap; rw [ht]; exact hP⟩, hS.F ht⟩) hS.2.2 d (hlocks := X.lk)
theorem at_vret (X : mm_Cx E G cc nL own Ts rm none) {q : mm_M} (h : σ = q) (d : decode cc pc = .ok (.return_, 1)) : mm_At E G nL (mm_Qv E G q) σ pc lv [] := fun H locs ls hP hD hS hl => W.vret X.hx X.hb X.rt (fun t ht hW => ⟨⟨σ, rfl, h, by show va_P _ _ _ t.heap; rw [ht]; exact hP⟩, hS.F ht⟩) hS.2.2 d (hlocks := X.lk)
theorem mm_01 {c : Prop} {i : Decidable c} : (@ite Int32 c i 1 0) = 0 ∨ (@ite Int32 c i 1 0) = 1 := by by_cases h : c <;> simp [h]
theorem mm_ofi {l : Launch} {y : MethodName} {ws ws' : List Cond} {av : List Value} {q : Int32 × mm_M} {lv0 : List (Nat × Value)} (hy : plainName y.cls = true) (hw : ws = Cond.code y cc nL ret :: ws') (ho : y.cls = own) (hv : (lg_sl av).length ≤ nL) (hl0 : lv_args 0 av = lv0) (hwf : mm_WF G) (body : ∀ E : mm_E, eL E = l → mm_Cx E G cc nL own ws rm ret → mm_At E G nL (mm_Qi E G q) σ 0 lv0 []) : mm_Mi l y ws rm G av σ q := by
  intro sz
  refine Met.ofW (cc := cc) (maxL := nL) (ret := ret) hy hw ?_
  intro p e s m args below meth c s₁ B hml hpre
  obtain ⟨rfl, hsz, hP, hK, hD, hSt⟩ := hpre
  subst hsz
  subst ho
  have hl := lv_entry av (n := nL) hv
  rw [lg_entry_eq]
  rw [hl0] at hl
  exact body (p, l, e, rm, s, m, av.toArray, below, meth, c, 0, 0) rfl ⟨B.exec, B.bytes, hml, findClass_of_methodNamed B.named, atoms_spec (ws := ws) B.pre, hK, hSt, hwf, B.notSynchronized, rfl, B.returns, Nat.zero_le _, Nat.zero_le _⟩ s.heap [] _ hP hD va_S.rf hl
theorem mm_ofl {l : Launch} {y : MethodName} {ws ws' : List Cond} {av : List Value} {q : Int64 × mm_M} {lv0 : List (Nat × Value)} (hy : plainName y.cls = true) (hw : ws = Cond.code y cc nL ret :: ws') (ho : y.cls = own) (hv : (lg_sl av).length ≤ nL) (hl0 : lv_args 0 av = lv0) (hwf : mm_WF G) (body : ∀ E : mm_E, eL E = l → mm_Cx E G cc nL own ws rm ret → mm_At E G nL (mm_Ql E G q) σ 0 lv0 []) : mm_Ml l y ws rm G av σ q := by
  intro sz
  refine Met.ofW (cc := cc) (maxL := nL) (ret := ret) hy hw ?_
  intro p e s m args below meth c s₁ B hml hpre
  obtain ⟨rfl, hsz, hP, hK, hD, hSt⟩ := hpre
  subst hsz
  subst ho
  have hl := lv_entry av (n := nL) hv
  rw [lg_entry_eq]
  rw [hl0] at hl
  exact body (p, l, e, rm, s, m, av.toArray, below, meth, c, 0, 0) rfl ⟨B.exec, B.bytes, hml, findClass_of_methodNamed B.named, atoms_spec (ws := ws) B.pre, hK, hSt, hwf, B.notSynchronized, rfl, B.returns, Nat.zero_le _, Nat.zero_le _⟩ s.heap [] _ hP hD va_S.rf hl
theorem mm_ofv {l : Launch} {y : MethodName} {ws ws' : List Cond} {av : List Value} {q : mm_M} {lv0 : List (Nat × Value)} (hy : plainName y.cls = true) (hw : ws = Cond.code y cc nL ret :: ws') (ho : y.cls = own) (hv : (lg_sl av).length ≤ nL) (hl0 : lv_args 0 av = lv0) (hwf : mm_WF G) (body : ∀ E : mm_E, eL E = l → mm_Cx E G cc nL own ws rm ret → mm_At E G nL (mm_Qv E G q) σ 0 lv0 []) : mm_Mv l y ws rm G av σ q := by
  intro sz
  refine Met.ofW (cc := cc) (maxL := nL) (ret := ret) hy hw ?_
  intro p e s m args below meth c s₁ B hml hpre
  obtain ⟨rfl, hsz, hP, hK, hD, hSt⟩ := hpre
  subst hsz
  subst ho
  have hl := lv_entry av (n := nL) hv
  rw [lg_entry_eq]
  rw [hl0] at hl
  exact body (p, l, e, rm, s, m, av.toArray, below, meth, c, 0, 0) rfl ⟨B.exec, B.bytes, hml, findClass_of_methodNamed B.named, atoms_spec (ws := ws) B.pre, hK, hSt, hwf, B.notSynchronized, rfl, B.returns, Nat.zero_le _, Nat.zero_le _⟩ s.heap [] _ hP hD va_S.rf hl
end MMR
end
section
/-! numbers, switches, references that lead where they should -/
theorem ic_m1 : Int32.ofInt (-1) = (-1 : Int32) := by decide
theorem ic_0 : Int32.ofInt (0) = (0 : Int32) := by decide
theorem ic_1 : Int32.ofInt (1) = (1 : Int32) := by decide
theorem ic_2 : Int32.ofInt (2) = (2 : Int32) := by decide
theorem ic_3 : Int32.ofInt (3) = (3 : Int32) := by decide
theorem ic_4 : Int32.ofInt (4) = (4 : Int32) := by decide
theorem ic_5 : Int32.ofInt (5) = (5 : Int32) := by decide
theorem ib_m9 : (Int8.ofInt (-9)).toInt32 = (-9 : Int32) := by decide
theorem ib_m6 : (Int8.ofInt (-6)).toInt32 = (-6 : Int32) := by decide
theorem ib_m4 : (Int8.ofInt (-4)).toInt32 = (-4 : Int32) := by decide
theorem ib_m3 : (Int8.ofInt (-3)).toInt32 = (-3 : Int32) := by decide
theorem ib_m2 : (Int8.ofInt (-2)).toInt32 = (-2 : Int32) := by decide
theorem ib_6 : (Int8.ofInt (6)).toInt32 = (6 : Int32) := by decide
theorem ib_7 : (Int8.ofInt (7)).toInt32 = (7 : Int32) := by decide
theorem ib_8 : (Int8.ofInt (8)).toInt32 = (8 : Int32) := by decide
theorem ib_9 : (Int8.ofInt (9)).toInt32 = (9 : Int32) := by decide
theorem ib_10 : (Int8.ofInt (10)).toInt32 = (10 : Int32) := by decide
theorem ib_11 : (Int8.ofInt (11)).toInt32 = (11 : Int32) := by decide
theorem ib_12 : (Int8.ofInt (12)).toInt32 = (12 : Int32) := by decide
theorem ib_16 : (Int8.ofInt (16)).toInt32 = (16 : Int32) := by decide
theorem ib_18 : (Int8.ofInt (18)).toInt32 = (18 : Int32) := by decide
theorem ib_20 : (Int8.ofInt (20)).toInt32 = (20 : Int32) := by decide
theorem ib_21 : (Int8.ofInt (21)).toInt32 = (21 : Int32) := by decide
theorem ib_25 : (Int8.ofInt (25)).toInt32 = (25 : Int32) := by decide
theorem ib_30 : (Int8.ofInt (30)).toInt32 = (30 : Int32) := by decide
theorem ib_32 : (Int8.ofInt (32)).toInt32 = (32 : Int32) := by decide
theorem ib_33 : (Int8.ofInt (33)).toInt32 = (33 : Int32) := by decide
theorem ib_40 : (Int8.ofInt (40)).toInt32 = (40 : Int32) := by decide
theorem ib_47 : (Int8.ofInt (47)).toInt32 = (47 : Int32) := by decide
theorem ib_48 : (Int8.ofInt (48)).toInt32 = (48 : Int32) := by decide
theorem ib_49 : (Int8.ofInt (49)).toInt32 = (49 : Int32) := by decide
theorem ib_57 : (Int8.ofInt (57)).toInt32 = (57 : Int32) := by decide
theorem ib_60 : (Int8.ofInt (60)).toInt32 = (60 : Int32) := by decide
theorem ib_63 : (Int8.ofInt (63)).toInt32 = (63 : Int32) := by decide
theorem ib_64 : (Int8.ofInt (64)).toInt32 = (64 : Int32) := by decide
theorem ib_99 : (Int8.ofInt (99)).toInt32 = (99 : Int32) := by decide
theorem ib_100 : (Int8.ofInt (100)).toInt32 = (100 : Int32) := by decide
theorem ib_108 : (Int8.ofInt (108)).toInt32 = (108 : Int32) := by decide
theorem ib_111 : (Int8.ofInt (111)).toInt32 = (111 : Int32) := by decide
theorem ib_112 : (Int8.ofInt (112)).toInt32 = (112 : Int32) := by decide
theorem ib_115 : (Int8.ofInt (115)).toInt32 = (115 : Int32) := by decide
theorem ib_121 : (Int8.ofInt (121)).toInt32 = (121 : Int32) := by decide
theorem is_m1000 : (Int16.ofInt (-1000)).toInt32 = (-1000 : Int32) := by decide
theorem is_199 : (Int16.ofInt (199)).toInt32 = (199 : Int32) := by decide
theorem is_200 : (Int16.ofInt (200)).toInt32 = (200 : Int32) := by decide
theorem is_201 : (Int16.ofInt (201)).toInt32 = (201 : Int32) := by decide
theorem is_999 : (Int16.ofInt (999)).toInt32 = (999 : Int32) := by decide
theorem is_1000 : (Int16.ofInt (1000)).toInt32 = (1000 : Int32) := by decide
theorem ii_1 (x : Int32) : x + Int32.ofInt (1) = x + 1 := rfl
theorem ii_4 (x : Int32) : x + Int32.ofInt (4) = x + 4 := rfl
theorem ii_6 (x : Int32) : x + Int32.ofInt (6) = x + 6 := rfl
theorem sw_0_5 {x : Int32} (c0 : ¬ x = 0) (c1 : ¬ x = 1) (c2 : ¬ x = 2) (c3 : ¬ x = 3) (c4 : ¬ x = 4) (c5 : ¬ x = 5) : x.toInt < 0 ∨ 5 < x.toInt := by
  have h0 := lv_neT c0 (a := 0) (by decide)
  have h1 := lv_neT c1 (a := 1) (by decide)
  have h2 := lv_neT c2 (a := 2) (by decide)
  have h3 := lv_neT c3 (a := 3) (by decide)
  have h4 := lv_neT c4 (a := 4) (by decide)
  have h5 := lv_neT c5 (a := 5) (by decide)
  omega
theorem sw_0_10 {x : Int32} (c0 : ¬ x = 0) (c1 : ¬ x = 1) (c2 : ¬ x = 2) (c3 : ¬ x = 3) (c4 : ¬ x = 4) (c5 : ¬ x = 5) (c6 : ¬ x = 6) (c7 : ¬ x = 7) (c8 : ¬ x = 8) (c9 : ¬ x = 9) (c10 : ¬ x = 10) : x.toInt < 0 ∨ 10 < x.toInt := by
  have h0 := lv_neT c0 (a := 0) (by decide)
  have h1 := lv_neT c1 (a := 1) (by decide)
  have h2 := lv_neT c2 (a := 2) (by decide)
  have h3 := lv_neT c3 (a := 3) (by decide)
  have h4 := lv_neT c4 (a := 4) (by decide)
  have h5 := lv_neT c5 (a := 5) (by decide)
  have h6 := lv_neT c6 (a := 6) (by decide)
  have h7 := lv_neT c7 (a := 7) (by decide)
  have h8 := lv_neT c8 (a := 8) (by decide)
  have h9 := lv_neT c9 (a := 9) (by decide)
  have h10 := lv_neT c10 (a := 10) (by decide)
  omega
theorem sw_0_11 {x : Int32} (c0 : ¬ x = 0) (c1 : ¬ x = 1) (c2 : ¬ x = 2) (c3 : ¬ x = 3) (c4 : ¬ x = 4) (c5 : ¬ x = 5) (c6 : ¬ x = 6) (c7 : ¬ x = 7) (c8 : ¬ x = 8) (c9 : ¬ x = 9) (c10 : ¬ x = 10) (c11 : ¬ x = 11) : x.toInt < 0 ∨ 11 < x.toInt := by
  have h0 := lv_neT c0 (a := 0) (by decide)
  have h1 := lv_neT c1 (a := 1) (by decide)
  have h2 := lv_neT c2 (a := 2) (by decide)
  have h3 := lv_neT c3 (a := 3) (by decide)
  have h4 := lv_neT c4 (a := 4) (by decide)
  have h5 := lv_neT c5 (a := 5) (by decide)
  have h6 := lv_neT c6 (a := 6) (by decide)
  have h7 := lv_neT c7 (a := 7) (by decide)
  have h8 := lv_neT c8 (a := 8) (by decide)
  have h9 := lv_neT c9 (a := 9) (by decide)
  have h10 := lv_neT c10 (a := 10) (by decide)
  have h11 := lv_neT c11 (a := 11) (by decide)
  omega
theorem sw_1_4 {x : Int32} (c0 : ¬ x = 1) (c1 : ¬ x = 2) (c2 : ¬ x = 3) (c3 : ¬ x = 4) : x.toInt < 1 ∨ 4 < x.toInt := by
  have h0 := lv_neT c0 (a := 1) (by decide)
  have h1 := lv_neT c1 (a := 2) (by decide)
  have h2 := lv_neT c2 (a := 3) (by decide)
  have h3 := lv_neT c3 (a := 4) (by decide)
  omega
theorem sw_0_39 {x : Int32} (c0 : ¬ x = 0) (c1 : ¬ x = 1) (c2 : ¬ x = 2) (c3 : ¬ x = 3) (c4 : ¬ x = 4) (c5 : ¬ x = 5) (c6 : ¬ x = 6) (c7 : ¬ x = 7) (c8 : ¬ x = 8) (c9 : ¬ x = 9) (c10 : ¬ x = 10) (c11 : ¬ x = 11) (c12 : ¬ x = 12) (c13 : ¬ x = 13) (c14 : ¬ x = 14) (c15 : ¬ x = 15) (c16 : ¬ x = 16) (c17 : ¬ x = 17) (c18 : ¬ x = 18) (c19 : ¬ x = 19) (c20 : ¬ x = 20) (c21 : ¬ x = 21) (c22 : ¬ x = 22) (c23 : ¬ x = 23) (c24 : ¬ x = 24) (c25 : ¬ x = 25) (c26 : ¬ x = 26) (c27 : ¬ x = 27) (c28 : ¬ x = 28) (c29 : ¬ x = 29) (c30 : ¬ x = 30) (c31 : ¬ x = 31) (c32 : ¬ x = 32) (c33 : ¬ x = 33) (c34 : ¬ x = 34) (c35 : ¬ x = 35) (c36 : ¬ x = 36) (c37 : ¬ x = 37) (c38 : ¬ x = 38) (c39 : ¬ x = 39) : x.toInt < 0 ∨ 39 < x.toInt := by
  have h0 := lv_neT c0 (a := 0) (by decide)
  have h1 := lv_neT c1 (a := 1) (by decide)
  have h2 := lv_neT c2 (a := 2) (by decide)
  have h3 := lv_neT c3 (a := 3) (by decide)
  have h4 := lv_neT c4 (a := 4) (by decide)
  have h5 := lv_neT c5 (a := 5) (by decide)
  have h6 := lv_neT c6 (a := 6) (by decide)
  have h7 := lv_neT c7 (a := 7) (by decide)
  have h8 := lv_neT c8 (a := 8) (by decide)
  have h9 := lv_neT c9 (a := 9) (by decide)
  have h10 := lv_neT c10 (a := 10) (by decide)
  have h11 := lv_neT c11 (a := 11) (by decide)
  have h12 := lv_neT c12 (a := 12) (by decide)
  have h13 := lv_neT c13 (a := 13) (by decide)
  have h14 := lv_neT c14 (a := 14) (by decide)
  have h15 := lv_neT c15 (a := 15) (by decide)
  have h16 := lv_neT c16 (a := 16) (by decide)
  have h17 := lv_neT c17 (a := 17) (by decide)
  have h18 := lv_neT c18 (a := 18) (by decide)
  have h19 := lv_neT c19 (a := 19) (by decide)
  have h20 := lv_neT c20 (a := 20) (by decide)
  have h21 := lv_neT c21 (a := 21) (by decide)
  have h22 := lv_neT c22 (a := 22) (by decide)
  have h23 := lv_neT c23 (a := 23) (by decide)
  have h24 := lv_neT c24 (a := 24) (by decide)
  have h25 := lv_neT c25 (a := 25) (by decide)
  have h26 := lv_neT c26 (a := 26) (by decide)
  have h27 := lv_neT c27 (a := 27) (by decide)
  have h28 := lv_neT c28 (a := 28) (by decide)
  have h29 := lv_neT c29 (a := 29) (by decide)
  have h30 := lv_neT c30 (a := 30) (by decide)
  have h31 := lv_neT c31 (a := 31) (by decide)
  have h32 := lv_neT c32 (a := 32) (by decide)
  have h33 := lv_neT c33 (a := 33) (by decide)
  have h34 := lv_neT c34 (a := 34) (by decide)
  have h35 := lv_neT c35 (a := 35) (by decide)
  have h36 := lv_neT c36 (a := 36) (by decide)
  have h37 := lv_neT c37 (a := 37) (by decide)
  have h38 := lv_neT c38 (a := 38) (by decide)
  have h39 := lv_neT c39 (a := 39) (by decide)
  omega
theorem wf_0_0 {G : mm_G} {a : Nat} (w : mm_WF G) (h : mm_Is G 0 a) : mm_Is G 8 (mm_R G a 0) := w.1 a h
theorem wf_1_0 {G : mm_G} {a : Nat} (w : mm_WF G) (h : mm_Is G 1 a) : mm_Is G 6 (mm_R G a 0) := w.2.1 a h
theorem wf_3_0 {G : mm_G} {a : Nat} (w : mm_WF G) (h : mm_Is G 3 a) : mm_Is G 10 (mm_R G a 0) := (w.2.2.1 a h).1
theorem wf_3_1 {G : mm_G} {a : Nat} (w : mm_WF G) (h : mm_Is G 3 a) : mm_Is G 6 (mm_R G a 1) := (w.2.2.1 a h).2.1
theorem wf_3_2 {G : mm_G} {a : Nat} (w : mm_WF G) (h : mm_Is G 3 a) : mm_Is G 9 (mm_R G a 2) := (w.2.2.1 a h).2.2.1
theorem wf_3_3 {G : mm_G} {a : Nat} (w : mm_WF G) (h : mm_Is G 3 a) : mm_Is G 6 (mm_R G a 3) := (w.2.2.1 a h).2.2.2.1
theorem wf_3_4 {G : mm_G} {a : Nat} (w : mm_WF G) (h : mm_Is G 3 a) : mm_Is G 0 (mm_R G a 4) := (w.2.2.1 a h).2.2.2.2.1
theorem wf_3_5 {G : mm_G} {a : Nat} (w : mm_WF G) (h : mm_Is G 3 a) : mm_Is G 0 (mm_R G a 5) := (w.2.2.1 a h).2.2.2.2.2.1
theorem wf_3_6 {G : mm_G} {a : Nat} (w : mm_WF G) (h : mm_Is G 3 a) : mm_Is G 1 (mm_R G a 6) := (w.2.2.1 a h).2.2.2.2.2.2.1
theorem wf_3_7 {G : mm_G} {a : Nat} (w : mm_WF G) (h : mm_Is G 3 a) : mm_Is G 7 (mm_R G a 7) := (w.2.2.1 a h).2.2.2.2.2.2.2.1
theorem wf_3_8 {G : mm_G} {a : Nat} (w : mm_WF G) (h : mm_Is G 3 a) : mm_Is G 0 (mm_R G a 8) := (w.2.2.1 a h).2.2.2.2.2.2.2.2.1
theorem wf_3_9 {G : mm_G} {a : Nat} (w : mm_WF G) (h : mm_Is G 3 a) : mm_Is G 0 (mm_R G a 9) := (w.2.2.1 a h).2.2.2.2.2.2.2.2.2.1
theorem wf_3_10 {G : mm_G} {a : Nat} (w : mm_WF G) (h : mm_Is G 3 a) : mm_Is G 6 (mm_R G a 10) := (w.2.2.1 a h).2.2.2.2.2.2.2.2.2.2.1
theorem wf_3_11 {G : mm_G} {a : Nat} (w : mm_WF G) (h : mm_Is G 3 a) : mm_Is G 10 (mm_R G a 11) := (w.2.2.1 a h).2.2.2.2.2.2.2.2.2.2.2.1
theorem wf_3_16 {G : mm_G} {a : Nat} (w : mm_WF G) (h : mm_Is G 3 a) : mm_Is G 6 (mm_R G a 16) := (w.2.2.1 a h).2.2.2.2.2.2.2.2.2.2.2.2
theorem wf_4_0 {G : mm_G} {a : Nat} (w : mm_WF G) (h : mm_Is G 4 a) : mm_Is G 6 (mm_R G a 0) := (w.2.2.2.1 a h).1
theorem wf_4_1 {G : mm_G} {a : Nat} (w : mm_WF G) (h : mm_Is G 4 a) : mm_Is G 6 (mm_R G a 1) := (w.2.2.2.1 a h).2.1
theorem wf_4_2 {G : mm_G} {a : Nat} (w : mm_WF G) (h : mm_Is G 4 a) : mm_Is G 6 (mm_R G a 2) := (w.2.2.2.1 a h).2.2.1
theorem wf_4_3 {G : mm_G} {a : Nat} (w : mm_WF G) (h : mm_Is G 4 a) : mm_Is G 6 (mm_R G a 3) := (w.2.2.2.1 a h).2.2.2.1
theorem wf_4_4 {G : mm_G} {a : Nat} (w : mm_WF G) (h : mm_Is G 4 a) : mm_Is G 5 (mm_R G a 4) := (w.2.2.2.1 a h).2.2.2.2.1
theorem wf_4_5 {G : mm_G} {a : Nat} (w : mm_WF G) (h : mm_Is G 4 a) : mm_Is G 6 (mm_R G a 5) := (w.2.2.2.1 a h).2.2.2.2.2.1
theorem wf_4_6 {G : mm_G} {a : Nat} (w : mm_WF G) (h : mm_Is G 4 a) : mm_Is G 6 (mm_R G a 6) := (w.2.2.2.1 a h).2.2.2.2.2.2.1
theorem wf_4_7 {G : mm_G} {a : Nat} (w : mm_WF G) (h : mm_Is G 4 a) : mm_Is G 6 (mm_R G a 7) := (w.2.2.2.1 a h).2.2.2.2.2.2.2.1
theorem wf_4_8 {G : mm_G} {a : Nat} (w : mm_WF G) (h : mm_Is G 4 a) : mm_Is G 6 (mm_R G a 8) := (w.2.2.2.1 a h).2.2.2.2.2.2.2.2.1
theorem wf_4_9 {G : mm_G} {a : Nat} (w : mm_WF G) (h : mm_Is G 4 a) : mm_Is G 6 (mm_R G a 9) := (w.2.2.2.1 a h).2.2.2.2.2.2.2.2.2.1
theorem wf_4_11 {G : mm_G} {a : Nat} (w : mm_WF G) (h : mm_Is G 4 a) : mm_Is G 6 (mm_R G a 11) := (w.2.2.2.1 a h).2.2.2.2.2.2.2.2.2.2.1
theorem wf_4_12 {G : mm_G} {a : Nat} (w : mm_WF G) (h : mm_Is G 4 a) : mm_Is G 6 (mm_R G a 12) := (w.2.2.2.1 a h).2.2.2.2.2.2.2.2.2.2.2.1
theorem wf_4_13 {G : mm_G} {a : Nat} (w : mm_WF G) (h : mm_Is G 4 a) : mm_Is G 6 (mm_R G a 13) := (w.2.2.2.1 a h).2.2.2.2.2.2.2.2.2.2.2.2.1
theorem wf_4_18 {G : mm_G} {a : Nat} (w : mm_WF G) (h : mm_Is G 4 a) : mm_Is G 6 (mm_R G a 18) := (w.2.2.2.1 a h).2.2.2.2.2.2.2.2.2.2.2.2.2.1
theorem wf_4_19 {G : mm_G} {a : Nat} (w : mm_WF G) (h : mm_Is G 4 a) : mm_Is G 6 (mm_R G a 19) := (w.2.2.2.1 a h).2.2.2.2.2.2.2.2.2.2.2.2.2.2.1
theorem wf_4_20 {G : mm_G} {a : Nat} (w : mm_WF G) (h : mm_Is G 4 a) : mm_Is G 6 (mm_R G a 20) := (w.2.2.2.1 a h).2.2.2.2.2.2.2.2.2.2.2.2.2.2.2.1
theorem wf_4_21 {G : mm_G} {a : Nat} (w : mm_WF G) (h : mm_Is G 4 a) : mm_Is G 6 (mm_R G a 21) := (w.2.2.2.1 a h).2.2.2.2.2.2.2.2.2.2.2.2.2.2.2.2
theorem wf_7 {G : mm_G} {a : Nat} {i : Int32} (w : mm_WF G) (h : mm_Is G 7 a) (hi : ¬ (i < 0 ∨ mm_N G a ≤ i.toNatClampNeg)) : mm_Is G 1 (mm_R G a i.toNatClampNeg) := (w.2.2.2.2.1) a _ h (Nat.not_le.mp fun q => hi (Or.inr q))
theorem wf_8 {G : mm_G} {a : Nat} {i : Int32} (w : mm_WF G) (h : mm_Is G 8 a) (hi : ¬ (i < 0 ∨ mm_N G a ≤ i.toNatClampNeg)) : mm_Is G 2 (mm_R G a i.toNatClampNeg) := (w.2.2.2.2.2.1) a _ h (Nat.not_le.mp fun q => hi (Or.inr q))
theorem wf_9 {G : mm_G} {a : Nat} {i : Int32} (w : mm_WF G) (h : mm_Is G 9 a) (hi : ¬ (i < 0 ∨ mm_N G a ≤ i.toNatClampNeg)) : mm_Is G 5 (mm_R G a i.toNatClampNeg) := (w.2.2.2.2.2.2.1) a _ h (Nat.not_le.mp fun q => hi (Or.inr q))
theorem wf_10 {G : mm_G} {a : Nat} {i : Int32} (w : mm_WF G) (h : mm_Is G 10 a) (hi : ¬ (i < 0 ∨ mm_N G a ≤ i.toNatClampNeg)) : mm_Is G 6 (mm_R G a i.toNatClampNeg) := (w.2.2.2.2.2.2.2) a _ h (Nat.not_le.mp fun q => hi (Or.inr q))
end
section
/-! X2_become X0_become X0_has X0_sets X0_kindOf X2_rest X0_readStation X0_read X2_isOf X2_wants -/
theorem dX2_become_0 : decode cX2_become 0 = .ok (.aload_n 0, 1) := by decide +kernel
theorem dX2_become_1 : decode cX2_become 1 = .ok (.aload_n 1, 1) := by decide +kernel
theorem dX2_become_2 : decode cX2_become 2 = .ok (.getfield 9, 3) := by decide +kernel
theorem dX2_become_5 : decode cX2_become 5 = .ok (.putfield 9, 3) := by decide +kernel
theorem dX2_become_8 : decode cX2_become 8 = .ok (.aload_n 0, 1) := by decide +kernel
theorem dX2_become_9 : decode cX2_become 9 = .ok (.aload_n 1, 1) := by decide +kernel
theorem dX2_become_10 : decode cX2_become 10 = .ok (.getfield 15, 3) := by decide +kernel
theorem dX2_become_13 : decode cX2_become 13 = .ok (.putfield 15, 3) := by decide +kernel
theorem dX2_become_16 : decode cX2_become 16 = .ok (.aload_n 0, 1) := by decide +kernel
theorem dX2_become_17 : decode cX2_become 17 = .ok (.aload_n 1, 1) := by decide +kernel
theorem dX2_become_18 : decode cX2_become 18 = .ok (.getfield 18, 3) := by decide +kernel
theorem dX2_become_21 : decode cX2_become 21 = .ok (.putfield 18, 3) := by decide +kernel
theorem dX2_become_24 : decode cX2_become 24 = .ok (.aload_n 0, 1) := by decide +kernel
theorem dX2_become_25 : decode cX2_become 25 = .ok (.aload_n 1, 1) := by decide +kernel
theorem dX2_become_26 : decode cX2_become 26 = .ok (.getfield 21, 3) := by decide +kernel
theorem dX2_become_29 : decode cX2_become 29 = .ok (.putfield 21, 3) := by decide +kernel
theorem dX2_become_32 : decode cX2_become 32 = .ok (.aload_n 0, 1) := by decide +kernel
theorem dX2_become_33 : decode cX2_become 33 = .ok (.aload_n 1, 1) := by decide +kernel
theorem dX2_become_34 : decode cX2_become 34 = .ok (.getfield 24, 3) := by decide +kernel
theorem dX2_become_37 : decode cX2_become 37 = .ok (.putfield 24, 3) := by decide +kernel
theorem dX2_become_40 : decode cX2_become 40 = .ok (.aload_n 0, 1) := by decide +kernel
theorem dX2_become_41 : decode cX2_become 41 = .ok (.aload_n 1, 1) := by decide +kernel
theorem dX2_become_42 : decode cX2_become 42 = .ok (.getfield 27, 3) := by decide +kernel
theorem dX2_become_45 : decode cX2_become 45 = .ok (.putfield 27, 3) := by decide +kernel
theorem dX2_become_48 : decode cX2_become 48 = .ok (.return_, 1) := by decide +kernel
/-! X2_become (LAirTalkers$Station;)V -/
abbrev rmX2_become : Room := { frames := 0, cells := 0, slots := 0, locals := 0 }
theorem lkX2_become_0 : Cond.fieldLink RX2 9 (TX2 0).1 (TX2 0).2.1 (TX2 0).2.2.1 ∈ wsX2_become := by decide +kernel
theorem lkX2_become_1 : Cond.fieldLink RX2 15 (TX2 1).1 (TX2 1).2.1 (TX2 1).2.2.1 ∈ wsX2_become := by decide +kernel
theorem lkX2_become_2 : Cond.fieldLink RX2 18 (TX2 2).1 (TX2 2).2.1 (TX2 2).2.2.1 ∈ wsX2_become := by decide +kernel
theorem lkX2_become_3 : Cond.fieldLink RX2 21 (TX2 3).1 (TX2 3).2.1 (TX2 3).2.2.1 ∈ wsX2_become := by decide +kernel
theorem lkX2_become_4 : Cond.fieldLink RX2 24 (TX2 4).1 (TX2 4).2.1 (TX2 4).2.2.1 ∈ wsX2_become := by decide +kernel
theorem lkX2_become_5 : Cond.fieldLink RX2 27 (TX2 5).1 (TX2 5).2.1 (TX2 5).2.2.1 ∈ wsX2_become := by decide +kernel
theorem inX2_become_X2 : ∀ w ∈ u_ws RX2 TX2 6, w ∈ wsX2_become := by decide +kernel
noncomputable def fX2_become (G : mm_G) (a0 : Nat) (a1 : Nat) (σ : mm_M) : Option mm_M := some (mm_up (mm_up (mm_up (mm_up (mm_up (mm_up σ a0 0 (σ.1 a1 0)) a0 1 ((mm_up σ a0 0 (σ.1 a1 0)).1 a1 1)) a0 2 ((mm_up (mm_up σ a0 0 (σ.1 a1 0)) a0 1 ((mm_up σ a0 0 (σ.1 a1 0)).1 a1 1)).1 a1 2)) a0 3 ((mm_up (mm_up (mm_up σ a0 0 (σ.1 a1 0)) a0 1 ((mm_up σ a0 0 (σ.1 a1 0)).1 a1 1)) a0 2 ((mm_up (mm_up σ a0 0 (σ.1 a1 0)) a0 1 ((mm_up σ a0 0 (σ.1 a1 0)).1 a1 1)).1 a1 2)).1 a1 3)) a0 4 ((mm_up (mm_up (mm_up (mm_up σ a0 0 (σ.1 a1 0)) a0 1 ((mm_up σ a0 0 (σ.1 a1 0)).1 a1 1)) a0 2 ((mm_up (mm_up σ a0 0 (σ.1 a1 0)) a0 1 ((mm_up σ a0 0 (σ.1 a1 0)).1 a1 1)).1 a1 2)) a0 3 ((mm_up (mm_up (mm_up σ a0 0 (σ.1 a1 0)) a0 1 ((mm_up σ a0 0 (σ.1 a1 0)).1 a1 1)) a0 2 ((mm_up (mm_up σ a0 0 (σ.1 a1 0)) a0 1 ((mm_up σ a0 0 (σ.1 a1 0)).1 a1 1)).1 a1 2)).1 a1 3)).1 a1 4)) a0 5 ((mm_up (mm_up (mm_up (mm_up (mm_up σ a0 0 (σ.1 a1 0)) a0 1 ((mm_up σ a0 0 (σ.1 a1 0)).1 a1 1)) a0 2 ((mm_up (mm_up σ a0 0 (σ.1 a1 0)) a0 1 ((mm_up σ a0 0 (σ.1 a1 0)).1 a1 1)).1 a1 2)) a0 3 ((mm_up (mm_up (mm_up σ a0 0 (σ.1 a1 0)) a0 1 ((mm_up σ a0 0 (σ.1 a1 0)).1 a1 1)) a0 2 ((mm_up (mm_up σ a0 0 (σ.1 a1 0)) a0 1 ((mm_up σ a0 0 (σ.1 a1 0)).1 a1 1)).1 a1 2)).1 a1 3)) a0 4 ((mm_up (mm_up (mm_up (mm_up σ a0 0 (σ.1 a1 0)) a0 1 ((mm_up σ a0 0 (σ.1 a1 0)).1 a1 1)) a0 2 ((mm_up (mm_up σ a0 0 (σ.1 a1 0)) a0 1 ((mm_up σ a0 0 (σ.1 a1 0)).1 a1 1)).1 a1 2)) a0 3 ((mm_up (mm_up (mm_up σ a0 0 (σ.1 a1 0)) a0 1 ((mm_up σ a0 0 (σ.1 a1 0)).1 a1 1)) a0 2 ((mm_up (mm_up σ a0 0 (σ.1 a1 0)) a0 1 ((mm_up σ a0 0 (σ.1 a1 0)).1 a1 1)).1 a1 2)).1 a1 3)).1 a1 4)).1 a1 5))
set_option maxHeartbeats 4000000 in
set_option maxRecDepth 100000 in
theorem wX2_become_b0 {E : mm_E} {G : mm_G} (X : mm_Cx E G cX2_become 2 RX2 wsX2_become rmX2_become (none)) {a0 : Nat} {a1 : Nat} {σ : mm_M} {q : mm_M} (ha0 : mm_Is G 2 a0) (ha1 : mm_Is G 2 a1) (h : fX2_become G a0 a1 σ = some q) : mm_At E G 2 (mm_Qv E G q) σ 0 [(0, .ref a0), (1, .ref a1)] [] := by
  unfold fX2_become at h
  refine at_aload_n (pc := 0) X 0 0 dX2_become_0 rfl rfl ?_
  refine at_aload_n (pc := 1) X 1 1 dX2_become_1 rfl rfl ?_
  refine at_get (pc := 2) X 2 0 (.int (σ.1 a1 0)) ha1 (by decide) rfl inX2_become_X2 (by decide) lkX2_become_0 rfl dX2_become_2 ?_
  refine at_put (pc := 5) X 2 0 ha0 (by decide) rfl inX2_become_X2 tyX2 tyX2_ok nmX2 (by decide) lkX2_become_0 rfl (ty := .int) rfl rfl rfl (Nat.le_of_ble_eq_true rfl) (ms_2_0 G _ _ _) mm_up_ne dX2_become_5 ?_
  refine at_aload_n (pc := 8) X 0 0 dX2_become_8 rfl rfl ?_
  refine at_aload_n (pc := 9) X 1 1 dX2_become_9 rfl rfl ?_
  refine at_get (pc := 10) X 2 1 (.int ((mm_up σ a0 0 (σ.1 a1 0)).1 a1 1)) ha1 (by decide) rfl inX2_become_X2 (by decide) lkX2_become_1 rfl dX2_become_10 ?_
  refine at_put (pc := 13) X 2 1 ha0 (by decide) rfl inX2_become_X2 tyX2 tyX2_ok nmX2 (by decide) lkX2_become_1 rfl (ty := .int) rfl rfl rfl (Nat.le_of_ble_eq_true rfl) (ms_2_1 G _ _ _) mm_up_ne dX2_become_13 ?_
  refine at_aload_n (pc := 16) X 0 0 dX2_become_16 rfl rfl ?_
  refine at_aload_n (pc := 17) X 1 1 dX2_become_17 rfl rfl ?_
  refine at_get (pc := 18) X 2 2 (.int ((mm_up (mm_up σ a0 0 (σ.1 a1 0)) a0 1 ((mm_up σ a0 0 (σ.1 a1 0)).1 a1 1)).1 a1 2)) ha1 (by decide) rfl inX2_become_X2 (by decide) lkX2_become_2 rfl dX2_become_18 ?_
  refine at_put (pc := 21) X 2 2 ha0 (by decide) rfl inX2_become_X2 tyX2 tyX2_ok nmX2 (by decide) lkX2_become_2 rfl (ty := .int) rfl rfl rfl (Nat.le_of_ble_eq_true rfl) (ms_2_2 G _ _ _) mm_up_ne dX2_become_21 ?_
  refine at_aload_n (pc := 24) X 0 0 dX2_become_24 rfl rfl ?_
  refine at_aload_n (pc := 25) X 1 1 dX2_become_25 rfl rfl ?_
  refine at_get (pc := 26) X 2 3 (.int ((mm_up (mm_up (mm_up σ a0 0 (σ.1 a1 0)) a0 1 ((mm_up σ a0 0 (σ.1 a1 0)).1 a1 1)) a0 2 ((mm_up (mm_up σ a0 0 (σ.1 a1 0)) a0 1 ((mm_up σ a0 0 (σ.1 a1 0)).1 a1 1)).1 a1 2)).1 a1 3)) ha1 (by decide) rfl inX2_become_X2 (by decide) lkX2_become_3 rfl dX2_become_26 ?_
  refine at_put (pc := 29) X 2 3 ha0 (by decide) rfl inX2_become_X2 tyX2 tyX2_ok nmX2 (by decide) lkX2_become_3 rfl (ty := .int) rfl rfl rfl (Nat.le_of_ble_eq_true rfl) (ms_2_3 G _ _ _) mm_up_ne dX2_become_29 ?_
  refine at_aload_n (pc := 32) X 0 0 dX2_become_32 rfl rfl ?_
  refine at_aload_n (pc := 33) X 1 1 dX2_become_33 rfl rfl ?_
  refine at_get (pc := 34) X 2 4 (.int ((mm_up (mm_up (mm_up (mm_up σ a0 0 (σ.1 a1 0)) a0 1 ((mm_up σ a0 0 (σ.1 a1 0)).1 a1 1)) a0 2 ((mm_up (mm_up σ a0 0 (σ.1 a1 0)) a0 1 ((mm_up σ a0 0 (σ.1 a1 0)).1 a1 1)).1 a1 2)) a0 3 ((mm_up (mm_up (mm_up σ a0 0 (σ.1 a1 0)) a0 1 ((mm_up σ a0 0 (σ.1 a1 0)).1 a1 1)) a0 2 ((mm_up (mm_up σ a0 0 (σ.1 a1 0)) a0 1 ((mm_up σ a0 0 (σ.1 a1 0)).1 a1 1)).1 a1 2)).1 a1 3)).1 a1 4)) ha1 (by decide) rfl inX2_become_X2 (by decide) lkX2_become_4 rfl dX2_become_34 ?_
  refine at_put (pc := 37) X 2 4 ha0 (by decide) rfl inX2_become_X2 tyX2 tyX2_ok nmX2 (by decide) lkX2_become_4 rfl (ty := .int) rfl rfl rfl (Nat.le_of_ble_eq_true rfl) (ms_2_4 G _ _ _) mm_up_ne dX2_become_37 ?_
  refine at_aload_n (pc := 40) X 0 0 dX2_become_40 rfl rfl ?_
  refine at_aload_n (pc := 41) X 1 1 dX2_become_41 rfl rfl ?_
  refine at_get (pc := 42) X 2 5 (.int ((mm_up (mm_up (mm_up (mm_up (mm_up σ a0 0 (σ.1 a1 0)) a0 1 ((mm_up σ a0 0 (σ.1 a1 0)).1 a1 1)) a0 2 ((mm_up (mm_up σ a0 0 (σ.1 a1 0)) a0 1 ((mm_up σ a0 0 (σ.1 a1 0)).1 a1 1)).1 a1 2)) a0 3 ((mm_up (mm_up (mm_up σ a0 0 (σ.1 a1 0)) a0 1 ((mm_up σ a0 0 (σ.1 a1 0)).1 a1 1)) a0 2 ((mm_up (mm_up σ a0 0 (σ.1 a1 0)) a0 1 ((mm_up σ a0 0 (σ.1 a1 0)).1 a1 1)).1 a1 2)).1 a1 3)) a0 4 ((mm_up (mm_up (mm_up (mm_up σ a0 0 (σ.1 a1 0)) a0 1 ((mm_up σ a0 0 (σ.1 a1 0)).1 a1 1)) a0 2 ((mm_up (mm_up σ a0 0 (σ.1 a1 0)) a0 1 ((mm_up σ a0 0 (σ.1 a1 0)).1 a1 1)).1 a1 2)) a0 3 ((mm_up (mm_up (mm_up σ a0 0 (σ.1 a1 0)) a0 1 ((mm_up σ a0 0 (σ.1 a1 0)).1 a1 1)) a0 2 ((mm_up (mm_up σ a0 0 (σ.1 a1 0)) a0 1 ((mm_up σ a0 0 (σ.1 a1 0)).1 a1 1)).1 a1 2)).1 a1 3)).1 a1 4)).1 a1 5)) ha1 (by decide) rfl inX2_become_X2 (by decide) lkX2_become_5 rfl dX2_become_42 ?_
  refine at_put (pc := 45) X 2 5 ha0 (by decide) rfl inX2_become_X2 tyX2 tyX2_ok nmX2 (by decide) lkX2_become_5 rfl (ty := .int) rfl rfl rfl (Nat.le_of_ble_eq_true rfl) (ms_2_5 G _ _ _) mm_up_ne dX2_become_45 ?_
  exact at_vret (pc := 48) X (Option.some.inj h) dX2_become_48
set_option maxHeartbeats 4000000 in
set_option maxRecDepth 100000 in
theorem mX2_become (l : Launch) {G : mm_G} (hwf : mm_WF G) {a0 : Nat} {a1 : Nat} {σ : mm_M} {q : mm_M} (ha0 : mm_Is G 2 a0) (ha1 : mm_Is G 2 a1) (h : fX2_become G a0 a1 σ = some q) : mm_Mv l yX2_become wsX2_become rmX2_become G [.ref a0, .ref a1] σ q := by
  refine mm_ofv (cc := cX2_become) (nL := 2) (ret := none) (own := RX2) (lv0 := [(0, .ref a0), (1, .ref a1)]) (by decide) rfl rfl (Nat.le_of_ble_eq_true rfl) rfl hwf (fun E hE X => ?_)
  exact wX2_become_b0 X ha0 ha1 h
set_option maxRecDepth 20000 in
theorem ggX0_become_X2_become : GoodIn wsX0_become wsX2_become := goodIn_r _ [11, 12, 13, 14, 15, 16, 17, 24, 25, 26, 27, 28, 29] (by decide +kernel) (by decide +kernel)
set_option maxRecDepth 20000 in
theorem gX0_become_X2_become : GoodIn wsX0_become (wsV RX0 35 RX2 yX2_become wsX2_become) := goodIn_app (goodIn_of _ (by decide +kernel)) ggX0_become_X2_become
theorem dX0_become_0 : decode cX0_become 0 = .ok (.aload_n 0, 1) := by decide +kernel
theorem dX0_become_1 : decode cX0_become 1 = .ok (.aload_n 1, 1) := by decide +kernel
theorem dX0_become_2 : decode cX0_become 2 = .ok (.getfield 17, 3) := by decide +kernel
theorem dX0_become_5 : decode cX0_become 5 = .ok (.putfield 17, 3) := by decide +kernel
theorem dX0_become_8 : decode cX0_become 8 = .ok (.aload_n 0, 1) := by decide +kernel
theorem dX0_become_9 : decode cX0_become 9 = .ok (.aload_n 1, 1) := by decide +kernel
theorem dX0_become_10 : decode cX0_become 10 = .ok (.getfield 21, 3) := by decide +kernel
theorem dX0_become_13 : decode cX0_become 13 = .ok (.putfield 21, 3) := by decide +kernel
theorem dX0_become_16 : decode cX0_become 16 = .ok (.aload_n 0, 1) := by decide +kernel
theorem dX0_become_17 : decode cX0_become 17 = .ok (.aload_n 1, 1) := by decide +kernel
theorem dX0_become_18 : decode cX0_become 18 = .ok (.getfield 24, 3) := by decide +kernel
theorem dX0_become_21 : decode cX0_become 21 = .ok (.putfield 24, 3) := by decide +kernel
theorem dX0_become_24 : decode cX0_become 24 = .ok (.aload_n 0, 1) := by decide +kernel
theorem dX0_become_25 : decode cX0_become 25 = .ok (.aload_n 1, 1) := by decide +kernel
theorem dX0_become_26 : decode cX0_become 26 = .ok (.getfield 27, 3) := by decide +kernel
theorem dX0_become_29 : decode cX0_become 29 = .ok (.putfield 27, 3) := by decide +kernel
theorem dX0_become_32 : decode cX0_become 32 = .ok (.aload_n 0, 1) := by decide +kernel
theorem dX0_become_33 : decode cX0_become 33 = .ok (.aload_n 1, 1) := by decide +kernel
theorem dX0_become_34 : decode cX0_become 34 = .ok (.getfield 30, 3) := by decide +kernel
theorem dX0_become_37 : decode cX0_become 37 = .ok (.putfield 30, 3) := by decide +kernel
theorem dX0_become_40 : decode cX0_become 40 = .ok (.iconst 0, 1) := by decide +kernel
theorem dX0_become_41 : decode cX0_become 41 = .ok (.istore_n 2, 1) := by decide +kernel
theorem dX0_become_42 : decode cX0_become 42 = .ok (.iload_n 2, 1) := by decide +kernel
theorem dX0_become_43 : decode cX0_become 43 = .ok (.aload_n 0, 1) := by decide +kernel
theorem dX0_become_44 : decode cX0_become 44 = .ok (.getfield 17, 3) := by decide +kernel
theorem dX0_become_47 : decode cX0_become 47 = .ok (.if_icmp .ge 24, 3) := by decide +kernel
theorem dX0_become_50 : decode cX0_become 50 = .ok (.aload_n 0, 1) := by decide +kernel
theorem dX0_become_51 : decode cX0_become 51 = .ok (.getfield 11, 3) := by decide +kernel
theorem dX0_become_54 : decode cX0_become 54 = .ok (.iload_n 2, 1) := by decide +kernel
theorem dX0_become_55 : decode cX0_become 55 = .ok (.aaload, 1) := by decide +kernel
theorem dX0_become_56 : decode cX0_become 56 = .ok (.aload_n 1, 1) := by decide +kernel
theorem dX0_become_57 : decode cX0_become 57 = .ok (.getfield 11, 3) := by decide +kernel
theorem dX0_become_60 : decode cX0_become 60 = .ok (.iload_n 2, 1) := by decide +kernel
theorem dX0_become_61 : decode cX0_become 61 = .ok (.aaload, 1) := by decide +kernel
theorem dX0_become_62 : decode cX0_become 62 = .ok (.invokevirtual 35, 3) := by decide +kernel
theorem dX0_become_65 : decode cX0_become 65 = .ok (.iinc 2 1, 3) := by decide +kernel
theorem dX0_become_68 : decode cX0_become 68 = .ok (.goto (-26), 3) := by decide +kernel
theorem dX0_become_71 : decode cX0_become 71 = .ok (.return_, 1) := by decide +kernel
/-! X0_become (LAirTalkers$Air;)V -/
abbrev rmX0_become : Room := { frames := 1, cells := 0, slots := 0, locals := 21 }
theorem lkX0_become_0 : Cond.fieldLink RX0 17 (TX0 1).1 (TX0 1).2.1 (TX0 1).2.2.1 ∈ wsX0_become := by decide +kernel
theorem lkX0_become_1 : Cond.fieldLink RX0 21 (TX0 2).1 (TX0 2).2.1 (TX0 2).2.2.1 ∈ wsX0_become := by decide +kernel
theorem lkX0_become_2 : Cond.fieldLink RX0 24 (TX0 3).1 (TX0 3).2.1 (TX0 3).2.2.1 ∈ wsX0_become := by decide +kernel
theorem lkX0_become_3 : Cond.fieldLink RX0 27 (TX0 4).1 (TX0 4).2.1 (TX0 4).2.2.1 ∈ wsX0_become := by decide +kernel
theorem lkX0_become_4 : Cond.fieldLink RX0 30 (TX0 5).1 (TX0 5).2.1 (TX0 5).2.2.1 ∈ wsX0_become := by decide +kernel
theorem lkX0_become_5 : Cond.fieldLink RX0 11 (TX0 0).1 (TX0 0).2.1 (TX0 0).2.2.1 ∈ wsX0_become := by decide +kernel
theorem inX0_become_X0 : ∀ w ∈ u_ws RX0 TX0 6, w ∈ wsX0_become := by decide +kernel
noncomputable def fX0_become_b42 (G : mm_G) (a0 : Nat) (a1 : Nat) (x2 : Int32) (σ : mm_M) : Option (mm_M ⊕ (Int32 × mm_M)) := if x2 < (σ.1 a0 1) then (if x2 < 0 ∨ mm_N G (mm_R G a0 0) ≤ x2.toNatClampNeg then none else (if x2 < 0 ∨ mm_N G (mm_R G a1 0) ≤ x2.toNatClampNeg then none else ((fX2_become G (mm_R G (mm_R G a0 0) x2.toNatClampNeg) (mm_R G (mm_R G a1 0) x2.toNatClampNeg) σ).bind (fun q62 => some (.inr (x2 + 1, q62)))))) else (some (.inl σ))
noncomputable def fX0_become_b0 (G : mm_G) (a0 : Nat) (a1 : Nat) (σ : mm_M) : Option (mm_M ⊕ (Int32 × mm_M)) := if ¬ (((mm_up (mm_up (mm_up (mm_up σ a0 1 (σ.1 a1 1)) a0 2 ((mm_up σ a0 1 (σ.1 a1 1)).1 a1 2)) a0 3 ((mm_up (mm_up σ a0 1 (σ.1 a1 1)) a0 2 ((mm_up σ a0 1 (σ.1 a1 1)).1 a1 2)).1 a1 3)) a0 4 ((mm_up (mm_up (mm_up σ a0 1 (σ.1 a1 1)) a0 2 ((mm_up σ a0 1 (σ.1 a1 1)).1 a1 2)) a0 3 ((mm_up (mm_up σ a0 1 (σ.1 a1 1)) a0 2 ((mm_up σ a0 1 (σ.1 a1 1)).1 a1 2)).1 a1 3)).1 a1 4)).1 a1 5) = 0 ∨ ((mm_up (mm_up (mm_up (mm_up σ a0 1 (σ.1 a1 1)) a0 2 ((mm_up σ a0 1 (σ.1 a1 1)).1 a1 2)) a0 3 ((mm_up (mm_up σ a0 1 (σ.1 a1 1)) a0 2 ((mm_up σ a0 1 (σ.1 a1 1)).1 a1 2)).1 a1 3)) a0 4 ((mm_up (mm_up (mm_up σ a0 1 (σ.1 a1 1)) a0 2 ((mm_up σ a0 1 (σ.1 a1 1)).1 a1 2)) a0 3 ((mm_up (mm_up σ a0 1 (σ.1 a1 1)) a0 2 ((mm_up σ a0 1 (σ.1 a1 1)).1 a1 2)).1 a1 3)).1 a1 4)).1 a1 5) = 1) then none else (some (.inr ((0 : Int32), mm_up (mm_up (mm_up (mm_up (mm_up σ a0 1 (σ.1 a1 1)) a0 2 ((mm_up σ a0 1 (σ.1 a1 1)).1 a1 2)) a0 3 ((mm_up (mm_up σ a0 1 (σ.1 a1 1)) a0 2 ((mm_up σ a0 1 (σ.1 a1 1)).1 a1 2)).1 a1 3)) a0 4 ((mm_up (mm_up (mm_up σ a0 1 (σ.1 a1 1)) a0 2 ((mm_up σ a0 1 (σ.1 a1 1)).1 a1 2)) a0 3 ((mm_up (mm_up σ a0 1 (σ.1 a1 1)) a0 2 ((mm_up σ a0 1 (σ.1 a1 1)).1 a1 2)).1 a1 3)).1 a1 4)) a0 5 ((mm_up (mm_up (mm_up (mm_up σ a0 1 (σ.1 a1 1)) a0 2 ((mm_up σ a0 1 (σ.1 a1 1)).1 a1 2)) a0 3 ((mm_up (mm_up σ a0 1 (σ.1 a1 1)) a0 2 ((mm_up σ a0 1 (σ.1 a1 1)).1 a1 2)).1 a1 3)) a0 4 ((mm_up (mm_up (mm_up σ a0 1 (σ.1 a1 1)) a0 2 ((mm_up σ a0 1 (σ.1 a1 1)).1 a1 2)) a0 3 ((mm_up (mm_up σ a0 1 (σ.1 a1 1)) a0 2 ((mm_up σ a0 1 (σ.1 a1 1)).1 a1 2)).1 a1 3)).1 a1 4)).1 a1 5))))
noncomputable def fX0_become_s (G : mm_G) (a0 : Nat) (a1 : Nat) : (Int32 × mm_M) → Option (mm_M ⊕ (Int32 × mm_M)) := (fun s => fX0_become_b42 G a0 a1 s.1 s.2)
def PX0_become (E : mm_E) (G : mm_G) (a0 : Nat) (a1 : Nat) (q : mm_M) : (Int32 × mm_M) → Prop := (fun s => mm_At E G 3 (mm_Qv E G q) s.2 42 [(0, .ref a0), (1, .ref a1), (2, .int s.1)] [])
noncomputable def fX0_become (G : mm_G) (a0 : Nat) (a1 : Nat) (σ : mm_M) : Option mm_M := mm_run (fX0_become_b0 G a0 a1 σ) (fX0_become_s G a0 a1)
set_option maxHeartbeats 4000000 in
set_option maxRecDepth 100000 in
theorem wX0_become_b42 {E : mm_E} {G : mm_G} (X : mm_Cx E G cX0_become 3 RX0 wsX0_become rmX0_become (none)) {a0 : Nat} {a1 : Nat} {x2 : Int32} {σ : mm_M} {q : mm_M} (ha0 : mm_Is G 0 a0) (ha1 : mm_Is G 0 a1) {o : mm_M ⊕ (Int32 × mm_M)} (h : fX0_become_b42 G a0 a1 x2 σ = some o) (hk : mm_Ok q (PX0_become E G a0 a1 q) o) : mm_At E G 3 (mm_Qv E G q) σ 42 [(0, .ref a0), (1, .ref a1), (2, .int x2)] [] := by
  unfold fX0_become_b42 at h
  refine at_iload_n (pc := 42) X 2 2 dX0_become_42 rfl rfl ?_
  refine at_aload_n (pc := 43) X 0 0 dX0_become_43 rfl rfl ?_
  refine at_get (pc := 44) X 0 1 (.int (σ.1 a0 1)) ha0 (by decide) rfl inX0_become_X0 (by decide) lkX0_become_0 rfl dX0_become_44 ?_
  refine at_icmp_ge (pc := 47) X 71 dX0_become_47 (by decide) (fun c47 => ?_) (fun c47 => ?_)
  · have h := mm_neg c47 h
    exact at_vret (pc := 71) X (mm_inl h hk) dX0_become_71
  · have h := mm_pos c47 h
    refine at_aload_n (pc := 50) X 0 0 dX0_become_50 rfl rfl ?_
    refine at_get (pc := 51) X 0 0 (.ref (mm_R G a0 0)) ha0 (by decide) rfl inX0_become_X0 (by decide) lkX0_become_5 rfl dX0_become_51 ?_
    refine at_iload_n (pc := 54) X 2 2 dX0_become_54 rfl rfl ?_
    obtain ⟨hc55, h⟩ := mm_chk h
    refine at_aald (pc := 55) X 8 3 (wf_0_0 X.wf ha0) (by decide) (by decide) rfl rfl hc55 dX0_become_55 ?_
    refine at_aload_n (pc := 56) X 1 1 dX0_become_56 rfl rfl ?_
    refine at_get (pc := 57) X 0 0 (.ref (mm_R G a1 0)) ha1 (by decide) rfl inX0_become_X0 (by decide) lkX0_become_5 rfl dX0_become_57 ?_
    refine at_iload_n (pc := 60) X 2 2 dX0_become_60 rfl rfl ?_
    obtain ⟨hc61, h⟩ := mm_chk h
    refine at_aald (pc := 61) X 8 3 (wf_0_0 X.wf ha1) (by decide) (by decide) rfl rfl hc61 dX0_become_61 ?_
    obtain ⟨q62, hq62, h⟩ := mm_bind h
    refine at_callv (n := 1) (pc := 62) X 2 [.ref (mm_R G (mm_R G a1 0) x2.toNatClampNeg)] [] (mX2_become (eL E) X.wf (wf_8 X.wf (wf_0_0 X.wf ha0) hc55) (wf_8 X.wf (wf_0_0 X.wf ha1) hc61) hq62) gX0_become_X2_become rfl ⟨rfl, rfl⟩ (by decide +kernel) ⟨by decide, by decide⟩ (by decide) rfl (wf_8 X.wf (wf_0_0 X.wf ha0) hc55) rfl rfl (Nat.le_of_ble_eq_true rfl) dX0_become_62 ?_
    refine at_iinc (pc := 65) X 2 2 (x2 + 1) [(2, .int (x2 + 1)), (0, .ref a0), (1, .ref a1)] dX0_become_65 rfl (ii_1 _) (by decide) rfl ?_
    refine at_goto (pc := 68) X 42 dX0_become_68 (by decide) ?_
    have h2 := mm_inr h hk; exact at_sub [1, 2, 0] rfl h2
set_option maxHeartbeats 4000000 in
set_option maxRecDepth 100000 in
theorem wX0_become_b0 {E : mm_E} {G : mm_G} (X : mm_Cx E G cX0_become 3 RX0 wsX0_become rmX0_become (none)) {a0 : Nat} {a1 : Nat} {σ : mm_M} {q : mm_M} (ha0 : mm_Is G 0 a0) (ha1 : mm_Is G 0 a1) {o : mm_M ⊕ (Int32 × mm_M)} (h : fX0_become_b0 G a0 a1 σ = some o) (hk : mm_Ok q (PX0_become E G a0 a1 q) o) : mm_At E G 3 (mm_Qv E G q) σ 0 [(0, .ref a0), (1, .ref a1)] [] := by
  unfold fX0_become_b0 at h
  refine at_aload_n (pc := 0) X 0 0 dX0_become_0 rfl rfl ?_
  refine at_aload_n (pc := 1) X 1 1 dX0_become_1 rfl rfl ?_
  refine at_get (pc := 2) X 0 1 (.int (σ.1 a1 1)) ha1 (by decide) rfl inX0_become_X0 (by decide) lkX0_become_0 rfl dX0_become_2 ?_
  refine at_put (pc := 5) X 0 1 ha0 (by decide) rfl inX0_become_X0 tyX0 tyX0_ok nmX0 (by decide) lkX0_become_0 rfl (ty := .int) rfl rfl rfl (Nat.le_of_ble_eq_true rfl) (ms_0_1 G _ _ _) mm_up_ne dX0_become_5 ?_
  refine at_aload_n (pc := 8) X 0 0 dX0_become_8 rfl rfl ?_
  refine at_aload_n (pc := 9) X 1 1 dX0_become_9 rfl rfl ?_
  refine at_get (pc := 10) X 0 2 (.int ((mm_up σ a0 1 (σ.1 a1 1)).1 a1 2)) ha1 (by decide) rfl inX0_become_X0 (by decide) lkX0_become_1 rfl dX0_become_10 ?_
  refine at_put (pc := 13) X 0 2 ha0 (by decide) rfl inX0_become_X0 tyX0 tyX0_ok nmX0 (by decide) lkX0_become_1 rfl (ty := .int) rfl rfl rfl (Nat.le_of_ble_eq_true rfl) (ms_0_2 G _ _ _) mm_up_ne dX0_become_13 ?_
  refine at_aload_n (pc := 16) X 0 0 dX0_become_16 rfl rfl ?_
  refine at_aload_n (pc := 17) X 1 1 dX0_become_17 rfl rfl ?_
  refine at_get (pc := 18) X 0 3 (.int ((mm_up (mm_up σ a0 1 (σ.1 a1 1)) a0 2 ((mm_up σ a0 1 (σ.1 a1 1)).1 a1 2)).1 a1 3)) ha1 (by decide) rfl inX0_become_X0 (by decide) lkX0_become_2 rfl dX0_become_18 ?_
  refine at_put (pc := 21) X 0 3 ha0 (by decide) rfl inX0_become_X0 tyX0 tyX0_ok nmX0 (by decide) lkX0_become_2 rfl (ty := .int) rfl rfl rfl (Nat.le_of_ble_eq_true rfl) (ms_0_3 G _ _ _) mm_up_ne dX0_become_21 ?_
  refine at_aload_n (pc := 24) X 0 0 dX0_become_24 rfl rfl ?_
  refine at_aload_n (pc := 25) X 1 1 dX0_become_25 rfl rfl ?_
  refine at_get (pc := 26) X 0 4 (.int ((mm_up (mm_up (mm_up σ a0 1 (σ.1 a1 1)) a0 2 ((mm_up σ a0 1 (σ.1 a1 1)).1 a1 2)) a0 3 ((mm_up (mm_up σ a0 1 (σ.1 a1 1)) a0 2 ((mm_up σ a0 1 (σ.1 a1 1)).1 a1 2)).1 a1 3)).1 a1 4)) ha1 (by decide) rfl inX0_become_X0 (by decide) lkX0_become_3 rfl dX0_become_26 ?_
  refine at_put (pc := 29) X 0 4 ha0 (by decide) rfl inX0_become_X0 tyX0 tyX0_ok nmX0 (by decide) lkX0_become_3 rfl (ty := .int) rfl rfl rfl (Nat.le_of_ble_eq_true rfl) (ms_0_4 G _ _ _) mm_up_ne dX0_become_29 ?_
  refine at_aload_n (pc := 32) X 0 0 dX0_become_32 rfl rfl ?_
  refine at_aload_n (pc := 33) X 1 1 dX0_become_33 rfl rfl ?_
  refine at_get (pc := 34) X 0 5 (.int ((mm_up (mm_up (mm_up (mm_up σ a0 1 (σ.1 a1 1)) a0 2 ((mm_up σ a0 1 (σ.1 a1 1)).1 a1 2)) a0 3 ((mm_up (mm_up σ a0 1 (σ.1 a1 1)) a0 2 ((mm_up σ a0 1 (σ.1 a1 1)).1 a1 2)).1 a1 3)) a0 4 ((mm_up (mm_up (mm_up σ a0 1 (σ.1 a1 1)) a0 2 ((mm_up σ a0 1 (σ.1 a1 1)).1 a1 2)) a0 3 ((mm_up (mm_up σ a0 1 (σ.1 a1 1)) a0 2 ((mm_up σ a0 1 (σ.1 a1 1)).1 a1 2)).1 a1 3)).1 a1 4)).1 a1 5)) ha1 (by decide) rfl inX0_become_X0 (by decide) lkX0_become_4 rfl dX0_become_34 ?_
  obtain ⟨hg37, h⟩ := mm_chk h
  have hc37 := Classical.not_not.mp hg37
  refine at_put (pc := 37) X 0 5 ha0 (by decide) rfl inX0_become_X0 tyX0 tyX0_ok nmX0 (by decide) lkX0_become_4 rfl (ty := .boolean) rfl (mm_z01 hc37) (mm_f01 hc37) (Nat.le_of_ble_eq_true rfl) (ms_0_5 G _ _ _) mm_up_ne dX0_become_37 ?_
  refine at_iconst (pc := 40) X (0 : Int32) dX0_become_40 ic_0 ?_
  refine at_istore_n (pc := 41) X 2 [(2, .int (0 : Int32)), (0, .ref a0), (1, .ref a1)] dX0_become_41 rfl (by decide) rfl ?_
  have h2 := mm_inr h hk; exact at_sub [1, 2, 0] rfl h2
set_option maxHeartbeats 4000000 in
set_option maxRecDepth 100000 in
theorem mX0_become (l : Launch) {G : mm_G} (hwf : mm_WF G) {a0 : Nat} {a1 : Nat} {σ : mm_M} {q : mm_M} (ha0 : mm_Is G 0 a0) (ha1 : mm_Is G 0 a1) (h : fX0_become G a0 a1 σ = some q) : mm_Mv l yX0_become wsX0_become rmX0_become G [.ref a0, .ref a1] σ q := by
  refine mm_ofv (cc := cX0_become) (nL := 3) (ret := none) (own := RX0) (lv0 := [(0, .ref a0), (1, .ref a1)]) (by decide) rfl rfl (Nat.le_of_ble_eq_true rfl) rfl hwf (fun E hE X => ?_)
  obtain ⟨o, h0, hk⟩ := mm_run_ok (P := PX0_become E G a0 a1 q) h (fun s o hs hk => by exact wX0_become_b42 X ha0 ha1 hs hk)
  exact wX0_become_b0 X ha0 ha1 h0 hk
theorem dX0_has_0 : decode cX0_has 0 = .ok (.iload_n 1, 1) := by decide +kernel
theorem dX0_has_1 : decode cX0_has 1 = .ok (.ifCond .lt 15, 3) := by decide +kernel
theorem dX0_has_4 : decode cX0_has 4 = .ok (.iload_n 1, 1) := by decide +kernel
theorem dX0_has_5 : decode cX0_has 5 = .ok (.aload_n 0, 1) := by decide +kernel
theorem dX0_has_6 : decode cX0_has 6 = .ok (.getfield 17, 3) := by decide +kernel
theorem dX0_has_9 : decode cX0_has 9 = .ok (.if_icmp .ge 7, 3) := by decide +kernel
theorem dX0_has_12 : decode cX0_has 12 = .ok (.iconst 1, 1) := by decide +kernel
theorem dX0_has_13 : decode cX0_has 13 = .ok (.goto 4, 3) := by decide +kernel
theorem dX0_has_16 : decode cX0_has 16 = .ok (.iconst 0, 1) := by decide +kernel
theorem dX0_has_17 : decode cX0_has 17 = .ok (.ireturn, 1) := by decide +kernel
/-! X0_has (I)Z -/
abbrev rmX0_has : Room := { frames := 0, cells := 0, slots := 0, locals := 0 }
theorem lkX0_has_0 : Cond.fieldLink RX0 17 (TX0 1).1 (TX0 1).2.1 (TX0 1).2.2.1 ∈ wsX0_has := by decide +kernel
theorem inX0_has_X0 : ∀ w ∈ u_ws RX0 TX0 6, w ∈ wsX0_has := by decide +kernel
noncomputable def fX0_has (G : mm_G) (a0 : Nat) (x1 : Int32) (σ : mm_M) : Option (Int32 × mm_M) := if ¬ ((if x1 < 0 then (0 : Int32) else if x1 < (σ.1 a0 1) then (1 : Int32) else (0 : Int32)) = 0 ∨ (if x1 < 0 then (0 : Int32) else if x1 < (σ.1 a0 1) then (1 : Int32) else (0 : Int32)) = 1) then none else (some (if x1 < 0 then (0 : Int32) else if x1 < (σ.1 a0 1) then (1 : Int32) else (0 : Int32), σ))
set_option maxHeartbeats 4000000 in
set_option maxRecDepth 100000 in
theorem wX0_has_b0 {E : mm_E} {G : mm_G} (X : mm_Cx E G cX0_has 2 RX0 wsX0_has rmX0_has (some .boolean)) {a0 : Nat} {x1 : Int32} {σ : mm_M} {q : (Int32 × mm_M)} (ha0 : mm_Is G 0 a0) (h : fX0_has G a0 x1 σ = some q) : mm_At E G 2 (mm_Qi E G q) σ 0 [(0, .ref a0), (1, .int x1)] [] := by
  unfold fX0_has at h
  refine at_iload_n (pc := 0) X 1 1 dX0_has_0 rfl rfl ?_
  have hj1 : mm_At E G 2 (mm_Qi E G q) σ 17 [] [.int (if x1 < 0 then (0 : Int32) else if x1 < (σ.1 a0 1) then (1 : Int32) else (0 : Int32))] := by
    obtain ⟨hg17, h⟩ := mm_chk h
    exact at_zret (pc := 17) X (Classical.not_not.mp hg17) (Option.some.inj h) dX0_has_17
  refine at_if_lt (pc := 1) X 16 dX0_has_1 (by decide) (fun c1 => ?_) (fun c1 => ?_)
  · try simp only [if_pos c1] at hj1
    refine at_iconst (pc := 16) X (0 : Int32) dX0_has_16 ic_0 ?_
    exact at_sub [] rfl hj1
  · try simp only [if_neg c1] at hj1
    refine at_iload_n (pc := 4) X 1 1 dX0_has_4 rfl rfl ?_
    refine at_aload_n (pc := 5) X 0 0 dX0_has_5 rfl rfl ?_
    refine at_get (pc := 6) X 0 1 (.int (σ.1 a0 1)) ha0 (by decide) rfl inX0_has_X0 (by decide) lkX0_has_0 rfl dX0_has_6 ?_
    refine at_icmp_ge (pc := 9) X 16 dX0_has_9 (by decide) (fun c9 => ?_) (fun c9 => ?_)
    · try simp only [if_neg c9] at hj1
      refine at_iconst (pc := 16) X (0 : Int32) dX0_has_16 ic_0 ?_
      exact at_sub [] rfl hj1
    · try simp only [if_pos c9] at hj1
      refine at_iconst (pc := 12) X (1 : Int32) dX0_has_12 ic_1 ?_
      refine at_goto (pc := 13) X 17 dX0_has_13 (by decide) ?_
      exact at_sub [] rfl hj1
set_option maxHeartbeats 4000000 in
set_option maxRecDepth 100000 in
theorem mX0_has (l : Launch) {G : mm_G} (hwf : mm_WF G) {a0 : Nat} {x1 : Int32} {σ : mm_M} {q : (Int32 × mm_M)} (ha0 : mm_Is G 0 a0) (h : fX0_has G a0 x1 σ = some q) : mm_Mi l yX0_has wsX0_has rmX0_has G [.ref a0, .int x1] σ q := by
  refine mm_ofi (cc := cX0_has) (nL := 2) (ret := some .boolean) (own := RX0) (lv0 := [(0, .ref a0), (1, .int x1)]) (by decide) rfl rfl (Nat.le_of_ble_eq_true rfl) rfl hwf (fun E hE X => ?_)
  exact wX0_has_b0 X ha0 h
theorem dX0_sets_0 : decode cX0_sets 0 = .ok (.iconst 1, 1) := by decide +kernel
theorem dX0_sets_1 : decode cX0_sets 1 = .ok (.aload_n 0, 1) := by decide +kernel
theorem dX0_sets_2 : decode cX0_sets 2 = .ok (.getfield 17, 3) := by decide +kernel
theorem dX0_sets_5 : decode cX0_sets 5 = .ok (.ishl, 1) := by decide +kernel
theorem dX0_sets_6 : decode cX0_sets 6 = .ok (.ireturn, 1) := by decide +kernel
/-! X0_sets ()I -/
abbrev rmX0_sets : Room := { frames := 0, cells := 0, slots := 0, locals := 0 }
theorem lkX0_sets_0 : Cond.fieldLink RX0 17 (TX0 1).1 (TX0 1).2.1 (TX0 1).2.2.1 ∈ wsX0_sets := by decide +kernel
theorem inX0_sets_X0 : ∀ w ∈ u_ws RX0 TX0 6, w ∈ wsX0_sets := by decide +kernel
noncomputable def fX0_sets (G : mm_G) (a0 : Nat) (σ : mm_M) : Option (Int32 × mm_M) := some ((1 : Int32) <<< ((σ.1 a0 1) &&& 31), σ)
set_option maxHeartbeats 4000000 in
set_option maxRecDepth 100000 in
theorem wX0_sets_b0 {E : mm_E} {G : mm_G} (X : mm_Cx E G cX0_sets 1 RX0 wsX0_sets rmX0_sets (some .int)) {a0 : Nat} {σ : mm_M} {q : (Int32 × mm_M)} (ha0 : mm_Is G 0 a0) (h : fX0_sets G a0 σ = some q) : mm_At E G 1 (mm_Qi E G q) σ 0 [(0, .ref a0)] [] := by
  unfold fX0_sets at h
  refine at_iconst (pc := 0) X (1 : Int32) dX0_sets_0 ic_1 ?_
  refine at_aload_n (pc := 1) X 0 0 dX0_sets_1 rfl rfl ?_
  refine at_get (pc := 2) X 0 1 (.int (σ.1 a0 1)) ha0 (by decide) rfl inX0_sets_X0 (by decide) lkX0_sets_0 rfl dX0_sets_2 ?_
  refine at_ishl (pc := 5) X dX0_sets_5 ?_
  exact at_iret (pc := 6) X (Option.some.inj h) dX0_sets_6
set_option maxHeartbeats 4000000 in
set_option maxRecDepth 100000 in
theorem mX0_sets (l : Launch) {G : mm_G} (hwf : mm_WF G) {a0 : Nat} {σ : mm_M} {q : (Int32 × mm_M)} (ha0 : mm_Is G 0 a0) (h : fX0_sets G a0 σ = some q) : mm_Mi l yX0_sets wsX0_sets rmX0_sets G [.ref a0] σ q := by
  refine mm_ofi (cc := cX0_sets) (nL := 1) (ret := some .int) (own := RX0) (lv0 := [(0, .ref a0)]) (by decide) rfl rfl (Nat.le_of_ble_eq_true rfl) rfl hwf (fun E hE X => ?_)
  exact wX0_sets_b0 X ha0 h
theorem dX0_kindOf_0 : decode cX0_kindOf 0 = .ok (.iconst 0, 1) := by decide +kernel
theorem dX0_kindOf_1 : decode cX0_kindOf 1 = .ok (.istore_n 1, 1) := by decide +kernel
theorem dX0_kindOf_2 : decode cX0_kindOf 2 = .ok (.iload_n 1, 1) := by decide +kernel
theorem dX0_kindOf_3 : decode cX0_kindOf 3 = .ok (.bipush 6, 2) := by decide +kernel
theorem dX0_kindOf_5 : decode cX0_kindOf 5 = .ok (.if_icmp .ge 20, 3) := by decide +kernel
theorem dX0_kindOf_8 : decode cX0_kindOf 8 = .ok (.getstatic 62, 3) := by decide +kernel
theorem dX0_kindOf_11 : decode cX0_kindOf 11 = .ok (.iload_n 1, 1) := by decide +kernel
theorem dX0_kindOf_12 : decode cX0_kindOf 12 = .ok (.iaload, 1) := by decide +kernel
theorem dX0_kindOf_13 : decode cX0_kindOf 13 = .ok (.iload_n 0, 1) := by decide +kernel
theorem dX0_kindOf_14 : decode cX0_kindOf 14 = .ok (.if_icmp .ne 5, 3) := by decide +kernel
theorem dX0_kindOf_17 : decode cX0_kindOf 17 = .ok (.iload_n 1, 1) := by decide +kernel
theorem dX0_kindOf_18 : decode cX0_kindOf 18 = .ok (.ireturn, 1) := by decide +kernel
theorem dX0_kindOf_19 : decode cX0_kindOf 19 = .ok (.iinc 1 1, 3) := by decide +kernel
theorem dX0_kindOf_22 : decode cX0_kindOf 22 = .ok (.goto (-20), 3) := by decide +kernel
theorem dX0_kindOf_25 : decode cX0_kindOf 25 = .ok (.iconst (-1), 1) := by decide +kernel
theorem dX0_kindOf_26 : decode cX0_kindOf 26 = .ok (.ireturn, 1) := by decide +kernel
/-! X0_kindOf (I)I -/
abbrev rmX0_kindOf : Room := { frames := 0, cells := 0, slots := 0, locals := 0 }
noncomputable def fX0_kindOf_b2 (G : mm_G) (x0 : Int32) (x1 : Int32) (σ : mm_M) : Option ((Int32 × mm_M) ⊕ (Int32 × mm_M)) := if x1 < (6 : Int32) then (if x1 < 0 ∨ 6 ≤ x1.toNatClampNeg then none else (if (mm_tab 1 x1.toNatClampNeg) = x0 then (some (.inl (x1, σ))) else (some (.inr (x1 + 1, σ))))) else (some (.inl ((-1 : Int32), σ)))
noncomputable def fX0_kindOf_b0 (G : mm_G) (x0 : Int32) (σ : mm_M) : Option ((Int32 × mm_M) ⊕ (Int32 × mm_M)) := some (.inr ((0 : Int32), σ))
noncomputable def fX0_kindOf_s (G : mm_G) (x0 : Int32) : (Int32 × mm_M) → Option ((Int32 × mm_M) ⊕ (Int32 × mm_M)) := (fun s => fX0_kindOf_b2 G x0 s.1 s.2)
def PX0_kindOf (E : mm_E) (G : mm_G) (x0 : Int32) (q : (Int32 × mm_M)) : (Int32 × mm_M) → Prop := (fun s => mm_At E G 2 (mm_Qi E G q) s.2 2 [(0, .int x0), (1, .int s.1)] [])
noncomputable def fX0_kindOf (G : mm_G) (x0 : Int32) (σ : mm_M) : Option (Int32 × mm_M) := mm_run (fX0_kindOf_b0 G x0 σ) (fX0_kindOf_s G x0)
set_option maxHeartbeats 4000000 in
set_option maxRecDepth 100000 in
theorem wX0_kindOf_b2 {E : mm_E} {G : mm_G} (X : mm_Cx E G cX0_kindOf 2 RX0 wsX0_kindOf rmX0_kindOf (some .int)) {x0 : Int32} {x1 : Int32} {σ : mm_M} {q : (Int32 × mm_M)} {o : (Int32 × mm_M) ⊕ (Int32 × mm_M)} (h : fX0_kindOf_b2 G x0 x1 σ = some o) (hk : mm_Ok q (PX0_kindOf E G x0 q) o) : mm_At E G 2 (mm_Qi E G q) σ 2 [(0, .int x0), (1, .int x1)] [] := by
  unfold fX0_kindOf_b2 at h
  refine at_iload_n (pc := 2) X 1 1 dX0_kindOf_2 rfl rfl ?_
  refine at_bipush (pc := 3) X (6 : Int32) dX0_kindOf_3 ib_6 ?_
  refine at_icmp_ge (pc := 5) X 25 dX0_kindOf_5 (by decide) (fun c5 => ?_) (fun c5 => ?_)
  · have h := mm_neg c5 h
    refine at_iconst (pc := 25) X (-1 : Int32) dX0_kindOf_25 ic_m1 ?_
    exact at_iret (pc := 26) X (mm_inl h hk) dX0_kindOf_26
  · have h := mm_pos c5 h
    refine at_gets1 (pc := 8) X rfl dX0_kindOf_8 ?_
    refine at_iload_n (pc := 11) X 1 1 dX0_kindOf_11 rfl rfl ?_
    obtain ⟨hc12, h⟩ := mm_chk h
    refine at_tab1 (pc := 12) X hc12 dX0_kindOf_12 ?_
    refine at_iload_n (pc := 13) X 0 0 dX0_kindOf_13 rfl rfl ?_
    refine at_icmp_ne (pc := 14) X 19 dX0_kindOf_14 (by decide) (fun c14 => ?_) (fun c14 => ?_)
    · have h := mm_neg c14 h
      refine at_iinc (pc := 19) X 1 1 (x1 + 1) [(1, .int (x1 + 1)), (0, .int x0)] dX0_kindOf_19 rfl (ii_1 _) (by decide) rfl ?_
      refine at_goto (pc := 22) X 2 dX0_kindOf_22 (by decide) ?_
      have h2 := mm_inr h hk; exact at_sub [1, 0] rfl h2
    · have h := mm_pos c14 h
      refine at_iload_n (pc := 17) X 1 1 dX0_kindOf_17 rfl rfl ?_
      exact at_iret (pc := 18) X (mm_inl h hk) dX0_kindOf_18
set_option maxHeartbeats 4000000 in
set_option maxRecDepth 100000 in
theorem wX0_kindOf_b0 {E : mm_E} {G : mm_G} (X : mm_Cx E G cX0_kindOf 2 RX0 wsX0_kindOf rmX0_kindOf (some .int)) {x0 : Int32} {σ : mm_M} {q : (Int32 × mm_M)} {o : (Int32 × mm_M) ⊕ (Int32 × mm_M)} (h : fX0_kindOf_b0 G x0 σ = some o) (hk : mm_Ok q (PX0_kindOf E G x0 q) o) : mm_At E G 2 (mm_Qi E G q) σ 0 [(0, .int x0)] [] := by
  unfold fX0_kindOf_b0 at h
  refine at_iconst (pc := 0) X (0 : Int32) dX0_kindOf_0 ic_0 ?_
  refine at_istore_n (pc := 1) X 1 [(1, .int (0 : Int32)), (0, .int x0)] dX0_kindOf_1 rfl (by decide) rfl ?_
  have h2 := mm_inr h hk; exact at_sub [1, 0] rfl h2
set_option maxHeartbeats 4000000 in
set_option maxRecDepth 100000 in
theorem mX0_kindOf (l : Launch) {G : mm_G} (hwf : mm_WF G) {x0 : Int32} {σ : mm_M} {q : (Int32 × mm_M)} (h : fX0_kindOf G x0 σ = some q) : mm_Mi l yX0_kindOf wsX0_kindOf rmX0_kindOf G [.int x0] σ q := by
  refine mm_ofi (cc := cX0_kindOf) (nL := 2) (ret := some .int) (own := RX0) (lv0 := [(0, .int x0)]) (by decide) rfl rfl (Nat.le_of_ble_eq_true rfl) rfl hwf (fun E hE X => ?_)
  obtain ⟨o, h0, hk⟩ := mm_run_ok (P := PX0_kindOf E G x0 q) h (fun s o hs hk => by exact wX0_kindOf_b2 X hs hk)
  exact wX0_kindOf_b0 X  h0 hk
theorem dX2_rest_0 : decode cX2_rest 0 = .ok (.aload_n 0, 1) := by decide +kernel
theorem dX2_rest_1 : decode cX2_rest 1 = .ok (.iconst 0, 1) := by decide +kernel
theorem dX2_rest_2 : decode cX2_rest 2 = .ok (.putfield 27, 3) := by decide +kernel
theorem dX2_rest_5 : decode cX2_rest 5 = .ok (.aload_n 0, 1) := by decide +kernel
theorem dX2_rest_6 : decode cX2_rest 6 = .ok (.iconst 0, 1) := by decide +kernel
theorem dX2_rest_7 : decode cX2_rest 7 = .ok (.putfield 24, 3) := by decide +kernel
theorem dX2_rest_10 : decode cX2_rest 10 = .ok (.return_, 1) := by decide +kernel
/-! X2_rest ()V -/
abbrev rmX2_rest : Room := { frames := 0, cells := 0, slots := 0, locals := 0 }
theorem lkX2_rest_0 : Cond.fieldLink RX2 27 (TX2 5).1 (TX2 5).2.1 (TX2 5).2.2.1 ∈ wsX2_rest := by decide +kernel
theorem lkX2_rest_1 : Cond.fieldLink RX2 24 (TX2 4).1 (TX2 4).2.1 (TX2 4).2.2.1 ∈ wsX2_rest := by decide +kernel
theorem inX2_rest_X2 : ∀ w ∈ u_ws RX2 TX2 6, w ∈ wsX2_rest := by decide +kernel
noncomputable def fX2_rest (G : mm_G) (a0 : Nat) (σ : mm_M) : Option mm_M := some (mm_up (mm_up σ a0 5 (0 : Int32)) a0 4 (0 : Int32))
set_option maxHeartbeats 4000000 in
set_option maxRecDepth 100000 in
theorem wX2_rest_b0 {E : mm_E} {G : mm_G} (X : mm_Cx E G cX2_rest 1 RX2 wsX2_rest rmX2_rest (none)) {a0 : Nat} {σ : mm_M} {q : mm_M} (ha0 : mm_Is G 2 a0) (h : fX2_rest G a0 σ = some q) : mm_At E G 1 (mm_Qv E G q) σ 0 [(0, .ref a0)] [] := by
  unfold fX2_rest at h
  refine at_aload_n (pc := 0) X 0 0 dX2_rest_0 rfl rfl ?_
  refine at_iconst (pc := 1) X (0 : Int32) dX2_rest_1 ic_0 ?_
  refine at_put (pc := 2) X 2 5 ha0 (by decide) rfl inX2_rest_X2 tyX2 tyX2_ok nmX2 (by decide) lkX2_rest_0 rfl (ty := .int) rfl rfl rfl (Nat.le_of_ble_eq_true rfl) (ms_2_5 G _ _ _) mm_up_ne dX2_rest_2 ?_
  refine at_aload_n (pc := 5) X 0 0 dX2_rest_5 rfl rfl ?_
  refine at_iconst (pc := 6) X (0 : Int32) dX2_rest_6 ic_0 ?_
  refine at_put (pc := 7) X 2 4 ha0 (by decide) rfl inX2_rest_X2 tyX2 tyX2_ok nmX2 (by decide) lkX2_rest_1 rfl (ty := .int) rfl rfl rfl (Nat.le_of_ble_eq_true rfl) (ms_2_4 G _ _ _) mm_up_ne dX2_rest_7 ?_
  exact at_vret (pc := 10) X (Option.some.inj h) dX2_rest_10
set_option maxHeartbeats 4000000 in
set_option maxRecDepth 100000 in
theorem mX2_rest (l : Launch) {G : mm_G} (hwf : mm_WF G) {a0 : Nat} {σ : mm_M} {q : mm_M} (ha0 : mm_Is G 2 a0) (h : fX2_rest G a0 σ = some q) : mm_Mv l yX2_rest wsX2_rest rmX2_rest G [.ref a0] σ q := by
  refine mm_ofv (cc := cX2_rest) (nL := 1) (ret := none) (own := RX2) (lv0 := [(0, .ref a0)]) (by decide) rfl rfl (Nat.le_of_ble_eq_true rfl) rfl hwf (fun E hE X => ?_)
  exact wX2_rest_b0 X ha0 h
set_option maxRecDepth 20000 in
theorem ggX0_readStation_X0_kindOf : GoodIn wsX0_readStation wsX0_kindOf := goodIn_r _ [10] (by decide +kernel) (by decide +kernel)
set_option maxRecDepth 20000 in
theorem gX0_readStation_X0_kindOf : GoodIn wsX0_readStation (va_wsS RX0 43 yX0_kindOf wsX0_kindOf) := goodIn_app (goodIn_of _ (by decide +kernel)) ggX0_readStation_X0_kindOf
set_option maxRecDepth 20000 in
theorem ggX0_readStation_X2_rest : GoodIn wsX0_readStation wsX2_rest := goodIn_r _ [15, 16, 17, 24, 25, 26, 27, 28, 29] (by decide +kernel) (by decide +kernel)
set_option maxRecDepth 20000 in
theorem gX0_readStation_X2_rest : GoodIn wsX0_readStation (wsV RX0 59 RX2 yX2_rest wsX2_rest) := goodIn_app (goodIn_of _ (by decide +kernel)) ggX0_readStation_X2_rest
theorem dX0_readStation_0 : decode cX0_readStation 0 = .ok (.aload_n 1, 1) := by decide +kernel
theorem dX0_readStation_1 : decode cX0_readStation 1 = .ok (.iload_n 3, 1) := by decide +kernel
theorem dX0_readStation_2 : decode cX0_readStation 2 = .ok (.baload, 1) := by decide +kernel
theorem dX0_readStation_3 : decode cX0_readStation 3 = .ok (.invokestatic 43, 3) := by decide +kernel
theorem dX0_readStation_6 : decode cX0_readStation 6 = .ok (.istore 4, 2) := by decide +kernel
theorem dX0_readStation_8 : decode cX0_readStation 8 = .ok (.aload_n 0, 1) := by decide +kernel
theorem dX0_readStation_9 : decode cX0_readStation 9 = .ok (.getfield 17, 3) := by decide +kernel
theorem dX0_readStation_12 : decode cX0_readStation 12 = .ok (.bipush 7, 2) := by decide +kernel
theorem dX0_readStation_14 : decode cX0_readStation 14 = .ok (.if_icmp .ge 9, 3) := by decide +kernel
theorem dX0_readStation_17 : decode cX0_readStation 17 = .ok (.iload 4, 2) := by decide +kernel
theorem dX0_readStation_19 : decode cX0_readStation 19 = .ok (.iconst (-1), 1) := by decide +kernel
theorem dX0_readStation_20 : decode cX0_readStation 20 = .ok (.if_icmp .ne 5, 3) := by decide +kernel
theorem dX0_readStation_23 : decode cX0_readStation 23 = .ok (.iload_n 3, 1) := by decide +kernel
theorem dX0_readStation_24 : decode cX0_readStation 24 = .ok (.ireturn, 1) := by decide +kernel
theorem dX0_readStation_25 : decode cX0_readStation 25 = .ok (.iconst 1, 1) := by decide +kernel
theorem dX0_readStation_26 : decode cX0_readStation 26 = .ok (.istore 5, 2) := by decide +kernel
theorem dX0_readStation_28 : decode cX0_readStation 28 = .ok (.iload 5, 2) := by decide +kernel
theorem dX0_readStation_30 : decode cX0_readStation 30 = .ok (.iconst 4, 1) := by decide +kernel
theorem dX0_readStation_31 : decode cX0_readStation 31 = .ok (.if_icmp .ge 58, 3) := by decide +kernel
theorem dX0_readStation_34 : decode cX0_readStation 34 = .ok (.iload_n 3, 1) := by decide +kernel
theorem dX0_readStation_35 : decode cX0_readStation 35 = .ok (.iload 5, 2) := by decide +kernel
theorem dX0_readStation_37 : decode cX0_readStation 37 = .ok (.iadd, 1) := by decide +kernel
theorem dX0_readStation_38 : decode cX0_readStation 38 = .ok (.iload_n 2, 1) := by decide +kernel
theorem dX0_readStation_39 : decode cX0_readStation 39 = .ok (.if_icmp .lt 5, 3) := by decide +kernel
theorem dX0_readStation_42 : decode cX0_readStation 42 = .ok (.iload_n 2, 1) := by decide +kernel
theorem dX0_readStation_43 : decode cX0_readStation 43 = .ok (.ireturn, 1) := by decide +kernel
theorem dX0_readStation_44 : decode cX0_readStation 44 = .ok (.aload_n 1, 1) := by decide +kernel
theorem dX0_readStation_45 : decode cX0_readStation 45 = .ok (.iload_n 3, 1) := by decide +kernel
theorem dX0_readStation_46 : decode cX0_readStation 46 = .ok (.iload 5, 2) := by decide +kernel
theorem dX0_readStation_48 : decode cX0_readStation 48 = .ok (.iadd, 1) := by decide +kernel
theorem dX0_readStation_49 : decode cX0_readStation 49 = .ok (.baload, 1) := by decide +kernel
theorem dX0_readStation_50 : decode cX0_readStation 50 = .ok (.bipush 48, 2) := by decide +kernel
theorem dX0_readStation_52 : decode cX0_readStation 52 = .ok (.isub, 1) := by decide +kernel
theorem dX0_readStation_53 : decode cX0_readStation 53 = .ok (.istore 6, 2) := by decide +kernel
theorem dX0_readStation_55 : decode cX0_readStation 55 = .ok (.iload 6, 2) := by decide +kernel
theorem dX0_readStation_57 : decode cX0_readStation 57 = .ok (.iload 5, 2) := by decide +kernel
theorem dX0_readStation_59 : decode cX0_readStation 59 = .ok (.iconst 2, 1) := by decide +kernel
theorem dX0_readStation_60 : decode cX0_readStation 60 = .ok (.if_icmp .ne 7, 3) := by decide +kernel
theorem dX0_readStation_63 : decode cX0_readStation 63 = .ok (.iconst 1, 1) := by decide +kernel
theorem dX0_readStation_64 : decode cX0_readStation 64 = .ok (.goto 4, 3) := by decide +kernel
theorem dX0_readStation_67 : decode cX0_readStation 67 = .ok (.iconst 0, 1) := by decide +kernel
theorem dX0_readStation_68 : decode cX0_readStation 68 = .ok (.if_icmp .lt 10, 3) := by decide +kernel
theorem dX0_readStation_71 : decode cX0_readStation 71 = .ok (.iload 6, 2) := by decide +kernel
theorem dX0_readStation_73 : decode cX0_readStation 73 = .ok (.bipush 9, 2) := by decide +kernel
theorem dX0_readStation_75 : decode cX0_readStation 75 = .ok (.if_icmp .le 8, 3) := by decide +kernel
theorem dX0_readStation_78 : decode cX0_readStation 78 = .ok (.iload_n 3, 1) := by decide +kernel
theorem dX0_readStation_79 : decode cX0_readStation 79 = .ok (.iload 5, 2) := by decide +kernel
theorem dX0_readStation_81 : decode cX0_readStation 81 = .ok (.iadd, 1) := by decide +kernel
theorem dX0_readStation_82 : decode cX0_readStation 82 = .ok (.ireturn, 1) := by decide +kernel
theorem dX0_readStation_83 : decode cX0_readStation 83 = .ok (.iinc 5 1, 3) := by decide +kernel
theorem dX0_readStation_86 : decode cX0_readStation 86 = .ok (.goto (-58), 3) := by decide +kernel
theorem dX0_readStation_89 : decode cX0_readStation 89 = .ok (.aload_n 0, 1) := by decide +kernel
theorem dX0_readStation_90 : decode cX0_readStation 90 = .ok (.getfield 11, 3) := by decide +kernel
theorem dX0_readStation_93 : decode cX0_readStation 93 = .ok (.aload_n 0, 1) := by decide +kernel
theorem dX0_readStation_94 : decode cX0_readStation 94 = .ok (.getfield 17, 3) := by decide +kernel
theorem dX0_readStation_97 : decode cX0_readStation 97 = .ok (.aaload, 1) := by decide +kernel
theorem dX0_readStation_98 : decode cX0_readStation 98 = .ok (.astore 5, 2) := by decide +kernel
theorem dX0_readStation_100 : decode cX0_readStation 100 = .ok (.aload 5, 2) := by decide +kernel
theorem dX0_readStation_102 : decode cX0_readStation 102 = .ok (.iload 4, 2) := by decide +kernel
theorem dX0_readStation_104 : decode cX0_readStation 104 = .ok (.putfield 47, 3) := by decide +kernel
theorem dX0_readStation_107 : decode cX0_readStation 107 = .ok (.aload 5, 2) := by decide +kernel
theorem dX0_readStation_109 : decode cX0_readStation 109 = .ok (.aload_n 1, 1) := by decide +kernel
theorem dX0_readStation_110 : decode cX0_readStation 110 = .ok (.iload_n 3, 1) := by decide +kernel
theorem dX0_readStation_111 : decode cX0_readStation 111 = .ok (.iconst 1, 1) := by decide +kernel
theorem dX0_readStation_112 : decode cX0_readStation 112 = .ok (.iadd, 1) := by decide +kernel
theorem dX0_readStation_113 : decode cX0_readStation 113 = .ok (.baload, 1) := by decide +kernel
theorem dX0_readStation_114 : decode cX0_readStation 114 = .ok (.bipush 48, 2) := by decide +kernel
theorem dX0_readStation_116 : decode cX0_readStation 116 = .ok (.isub, 1) := by decide +kernel
theorem dX0_readStation_117 : decode cX0_readStation 117 = .ok (.putfield 50, 3) := by decide +kernel
theorem dX0_readStation_120 : decode cX0_readStation 120 = .ok (.aload 5, 2) := by decide +kernel
theorem dX0_readStation_122 : decode cX0_readStation 122 = .ok (.aload_n 1, 1) := by decide +kernel
theorem dX0_readStation_123 : decode cX0_readStation 123 = .ok (.iload_n 3, 1) := by decide +kernel
theorem dX0_readStation_124 : decode cX0_readStation 124 = .ok (.iconst 2, 1) := by decide +kernel
theorem dX0_readStation_125 : decode cX0_readStation 125 = .ok (.iadd, 1) := by decide +kernel
theorem dX0_readStation_126 : decode cX0_readStation 126 = .ok (.baload, 1) := by decide +kernel
theorem dX0_readStation_127 : decode cX0_readStation 127 = .ok (.bipush 48, 2) := by decide +kernel
theorem dX0_readStation_129 : decode cX0_readStation 129 = .ok (.isub, 1) := by decide +kernel
theorem dX0_readStation_130 : decode cX0_readStation 130 = .ok (.putfield 53, 3) := by decide +kernel
theorem dX0_readStation_133 : decode cX0_readStation 133 = .ok (.aload 5, 2) := by decide +kernel
theorem dX0_readStation_135 : decode cX0_readStation 135 = .ok (.aload_n 1, 1) := by decide +kernel
theorem dX0_readStation_136 : decode cX0_readStation 136 = .ok (.iload_n 3, 1) := by decide +kernel
theorem dX0_readStation_137 : decode cX0_readStation 137 = .ok (.iconst 3, 1) := by decide +kernel
theorem dX0_readStation_138 : decode cX0_readStation 138 = .ok (.iadd, 1) := by decide +kernel
theorem dX0_readStation_139 : decode cX0_readStation 139 = .ok (.baload, 1) := by decide +kernel
theorem dX0_readStation_140 : decode cX0_readStation 140 = .ok (.bipush 48, 2) := by decide +kernel
theorem dX0_readStation_142 : decode cX0_readStation 142 = .ok (.isub, 1) := by decide +kernel
theorem dX0_readStation_143 : decode cX0_readStation 143 = .ok (.putfield 56, 3) := by decide +kernel
theorem dX0_readStation_146 : decode cX0_readStation 146 = .ok (.aload 5, 2) := by decide +kernel
theorem dX0_readStation_148 : decode cX0_readStation 148 = .ok (.invokevirtual 59, 3) := by decide +kernel
theorem dX0_readStation_151 : decode cX0_readStation 151 = .ok (.aload_n 0, 1) := by decide +kernel
theorem dX0_readStation_152 : decode cX0_readStation 152 = .ok (.dup, 1) := by decide +kernel
theorem dX0_readStation_153 : decode cX0_readStation 153 = .ok (.getfield 17, 3) := by decide +kernel
theorem dX0_readStation_156 : decode cX0_readStation 156 = .ok (.iconst 1, 1) := by decide +kernel
theorem dX0_readStation_157 : decode cX0_readStation 157 = .ok (.iadd, 1) := by decide +kernel
theorem dX0_readStation_158 : decode cX0_readStation 158 = .ok (.putfield 17, 3) := by decide +kernel
theorem dX0_readStation_161 : decode cX0_readStation 161 = .ok (.bipush (-9), 2) := by decide +kernel
theorem dX0_readStation_163 : decode cX0_readStation 163 = .ok (.ireturn, 1) := by decide +kernel
/-! X0_readStation ([BII)I -/
abbrev rmX0_readStation : Room := { frames := 1, cells := 0, slots := 0, locals := 21 }
theorem lkX0_readStation_0 : Cond.fieldLink RX0 17 (TX0 1).1 (TX0 1).2.1 (TX0 1).2.2.1 ∈ wsX0_readStation := by decide +kernel
theorem lkX0_readStation_1 : Cond.fieldLink RX0 11 (TX0 0).1 (TX0 0).2.1 (TX0 0).2.2.1 ∈ wsX0_readStation := by decide +kernel
theorem lkX0_readStation_2 : Cond.fieldLink RX0 47 (TX2 0).1 (TX2 0).2.1 (TX2 0).2.2.1 ∈ wsX0_readStation := by decide +kernel
theorem lkX0_readStation_3 : Cond.fieldLink RX0 50 (TX2 1).1 (TX2 1).2.1 (TX2 1).2.2.1 ∈ wsX0_readStation := by decide +kernel
theorem lkX0_readStation_4 : Cond.fieldLink RX0 53 (TX2 2).1 (TX2 2).2.1 (TX2 2).2.2.1 ∈ wsX0_readStation := by decide +kernel
theorem lkX0_readStation_5 : Cond.fieldLink RX0 56 (TX2 3).1 (TX2 3).2.1 (TX2 3).2.2.1 ∈ wsX0_readStation := by decide +kernel
theorem inX0_readStation_X0 : ∀ w ∈ u_ws RX0 TX0 6, w ∈ wsX0_readStation := by decide +kernel
theorem inX0_readStation_X2 : ∀ w ∈ u_ws RX2 TX2 6, w ∈ wsX0_readStation := by decide +kernel
noncomputable def fX0_readStation_b78 (G : mm_G) (a0 : Nat) (a1 : Nat) (x2 : Int32) (x3 : Int32) (x5 : Int32) (σ : mm_M) : Option ((Int32 × mm_M) ⊕ (Int32 × Int32 × mm_M)) := some (.inl (x3 + x5, σ))
noncomputable def fX0_readStation_b68 (G : mm_G) (a0 : Nat) (a1 : Nat) (x2 : Int32) (x3 : Int32) (x4 : Int32) (x5 : Int32) (x6 : Int32) (sx0 : Int32) (sx1 : Int32) (σ : mm_M) : Option ((Int32 × mm_M) ⊕ (Int32 × Int32 × mm_M)) := if sx1 < sx0 then (fX0_readStation_b78 G a0 a1 x2 x3 x5 σ) else (if (9 : Int32) < x6 then (fX0_readStation_b78 G a0 a1 x2 x3 x5 σ) else (some (.inr (x4, x5 + 1, σ))))
noncomputable def fX0_readStation_b28 (G : mm_G) (a0 : Nat) (a1 : Nat) (x2 : Int32) (x3 : Int32) (x4 : Int32) (x5 : Int32) (σ : mm_M) : Option ((Int32 × mm_M) ⊕ (Int32 × Int32 × mm_M)) := if x5 < (4 : Int32) then (if (x3 + x5) < x2 then (if (x3 + x5) < 0 ∨ mm_N G a1 ≤ (x3 + x5).toNatClampNeg then none else (fX0_readStation_b68 G a0 a1 x2 x3 x4 x5 ((σ.1 a1 (x3 + x5).toNatClampNeg) - (48 : Int32)) (if x5 = (2 : Int32) then (1 : Int32) else (0 : Int32)) ((σ.1 a1 (x3 + x5).toNatClampNeg) - (48 : Int32)) σ)) else (some (.inl (x2, σ)))) else (if (σ.1 a0 1) < 0 ∨ mm_N G (mm_R G a0 0) ≤ (σ.1 a0 1).toNatClampNeg then none else (if (x3 + (1 : Int32)) < 0 ∨ mm_N G a1 ≤ (x3 + (1 : Int32)).toNatClampNeg then none else (if (x3 + (2 : Int32)) < 0 ∨ mm_N G a1 ≤ (x3 + (2 : Int32)).toNatClampNeg then none else (if (x3 + (3 : Int32)) < 0 ∨ mm_N G a1 ≤ (x3 + (3 : Int32)).toNatClampNeg then none else ((fX2_rest G (mm_R G (mm_R G a0 0) (σ.1 a0 1).toNatClampNeg) (mm_up (mm_up (mm_up (mm_up σ (mm_R G (mm_R G a0 0) (σ.1 a0 1).toNatClampNeg) 0 x4) (mm_R G (mm_R G a0 0) (σ.1 a0 1).toNatClampNeg) 1 (((mm_up σ (mm_R G (mm_R G a0 0) (σ.1 a0 1).toNatClampNeg) 0 x4).1 a1 (x3 + (1 : Int32)).toNatClampNeg) - (48 : Int32))) (mm_R G (mm_R G a0 0) (σ.1 a0 1).toNatClampNeg) 2 (((mm_up (mm_up σ (mm_R G (mm_R G a0 0) (σ.1 a0 1).toNatClampNeg) 0 x4) (mm_R G (mm_R G a0 0) (σ.1 a0 1).toNatClampNeg) 1 (((mm_up σ (mm_R G (mm_R G a0 0) (σ.1 a0 1).toNatClampNeg) 0 x4).1 a1 (x3 + (1 : Int32)).toNatClampNeg) - (48 : Int32))).1 a1 (x3 + (2 : Int32)).toNatClampNeg) - (48 : Int32))) (mm_R G (mm_R G a0 0) (σ.1 a0 1).toNatClampNeg) 3 (((mm_up (mm_up (mm_up σ (mm_R G (mm_R G a0 0) (σ.1 a0 1).toNatClampNeg) 0 x4) (mm_R G (mm_R G a0 0) (σ.1 a0 1).toNatClampNeg) 1 (((mm_up σ (mm_R G (mm_R G a0 0) (σ.1 a0 1).toNatClampNeg) 0 x4).1 a1 (x3 + (1 : Int32)).toNatClampNeg) - (48 : Int32))) (mm_R G (mm_R G a0 0) (σ.1 a0 1).toNatClampNeg) 2 (((mm_up (mm_up σ (mm_R G (mm_R G a0 0) (σ.1 a0 1).toNatClampNeg) 0 x4) (mm_R G (mm_R G a0 0) (σ.1 a0 1).toNatClampNeg) 1 (((mm_up σ (mm_R G (mm_R G a0 0) (σ.1 a0 1).toNatClampNeg) 0 x4).1 a1 (x3 + (1 : Int32)).toNatClampNeg) - (48 : Int32))).1 a1 (x3 + (2 : Int32)).toNatClampNeg) - (48 : Int32))).1 a1 (x3 + (3 : Int32)).toNatClampNeg) - (48 : Int32)))).bind (fun q148 => some (.inl ((-9 : Int32), mm_up q148 a0 1 ((q148.1 a0 1) + (1 : Int32))))))))))
noncomputable def fX0_readStation_b0 (G : mm_G) (a0 : Nat) (a1 : Nat) (x2 : Int32) (x3 : Int32) (σ : mm_M) : Option ((Int32 × mm_M) ⊕ (Int32 × Int32 × mm_M)) := if x3 < 0 ∨ mm_N G a1 ≤ x3.toNatClampNeg then none else ((fX0_kindOf G (σ.1 a1 x3.toNatClampNeg) σ).bind (fun q3 => if (q3.2.1 a0 1) < (7 : Int32) then (if q3.1 = (-1 : Int32) then (some (.inl (x3, q3.2))) else (some (.inr (q3.1, (1 : Int32), q3.2)))) else (some (.inl (x3, q3.2)))))
noncomputable def fX0_readStation_s (G : mm_G) (a0 : Nat) (a1 : Nat) (x2 : Int32) (x3 : Int32) : (Int32 × Int32 × mm_M) → Option ((Int32 × mm_M) ⊕ (Int32 × Int32 × mm_M)) := (fun s => fX0_readStation_b28 G a0 a1 x2 x3 s.1 s.2.1 s.2.2)
def PX0_readStation (E : mm_E) (G : mm_G) (a0 : Nat) (a1 : Nat) (x2 : Int32) (x3 : Int32) (q : (Int32 × mm_M)) : (Int32 × Int32 × mm_M) → Prop := (fun s => mm_At E G 7 (mm_Qi E G q) s.2.2 28 [(0, .ref a0), (1, .ref a1), (2, .int x2), (3, .int x3), (4, .int s.1), (5, .int s.2.1)] [])
noncomputable def fX0_readStation (G : mm_G) (a0 : Nat) (a1 : Nat) (x2 : Int32) (x3 : Int32) (σ : mm_M) : Option (Int32 × mm_M) := mm_run (fX0_readStation_b0 G a0 a1 x2 x3 σ) (fX0_readStation_s G a0 a1 x2 x3)
set_option maxHeartbeats 4000000 in
set_option maxRecDepth 100000 in
theorem wX0_readStation_b78 {E : mm_E} {G : mm_G} (X : mm_Cx E G cX0_readStation 7 RX0 wsX0_readStation rmX0_readStation (some .int)) {a0 : Nat} {a1 : Nat} {x2 : Int32} {x3 : Int32} {x5 : Int32} {σ : mm_M} {q : (Int32 × mm_M)} (ha0 : mm_Is G 0 a0) (ha1 : mm_Is G 5 a1) {o : (Int32 × mm_M) ⊕ (Int32 × Int32 × mm_M)} (h : fX0_readStation_b78 G a0 a1 x2 x3 x5 σ = some o) (hk : mm_Ok q (PX0_readStation E G a0 a1 x2 x3 q) o) : mm_At E G 7 (mm_Qi E G q) σ 78 [(3, .int x3), (5, .int x5)] [] := by
  unfold fX0_readStation_b78 at h
  refine at_iload_n (pc := 78) X 3 0 dX0_readStation_78 rfl rfl ?_
  refine at_iload (pc := 79) X 5 1 dX0_readStation_79 rfl ?_
  refine at_iadd (pc := 81) X dX0_readStation_81 ?_
  exact at_iret (pc := 82) X (mm_inl h hk) dX0_readStation_82
set_option maxHeartbeats 4000000 in
set_option maxRecDepth 100000 in
theorem wX0_readStation_b68 {E : mm_E} {G : mm_G} (X : mm_Cx E G cX0_readStation 7 RX0 wsX0_readStation rmX0_readStation (some .int)) {a0 : Nat} {a1 : Nat} {x2 : Int32} {x3 : Int32} {x4 : Int32} {x5 : Int32} {x6 : Int32} {sx0 : Int32} {sx1 : Int32} {σ : mm_M} {q : (Int32 × mm_M)} (ha0 : mm_Is G 0 a0) (ha1 : mm_Is G 5 a1) {o : (Int32 × mm_M) ⊕ (Int32 × Int32 × mm_M)} (h : fX0_readStation_b68 G a0 a1 x2 x3 x4 x5 x6 sx0 sx1 σ = some o) (hk : mm_Ok q (PX0_readStation E G a0 a1 x2 x3 q) o) : mm_At E G 7 (mm_Qi E G q) σ 68 [(0, .ref a0), (1, .ref a1), (2, .int x2), (3, .int x3), (4, .int x4), (5, .int x5), (6, .int x6)] [.int sx0, .int sx1] := by
  unfold fX0_readStation_b68 at h
  refine at_icmp_lt (pc := 68) X 78 dX0_readStation_68 (by decide) (fun c68 => ?_) (fun c68 => ?_)
  · have h := mm_pos c68 h
    exact at_sub [3, 5] rfl (wX0_readStation_b78 X ha0 ha1 h hk)
  · have h := mm_neg c68 h
    refine at_iload (pc := 71) X 6 6 dX0_readStation_71 rfl ?_
    refine at_bipush (pc := 73) X (9 : Int32) dX0_readStation_73 ib_9 ?_
    refine at_icmp_le (pc := 75) X 83 dX0_readStation_75 (by decide) (fun c75 => ?_) (fun c75 => ?_)
    · have h := mm_neg c75 h
      refine at_iinc (pc := 83) X 5 5 (x5 + 1) [(5, .int (x5 + 1)), (0, .ref a0), (1, .ref a1), (2, .int x2), (3, .int x3), (4, .int x4), (6, .int x6)] dX0_readStation_83 rfl (ii_1 _) (by decide) rfl ?_
      refine at_goto (pc := 86) X 28 dX0_readStation_86 (by decide) ?_
      have h2 := mm_inr h hk; exact at_sub [1, 2, 3, 4, 5, 0] rfl h2
    · have h := mm_pos c75 h
      exact at_sub [3, 5] rfl (wX0_readStation_b78 X ha0 ha1 h hk)
set_option maxHeartbeats 4000000 in
set_option maxRecDepth 100000 in
theorem wX0_readStation_b28 {E : mm_E} {G : mm_G} (X : mm_Cx E G cX0_readStation 7 RX0 wsX0_readStation rmX0_readStation (some .int)) {a0 : Nat} {a1 : Nat} {x2 : Int32} {x3 : Int32} {x4 : Int32} {x5 : Int32} {σ : mm_M} {q : (Int32 × mm_M)} (ha0 : mm_Is G 0 a0) (ha1 : mm_Is G 5 a1) {o : (Int32 × mm_M) ⊕ (Int32 × Int32 × mm_M)} (h : fX0_readStation_b28 G a0 a1 x2 x3 x4 x5 σ = some o) (hk : mm_Ok q (PX0_readStation E G a0 a1 x2 x3 q) o) : mm_At E G 7 (mm_Qi E G q) σ 28 [(0, .ref a0), (1, .ref a1), (2, .int x2), (3, .int x3), (4, .int x4), (5, .int x5)] [] := by
  unfold fX0_readStation_b28 at h
  refine at_iload (pc := 28) X 5 5 dX0_readStation_28 rfl ?_
  refine at_iconst (pc := 30) X (4 : Int32) dX0_readStation_30 ic_4 ?_
  refine at_icmp_ge (pc := 31) X 89 dX0_readStation_31 (by decide) (fun c31 => ?_) (fun c31 => ?_)
  · have h := mm_neg c31 h
    refine at_aload_n (pc := 89) X 0 0 dX0_readStation_89 rfl rfl ?_
    refine at_get (pc := 90) X 0 0 (.ref (mm_R G a0 0)) ha0 (by decide) rfl inX0_readStation_X0 (by decide) lkX0_readStation_1 rfl dX0_readStation_90 ?_
    refine at_aload_n (pc := 93) X 0 0 dX0_readStation_93 rfl rfl ?_
    refine at_get (pc := 94) X 0 1 (.int (σ.1 a0 1)) ha0 (by decide) rfl inX0_readStation_X0 (by decide) lkX0_readStation_0 rfl dX0_readStation_94 ?_
    obtain ⟨hc97, h⟩ := mm_chk h
    refine at_aald (pc := 97) X 8 3 (wf_0_0 X.wf ha0) (by decide) (by decide) rfl rfl hc97 dX0_readStation_97 ?_
    refine at_astore (pc := 98) X 5 [(5, .ref (mm_R G (mm_R G a0 0) (σ.1 a0 1).toNatClampNeg)), (0, .ref a0), (1, .ref a1), (2, .int x2), (3, .int x3), (4, .int x4)] dX0_readStation_98 (by decide) rfl ?_
    refine at_aload (pc := 100) X 5 0 dX0_readStation_100 rfl ?_
    refine at_iload (pc := 102) X 4 5 dX0_readStation_102 rfl ?_
    refine at_put (pc := 104) X 2 0 (wf_8 X.wf (wf_0_0 X.wf ha0) hc97) (by decide) rfl inX0_readStation_X2 tyX2 tyX2_ok nmX2 (by decide) lkX0_readStation_2 rfl (ty := .int) rfl rfl rfl (Nat.le_of_ble_eq_true rfl) (ms_2_0 G _ _ _) mm_up_ne dX0_readStation_104 ?_
    refine at_aload (pc := 107) X 5 0 dX0_readStation_107 rfl ?_
    refine at_aload_n (pc := 109) X 1 2 dX0_readStation_109 rfl rfl ?_
    refine at_iload_n (pc := 110) X 3 4 dX0_readStation_110 rfl rfl ?_
    refine at_iconst (pc := 111) X (1 : Int32) dX0_readStation_111 ic_1 ?_
    refine at_iadd (pc := 112) X dX0_readStation_112 ?_
    obtain ⟨hc113, h⟩ := mm_chk h
    refine at_bald (pc := 113) X ha1 hc113 dX0_readStation_113 ?_
    refine at_bipush (pc := 114) X (48 : Int32) dX0_readStation_114 ib_48 ?_
    refine at_isub (pc := 116) X dX0_readStation_116 ?_
    refine at_put (pc := 117) X 2 1 (wf_8 X.wf (wf_0_0 X.wf ha0) hc97) (by decide) rfl inX0_readStation_X2 tyX2 tyX2_ok nmX2 (by decide) lkX0_readStation_3 rfl (ty := .int) rfl rfl rfl (Nat.le_of_ble_eq_true rfl) (ms_2_1 G _ _ _) mm_up_ne dX0_readStation_117 ?_
    refine at_aload (pc := 120) X 5 0 dX0_readStation_120 rfl ?_
    refine at_aload_n (pc := 122) X 1 2 dX0_readStation_122 rfl rfl ?_
    refine at_iload_n (pc := 123) X 3 4 dX0_readStation_123 rfl rfl ?_
    refine at_iconst (pc := 124) X (2 : Int32) dX0_readStation_124 ic_2 ?_
    refine at_iadd (pc := 125) X dX0_readStation_125 ?_
    obtain ⟨hc126, h⟩ := mm_chk h
    refine at_bald (pc := 126) X ha1 hc126 dX0_readStation_126 ?_
    refine at_bipush (pc := 127) X (48 : Int32) dX0_readStation_127 ib_48 ?_
    refine at_isub (pc := 129) X dX0_readStation_129 ?_
    refine at_put (pc := 130) X 2 2 (wf_8 X.wf (wf_0_0 X.wf ha0) hc97) (by decide) rfl inX0_readStation_X2 tyX2 tyX2_ok nmX2 (by decide) lkX0_readStation_4 rfl (ty := .int) rfl rfl rfl (Nat.le_of_ble_eq_true rfl) (ms_2_2 G _ _ _) mm_up_ne dX0_readStation_130 ?_
    refine at_aload (pc := 133) X 5 0 dX0_readStation_133 rfl ?_
    refine at_aload_n (pc := 135) X 1 2 dX0_readStation_135 rfl rfl ?_
    refine at_iload_n (pc := 136) X 3 4 dX0_readStation_136 rfl rfl ?_
    refine at_iconst (pc := 137) X (3 : Int32) dX0_readStation_137 ic_3 ?_
    refine at_iadd (pc := 138) X dX0_readStation_138 ?_
    obtain ⟨hc139, h⟩ := mm_chk h
    refine at_bald (pc := 139) X ha1 hc139 dX0_readStation_139 ?_
    refine at_bipush (pc := 140) X (48 : Int32) dX0_readStation_140 ib_48 ?_
    refine at_isub (pc := 142) X dX0_readStation_142 ?_
    refine at_put (pc := 143) X 2 3 (wf_8 X.wf (wf_0_0 X.wf ha0) hc97) (by decide) rfl inX0_readStation_X2 tyX2 tyX2_ok nmX2 (by decide) lkX0_readStation_5 rfl (ty := .int) rfl rfl rfl (Nat.le_of_ble_eq_true rfl) (ms_2_3 G _ _ _) mm_up_ne dX0_readStation_143 ?_
    refine at_aload (pc := 146) X 5 0 dX0_readStation_146 rfl ?_
    obtain ⟨q148, hq148, h⟩ := mm_bind h
    refine at_callv (n := 0) (pc := 148) X 2 [] [] (mX2_rest (eL E) X.wf (wf_8 X.wf (wf_0_0 X.wf ha0) hc97) hq148) gX0_readStation_X2_rest rfl ⟨rfl, rfl⟩ (by decide +kernel) ⟨by decide, by decide⟩ (by decide) rfl (wf_8 X.wf (wf_0_0 X.wf ha0) hc97) rfl rfl (Nat.le_of_ble_eq_true rfl) dX0_readStation_148 ?_
    refine at_aload_n (pc := 151) X 0 1 dX0_readStation_151 rfl rfl ?_
    refine at_dup (pc := 152) X dX0_readStation_152 rfl ?_
    refine at_get (pc := 153) X 0 1 (.int (q148.1 a0 1)) ha0 (by decide) rfl inX0_readStation_X0 (by decide) lkX0_readStation_0 rfl dX0_readStation_153 ?_
    refine at_iconst (pc := 156) X (1 : Int32) dX0_readStation_156 ic_1 ?_
    refine at_iadd (pc := 157) X dX0_readStation_157 ?_
    refine at_put (pc := 158) X 0 1 ha0 (by decide) rfl inX0_readStation_X0 tyX0 tyX0_ok nmX0 (by decide) lkX0_readStation_0 rfl (ty := .int) rfl rfl rfl (Nat.le_of_ble_eq_true rfl) (ms_0_1 G _ _ _) mm_up_ne dX0_readStation_158 ?_
    refine at_bipush (pc := 161) X (-9 : Int32) dX0_readStation_161 ib_m9 ?_
    exact at_iret (pc := 163) X (mm_inl h hk) dX0_readStation_163
  · have h := mm_pos c31 h
    refine at_iload_n (pc := 34) X 3 3 dX0_readStation_34 rfl rfl ?_
    refine at_iload (pc := 35) X 5 5 dX0_readStation_35 rfl ?_
    refine at_iadd (pc := 37) X dX0_readStation_37 ?_
    refine at_iload_n (pc := 38) X 2 2 dX0_readStation_38 rfl rfl ?_
    refine at_icmp_lt (pc := 39) X 44 dX0_readStation_39 (by decide) (fun c39 => ?_) (fun c39 => ?_)
    · have h := mm_pos c39 h
      refine at_aload_n (pc := 44) X 1 1 dX0_readStation_44 rfl rfl ?_
      refine at_iload_n (pc := 45) X 3 3 dX0_readStation_45 rfl rfl ?_
      refine at_iload (pc := 46) X 5 5 dX0_readStation_46 rfl ?_
      refine at_iadd (pc := 48) X dX0_readStation_48 ?_
      obtain ⟨hc49, h⟩ := mm_chk h
      refine at_bald (pc := 49) X ha1 hc49 dX0_readStation_49 ?_
      refine at_bipush (pc := 50) X (48 : Int32) dX0_readStation_50 ib_48 ?_
      refine at_isub (pc := 52) X dX0_readStation_52 ?_
      refine at_istore (pc := 53) X 6 [(6, .int ((σ.1 a1 (x3 + x5).toNatClampNeg) - (48 : Int32))), (0, .ref a0), (1, .ref a1), (2, .int x2), (3, .int x3), (4, .int x4), (5, .int x5)] dX0_readStation_53 (by decide) rfl ?_
      refine at_iload (pc := 55) X 6 0 dX0_readStation_55 rfl ?_
      refine at_iload (pc := 57) X 5 6 dX0_readStation_57 rfl ?_
      refine at_iconst (pc := 59) X (2 : Int32) dX0_readStation_59 ic_2 ?_
      have hj60 : mm_At E G 7 (mm_Qi E G q) σ 68 [(0, .ref a0), (1, .ref a1), (2, .int x2), (3, .int x3), (4, .int x4), (5, .int x5), (6, .int ((σ.1 a1 (x3 + x5).toNatClampNeg) - (48 : Int32)))] [.int (if x5 = (2 : Int32) then (1 : Int32) else (0 : Int32)), .int ((σ.1 a1 (x3 + x5).toNatClampNeg) - (48 : Int32))] := by
        exact at_sub [0, 1, 2, 3, 4, 5, 6] rfl (wX0_readStation_b68 X ha0 ha1 h hk)
      refine at_icmp_ne (pc := 60) X 67 dX0_readStation_60 (by decide) (fun c60 => ?_) (fun c60 => ?_)
      · try simp only [if_neg c60] at hj60
        refine at_iconst (pc := 67) X (0 : Int32) dX0_readStation_67 ic_0 ?_
        exact at_sub [1, 2, 3, 4, 5, 6, 0] rfl hj60
      · try simp only [if_pos c60] at hj60
        refine at_iconst (pc := 63) X (1 : Int32) dX0_readStation_63 ic_1 ?_
        refine at_goto (pc := 64) X 68 dX0_readStation_64 (by decide) ?_
        exact at_sub [1, 2, 3, 4, 5, 6, 0] rfl hj60
    · have h := mm_neg c39 h
      refine at_iload_n (pc := 42) X 2 2 dX0_readStation_42 rfl rfl ?_
      exact at_iret (pc := 43) X (mm_inl h hk) dX0_readStation_43
set_option maxHeartbeats 4000000 in
set_option maxRecDepth 100000 in
theorem wX0_readStation_b0 {E : mm_E} {G : mm_G} (X : mm_Cx E G cX0_readStation 7 RX0 wsX0_readStation rmX0_readStation (some .int)) {a0 : Nat} {a1 : Nat} {x2 : Int32} {x3 : Int32} {σ : mm_M} {q : (Int32 × mm_M)} (ha0 : mm_Is G 0 a0) (ha1 : mm_Is G 5 a1) {o : (Int32 × mm_M) ⊕ (Int32 × Int32 × mm_M)} (h : fX0_readStation_b0 G a0 a1 x2 x3 σ = some o) (hk : mm_Ok q (PX0_readStation E G a0 a1 x2 x3 q) o) : mm_At E G 7 (mm_Qi E G q) σ 0 [(0, .ref a0), (1, .ref a1), (2, .int x2), (3, .int x3)] [] := by
  unfold fX0_readStation_b0 at h
  refine at_aload_n (pc := 0) X 1 1 dX0_readStation_0 rfl rfl ?_
  refine at_iload_n (pc := 1) X 3 3 dX0_readStation_1 rfl rfl ?_
  obtain ⟨hc2, h⟩ := mm_chk h
  refine at_bald (pc := 2) X ha1 hc2 dX0_readStation_2 ?_
  obtain ⟨q3, hq3, h⟩ := mm_bind h
  refine at_scalli (n := 1) (pc := 3) X [.int (σ.1 a1 x3.toNatClampNeg)] [] (mX0_kindOf (eL E) X.wf hq3) gX0_readStation_X0_kindOf rfl ⟨rfl, rfl⟩ (by decide +kernel) ⟨by decide, by decide⟩ rfl rfl (Nat.le_of_ble_eq_true rfl) dX0_readStation_3 ?_
  refine at_istore (pc := 6) X 4 [(4, .int q3.1), (0, .ref a0), (1, .ref a1), (2, .int x2), (3, .int x3)] dX0_readStation_6 (by decide) rfl ?_
  refine at_aload_n (pc := 8) X 0 1 dX0_readStation_8 rfl rfl ?_
  refine at_get (pc := 9) X 0 1 (.int (q3.2.1 a0 1)) ha0 (by decide) rfl inX0_readStation_X0 (by decide) lkX0_readStation_0 rfl dX0_readStation_9 ?_
  refine at_bipush (pc := 12) X (7 : Int32) dX0_readStation_12 ib_7 ?_
  refine at_icmp_ge (pc := 14) X 23 dX0_readStation_14 (by decide) (fun c14 => ?_) (fun c14 => ?_)
  · have h := mm_neg c14 h
    refine at_iload_n (pc := 23) X 3 4 dX0_readStation_23 rfl rfl ?_
    exact at_iret (pc := 24) X (mm_inl h hk) dX0_readStation_24
  · have h := mm_pos c14 h
    refine at_iload (pc := 17) X 4 0 dX0_readStation_17 rfl ?_
    refine at_iconst (pc := 19) X (-1 : Int32) dX0_readStation_19 ic_m1 ?_
    refine at_icmp_ne (pc := 20) X 25 dX0_readStation_20 (by decide) (fun c20 => ?_) (fun c20 => ?_)
    · have h := mm_neg c20 h
      refine at_iconst (pc := 25) X (1 : Int32) dX0_readStation_25 ic_1 ?_
      refine at_istore (pc := 26) X 5 [(5, .int (1 : Int32)), (4, .int q3.1), (0, .ref a0), (1, .ref a1), (2, .int x2), (3, .int x3)] dX0_readStation_26 (by decide) rfl ?_
      have h2 := mm_inr h hk; exact at_sub [2, 3, 4, 5, 1, 0] rfl h2
    · have h := mm_pos c20 h
      refine at_iload_n (pc := 23) X 3 4 dX0_readStation_23 rfl rfl ?_
      exact at_iret (pc := 24) X (mm_inl h hk) dX0_readStation_24
set_option maxHeartbeats 4000000 in
set_option maxRecDepth 100000 in
theorem mX0_readStation (l : Launch) {G : mm_G} (hwf : mm_WF G) {a0 : Nat} {a1 : Nat} {x2 : Int32} {x3 : Int32} {σ : mm_M} {q : (Int32 × mm_M)} (ha0 : mm_Is G 0 a0) (ha1 : mm_Is G 5 a1) (h : fX0_readStation G a0 a1 x2 x3 σ = some q) : mm_Mi l yX0_readStation wsX0_readStation rmX0_readStation G [.ref a0, .ref a1, .int x2, .int x3] σ q := by
  refine mm_ofi (cc := cX0_readStation) (nL := 7) (ret := some .int) (own := RX0) (lv0 := [(0, .ref a0), (1, .ref a1), (2, .int x2), (3, .int x3)]) (by decide) rfl rfl (Nat.le_of_ble_eq_true rfl) rfl hwf (fun E hE X => ?_)
  obtain ⟨o, h0, hk⟩ := mm_run_ok (P := PX0_readStation E G a0 a1 x2 x3 q) h (fun s o hs hk => by exact wX0_readStation_b28 X ha0 ha1 hs hk)
  exact wX0_readStation_b0 X ha0 ha1 h0 hk
set_option maxRecDepth 20000 in
theorem ggX0_read_X0_readStation : GoodIn wsX0_read wsX0_readStation := goodIn_r _ [10, 1, 11, 12, 13, 14, 15, 16, 17, 9, 18, 19, 20, 21, 22, 23, 24, 25, 26, 27, 28, 29, 30, 31, 32, 33, 34, 35, 36, 37] (by decide +kernel) (by decide +kernel)
set_option maxRecDepth 20000 in
theorem gX0_read_X0_readStation : GoodIn wsX0_read (wsV RX0 39 RX0 yX0_readStation wsX0_readStation) := goodIn_app (goodIn_of _ (by decide +kernel)) ggX0_read_X0_readStation
theorem dX0_read_0 : decode cX0_read 0 = .ok (.aload_n 0, 1) := by decide +kernel
theorem dX0_read_1 : decode cX0_read 1 = .ok (.iconst 0, 1) := by decide +kernel
theorem dX0_read_2 : decode cX0_read 2 = .ok (.putfield 17, 3) := by decide +kernel
theorem dX0_read_5 : decode cX0_read 5 = .ok (.aload_n 0, 1) := by decide +kernel
theorem dX0_read_6 : decode cX0_read 6 = .ok (.iconst 0, 1) := by decide +kernel
theorem dX0_read_7 : decode cX0_read 7 = .ok (.putfield 21, 3) := by decide +kernel
theorem dX0_read_10 : decode cX0_read 10 = .ok (.aload_n 0, 1) := by decide +kernel
theorem dX0_read_11 : decode cX0_read 11 = .ok (.iconst 0, 1) := by decide +kernel
theorem dX0_read_12 : decode cX0_read 12 = .ok (.putfield 24, 3) := by decide +kernel
theorem dX0_read_15 : decode cX0_read 15 = .ok (.aload_n 0, 1) := by decide +kernel
theorem dX0_read_16 : decode cX0_read 16 = .ok (.iconst 0, 1) := by decide +kernel
theorem dX0_read_17 : decode cX0_read 17 = .ok (.putfield 27, 3) := by decide +kernel
theorem dX0_read_20 : decode cX0_read 20 = .ok (.aload_n 0, 1) := by decide +kernel
theorem dX0_read_21 : decode cX0_read 21 = .ok (.iconst 0, 1) := by decide +kernel
theorem dX0_read_22 : decode cX0_read 22 = .ok (.putfield 30, 3) := by decide +kernel
theorem dX0_read_25 : decode cX0_read 25 = .ok (.iconst 0, 1) := by decide +kernel
theorem dX0_read_26 : decode cX0_read 26 = .ok (.istore_n 3, 1) := by decide +kernel
theorem dX0_read_27 : decode cX0_read 27 = .ok (.iload_n 3, 1) := by decide +kernel
theorem dX0_read_28 : decode cX0_read 28 = .ok (.iload_n 2, 1) := by decide +kernel
theorem dX0_read_29 : decode cX0_read 29 = .ok (.if_icmp .ge 42, 3) := by decide +kernel
theorem dX0_read_32 : decode cX0_read 32 = .ok (.aload_n 1, 1) := by decide +kernel
theorem dX0_read_33 : decode cX0_read 33 = .ok (.iload_n 3, 1) := by decide +kernel
theorem dX0_read_34 : decode cX0_read 34 = .ok (.baload, 1) := by decide +kernel
theorem dX0_read_35 : decode cX0_read 35 = .ok (.bipush 32, 2) := by decide +kernel
theorem dX0_read_37 : decode cX0_read 37 = .ok (.if_icmp .ne 9, 3) := by decide +kernel
theorem dX0_read_40 : decode cX0_read 40 = .ok (.iinc 3 1, 3) := by decide +kernel
theorem dX0_read_43 : decode cX0_read 43 = .ok (.goto (-16), 3) := by decide +kernel
theorem dX0_read_46 : decode cX0_read 46 = .ok (.aload_n 0, 1) := by decide +kernel
theorem dX0_read_47 : decode cX0_read 47 = .ok (.aload_n 1, 1) := by decide +kernel
theorem dX0_read_48 : decode cX0_read 48 = .ok (.iload_n 2, 1) := by decide +kernel
theorem dX0_read_49 : decode cX0_read 49 = .ok (.iload_n 3, 1) := by decide +kernel
theorem dX0_read_50 : decode cX0_read 50 = .ok (.invokevirtual 39, 3) := by decide +kernel
theorem dX0_read_53 : decode cX0_read 53 = .ok (.istore 4, 2) := by decide +kernel
theorem dX0_read_55 : decode cX0_read 55 = .ok (.iload 4, 2) := by decide +kernel
theorem dX0_read_57 : decode cX0_read 57 = .ok (.bipush (-9), 2) := by decide +kernel
theorem dX0_read_59 : decode cX0_read 59 = .ok (.if_icmp .eq 6, 3) := by decide +kernel
theorem dX0_read_62 : decode cX0_read 62 = .ok (.iload 4, 2) := by decide +kernel
theorem dX0_read_64 : decode cX0_read 64 = .ok (.ireturn, 1) := by decide +kernel
theorem dX0_read_65 : decode cX0_read 65 = .ok (.iinc 3 4, 3) := by decide +kernel
theorem dX0_read_68 : decode cX0_read 68 = .ok (.goto (-41), 3) := by decide +kernel
theorem dX0_read_71 : decode cX0_read 71 = .ok (.aload_n 0, 1) := by decide +kernel
theorem dX0_read_72 : decode cX0_read 72 = .ok (.getfield 17, 3) := by decide +kernel
theorem dX0_read_75 : decode cX0_read 75 = .ok (.iconst 2, 1) := by decide +kernel
theorem dX0_read_76 : decode cX0_read 76 = .ok (.if_icmp .ge 7, 3) := by decide +kernel
theorem dX0_read_79 : decode cX0_read 79 = .ok (.iload_n 2, 1) := by decide +kernel
theorem dX0_read_80 : decode cX0_read 80 = .ok (.goto 5, 3) := by decide +kernel
theorem dX0_read_83 : decode cX0_read 83 = .ok (.bipush (-9), 2) := by decide +kernel
theorem dX0_read_85 : decode cX0_read 85 = .ok (.ireturn, 1) := by decide +kernel
/-! X0_read ([BI)I -/
abbrev rmX0_read : Room := { frames := 2, cells := 0, slots := 0, locals := 47 }
theorem lkX0_read_0 : Cond.fieldLink RX0 17 (TX0 1).1 (TX0 1).2.1 (TX0 1).2.2.1 ∈ wsX0_read := by decide +kernel
theorem lkX0_read_1 : Cond.fieldLink RX0 21 (TX0 2).1 (TX0 2).2.1 (TX0 2).2.2.1 ∈ wsX0_read := by decide +kernel
theorem lkX0_read_2 : Cond.fieldLink RX0 24 (TX0 3).1 (TX0 3).2.1 (TX0 3).2.2.1 ∈ wsX0_read := by decide +kernel
theorem lkX0_read_3 : Cond.fieldLink RX0 27 (TX0 4).1 (TX0 4).2.1 (TX0 4).2.2.1 ∈ wsX0_read := by decide +kernel
theorem lkX0_read_4 : Cond.fieldLink RX0 30 (TX0 5).1 (TX0 5).2.1 (TX0 5).2.2.1 ∈ wsX0_read := by decide +kernel
theorem inX0_read_X0 : ∀ w ∈ u_ws RX0 TX0 6, w ∈ wsX0_read := by decide +kernel
noncomputable def fX0_read_b27 (G : mm_G) (a0 : Nat) (a1 : Nat) (x2 : Int32) (x3 : Int32) (σ : mm_M) : Option ((Int32 × mm_M) ⊕ (Int32 × mm_M)) := if x3 < x2 then (if x3 < 0 ∨ mm_N G a1 ≤ x3.toNatClampNeg then none else (if (σ.1 a1 x3.toNatClampNeg) = (32 : Int32) then (some (.inr (x3 + 1, σ))) else ((fX0_readStation G a0 a1 x2 x3 σ).bind (fun q50 => if q50.1 = (-9 : Int32) then (some (.inr (x3 + 4, q50.2))) else (some (.inl (q50.1, q50.2))))))) else (some (.inl (if (σ.1 a0 1) < (2 : Int32) then x2 else (-9 : Int32), σ)))
noncomputable def fX0_read_b0 (G : mm_G) (a0 : Nat) (a1 : Nat) (x2 : Int32) (σ : mm_M) : Option ((Int32 × mm_M) ⊕ (Int32 × mm_M)) := some (.inr ((0 : Int32), mm_up (mm_up (mm_up (mm_up (mm_up σ a0 1 (0 : Int32)) a0 2 (0 : Int32)) a0 3 (0 : Int32)) a0 4 (0 : Int32)) a0 5 (0 : Int32)))
noncomputable def fX0_read_s (G : mm_G) (a0 : Nat) (a1 : Nat) (x2 : Int32) : (Int32 × mm_M) → Option ((Int32 × mm_M) ⊕ (Int32 × mm_M)) := (fun s => fX0_read_b27 G a0 a1 x2 s.1 s.2)
def PX0_read (E : mm_E) (G : mm_G) (a0 : Nat) (a1 : Nat) (x2 : Int32) (q : (Int32 × mm_M)) : (Int32 × mm_M) → Prop := (fun s => mm_At E G 5 (mm_Qi E G q) s.2 27 [(0, .ref a0), (1, .ref a1), (2, .int x2), (3, .int s.1)] [])
noncomputable def fX0_read (G : mm_G) (a0 : Nat) (a1 : Nat) (x2 : Int32) (σ : mm_M) : Option (Int32 × mm_M) := mm_run (fX0_read_b0 G a0 a1 x2 σ) (fX0_read_s G a0 a1 x2)
set_option maxHeartbeats 4000000 in
set_option maxRecDepth 100000 in
theorem wX0_read_b27 {E : mm_E} {G : mm_G} (X : mm_Cx E G cX0_read 5 RX0 wsX0_read rmX0_read (some .int)) {a0 : Nat} {a1 : Nat} {x2 : Int32} {x3 : Int32} {σ : mm_M} {q : (Int32 × mm_M)} (ha0 : mm_Is G 0 a0) (ha1 : mm_Is G 5 a1) {o : (Int32 × mm_M) ⊕ (Int32 × mm_M)} (h : fX0_read_b27 G a0 a1 x2 x3 σ = some o) (hk : mm_Ok q (PX0_read E G a0 a1 x2 q) o) : mm_At E G 5 (mm_Qi E G q) σ 27 [(0, .ref a0), (1, .ref a1), (2, .int x2), (3, .int x3)] [] := by
  unfold fX0_read_b27 at h
  refine at_iload_n (pc := 27) X 3 3 dX0_read_27 rfl rfl ?_
  refine at_iload_n (pc := 28) X 2 2 dX0_read_28 rfl rfl ?_
  refine at_icmp_ge (pc := 29) X 71 dX0_read_29 (by decide) (fun c29 => ?_) (fun c29 => ?_)
  · have h := mm_neg c29 h
    refine at_aload_n (pc := 71) X 0 0 dX0_read_71 rfl rfl ?_
    refine at_get (pc := 72) X 0 1 (.int (σ.1 a0 1)) ha0 (by decide) rfl inX0_read_X0 (by decide) lkX0_read_0 rfl dX0_read_72 ?_
    refine at_iconst (pc := 75) X (2 : Int32) dX0_read_75 ic_2 ?_
    have hj76 : mm_At E G 5 (mm_Qi E G q) σ 85 [] [.int (if (σ.1 a0 1) < (2 : Int32) then x2 else (-9 : Int32))] := by
      exact at_iret (pc := 85) X (mm_inl h hk) dX0_read_85
    refine at_icmp_ge (pc := 76) X 83 dX0_read_76 (by decide) (fun c76 => ?_) (fun c76 => ?_)
    · try simp only [if_neg c76] at hj76
      refine at_bipush (pc := 83) X (-9 : Int32) dX0_read_83 ib_m9 ?_
      exact at_sub [] rfl hj76
    · try simp only [if_pos c76] at hj76
      refine at_iload_n (pc := 79) X 2 2 dX0_read_79 rfl rfl ?_
      refine at_goto (pc := 80) X 85 dX0_read_80 (by decide) ?_
      exact at_sub [] rfl hj76
  · have h := mm_pos c29 h
    refine at_aload_n (pc := 32) X 1 1 dX0_read_32 rfl rfl ?_
    refine at_iload_n (pc := 33) X 3 3 dX0_read_33 rfl rfl ?_
    obtain ⟨hc34, h⟩ := mm_chk h
    refine at_bald (pc := 34) X ha1 hc34 dX0_read_34 ?_
    refine at_bipush (pc := 35) X (32 : Int32) dX0_read_35 ib_32 ?_
    refine at_icmp_ne (pc := 37) X 46 dX0_read_37 (by decide) (fun c37 => ?_) (fun c37 => ?_)
    · have h := mm_neg c37 h
      refine at_aload_n (pc := 46) X 0 0 dX0_read_46 rfl rfl ?_
      refine at_aload_n (pc := 47) X 1 1 dX0_read_47 rfl rfl ?_
      refine at_iload_n (pc := 48) X 2 2 dX0_read_48 rfl rfl ?_
      refine at_iload_n (pc := 49) X 3 3 dX0_read_49 rfl rfl ?_
      obtain ⟨q50, hq50, h⟩ := mm_bind h
      refine at_calli (n := 3) (pc := 50) X 0 [.ref a1, .int x2, .int x3] [] (mX0_readStation (eL E) X.wf ha0 ha1 hq50) gX0_read_X0_readStation rfl ⟨rfl, rfl⟩ (by decide +kernel) ⟨by decide, by decide⟩ (by decide) rfl ha0 rfl rfl (Nat.le_of_ble_eq_true rfl) dX0_read_50 ?_
      refine at_istore (pc := 53) X 4 [(4, .int q50.1), (0, .ref a0), (1, .ref a1), (2, .int x2), (3, .int x3)] dX0_read_53 (by decide) rfl ?_
      refine at_iload (pc := 55) X 4 0 dX0_read_55 rfl ?_
      refine at_bipush (pc := 57) X (-9 : Int32) dX0_read_57 ib_m9 ?_
      refine at_icmp_eq (pc := 59) X 65 dX0_read_59 (by decide) (fun c59 => ?_) (fun c59 => ?_)
      · have h := mm_pos c59 h
        refine at_iinc (pc := 65) X 3 4 (x3 + 4) [(3, .int (x3 + 4)), (4, .int q50.1), (0, .ref a0), (1, .ref a1), (2, .int x2)] dX0_read_65 rfl (ii_4 _) (by decide) rfl ?_
        refine at_goto (pc := 68) X 27 dX0_read_68 (by decide) ?_
        have h2 := mm_inr h hk; exact at_sub [2, 3, 4, 0] rfl h2
      · have h := mm_neg c59 h
        refine at_iload (pc := 62) X 4 0 dX0_read_62 rfl ?_
        exact at_iret (pc := 64) X (mm_inl h hk) dX0_read_64
    · have h := mm_pos c37 h
      refine at_iinc (pc := 40) X 3 3 (x3 + 1) [(3, .int (x3 + 1)), (0, .ref a0), (1, .ref a1), (2, .int x2)] dX0_read_40 rfl (ii_1 _) (by decide) rfl ?_
      refine at_goto (pc := 43) X 27 dX0_read_43 (by decide) ?_
      have h2 := mm_inr h hk; exact at_sub [1, 2, 3, 0] rfl h2
set_option maxHeartbeats 4000000 in
set_option maxRecDepth 100000 in
theorem wX0_read_b0 {E : mm_E} {G : mm_G} (X : mm_Cx E G cX0_read 5 RX0 wsX0_read rmX0_read (some .int)) {a0 : Nat} {a1 : Nat} {x2 : Int32} {σ : mm_M} {q : (Int32 × mm_M)} (ha0 : mm_Is G 0 a0) (ha1 : mm_Is G 5 a1) {o : (Int32 × mm_M) ⊕ (Int32 × mm_M)} (h : fX0_read_b0 G a0 a1 x2 σ = some o) (hk : mm_Ok q (PX0_read E G a0 a1 x2 q) o) : mm_At E G 5 (mm_Qi E G q) σ 0 [(0, .ref a0), (1, .ref a1), (2, .int x2)] [] := by
  unfold fX0_read_b0 at h
  refine at_aload_n (pc := 0) X 0 0 dX0_read_0 rfl rfl ?_
  refine at_iconst (pc := 1) X (0 : Int32) dX0_read_1 ic_0 ?_
  refine at_put (pc := 2) X 0 1 ha0 (by decide) rfl inX0_read_X0 tyX0 tyX0_ok nmX0 (by decide) lkX0_read_0 rfl (ty := .int) rfl rfl rfl (Nat.le_of_ble_eq_true rfl) (ms_0_1 G _ _ _) mm_up_ne dX0_read_2 ?_
  refine at_aload_n (pc := 5) X 0 0 dX0_read_5 rfl rfl ?_
  refine at_iconst (pc := 6) X (0 : Int32) dX0_read_6 ic_0 ?_
  refine at_put (pc := 7) X 0 2 ha0 (by decide) rfl inX0_read_X0 tyX0 tyX0_ok nmX0 (by decide) lkX0_read_1 rfl (ty := .int) rfl rfl rfl (Nat.le_of_ble_eq_true rfl) (ms_0_2 G _ _ _) mm_up_ne dX0_read_7 ?_
  refine at_aload_n (pc := 10) X 0 0 dX0_read_10 rfl rfl ?_
  refine at_iconst (pc := 11) X (0 : Int32) dX0_read_11 ic_0 ?_
  refine at_put (pc := 12) X 0 3 ha0 (by decide) rfl inX0_read_X0 tyX0 tyX0_ok nmX0 (by decide) lkX0_read_2 rfl (ty := .int) rfl rfl rfl (Nat.le_of_ble_eq_true rfl) (ms_0_3 G _ _ _) mm_up_ne dX0_read_12 ?_
  refine at_aload_n (pc := 15) X 0 0 dX0_read_15 rfl rfl ?_
  refine at_iconst (pc := 16) X (0 : Int32) dX0_read_16 ic_0 ?_
  refine at_put (pc := 17) X 0 4 ha0 (by decide) rfl inX0_read_X0 tyX0 tyX0_ok nmX0 (by decide) lkX0_read_3 rfl (ty := .int) rfl rfl rfl (Nat.le_of_ble_eq_true rfl) (ms_0_4 G _ _ _) mm_up_ne dX0_read_17 ?_
  refine at_aload_n (pc := 20) X 0 0 dX0_read_20 rfl rfl ?_
  refine at_iconst (pc := 21) X (0 : Int32) dX0_read_21 ic_0 ?_
  refine at_put (pc := 22) X 0 5 ha0 (by decide) rfl inX0_read_X0 tyX0 tyX0_ok nmX0 (by decide) lkX0_read_4 rfl (ty := .boolean) rfl rfl rfl (Nat.le_of_ble_eq_true rfl) (ms_0_5 G _ _ _) mm_up_ne dX0_read_22 ?_
  refine at_iconst (pc := 25) X (0 : Int32) dX0_read_25 ic_0 ?_
  refine at_istore_n (pc := 26) X 3 [(3, .int (0 : Int32)), (0, .ref a0), (1, .ref a1), (2, .int x2)] dX0_read_26 rfl (by decide) rfl ?_
  have h2 := mm_inr h hk; exact at_sub [1, 2, 3, 0] rfl h2
set_option maxHeartbeats 4000000 in
set_option maxRecDepth 100000 in
theorem mX0_read (l : Launch) {G : mm_G} (hwf : mm_WF G) {a0 : Nat} {a1 : Nat} {x2 : Int32} {σ : mm_M} {q : (Int32 × mm_M)} (ha0 : mm_Is G 0 a0) (ha1 : mm_Is G 5 a1) (h : fX0_read G a0 a1 x2 σ = some q) : mm_Mi l yX0_read wsX0_read rmX0_read G [.ref a0, .ref a1, .int x2] σ q := by
  refine mm_ofi (cc := cX0_read) (nL := 5) (ret := some .int) (own := RX0) (lv0 := [(0, .ref a0), (1, .ref a1), (2, .int x2)]) (by decide) rfl rfl (Nat.le_of_ble_eq_true rfl) rfl hwf (fun E hE X => ?_)
  obtain ⟨o, h0, hk⟩ := mm_run_ok (P := PX0_read E G a0 a1 x2 q) h (fun s o hs hk => by exact wX0_read_b27 X ha0 ha1 hs hk)
  exact wX0_read_b0 X ha0 ha1 h0 hk
theorem dX2_isOf_0 : decode cX2_isOf 0 = .ok (.iload_n 1, 1) := by decide +kernel
theorem dX2_isOf_1 : decode cX2_isOf 1 = .ok (.ifCond .eq 11, 3) := by decide +kernel
theorem dX2_isOf_4 : decode cX2_isOf 4 = .ok (.aload_n 0, 1) := by decide +kernel
theorem dX2_isOf_5 : decode cX2_isOf 5 = .ok (.getfield 9, 3) := by decide +kernel
theorem dX2_isOf_8 : decode cX2_isOf 8 = .ok (.iload_n 1, 1) := by decide +kernel
theorem dX2_isOf_9 : decode cX2_isOf 9 = .ok (.if_icmp .ne 5, 3) := by decide +kernel
theorem dX2_isOf_12 : decode cX2_isOf 12 = .ok (.iconst 1, 1) := by decide +kernel
theorem dX2_isOf_13 : decode cX2_isOf 13 = .ok (.ireturn, 1) := by decide +kernel
theorem dX2_isOf_14 : decode cX2_isOf 14 = .ok (.aload_n 0, 1) := by decide +kernel
theorem dX2_isOf_15 : decode cX2_isOf 15 = .ok (.getfield 9, 3) := by decide +kernel
theorem dX2_isOf_18 : decode cX2_isOf 18 = .ok (.ifCond .lt 28, 3) := by decide +kernel
theorem dX2_isOf_21 : decode cX2_isOf 21 = .ok (.aload_n 0, 1) := by decide +kernel
theorem dX2_isOf_22 : decode cX2_isOf 22 = .ok (.getfield 9, 3) := by decide +kernel
theorem dX2_isOf_25 : decode cX2_isOf 25 = .ok (.bipush 6, 2) := by decide +kernel
theorem dX2_isOf_27 : decode cX2_isOf 27 = .ok (.if_icmp .ge 19, 3) := by decide +kernel
theorem dX2_isOf_30 : decode cX2_isOf 30 = .ok (.getstatic 30, 3) := by decide +kernel
theorem dX2_isOf_33 : decode cX2_isOf 33 = .ok (.aload_n 0, 1) := by decide +kernel
theorem dX2_isOf_34 : decode cX2_isOf 34 = .ok (.getfield 9, 3) := by decide +kernel
theorem dX2_isOf_37 : decode cX2_isOf 37 = .ok (.iaload, 1) := by decide +kernel
theorem dX2_isOf_38 : decode cX2_isOf 38 = .ok (.iload_n 1, 1) := by decide +kernel
theorem dX2_isOf_39 : decode cX2_isOf 39 = .ok (.if_icmp .ne 7, 3) := by decide +kernel
theorem dX2_isOf_42 : decode cX2_isOf 42 = .ok (.iconst 1, 1) := by decide +kernel
theorem dX2_isOf_43 : decode cX2_isOf 43 = .ok (.goto 4, 3) := by decide +kernel
theorem dX2_isOf_46 : decode cX2_isOf 46 = .ok (.iconst 0, 1) := by decide +kernel
theorem dX2_isOf_47 : decode cX2_isOf 47 = .ok (.ireturn, 1) := by decide +kernel
/-! X2_isOf (I)Z -/
abbrev rmX2_isOf : Room := { frames := 0, cells := 0, slots := 0, locals := 0 }
theorem lkX2_isOf_0 : Cond.fieldLink RX2 9 (TX2 0).1 (TX2 0).2.1 (TX2 0).2.2.1 ∈ wsX2_isOf := by decide +kernel
theorem inX2_isOf_X2 : ∀ w ∈ u_ws RX2 TX2 6, w ∈ wsX2_isOf := by decide +kernel
noncomputable def fX2_isOf (G : mm_G) (a0 : Nat) (x1 : Int32) (σ : mm_M) : Option (Int32 × mm_M) := if x1 = 0 then (some ((1 : Int32), σ)) else (if (σ.1 a0 0) = x1 then (some ((1 : Int32), σ)) else (if (σ.1 a0 0) < 0 then (some ((0 : Int32), σ)) else (if (σ.1 a0 0) < (6 : Int32) then (if (σ.1 a0 0) < 0 ∨ 6 ≤ (σ.1 a0 0).toNatClampNeg then none else (some (if (mm_tab 0 (σ.1 a0 0).toNatClampNeg) = x1 then (1 : Int32) else (0 : Int32), σ))) else (some ((0 : Int32), σ)))))
set_option maxHeartbeats 4000000 in
set_option maxRecDepth 100000 in
theorem wX2_isOf_b0 {E : mm_E} {G : mm_G} (X : mm_Cx E G cX2_isOf 2 RX2 wsX2_isOf rmX2_isOf (some .boolean)) {a0 : Nat} {x1 : Int32} {σ : mm_M} {q : (Int32 × mm_M)} (ha0 : mm_Is G 2 a0) (h : fX2_isOf G a0 x1 σ = some q) : mm_At E G 2 (mm_Qi E G q) σ 0 [(0, .ref a0), (1, .int x1)] [] := by
  unfold fX2_isOf at h
  refine at_iload_n (pc := 0) X 1 1 dX2_isOf_0 rfl rfl ?_
  refine at_if_eq (pc := 1) X 12 dX2_isOf_1 (by decide) (fun c1 => ?_) (fun c1 => ?_)
  · have h := mm_pos c1 h
    refine at_iconst (pc := 12) X (1 : Int32) dX2_isOf_12 ic_1 ?_
    exact at_zret (pc := 13) X (Or.inr rfl) (Option.some.inj h) dX2_isOf_13
  · have h := mm_neg c1 h
    refine at_aload_n (pc := 4) X 0 0 dX2_isOf_4 rfl rfl ?_
    refine at_get (pc := 5) X 2 0 (.int (σ.1 a0 0)) ha0 (by decide) rfl inX2_isOf_X2 (by decide) lkX2_isOf_0 rfl dX2_isOf_5 ?_
    refine at_iload_n (pc := 8) X 1 1 dX2_isOf_8 rfl rfl ?_
    refine at_icmp_ne (pc := 9) X 14 dX2_isOf_9 (by decide) (fun c9 => ?_) (fun c9 => ?_)
    · have h := mm_neg c9 h
      refine at_aload_n (pc := 14) X 0 0 dX2_isOf_14 rfl rfl ?_
      refine at_get (pc := 15) X 2 0 (.int (σ.1 a0 0)) ha0 (by decide) rfl inX2_isOf_X2 (by decide) lkX2_isOf_0 rfl dX2_isOf_15 ?_
      refine at_if_lt (pc := 18) X 46 dX2_isOf_18 (by decide) (fun c18 => ?_) (fun c18 => ?_)
      · have h := mm_pos c18 h
        refine at_iconst (pc := 46) X (0 : Int32) dX2_isOf_46 ic_0 ?_
        exact at_zret (pc := 47) X (Or.inl rfl) (Option.some.inj h) dX2_isOf_47
      · have h := mm_neg c18 h
        refine at_aload_n (pc := 21) X 0 0 dX2_isOf_21 rfl rfl ?_
        refine at_get (pc := 22) X 2 0 (.int (σ.1 a0 0)) ha0 (by decide) rfl inX2_isOf_X2 (by decide) lkX2_isOf_0 rfl dX2_isOf_22 ?_
        refine at_bipush (pc := 25) X (6 : Int32) dX2_isOf_25 ib_6 ?_
        refine at_icmp_ge (pc := 27) X 46 dX2_isOf_27 (by decide) (fun c27 => ?_) (fun c27 => ?_)
        · have h := mm_neg c27 h
          refine at_iconst (pc := 46) X (0 : Int32) dX2_isOf_46 ic_0 ?_
          exact at_zret (pc := 47) X (Or.inl rfl) (Option.some.inj h) dX2_isOf_47
        · have h := mm_pos c27 h
          refine at_gets0 (pc := 30) X rfl dX2_isOf_30 ?_
          refine at_aload_n (pc := 33) X 0 0 dX2_isOf_33 rfl rfl ?_
          refine at_get (pc := 34) X 2 0 (.int (σ.1 a0 0)) ha0 (by decide) rfl inX2_isOf_X2 (by decide) lkX2_isOf_0 rfl dX2_isOf_34 ?_
          obtain ⟨hc37, h⟩ := mm_chk h
          refine at_tab0 (pc := 37) X hc37 dX2_isOf_37 ?_
          refine at_iload_n (pc := 38) X 1 1 dX2_isOf_38 rfl rfl ?_
          have hj39 : mm_At E G 2 (mm_Qi E G q) σ 47 [] [.int (if (mm_tab 0 (σ.1 a0 0).toNatClampNeg) = x1 then (1 : Int32) else (0 : Int32))] := by
            exact at_zret (pc := 47) X mm_01 (Option.some.inj h) dX2_isOf_47
          refine at_icmp_ne (pc := 39) X 46 dX2_isOf_39 (by decide) (fun c39 => ?_) (fun c39 => ?_)
          · try simp only [if_neg c39] at hj39
            refine at_iconst (pc := 46) X (0 : Int32) dX2_isOf_46 ic_0 ?_
            exact at_sub [] rfl hj39
          · try simp only [if_pos c39] at hj39
            refine at_iconst (pc := 42) X (1 : Int32) dX2_isOf_42 ic_1 ?_
            refine at_goto (pc := 43) X 47 dX2_isOf_43 (by decide) ?_
            exact at_sub [] rfl hj39
    · have h := mm_pos c9 h
      refine at_iconst (pc := 12) X (1 : Int32) dX2_isOf_12 ic_1 ?_
      exact at_zret (pc := 13) X (Or.inr rfl) (Option.some.inj h) dX2_isOf_13
set_option maxHeartbeats 4000000 in
set_option maxRecDepth 100000 in
theorem mX2_isOf (l : Launch) {G : mm_G} (hwf : mm_WF G) {a0 : Nat} {x1 : Int32} {σ : mm_M} {q : (Int32 × mm_M)} (ha0 : mm_Is G 2 a0) (h : fX2_isOf G a0 x1 σ = some q) : mm_Mi l yX2_isOf wsX2_isOf rmX2_isOf G [.ref a0, .int x1] σ q := by
  refine mm_ofi (cc := cX2_isOf) (nL := 2) (ret := some .boolean) (own := RX2) (lv0 := [(0, .ref a0), (1, .int x1)]) (by decide) rfl rfl (Nat.le_of_ble_eq_true rfl) rfl hwf (fun E hE X => ?_)
  exact wX2_isOf_b0 X ha0 h
set_option maxRecDepth 20000 in
theorem ggX2_wants_X2_isOf : GoodIn wsX2_wants wsX2_isOf := goodIn_r _ [7, 8, 9, 10, 11, 12, 13, 14] (by decide +kernel) (by decide +kernel)
set_option maxRecDepth 20000 in
theorem gX2_wants_X2_isOf : GoodIn wsX2_wants (wsV RX2 34 RX2 yX2_isOf wsX2_isOf) := goodIn_app (goodIn_of _ (by decide +kernel)) ggX2_wants_X2_isOf
theorem dX2_wants_0 : decode cX2_wants 0 = .ok (.aload_n 0, 1) := by decide +kernel
theorem dX2_wants_1 : decode cX2_wants 1 = .ok (.getfield 21, 3) := by decide +kernel
theorem dX2_wants_4 : decode cX2_wants 4 = .ok (.ifCond .le 26, 3) := by decide +kernel
theorem dX2_wants_7 : decode cX2_wants 7 = .ok (.aload_n 0, 1) := by decide +kernel
theorem dX2_wants_8 : decode cX2_wants 8 = .ok (.getfield 24, 3) := by decide +kernel
theorem dX2_wants_11 : decode cX2_wants 11 = .ok (.ifCond .ne 19, 3) := by decide +kernel
theorem dX2_wants_14 : decode cX2_wants 14 = .ok (.iload_n 1, 1) := by decide +kernel
theorem dX2_wants_15 : decode cX2_wants 15 = .ok (.ifCond .eq 11, 3) := by decide +kernel
theorem dX2_wants_18 : decode cX2_wants 18 = .ok (.aload_n 0, 1) := by decide +kernel
theorem dX2_wants_19 : decode cX2_wants 19 = .ok (.iconst 2, 1) := by decide +kernel
theorem dX2_wants_20 : decode cX2_wants 20 = .ok (.invokevirtual 34, 3) := by decide +kernel
theorem dX2_wants_23 : decode cX2_wants 23 = .ok (.ifCond .ne 7, 3) := by decide +kernel
theorem dX2_wants_26 : decode cX2_wants 26 = .ok (.iconst 1, 1) := by decide +kernel
theorem dX2_wants_27 : decode cX2_wants 27 = .ok (.goto 4, 3) := by decide +kernel
theorem dX2_wants_30 : decode cX2_wants 30 = .ok (.iconst 0, 1) := by decide +kernel
theorem dX2_wants_31 : decode cX2_wants 31 = .ok (.ireturn, 1) := by decide +kernel
/-! X2_wants (Z)Z -/
abbrev rmX2_wants : Room := { frames := 1, cells := 0, slots := 0, locals := 21 }
theorem lkX2_wants_0 : Cond.fieldLink RX2 21 (TX2 3).1 (TX2 3).2.1 (TX2 3).2.2.1 ∈ wsX2_wants := by decide +kernel
theorem lkX2_wants_1 : Cond.fieldLink RX2 24 (TX2 4).1 (TX2 4).2.1 (TX2 4).2.2.1 ∈ wsX2_wants := by decide +kernel
theorem inX2_wants_X2 : ∀ w ∈ u_ws RX2 TX2 6, w ∈ wsX2_wants := by decide +kernel
noncomputable def fX2_wants (G : mm_G) (a0 : Nat) (x1 : Int32) (σ : mm_M) : Option (Int32 × mm_M) := if 0 < (σ.1 a0 3) then (if (σ.1 a0 4) = 0 then (if x1 = 0 then (some ((1 : Int32), σ)) else ((fX2_isOf G a0 (2 : Int32) σ).bind (fun q20 => some (if q20.1 = 0 then (1 : Int32) else (0 : Int32), q20.2)))) else (some ((0 : Int32), σ))) else (some ((0 : Int32), σ))
set_option maxHeartbeats 4000000 in
set_option maxRecDepth 100000 in
theorem wX2_wants_b0 {E : mm_E} {G : mm_G} (X : mm_Cx E G cX2_wants 2 RX2 wsX2_wants rmX2_wants (some .boolean)) {a0 : Nat} {x1 : Int32} {σ : mm_M} {q : (Int32 × mm_M)} (ha0 : mm_Is G 2 a0) (h : fX2_wants G a0 x1 σ = some q) : mm_At E G 2 (mm_Qi E G q) σ 0 [(0, .ref a0), (1, .int x1)] [] := by
  unfold fX2_wants at h
  refine at_aload_n (pc := 0) X 0 0 dX2_wants_0 rfl rfl ?_
  refine at_get (pc := 1) X 2 3 (.int (σ.1 a0 3)) ha0 (by decide) rfl inX2_wants_X2 (by decide) lkX2_wants_0 rfl dX2_wants_1 ?_
  refine at_if_le (pc := 4) X 30 dX2_wants_4 (by decide) (fun c4 => ?_) (fun c4 => ?_)
  · have h := mm_neg c4 h
    refine at_iconst (pc := 30) X (0 : Int32) dX2_wants_30 ic_0 ?_
    exact at_zret (pc := 31) X (Or.inl rfl) (Option.some.inj h) dX2_wants_31
  · have h := mm_pos c4 h
    refine at_aload_n (pc := 7) X 0 0 dX2_wants_7 rfl rfl ?_
    refine at_get (pc := 8) X 2 4 (.int (σ.1 a0 4)) ha0 (by decide) rfl inX2_wants_X2 (by decide) lkX2_wants_1 rfl dX2_wants_8 ?_
    refine at_if_ne (pc := 11) X 30 dX2_wants_11 (by decide) (fun c11 => ?_) (fun c11 => ?_)
    · have h := mm_neg c11 h
      refine at_iconst (pc := 30) X (0 : Int32) dX2_wants_30 ic_0 ?_
      exact at_zret (pc := 31) X (Or.inl rfl) (Option.some.inj h) dX2_wants_31
    · have h := mm_pos c11 h
      refine at_iload_n (pc := 14) X 1 1 dX2_wants_14 rfl rfl ?_
      refine at_if_eq (pc := 15) X 26 dX2_wants_15 (by decide) (fun c15 => ?_) (fun c15 => ?_)
      · have h := mm_pos c15 h
        refine at_iconst (pc := 26) X (1 : Int32) dX2_wants_26 ic_1 ?_
        refine at_goto (pc := 27) X 31 dX2_wants_27 (by decide) ?_
        exact at_zret (pc := 31) X (Or.inr rfl) (Option.some.inj h) dX2_wants_31
      · have h := mm_neg c15 h
        refine at_aload_n (pc := 18) X 0 0 dX2_wants_18 rfl rfl ?_
        refine at_iconst (pc := 19) X (2 : Int32) dX2_wants_19 ic_2 ?_
        obtain ⟨q20, hq20, h⟩ := mm_bind h
        refine at_calli (n := 1) (pc := 20) X 2 [.int (2 : Int32)] [] (mX2_isOf (eL E) X.wf ha0 hq20) gX2_wants_X2_isOf rfl ⟨rfl, rfl⟩ (by decide +kernel) ⟨by decide, by decide⟩ (by decide) rfl ha0 rfl rfl (Nat.le_of_ble_eq_true rfl) dX2_wants_20 ?_
        have hj23 : mm_At E G 2 (mm_Qi E G q) q20.2 31 [] [.int (if q20.1 = 0 then (1 : Int32) else (0 : Int32))] := by
          exact at_zret (pc := 31) X mm_01 (Option.some.inj h) dX2_wants_31
        refine at_if_ne (pc := 23) X 30 dX2_wants_23 (by decide) (fun c23 => ?_) (fun c23 => ?_)
        · try simp only [if_neg c23] at hj23
          refine at_iconst (pc := 30) X (0 : Int32) dX2_wants_30 ic_0 ?_
          exact at_sub [] rfl hj23
        · try simp only [if_pos c23] at hj23
          refine at_iconst (pc := 26) X (1 : Int32) dX2_wants_26 ic_1 ?_
          refine at_goto (pc := 27) X 31 dX2_wants_27 (by decide) ?_
          exact at_sub [] rfl hj23
set_option maxHeartbeats 4000000 in
set_option maxRecDepth 100000 in
theorem mX2_wants (l : Launch) {G : mm_G} (hwf : mm_WF G) {a0 : Nat} {x1 : Int32} {σ : mm_M} {q : (Int32 × mm_M)} (ha0 : mm_Is G 2 a0) (h : fX2_wants G a0 x1 σ = some q) : mm_Mi l yX2_wants wsX2_wants rmX2_wants G [.ref a0, .int x1] σ q := by
  refine mm_ofi (cc := cX2_wants) (nL := 2) (ret := some .boolean) (own := RX2) (lv0 := [(0, .ref a0), (1, .int x1)]) (by decide) rfl rfl (Nat.le_of_ble_eq_true rfl) rfl hwf (fun E hE X => ?_)
  exact wX2_wants_b0 X ha0 h
end
