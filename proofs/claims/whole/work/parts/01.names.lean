/-! ===== BEGIN words of one list among another's, by their places ===== -/
theorem goodIn_r {big : List Cond} (ws : List Cond) (ps : List Nat) (hp : ws = ps.filterMap (fun i => big[i]?)) (h : ws.all goodWord = true) : GoodIn big ws := by
  intro w hw
  have h1 := List.all_eq_true.mp h w hw
  rw [hp] at hw
  obtain ⟨i, -, hi⟩ := List.mem_filterMap.mp hw
  have hm : w ∈ big := by first | exact List.mem_of_getElem? hi | exact List.getElem?_mem hi
  exact ⟨hm, good_of_word h1⟩
theorem goodIn_app {big a b : List Cond} (ha : GoodIn big a) (hb : GoodIn big b) : GoodIn big (a ++ b) := fun w h => (List.mem_append.mp h).elim (ha w) (hb w)
theorem goodIn_ca {big a b : List Cond} {c : Cond} (ha : GoodIn big (c :: a)) (hb : GoodIn big b) : GoodIn big (c :: (a ++ b)) := fun w h => (List.mem_cons.mp h).elim (fun e => ha w (List.mem_cons.mpr (Or.inl e))) (fun h => (List.mem_append.mp h).elim (fun h => ha w (List.mem_cons.mpr (Or.inr h))) (hb w))
theorem goodIn_sub {big ws : List Cond} (hm : ∀ w ∈ ws, w ∈ big) (h : ws.all goodWord = true) : GoodIn big ws := fun w hw => ⟨hm w hw, good_of_word (List.all_eq_true.mp h w hw)⟩
/-! ===== END ===== -/

/-! ===== BEGIN printed: names, fields, word lists, decode rows ===== -/
def RX0 : String := "CrowdReports$Crowd"
def TX0 : u_T := fun k => match k with
  | 0 => ("CrowdReports$Crowd", "size", "I", false)
  | 1 => ("CrowdReports$Crowd", "rate", "I", false)
  | 2 => ("CrowdReports$Crowd", "min", "I", false)
  | 3 => ("CrowdReports$Crowd", "clock", "I", false)
  | 4 => ("CrowdReports$Crowd", "lot", "I", false)
  | 5 => ("CrowdReports$Crowd", "reports", "I", false)
  | 6 => ("CrowdReports$Crowd", "byes", "I", false)
  | 7 => ("CrowdReports$Crowd", "kind", "[I", true)
  | 8 => ("CrowdReports$Crowd", "known", "[I", true)
  | 9 => ("CrowdReports$Crowd", "begun", "[I", true)
  | 10 => ("CrowdReports$Crowd", "due", "[I", true)
  | 11 => ("CrowdReports$Crowd", "goers", "[I", true)
  | 12 => ("CrowdReports$Crowd", "shut", "[I", true)
  | _ => ("CrowdReports$Crowd", "lastHeard", "[I", true)
def tyX0 : Nat → FieldType := fun k => match k with
  | 0 => .int
  | 1 => .int
  | 2 => .int
  | 3 => .int
  | 4 => .int
  | 5 => .int
  | 6 => .int
  | 7 => .array .int
  | 8 => .array .int
  | 9 => .array .int
  | 10 => .array .int
  | 11 => .array .int
  | 12 => .array .int
  | _ => .array .int
abbrev wsX00 : List Cond := u_ws RX0 TX0 14
theorem nmX0 : ∀ a, a < 14 → ∀ b, b < 14 → a ≠ b → (TX0 a).2.1 ≠ (TX0 b).2.1 := by decide +kernel
theorem tyX0_ok : ∀ k, k < 14 → parseFieldDescriptor (TX0 k).2.2.1 = some (tyX0 k) := by decide +kernel
abbrev cX0_init : ByteArray := prog_2_method_1_code
def yX0_init : MethodName := ⟨RX0, "<init>", "()V"⟩
abbrev cX0_restart : ByteArray := prog_2_method_2_code
def yX0_restart : MethodName := ⟨RX0, "restart", "()V"⟩
abbrev cX0_takeFrom : ByteArray := prog_2_method_3_code
def yX0_takeFrom : MethodName := ⟨RX0, "takeFrom", "(LCrowdReports$Crowd;)V"⟩
abbrev cX0_sent : ByteArray := prog_2_method_4_code
def yX0_sent : MethodName := ⟨RX0, "sent", "()I"⟩
abbrev cX0_bitsOf : ByteArray := prog_2_method_5_code
def yX0_bitsOf : MethodName := ⟨RX0, "bitsOf", "(I)I"⟩
abbrev cX0_knows : ByteArray := prog_2_method_6_code
def yX0_knows : MethodName := ⟨RX0, "knows", "(II)Z"⟩
abbrev cX0_isOpen : ByteArray := prog_2_method_7_code
def yX0_isOpen : MethodName := ⟨RX0, "isOpen", "(II)Z"⟩
abbrev cX0_countOf : ByteArray := prog_2_method_8_code
def yX0_countOf : MethodName := ⟨RX0, "countOf", "(I)I"⟩
abbrev cX0_countTold : ByteArray := prog_2_method_9_code
def yX0_countTold : MethodName := ⟨RX0, "countTold", "(I)I"⟩
abbrev cX0_isAtRest : ByteArray := prog_2_method_10_code
def yX0_isAtRest : MethodName := ⟨RX0, "isAtRest", "()Z"⟩
abbrev cX0_feltBits : ByteArray := prog_2_method_11_code
def yX0_feltBits : MethodName := ⟨RX0, "feltBits", "()I"⟩
abbrev cX0_leaveOnly : ByteArray := prog_2_method_12_code
def yX0_leaveOnly : MethodName := ⟨RX0, "leaveOnly", "(I)V"⟩
abbrev cX0_turnWay : ByteArray := prog_2_method_13_code
def yX0_turnWay : MethodName := ⟨RX0, "turnWay", "(II)Z"⟩
abbrev cX0_tellAnew : ByteArray := prog_2_method_14_code
def yX0_tellAnew : MethodName := ⟨RX0, "tellAnew", "(II)I"⟩
abbrev cX0_spanOf : ByteArray := prog_2_method_15_code
def yX0_spanOf : MethodName := ⟨RX0, "spanOf", "(I)I"⟩
abbrev cX0_waitOf : ByteArray := prog_2_method_16_code
def yX0_waitOf : MethodName := ⟨RX0, "waitOf", "(I)I"⟩
abbrev cX0_begin : ByteArray := prog_2_method_17_code
def yX0_begin : MethodName := ⟨RX0, "begin", "(I)V"⟩
abbrev cX0_goAway : ByteArray := prog_2_method_18_code
def yX0_goAway : MethodName := ⟨RX0, "goAway", "(I)V"⟩
abbrev cX0_enter : ByteArray := prog_2_method_19_code
def yX0_enter : MethodName := ⟨RX0, "enter", "(I)Z"⟩
abbrev cX0_depart : ByteArray := prog_2_method_20_code
def yX0_depart : MethodName := ⟨RX0, "depart", "(I)Z"⟩
abbrev cX0_enterOrDepart : ByteArray := prog_2_method_21_code
def yX0_enterOrDepart : MethodName := ⟨RX0, "enterOrDepart", "(I)V"⟩
abbrev cX0_run : ByteArray := prog_2_method_22_code
def yX0_run : MethodName := ⟨RX0, "run", "(I)I"⟩
abbrev cX0_comeDue : ByteArray := prog_2_method_23_code
def yX0_comeDue : MethodName := ⟨RX0, "comeDue", "(I)V"⟩
abbrev cX0_forgetOld : ByteArray := prog_2_method_24_code
def yX0_forgetOld : MethodName := ⟨RX0, "forgetOld", "(I)V"⟩
abbrev cX0_reaches : ByteArray := prog_2_method_25_code
def yX0_reaches : MethodName := ⟨RX0, "reaches", "(II)Z"⟩
abbrev cX0_sendReport : ByteArray := prog_2_method_26_code
def yX0_sendReport : MethodName := ⟨RX0, "sendReport", "(I)V"⟩
abbrev cX0_sendBye : ByteArray := prog_2_method_27_code
def yX0_sendBye : MethodName := ⟨RX0, "sendBye", "(I)V"⟩
abbrev cX0_hearBye : ByteArray := prog_2_method_28_code
def yX0_hearBye : MethodName := ⟨RX0, "hearBye", "(II)V"⟩
def RX1 : String := "CrowdReports"
def TX1 : u_T := fun k => match k with
  | 0 => ("CrowdReports", "now", "LCrowdReports$Crowd;", true)
  | 1 => ("CrowdReports", "trial", "LCrowdReports$Crowd;", true)
  | 2 => ("CrowdReports", "past", "[LCrowdReports$Crowd;", true)
  | 3 => ("CrowdReports", "acts", "I", false)
  | 4 => ("CrowdReports", "slots", "[LCrowdReports$Crowd;", true)
  | 5 => ("CrowdReports", "keptBits", "I", false)
  | 6 => ("CrowdReports", "text", "[I", true)
  | 7 => ("CrowdReports", "letters", "I", false)
  | 8 => ("CrowdReports", "seenTicks", "[I", true)
  | 9 => ("CrowdReports", "seenLetters", "[I", true)
  | 10 => ("CrowdReports", "seen", "I", false)
  | 11 => ("CrowdReports", "lastSeed", "J", false)
  | _ => ("CrowdReports", "sentBy", "[I", true)
def tyX1 : Nat → FieldType := fun k => match k with
  | 0 => .object "CrowdReports$Crowd"
  | 1 => .object "CrowdReports$Crowd"
  | 2 => .array (.object "CrowdReports$Crowd")
  | 3 => .int
  | 4 => .array (.object "CrowdReports$Crowd")
  | 5 => .int
  | 6 => .array .int
  | 7 => .int
  | 8 => .array .int
  | 9 => .array .int
  | 10 => .int
  | 11 => .long
  | _ => .array .int
abbrev wsX10 : List Cond := u_ws RX1 TX1 13
theorem nmX1 : ∀ a, a < 13 → ∀ b, b < 13 → a ≠ b → (TX1 a).2.1 ≠ (TX1 b).2.1 := by decide +kernel
theorem tyX1_ok : ∀ k, k < 13 → parseFieldDescriptor (TX1 k).2.2.1 = some (tyX1 k) := by decide +kernel
abbrev cX1_init : ByteArray := prog_1_method_1_code
def yX1_init : MethodName := ⟨RX1, "<init>", "()V"⟩
abbrev cX1_write : ByteArray := prog_1_method_2_code
def yX1_write : MethodName := ⟨RX1, "write", "(I)I"⟩
abbrev cX1_wipe : ByteArray := prog_1_method_3_code
def yX1_wipe : MethodName := ⟨RX1, "wipe", "()I"⟩
abbrev cX1_fault : ByteArray := prog_1_method_4_code
def yX1_fault : MethodName := ⟨RX1, "fault", "()I"⟩
abbrev cX1_meeting : ByteArray := prog_1_method_5_code
def yX1_meeting : MethodName := ⟨RX1, "meeting", "()I"⟩
abbrev cX1_about : ByteArray := prog_1_method_6_code
def yX1_about : MethodName := ⟨RX1, "about", "(I)I"⟩
abbrev cX1_member : ByteArray := prog_1_method_7_code
def yX1_member : MethodName := ⟨RX1, "member", "(II)I"⟩
abbrev cX1_heard : ByteArray := prog_1_method_8_code
def yX1_heard : MethodName := ⟨RX1, "heard", "(II)I"⟩
abbrev cX1_way : ByteArray := prog_1_method_9_code
def yX1_way : MethodName := ⟨RX1, "way", "(II)I"⟩
abbrev cX1_join : ByteArray := prog_1_method_10_code
def yX1_join : MethodName := ⟨RX1, "join", "(I)I"⟩
abbrev cX1_leave : ByteArray := prog_1_method_11_code
def yX1_leave : MethodName := ⟨RX1, "leave", "(I)I"⟩
abbrev cX1_pass : ByteArray := prog_1_method_12_code
def yX1_pass : MethodName := ⟨RX1, "pass", "(I)I"⟩
abbrev cX1_turn : ByteArray := prog_1_method_13_code
def yX1_turn : MethodName := ⟨RX1, "turn", "(II)I"⟩
abbrev cX1_set : ByteArray := prog_1_method_14_code
def yX1_set : MethodName := ⟨RX1, "set", "(II)I"⟩
abbrev cX1_undo : ByteArray := prog_1_method_15_code
def yX1_undo : MethodName := ⟨RX1, "undo", "()I"⟩
abbrev cX1_ahead : ByteArray := prog_1_method_16_code
def yX1_ahead : MethodName := ⟨RX1, "ahead", "(II)I"⟩
abbrev cX1_crowd : ByteArray := prog_1_method_17_code
def yX1_crowd : MethodName := ⟨RX1, "crowd", "(I)I"⟩
abbrev cX1_jitter : ByteArray := prog_1_method_18_code
def yX1_jitter : MethodName := ⟨RX1, "jitter", "(IJ)I"⟩
abbrev cX1_round : ByteArray := prog_1_method_19_code
def yX1_round : MethodName := ⟨RX1, "round", "(III)I"⟩
abbrev cX1_judge : ByteArray := prog_1_method_20_code
def yX1_judge : MethodName := ⟨RX1, "judge", "(IJ)I"⟩
abbrev cX1_see : ByteArray := prog_1_method_21_code
def yX1_see : MethodName := ⟨RX1, "see", "(II)I"⟩
abbrev cX1_unsee : ByteArray := prog_1_method_22_code
def yX1_unsee : MethodName := ⟨RX1, "unsee", "()I"⟩
abbrev cX1_which : ByteArray := prog_1_method_23_code
def yX1_which : MethodName := ⟨RX1, "which", "()I"⟩
abbrev cX1_share : ByteArray := prog_1_method_24_code
def yX1_share : MethodName := ⟨RX1, "share", "(IZ)I"⟩
abbrev cX1_chance : ByteArray := prog_1_method_25_code
def yX1_chance : MethodName := ⟨RX1, "chance", "(IIZ)I"⟩
abbrev cX1_seed : ByteArray := prog_1_method_26_code
def yX1_seed : MethodName := ⟨RX1, "seed", "(J)J"⟩
abbrev cX1_drawn : ByteArray := prog_1_method_27_code
def yX1_drawn : MethodName := ⟨RX1, "drawn", "(I)I"⟩
abbrev cX1_keep : ByteArray := prog_1_method_28_code
def yX1_keep : MethodName := ⟨RX1, "keep", "(I)I"⟩
abbrev cX1_again : ByteArray := prog_1_method_29_code
def yX1_again : MethodName := ⟨RX1, "again", "(I)I"⟩
abbrev cX1_isMember : ByteArray := prog_1_method_30_code
def yX1_isMember : MethodName := ⟨RX1, "isMember", "(I)Z"⟩
abbrev cX1_isTime : ByteArray := prog_1_method_31_code
def yX1_isTime : MethodName := ⟨RX1, "isTime", "(I)Z"⟩
abbrev cX1_isFigure : ByteArray := prog_1_method_32_code
def yX1_isFigure : MethodName := ⟨RX1, "isFigure", "(II)Z"⟩
abbrev cX1_tenTo : ByteArray := prog_1_method_33_code
def yX1_tenTo : MethodName := ⟨RX1, "tenTo", "(I)J"⟩
abbrev cX1_part : ByteArray := prog_1_method_34_code
def yX1_part : MethodName := ⟨RX1, "part", "(JII)I"⟩
abbrev cX1_greatestDivisor : ByteArray := prog_1_method_35_code
def yX1_greatestDivisor : MethodName := ⟨RX1, "greatestDivisor", "(II)I"⟩
abbrev cX1_fraction : ByteArray := prog_1_method_36_code
def yX1_fraction : MethodName := ⟨RX1, "fraction", "(IIZ)I"⟩
abbrev cX1_likelihood : ByteArray := prog_1_method_37_code
def yX1_likelihood : MethodName := ⟨RX1, "likelihood", "(II)I"⟩
abbrev cX1_remember : ByteArray := prog_1_method_38_code
def yX1_remember : MethodName := ⟨RX1, "remember", "()V"⟩
abbrev cX1_readText : ByteArray := prog_1_method_39_code
def yX1_readText : MethodName := ⟨RX1, "readText", "()I"⟩
abbrev cX1_readHead : ByteArray := prog_1_method_40_code
def yX1_readHead : MethodName := ⟨RX1, "readHead", "()I"⟩
abbrev cX1_canBegin : ByteArray := prog_1_method_41_code
def yX1_canBegin : MethodName := ⟨RX1, "canBegin", "(I)Z"⟩
abbrev cX1_restAt : ByteArray := prog_1_method_42_code
def yX1_restAt : MethodName := ⟨RX1, "restAt", "()I"⟩
abbrev cX1_canBe : ByteArray := prog_1_method_43_code
def yX1_canBe : MethodName := ⟨RX1, "canBe", "(I)Z"⟩
abbrev cX1_fitsSeen : ByteArray := prog_1_method_44_code
def yX1_fitsSeen : MethodName := ⟨RX1, "fitsSeen", "(I)Z"⟩
abbrev cX1_runSubsets : ByteArray := prog_1_method_45_code
def yX1_runSubsets : MethodName := ⟨RX1, "runSubsets", "(I)V"⟩
def RX2 : String := "CrowdReportsModel"
def TX2 : u_T := fun k => match k with
  | 0 => ("CrowdReportsModel", "text", "[I", true)
  | 1 => ("CrowdReportsModel", "length", "I", false)
  | 2 => ("CrowdReportsModel", "now", "[I", true)
  | 3 => ("CrowdReportsModel", "trial", "[I", true)
  | 4 => ("CrowdReportsModel", "diary", "[I", true)
  | 5 => ("CrowdReportsModel", "acts", "I", false)
  | 6 => ("CrowdReportsModel", "next", "I", false)
  | 7 => ("CrowdReportsModel", "kept", "[I", true)
  | 8 => ("CrowdReportsModel", "isKept", "[Z", true)
  | 9 => ("CrowdReportsModel", "seenTicks", "[I", true)
  | 10 => ("CrowdReportsModel", "seenMany", "[I", true)
  | 11 => ("CrowdReportsModel", "seen", "I", false)
  | 12 => ("CrowdReportsModel", "seed", "J", false)
  | 13 => ("CrowdReportsModel", "worth", "[I", true)
  | _ => ("CrowdReportsModel", "read", "[I", true)
def tyX2 : Nat → FieldType := fun k => match k with
  | 0 => .array .int
  | 1 => .int
  | 2 => .array .int
  | 3 => .array .int
  | 4 => .array .int
  | 5 => .int
  | 6 => .int
  | 7 => .array .int
  | 8 => .array .boolean
  | 9 => .array .int
  | 10 => .array .int
  | 11 => .int
  | 12 => .long
  | 13 => .array .int
  | _ => .array .int
abbrev wsX20 : List Cond := u_ws RX2 TX2 15
theorem nmX2 : ∀ a, a < 15 → ∀ b, b < 15 → a ≠ b → (TX2 a).2.1 ≠ (TX2 b).2.1 := by decide +kernel
theorem tyX2_ok : ∀ k, k < 15 → parseFieldDescriptor (TX2 k).2.2.1 = some (tyX2 k) := by decide +kernel
abbrev cX2_init : ByteArray := prog_4_method_1_code
def yX2_init : MethodName := ⟨RX2, "<init>", "()V"⟩
abbrev cX2_copy : ByteArray := prog_4_method_3_code
def yX2_copy : MethodName := ⟨RX2, "copy", "([I[I)V"⟩
abbrev cX2_clear : ByteArray := prog_4_method_4_code
def yX2_clear : MethodName := ⟨RX2, "clear", "([I)V"⟩
abbrev cX2_in : ByteArray := prog_4_method_5_code
def yX2_in : MethodName := ⟨RX2, "in", "(JJJ)Z"⟩
abbrev cX2_has : ByteArray := prog_4_method_6_code
def yX2_has : MethodName := ⟨RX2, "has", "(II)Z"⟩
abbrev cX2_ones : ByteArray := prog_4_method_7_code
def yX2_ones : MethodName := ⟨RX2, "ones", "(I)I"⟩
abbrev cX2_power : ByteArray := prog_4_method_8_code
def yX2_power : MethodName := ⟨RX2, "power", "(II)I"⟩
abbrev cX2_factorial : ByteArray := prog_4_method_9_code
def yX2_factorial : MethodName := ⟨RX2, "factorial", "(I)I"⟩
abbrev cX2_fraction : ByteArray := prog_4_method_10_code
def yX2_fraction : MethodName := ⟨RX2, "fraction", "(IIZ)I"⟩
abbrev cX2_isMember : ByteArray := prog_4_method_11_code
def yX2_isMember : MethodName := ⟨RX2, "isMember", "(I)Z"⟩
abbrev cX2_countOf : ByteArray := prog_4_method_12_code
def yX2_countOf : MethodName := ⟨RX2, "countOf", "([II)I"⟩
abbrev cX2_spanOf : ByteArray := prog_4_method_13_code
def yX2_spanOf : MethodName := ⟨RX2, "spanOf", "([II)I"⟩
abbrev cX2_draw : ByteArray := prog_4_method_14_code
def yX2_draw : MethodName := ⟨RX2, "draw", "([I)I"⟩
abbrev cX2_waitOf : ByteArray := prog_4_method_15_code
def yX2_waitOf : MethodName := ⟨RX2, "waitOf", "([II)I"⟩
abbrev cX2_lettersOf : ByteArray := prog_4_method_16_code
def yX2_lettersOf : MethodName := ⟨RX2, "lettersOf", "([I)I"⟩
abbrev cX2_reaches : ByteArray := prog_4_method_17_code
def yX2_reaches : MethodName := ⟨RX2, "reaches", "([III)Z"⟩
abbrev cX2_report : ByteArray := prog_4_method_18_code
def yX2_report : MethodName := ⟨RX2, "report", "([II)V"⟩
abbrev cX2_goAway : ByteArray := prog_4_method_19_code
def yX2_goAway : MethodName := ⟨RX2, "goAway", "([II)V"⟩
abbrev cX2_bye : ByteArray := prog_4_method_20_code
def yX2_bye : MethodName := ⟨RX2, "bye", "([II)V"⟩
abbrev cX2_joins : ByteArray := prog_4_method_21_code
def yX2_joins : MethodName := ⟨RX2, "joins", "([II)V"⟩
abbrev cX2_leaves : ByteArray := prog_4_method_22_code
def yX2_leaves : MethodName := ⟨RX2, "leaves", "([II)V"⟩
abbrev cX2_look : ByteArray := prog_4_method_23_code
def yX2_look : MethodName := ⟨RX2, "look", "([II)V"⟩
abbrev cX2_forget : ByteArray := prog_4_method_24_code
def yX2_forget : MethodName := ⟨RX2, "forget", "([II)V"⟩
abbrev cX2_tick : ByteArray := prog_4_method_25_code
def yX2_tick : MethodName := ⟨RX2, "tick", "([I)V"⟩
abbrev cX2_passOn : ByteArray := prog_4_method_26_code
def yX2_passOn : MethodName := ⟨RX2, "passOn", "([II)I"⟩
abbrev cX2_write : ByteArray := prog_4_method_27_code
def yX2_write : MethodName := ⟨RX2, "write", "(I)I"⟩
abbrev cX2_wipe : ByteArray := prog_4_method_28_code
def yX2_wipe : MethodName := ⟨RX2, "wipe", "()I"⟩
abbrev cX2_those : ByteArray := prog_4_method_29_code
def yX2_those : MethodName := ⟨RX2, "those", "([II)I"⟩
abbrev cX2_readText : ByteArray := prog_4_method_30_code
def yX2_readText : MethodName := ⟨RX2, "readText", "()I"⟩
abbrev cX2_fault : ByteArray := prog_4_method_31_code
def yX2_fault : MethodName := ⟨RX2, "fault", "()I"⟩
abbrev cX2_meeting : ByteArray := prog_4_method_32_code
def yX2_meeting : MethodName := ⟨RX2, "meeting", "()I"⟩
abbrev cX2_rest : ByteArray := prog_4_method_33_code
def yX2_rest : MethodName := ⟨RX2, "rest", "()I"⟩
abbrev cX2_about : ByteArray := prog_4_method_34_code
def yX2_about : MethodName := ⟨RX2, "about", "(I)I"⟩
abbrev cX2_member : ByteArray := prog_4_method_35_code
def yX2_member : MethodName := ⟨RX2, "member", "(II)I"⟩
abbrev cX2_heard : ByteArray := prog_4_method_36_code
def yX2_heard : MethodName := ⟨RX2, "heard", "(II)I"⟩
abbrev cX2_way : ByteArray := prog_4_method_37_code
def yX2_way : MethodName := ⟨RX2, "way", "(II)I"⟩
abbrev cX2_note : ByteArray := prog_4_method_38_code
def yX2_note : MethodName := ⟨RX2, "note", "()V"⟩
abbrev cX2_join : ByteArray := prog_4_method_39_code
def yX2_join : MethodName := ⟨RX2, "join", "(I)I"⟩
abbrev cX2_leave : ByteArray := prog_4_method_40_code
def yX2_leave : MethodName := ⟨RX2, "leave", "(I)I"⟩
abbrev cX2_pass : ByteArray := prog_4_method_41_code
def yX2_pass : MethodName := ⟨RX2, "pass", "(I)I"⟩
abbrev cX2_turn : ByteArray := prog_4_method_42_code
def yX2_turn : MethodName := ⟨RX2, "turn", "(II)I"⟩
abbrev cX2_set : ByteArray := prog_4_method_43_code
def yX2_set : MethodName := ⟨RX2, "set", "(II)I"⟩
abbrev cX2_undo : ByteArray := prog_4_method_44_code
def yX2_undo : MethodName := ⟨RX2, "undo", "()I"⟩
abbrev cX2_ahead : ByteArray := prog_4_method_45_code
def yX2_ahead : MethodName := ⟨RX2, "ahead", "(II)I"⟩
abbrev cX2_crowd : ByteArray := prog_4_method_46_code
def yX2_crowd : MethodName := ⟨RX2, "crowd", "(I)I"⟩
abbrev cX2_longPower : ByteArray := prog_4_method_47_code
def yX2_longPower : MethodName := ⟨RX2, "longPower", "(JI)J"⟩
abbrev cX2_jitter : ByteArray := prog_4_method_48_code
def yX2_jitter : MethodName := ⟨RX2, "jitter", "(IJ)I"⟩
abbrev cX2_round : ByteArray := prog_4_method_49_code
def yX2_round : MethodName := ⟨RX2, "round", "(III)I"⟩
abbrev cX2_judged : ByteArray := prog_4_method_50_code
def yX2_judged : MethodName := ⟨RX2, "judged", "(III)Z"⟩
abbrev cX2_judge : ByteArray := prog_4_method_51_code
def yX2_judge : MethodName := ⟨RX2, "judge", "(IJ)I"⟩
abbrev cX2_see : ByteArray := prog_4_method_52_code
def yX2_see : MethodName := ⟨RX2, "see", "(II)I"⟩
abbrev cX2_unsee : ByteArray := prog_4_method_53_code
def yX2_unsee : MethodName := ⟨RX2, "unsee", "()I"⟩
abbrev cX2_which : ByteArray := prog_4_method_54_code
def yX2_which : MethodName := ⟨RX2, "which", "()I"⟩
abbrev cX2_lettersBy : ByteArray := prog_4_method_55_code
def yX2_lettersBy : MethodName := ⟨RX2, "lettersBy", "(II)I"⟩
abbrev cX2_share : ByteArray := prog_4_method_56_code
def yX2_share : MethodName := ⟨RX2, "share", "(IZ)I"⟩
abbrev cX2_chance : ByteArray := prog_4_method_57_code
def yX2_chance : MethodName := ⟨RX2, "chance", "(IIZ)I"⟩
abbrev cX2_seed : ByteArray := prog_4_method_58_code
def yX2_seed : MethodName := ⟨RX2, "seed", "(J)J"⟩
abbrev cX2_drawn : ByteArray := prog_4_method_59_code
def yX2_drawn : MethodName := ⟨RX2, "drawn", "(I)I"⟩
abbrev cX2_keep : ByteArray := prog_4_method_60_code
def yX2_keep : MethodName := ⟨RX2, "keep", "(I)I"⟩
abbrev cX2_again : ByteArray := prog_4_method_61_code
def yX2_again : MethodName := ⟨RX2, "again", "(I)I"⟩
def RJ6 : String := "java/lang/Integer"
def TJ6 : u_T := fun k => match k with
  | _ => ("", "", "", false)
def tyJ6 : Nat → FieldType := fun k => match k with
  | _ => .int
abbrev wsJ60 : List Cond := u_ws RJ6 TJ6 0
theorem nmJ6 : ∀ a, a < 0 → ∀ b, b < 0 → a ≠ b → (TJ6 a).2.1 ≠ (TJ6 b).2.1 := by decide +kernel
theorem tyJ6_ok : ∀ k, k < 0 → parseFieldDescriptor (TJ6 k).2.2.1 = some (tyJ6 k) := by decide +kernel
abbrev cJ6_bitCount_0f7a4 : ByteArray := prog_5_method_49_code
def yJ6_bitCount_0f7a4 : MethodName := ⟨RJ6, "bitCount", "(I)I"⟩
def RJ9 : String := "java/lang/Math"
def TJ9 : u_T := fun k => match k with
  | _ => ("", "", "", false)
def tyJ9 : Nat → FieldType := fun k => match k with
  | _ => .int
abbrev wsJ90 : List Cond := u_ws RJ9 TJ9 0
theorem nmJ9 : ∀ a, a < 0 → ∀ b, b < 0 → a ≠ b → (TJ9 a).2.1 ≠ (TJ9 b).2.1 := by decide +kernel
theorem tyJ9_ok : ∀ k, k < 0 → parseFieldDescriptor (TJ9 k).2.2.1 = some (tyJ9 k) := by decide +kernel
abbrev cJ9_abs_0f7a4 : ByteArray := prog_6_method_59_code
def yJ9_abs_0f7a4 : MethodName := ⟨RJ9, "abs", "(I)I"⟩
abbrev cJ9_max_7cf53 : ByteArray := prog_6_method_65_code
def yJ9_max_7cf53 : MethodName := ⟨RJ9, "max", "(II)I"⟩
def RJ10 : String := "java/lang/System"
def TJ10 : u_T := fun k => match k with
  | _ => ("", "", "", false)
def tyJ10 : Nat → FieldType := fun k => match k with
  | _ => .int
abbrev wsJ100 : List Cond := u_ws RJ10 TJ10 0
theorem nmJ10 : ∀ a, a < 0 → ∀ b, b < 0 → a ≠ b → (TJ10 a).2.1 ≠ (TJ10 b).2.1 := by decide +kernel
theorem tyJ10_ok : ∀ k, k < 0 → parseFieldDescriptor (TJ10 k).2.2.1 = some (tyJ10 k) := by decide +kernel
def RL : String := "CrowdReportsLaw"
abbrev cL_law : ByteArray := code
def yL_law : MethodName := ⟨RL, "law", "([I)Z"⟩
def wsX0_init : List Cond := .code yX0_init cX0_init 1 none :: ([.methodLink RX0 3 objectInit, .instanceMethod objectInit, .code objectInit ⟨#[0xb1]⟩ 1 none, .fieldLink RX0 9 "CrowdReports$Crowd" "size" "I", .fieldLink RX0 15 "CrowdReports$Crowd" "rate" "I", .fieldLink RX0 18 "CrowdReports$Crowd" "min" "I", .fieldLink RX0 21 "CrowdReports$Crowd" "clock" "I", .fieldLink RX0 24 "CrowdReports$Crowd" "lot" "I", .fieldLink RX0 27 "CrowdReports$Crowd" "reports" "I", .fieldLink RX0 30 "CrowdReports$Crowd" "byes" "I", .arrayClass .int, .fieldLink RX0 33 "CrowdReports$Crowd" "kind" "[I", .fieldLink RX0 37 "CrowdReports$Crowd" "known" "[I", .fieldLink RX0 40 "CrowdReports$Crowd" "begun" "[I", .fieldLink RX0 43 "CrowdReports$Crowd" "due" "[I", .fieldLink RX0 46 "CrowdReports$Crowd" "goers" "[I", .fieldLink RX0 49 "CrowdReports$Crowd" "shut" "[I", .fieldLink RX0 52 "CrowdReports$Crowd" "lastHeard" "[I"] ++ wsX00)
def wsX0_goAway : List Cond := .code yX0_goAway cX0_goAway 2 none :: ([.fieldLink RX0 33 "CrowdReports$Crowd" "kind" "[I", .fieldLink RX0 37 "CrowdReports$Crowd" "known" "[I", .fieldLink RX0 40 "CrowdReports$Crowd" "begun" "[I", .fieldLink RX0 43 "CrowdReports$Crowd" "due" "[I", .fieldLink RX0 46 "CrowdReports$Crowd" "goers" "[I"] ++ wsX00)
def wsX0_restart : List Cond := .code yX0_restart cX0_restart 2 none :: ([.fieldLink RX0 21 "CrowdReports$Crowd" "clock" "I", .fieldLink RX0 27 "CrowdReports$Crowd" "reports" "I", .fieldLink RX0 30 "CrowdReports$Crowd" "byes" "I", .fieldLink RX0 49 "CrowdReports$Crowd" "shut" "[I", .methodLink RX0 55 yX0_goAway, .instanceMethod yX0_goAway, .selects RX0 yX0_goAway yX0_goAway, .initialized RX0, .code yX0_goAway cX0_goAway 2 none, .fieldLink RX0 33 "CrowdReports$Crowd" "kind" "[I", .fieldLink RX0 37 "CrowdReports$Crowd" "known" "[I", .fieldLink RX0 40 "CrowdReports$Crowd" "begun" "[I", .fieldLink RX0 43 "CrowdReports$Crowd" "due" "[I", .fieldLink RX0 46 "CrowdReports$Crowd" "goers" "[I"] ++ wsX00)
def wsX0_takeFrom : List Cond := .code yX0_takeFrom cX0_takeFrom 2 none :: ([.fieldLink RX0 9 "CrowdReports$Crowd" "size" "I", .fieldLink RX0 15 "CrowdReports$Crowd" "rate" "I", .fieldLink RX0 18 "CrowdReports$Crowd" "min" "I", .fieldLink RX0 21 "CrowdReports$Crowd" "clock" "I", .fieldLink RX0 24 "CrowdReports$Crowd" "lot" "I", .fieldLink RX0 27 "CrowdReports$Crowd" "reports" "I", .fieldLink RX0 30 "CrowdReports$Crowd" "byes" "I", .fieldLink RX0 33 "CrowdReports$Crowd" "kind" "[I", .methodLink RX0 59 arraycopyName, .native arraycopyName, .static arraycopyName, .initialized "java/lang/System", .fieldLink RX0 37 "CrowdReports$Crowd" "known" "[I", .fieldLink RX0 40 "CrowdReports$Crowd" "begun" "[I", .fieldLink RX0 43 "CrowdReports$Crowd" "due" "[I", .fieldLink RX0 46 "CrowdReports$Crowd" "goers" "[I", .fieldLink RX0 49 "CrowdReports$Crowd" "shut" "[I", .fieldLink RX0 52 "CrowdReports$Crowd" "lastHeard" "[I"] ++ wsX00)
def wsX0_sent : List Cond := .code yX0_sent cX0_sent 1 (some .int) :: ([.fieldLink RX0 27 "CrowdReports$Crowd" "reports" "I", .fieldLink RX0 30 "CrowdReports$Crowd" "byes" "I"] ++ wsX00)
def wsX0_bitsOf : List Cond := .code yX0_bitsOf cX0_bitsOf 4 (some .int) :: ([.fieldLink RX0 33 "CrowdReports$Crowd" "kind" "[I"] ++ wsX00)
def wsX0_knows : List Cond := .code yX0_knows cX0_knows 3 (some .boolean) :: ([.fieldLink RX0 37 "CrowdReports$Crowd" "known" "[I"] ++ wsX00)
def wsX0_isOpen : List Cond := .code yX0_isOpen cX0_isOpen 3 (some .boolean) :: ([.fieldLink RX0 49 "CrowdReports$Crowd" "shut" "[I"] ++ wsX00)
def wsJ6_bitCount_0f7a4 : List Cond := .code yJ6_bitCount_0f7a4 cJ6_bitCount_0f7a4 1 (some .int) :: ([.constant RJ6 265 (1431655765), .constant RJ6 266 (858993459), .constant RJ6 267 (252645135)])
def wsX0_countOf : List Cond := .code yX0_countOf cX0_countOf 2 (some .int) :: ([.fieldLink RX0 37 "CrowdReports$Crowd" "known" "[I", .methodLink RX0 65 yJ6_bitCount_0f7a4, .static yJ6_bitCount_0f7a4, .initialized RJ6, .code yJ6_bitCount_0f7a4 cJ6_bitCount_0f7a4 1 (some .int), .constant RJ6 265 (1431655765), .constant RJ6 266 (858993459), .constant RJ6 267 (252645135)] ++ wsX00)
def wsX0_countTold : List Cond := .code yX0_countTold cX0_countTold 2 (some .int) :: ([.fieldLink RX0 33 "CrowdReports$Crowd" "kind" "[I", .methodLink RX0 71 yX0_countOf, .instanceMethod yX0_countOf, .selects RX0 yX0_countOf yX0_countOf, .initialized RX0, .code yX0_countOf cX0_countOf 2 (some .int), .fieldLink RX0 37 "CrowdReports$Crowd" "known" "[I", .methodLink RX0 65 yJ6_bitCount_0f7a4, .static yJ6_bitCount_0f7a4, .initialized RJ6, .code yJ6_bitCount_0f7a4 cJ6_bitCount_0f7a4 1 (some .int), .constant RJ6 265 (1431655765), .constant RJ6 266 (858993459), .constant RJ6 267 (252645135)] ++ wsX00)
def wsX0_isAtRest : List Cond := .code yX0_isAtRest cX0_isAtRest 3 (some .boolean) :: ([.fieldLink RX0 33 "CrowdReports$Crowd" "kind" "[I", .fieldLink RX0 37 "CrowdReports$Crowd" "known" "[I", .methodLink RX0 74 yX0_bitsOf, .instanceMethod yX0_bitsOf, .selects RX0 yX0_bitsOf yX0_bitsOf, .initialized RX0, .code yX0_bitsOf cX0_bitsOf 4 (some .int)] ++ wsX00)
def wsX0_feltBits : List Cond := .code yX0_feltBits cX0_feltBits 3 (some .int) :: ([.fieldLink RX0 37 "CrowdReports$Crowd" "known" "[I", .fieldLink RX0 33 "CrowdReports$Crowd" "kind" "[I"] ++ wsX00)
def wsX0_leaveOnly : List Cond := .code yX0_leaveOnly cX0_leaveOnly 3 none :: ([.fieldLink RX0 37 "CrowdReports$Crowd" "known" "[I", .methodLink RX0 55 yX0_goAway, .instanceMethod yX0_goAway, .selects RX0 yX0_goAway yX0_goAway, .initialized RX0, .code yX0_goAway cX0_goAway 2 none, .fieldLink RX0 33 "CrowdReports$Crowd" "kind" "[I", .fieldLink RX0 40 "CrowdReports$Crowd" "begun" "[I", .fieldLink RX0 43 "CrowdReports$Crowd" "due" "[I", .fieldLink RX0 46 "CrowdReports$Crowd" "goers" "[I"] ++ wsX00)
def wsX0_turnWay : List Cond := .code yX0_turnWay cX0_turnWay 3 (some .boolean) :: ([.fieldLink RX0 49 "CrowdReports$Crowd" "shut" "[I"] ++ wsX00)
def wsX0_tellAnew : List Cond := .code yX0_tellAnew cX0_tellAnew 4 (some .int) :: ([.fieldLink RX0 9 "CrowdReports$Crowd" "size" "I", .fieldLink RX0 15 "CrowdReports$Crowd" "rate" "I", .fieldLink RX0 18 "CrowdReports$Crowd" "min" "I"] ++ wsX00)
def wsX0_spanOf : List Cond := .code yX0_spanOf cX0_spanOf 3 (some .int) :: ([.fieldLink RX0 15 "CrowdReports$Crowd" "rate" "I", .methodLink RX0 77 Lib.Math.max.name, .static Lib.Math.max.name, .initialized "java/lang/Math", .code Lib.Math.max.name Lib.Math.max.code 2 (some .int), .fieldLink RX0 18 "CrowdReports$Crowd" "min" "I", .fieldLink RX0 9 "CrowdReports$Crowd" "size" "I"] ++ wsX00)
def wsX0_waitOf : List Cond := .code yX0_waitOf cX0_waitOf 3 (some .int) :: ([.fieldLink RX0 24 "CrowdReports$Crowd" "lot" "I", .constant RX0 83 (65536), .methodLink RX0 77 Lib.Math.max.name, .static Lib.Math.max.name, .initialized "java/lang/Math", .code Lib.Math.max.name Lib.Math.max.code 2 (some .int), .methodLink RX0 84 yX0_spanOf, .instanceMethod yX0_spanOf, .selects RX0 yX0_spanOf yX0_spanOf, .initialized RX0, .code yX0_spanOf cX0_spanOf 3 (some .int), .fieldLink RX0 15 "CrowdReports$Crowd" "rate" "I", .fieldLink RX0 18 "CrowdReports$Crowd" "min" "I", .fieldLink RX0 9 "CrowdReports$Crowd" "size" "I"] ++ wsX00)
def wsX0_begin : List Cond := .code yX0_begin cX0_begin 2 none :: ([.fieldLink RX0 40 "CrowdReports$Crowd" "begun" "[I", .fieldLink RX0 21 "CrowdReports$Crowd" "clock" "I", .fieldLink RX0 43 "CrowdReports$Crowd" "due" "[I", .methodLink RX0 87 yX0_waitOf, .instanceMethod yX0_waitOf, .selects RX0 yX0_waitOf yX0_waitOf, .initialized RX0, .code yX0_waitOf cX0_waitOf 3 (some .int), .fieldLink RX0 24 "CrowdReports$Crowd" "lot" "I", .constant RX0 83 (65536), .methodLink RX0 77 Lib.Math.max.name, .static Lib.Math.max.name, .initialized "java/lang/Math", .code Lib.Math.max.name Lib.Math.max.code 2 (some .int), .methodLink RX0 84 yX0_spanOf, .instanceMethod yX0_spanOf, .selects RX0 yX0_spanOf yX0_spanOf, .code yX0_spanOf cX0_spanOf 3 (some .int), .fieldLink RX0 15 "CrowdReports$Crowd" "rate" "I", .fieldLink RX0 18 "CrowdReports$Crowd" "min" "I", .fieldLink RX0 9 "CrowdReports$Crowd" "size" "I"] ++ wsX00)
def wsX1_isMember : List Cond := .code yX1_isMember cX1_isMember 1 (some .boolean) :: ([])
def wsX0_enter_r1 : List Cond := [Cond.fieldLink RX0 33 "CrowdReports$Crowd" "kind" "[I", Cond.static yX1_isMember, Cond.initialized RX1, Cond.code yX1_isMember cX1_isMember 1 (some .boolean), Cond.methodLink RX0 94 yX0_begin, Cond.instanceMethod yX0_begin, Cond.selects RX0 yX0_begin yX0_begin, Cond.initialized RX0, Cond.code yX0_begin cX0_begin 2 none, Cond.fieldLink RX0 40 "CrowdReports$Crowd" "begun" "[I", Cond.fieldLink RX0 21 "CrowdReports$Crowd" "clock" "I", Cond.fieldLink RX0 43 "CrowdReports$Crowd" "due" "[I", Cond.methodLink RX0 87 yX0_waitOf, Cond.instanceMethod yX0_waitOf, Cond.selects RX0 yX0_waitOf yX0_waitOf, Cond.code yX0_waitOf cX0_waitOf 3 (some .int), Cond.fieldLink RX0 24 "CrowdReports$Crowd" "lot" "I", Cond.constant RX0 83 (65536), Cond.methodLink RX0 77 Lib.Math.max.name, Cond.static Lib.Math.max.name, Cond.initialized "java/lang/Math", Cond.code Lib.Math.max.name Lib.Math.max.code 2 (some .int), Cond.methodLink RX0 84 yX0_spanOf, Cond.instanceMethod yX0_spanOf]
def wsX0_enter_r2 : List Cond := [Cond.selects RX0 yX0_spanOf yX0_spanOf, Cond.code yX0_spanOf cX0_spanOf 3 (some .int), Cond.fieldLink RX0 15 "CrowdReports$Crowd" "rate" "I", Cond.fieldLink RX0 18 "CrowdReports$Crowd" "min" "I", Cond.fieldLink RX0 9 "CrowdReports$Crowd" "size" "I"]
def wsX0_enter : List Cond := .code yX0_enter cX0_enter 2 (some .boolean) :: ((wsX0_enter_r1 ++ wsX0_enter_r2) ++ wsX00)
def wsX0_reaches : List Cond := .code yX0_reaches cX0_reaches 3 (some .boolean) :: ([.fieldLink RX0 33 "CrowdReports$Crowd" "kind" "[I", .methodLink RX0 123 yX0_isOpen, .instanceMethod yX0_isOpen, .selects RX0 yX0_isOpen yX0_isOpen, .initialized RX0, .code yX0_isOpen cX0_isOpen 3 (some .boolean), .fieldLink RX0 49 "CrowdReports$Crowd" "shut" "[I"] ++ wsX00)
def wsX0_hearBye_r1 : List Cond := [Cond.fieldLink RX0 33 "CrowdReports$Crowd" "kind" "[I", Cond.fieldLink RX0 46 "CrowdReports$Crowd" "goers" "[I", Cond.fieldLink RX0 37 "CrowdReports$Crowd" "known" "[I", Cond.fieldLink RX0 43 "CrowdReports$Crowd" "due" "[I", Cond.fieldLink RX0 21 "CrowdReports$Crowd" "clock" "I", Cond.methodLink RX0 77 Lib.Math.max.name, Cond.static Lib.Math.max.name, Cond.initialized "java/lang/Math", Cond.code Lib.Math.max.name Lib.Math.max.code 2 (some .int), Cond.fieldLink RX0 40 "CrowdReports$Crowd" "begun" "[I", Cond.methodLink RX0 119 yX0_knows, Cond.instanceMethod yX0_knows, Cond.selects RX0 yX0_knows yX0_knows, Cond.initialized RX0, Cond.code yX0_knows cX0_knows 3 (some .boolean), Cond.methodLink RX0 71 yX0_countOf, Cond.instanceMethod yX0_countOf, Cond.selects RX0 yX0_countOf yX0_countOf, Cond.code yX0_countOf cX0_countOf 2 (some .int), Cond.methodLink RX0 65 yJ6_bitCount_0f7a4, Cond.static yJ6_bitCount_0f7a4, Cond.initialized RJ6, Cond.code yJ6_bitCount_0f7a4 cJ6_bitCount_0f7a4 1 (some .int), Cond.constant RJ6 265 (1431655765)]
def wsX0_hearBye_r2 : List Cond := [Cond.constant RJ6 266 (858993459), Cond.constant RJ6 267 (252645135)]
def wsX0_hearBye : List Cond := .code yX0_hearBye cX0_hearBye 5 none :: ((wsX0_hearBye_r1 ++ wsX0_hearBye_r2) ++ wsX00)
def wsX0_sendBye_r1 : List Cond := [Cond.fieldLink RX0 30 "CrowdReports$Crowd" "byes" "I", Cond.methodLink RX0 55 yX0_goAway, Cond.instanceMethod yX0_goAway, Cond.selects RX0 yX0_goAway yX0_goAway, Cond.initialized RX0, Cond.code yX0_goAway cX0_goAway 2 none, Cond.fieldLink RX0 33 "CrowdReports$Crowd" "kind" "[I", Cond.fieldLink RX0 37 "CrowdReports$Crowd" "known" "[I", Cond.fieldLink RX0 40 "CrowdReports$Crowd" "begun" "[I", Cond.fieldLink RX0 43 "CrowdReports$Crowd" "due" "[I", Cond.fieldLink RX0 46 "CrowdReports$Crowd" "goers" "[I", Cond.methodLink RX0 126 yX0_reaches, Cond.instanceMethod yX0_reaches, Cond.selects RX0 yX0_reaches yX0_reaches, Cond.code yX0_reaches cX0_reaches 3 (some .boolean), Cond.methodLink RX0 123 yX0_isOpen, Cond.instanceMethod yX0_isOpen, Cond.selects RX0 yX0_isOpen yX0_isOpen, Cond.code yX0_isOpen cX0_isOpen 3 (some .boolean), Cond.fieldLink RX0 49 "CrowdReports$Crowd" "shut" "[I", Cond.methodLink RX0 129 yX0_hearBye, Cond.instanceMethod yX0_hearBye, Cond.selects RX0 yX0_hearBye yX0_hearBye, Cond.code yX0_hearBye cX0_hearBye 5 none]
def wsX0_sendBye_r2 : List Cond := [Cond.fieldLink RX0 21 "CrowdReports$Crowd" "clock" "I", Cond.methodLink RX0 77 Lib.Math.max.name, Cond.static Lib.Math.max.name, Cond.initialized "java/lang/Math", Cond.code Lib.Math.max.name Lib.Math.max.code 2 (some .int), Cond.methodLink RX0 119 yX0_knows, Cond.instanceMethod yX0_knows, Cond.selects RX0 yX0_knows yX0_knows, Cond.code yX0_knows cX0_knows 3 (some .boolean), Cond.methodLink RX0 71 yX0_countOf, Cond.instanceMethod yX0_countOf, Cond.selects RX0 yX0_countOf yX0_countOf, Cond.code yX0_countOf cX0_countOf 2 (some .int), Cond.methodLink RX0 65 yJ6_bitCount_0f7a4, Cond.static yJ6_bitCount_0f7a4, Cond.initialized RJ6, Cond.code yJ6_bitCount_0f7a4 cJ6_bitCount_0f7a4 1 (some .int), Cond.constant RJ6 265 (1431655765), Cond.constant RJ6 266 (858993459), Cond.constant RJ6 267 (252645135)]
def wsX0_sendBye : List Cond := .code yX0_sendBye cX0_sendBye 3 none :: ((wsX0_sendBye_r1 ++ wsX0_sendBye_r2) ++ wsX00)
def wsX0_depart_r1 : List Cond := [Cond.fieldLink RX0 33 "CrowdReports$Crowd" "kind" "[I", Cond.fieldLink RX0 46 "CrowdReports$Crowd" "goers" "[I", Cond.static yX1_isMember, Cond.initialized RX1, Cond.code yX1_isMember cX1_isMember 1 (some .boolean), Cond.methodLink RX0 71 yX0_countOf, Cond.instanceMethod yX0_countOf, Cond.selects RX0 yX0_countOf yX0_countOf, Cond.initialized RX0, Cond.code yX0_countOf cX0_countOf 2 (some .int), Cond.fieldLink RX0 37 "CrowdReports$Crowd" "known" "[I", Cond.methodLink RX0 65 yJ6_bitCount_0f7a4, Cond.static yJ6_bitCount_0f7a4, Cond.initialized RJ6, Cond.code yJ6_bitCount_0f7a4 cJ6_bitCount_0f7a4 1 (some .int), Cond.constant RJ6 265 (1431655765), Cond.constant RJ6 266 (858993459), Cond.constant RJ6 267 (252645135), Cond.methodLink RX0 97 yX0_sendBye, Cond.instanceMethod yX0_sendBye, Cond.selects RX0 yX0_sendBye yX0_sendBye, Cond.code yX0_sendBye cX0_sendBye 3 none, Cond.fieldLink RX0 30 "CrowdReports$Crowd" "byes" "I", Cond.methodLink RX0 55 yX0_goAway]
def wsX0_depart_r2 : List Cond := [Cond.instanceMethod yX0_goAway, Cond.selects RX0 yX0_goAway yX0_goAway, Cond.code yX0_goAway cX0_goAway 2 none, Cond.fieldLink RX0 40 "CrowdReports$Crowd" "begun" "[I", Cond.fieldLink RX0 43 "CrowdReports$Crowd" "due" "[I", Cond.methodLink RX0 126 yX0_reaches, Cond.instanceMethod yX0_reaches, Cond.selects RX0 yX0_reaches yX0_reaches, Cond.code yX0_reaches cX0_reaches 3 (some .boolean), Cond.methodLink RX0 123 yX0_isOpen, Cond.instanceMethod yX0_isOpen, Cond.selects RX0 yX0_isOpen yX0_isOpen, Cond.code yX0_isOpen cX0_isOpen 3 (some .boolean), Cond.fieldLink RX0 49 "CrowdReports$Crowd" "shut" "[I", Cond.methodLink RX0 129 yX0_hearBye, Cond.instanceMethod yX0_hearBye, Cond.selects RX0 yX0_hearBye yX0_hearBye, Cond.code yX0_hearBye cX0_hearBye 5 none, Cond.fieldLink RX0 21 "CrowdReports$Crowd" "clock" "I", Cond.methodLink RX0 77 Lib.Math.max.name, Cond.static Lib.Math.max.name, Cond.initialized "java/lang/Math", Cond.code Lib.Math.max.name Lib.Math.max.code 2 (some .int), Cond.methodLink RX0 119 yX0_knows]
def wsX0_depart_r3 : List Cond := [Cond.instanceMethod yX0_knows, Cond.selects RX0 yX0_knows yX0_knows, Cond.code yX0_knows cX0_knows 3 (some .boolean), Cond.methodLink RX0 94 yX0_begin, Cond.instanceMethod yX0_begin, Cond.selects RX0 yX0_begin yX0_begin, Cond.code yX0_begin cX0_begin 2 none, Cond.methodLink RX0 87 yX0_waitOf, Cond.instanceMethod yX0_waitOf, Cond.selects RX0 yX0_waitOf yX0_waitOf, Cond.code yX0_waitOf cX0_waitOf 3 (some .int), Cond.fieldLink RX0 24 "CrowdReports$Crowd" "lot" "I", Cond.constant RX0 83 (65536), Cond.methodLink RX0 84 yX0_spanOf, Cond.instanceMethod yX0_spanOf, Cond.selects RX0 yX0_spanOf yX0_spanOf, Cond.code yX0_spanOf cX0_spanOf 3 (some .int), Cond.fieldLink RX0 15 "CrowdReports$Crowd" "rate" "I", Cond.fieldLink RX0 18 "CrowdReports$Crowd" "min" "I", Cond.fieldLink RX0 9 "CrowdReports$Crowd" "size" "I"]
def wsX0_depart : List Cond := .code yX0_depart cX0_depart 2 (some .boolean) :: ((wsX0_depart_r1 ++ (wsX0_depart_r2 ++ wsX0_depart_r3)) ++ wsX00)
def wsX0_enterOrDepart_r1 : List Cond := [Cond.methodLink RX0 100 yX0_enter, Cond.instanceMethod yX0_enter, Cond.selects RX0 yX0_enter yX0_enter, Cond.initialized RX0, Cond.code yX0_enter cX0_enter 2 (some .boolean), Cond.fieldLink RX0 33 "CrowdReports$Crowd" "kind" "[I", Cond.static yX1_isMember, Cond.initialized RX1, Cond.code yX1_isMember cX1_isMember 1 (some .boolean), Cond.methodLink RX0 94 yX0_begin, Cond.instanceMethod yX0_begin, Cond.selects RX0 yX0_begin yX0_begin, Cond.code yX0_begin cX0_begin 2 none, Cond.fieldLink RX0 40 "CrowdReports$Crowd" "begun" "[I", Cond.fieldLink RX0 21 "CrowdReports$Crowd" "clock" "I", Cond.fieldLink RX0 43 "CrowdReports$Crowd" "due" "[I", Cond.methodLink RX0 87 yX0_waitOf, Cond.instanceMethod yX0_waitOf, Cond.selects RX0 yX0_waitOf yX0_waitOf, Cond.code yX0_waitOf cX0_waitOf 3 (some .int), Cond.fieldLink RX0 24 "CrowdReports$Crowd" "lot" "I", Cond.constant RX0 83 (65536), Cond.methodLink RX0 77 Lib.Math.max.name, Cond.static Lib.Math.max.name]
def wsX0_enterOrDepart_r2 : List Cond := [Cond.initialized "java/lang/Math", Cond.code Lib.Math.max.name Lib.Math.max.code 2 (some .int), Cond.methodLink RX0 84 yX0_spanOf, Cond.instanceMethod yX0_spanOf, Cond.selects RX0 yX0_spanOf yX0_spanOf, Cond.code yX0_spanOf cX0_spanOf 3 (some .int), Cond.fieldLink RX0 15 "CrowdReports$Crowd" "rate" "I", Cond.fieldLink RX0 18 "CrowdReports$Crowd" "min" "I", Cond.fieldLink RX0 9 "CrowdReports$Crowd" "size" "I", Cond.methodLink RX0 103 yX0_depart, Cond.instanceMethod yX0_depart, Cond.selects RX0 yX0_depart yX0_depart, Cond.code yX0_depart cX0_depart 2 (some .boolean), Cond.fieldLink RX0 46 "CrowdReports$Crowd" "goers" "[I", Cond.methodLink RX0 71 yX0_countOf, Cond.instanceMethod yX0_countOf, Cond.selects RX0 yX0_countOf yX0_countOf, Cond.code yX0_countOf cX0_countOf 2 (some .int), Cond.fieldLink RX0 37 "CrowdReports$Crowd" "known" "[I", Cond.methodLink RX0 65 yJ6_bitCount_0f7a4, Cond.static yJ6_bitCount_0f7a4, Cond.initialized RJ6, Cond.code yJ6_bitCount_0f7a4 cJ6_bitCount_0f7a4 1 (some .int), Cond.constant RJ6 265 (1431655765)]
def wsX0_enterOrDepart_r3 : List Cond := [Cond.constant RJ6 266 (858993459), Cond.constant RJ6 267 (252645135), Cond.methodLink RX0 97 yX0_sendBye, Cond.instanceMethod yX0_sendBye, Cond.selects RX0 yX0_sendBye yX0_sendBye, Cond.code yX0_sendBye cX0_sendBye 3 none, Cond.fieldLink RX0 30 "CrowdReports$Crowd" "byes" "I", Cond.methodLink RX0 55 yX0_goAway, Cond.instanceMethod yX0_goAway, Cond.selects RX0 yX0_goAway yX0_goAway, Cond.code yX0_goAway cX0_goAway 2 none, Cond.methodLink RX0 126 yX0_reaches, Cond.instanceMethod yX0_reaches, Cond.selects RX0 yX0_reaches yX0_reaches, Cond.code yX0_reaches cX0_reaches 3 (some .boolean), Cond.methodLink RX0 123 yX0_isOpen, Cond.instanceMethod yX0_isOpen, Cond.selects RX0 yX0_isOpen yX0_isOpen, Cond.code yX0_isOpen cX0_isOpen 3 (some .boolean), Cond.fieldLink RX0 49 "CrowdReports$Crowd" "shut" "[I", Cond.methodLink RX0 129 yX0_hearBye, Cond.instanceMethod yX0_hearBye, Cond.selects RX0 yX0_hearBye yX0_hearBye, Cond.code yX0_hearBye cX0_hearBye 5 none]
def wsX0_enterOrDepart_r4 : List Cond := [Cond.methodLink RX0 119 yX0_knows, Cond.instanceMethod yX0_knows, Cond.selects RX0 yX0_knows yX0_knows, Cond.code yX0_knows cX0_knows 3 (some .boolean)]
def wsX0_enterOrDepart : List Cond := .code yX0_enterOrDepart cX0_enterOrDepart 2 none :: ((wsX0_enterOrDepart_r1 ++ (wsX0_enterOrDepart_r2 ++ (wsX0_enterOrDepart_r3 ++ wsX0_enterOrDepart_r4))) ++ wsX00)
def wsX0_sendReport : List Cond := .code yX0_sendReport cX0_sendReport 3 none :: ([.fieldLink RX0 27 "CrowdReports$Crowd" "reports" "I", .fieldLink RX0 37 "CrowdReports$Crowd" "known" "[I", .fieldLink RX0 52 "CrowdReports$Crowd" "lastHeard" "[I", .fieldLink RX0 21 "CrowdReports$Crowd" "clock" "I", .methodLink RX0 126 yX0_reaches, .instanceMethod yX0_reaches, .selects RX0 yX0_reaches yX0_reaches, .initialized RX0, .code yX0_reaches cX0_reaches 3 (some .boolean), .fieldLink RX0 33 "CrowdReports$Crowd" "kind" "[I", .methodLink RX0 123 yX0_isOpen, .instanceMethod yX0_isOpen, .selects RX0 yX0_isOpen yX0_isOpen, .code yX0_isOpen cX0_isOpen 3 (some .boolean), .fieldLink RX0 49 "CrowdReports$Crowd" "shut" "[I"] ++ wsX00)
def wsX0_comeDue_r1 : List Cond := [Cond.fieldLink RX0 33 "CrowdReports$Crowd" "kind" "[I", Cond.fieldLink RX0 46 "CrowdReports$Crowd" "goers" "[I", Cond.fieldLink RX0 40 "CrowdReports$Crowd" "begun" "[I", Cond.fieldLink RX0 21 "CrowdReports$Crowd" "clock" "I", Cond.fieldLink RX0 43 "CrowdReports$Crowd" "due" "[I", Cond.methodLink RX0 71 yX0_countOf, Cond.instanceMethod yX0_countOf, Cond.selects RX0 yX0_countOf yX0_countOf, Cond.initialized RX0, Cond.code yX0_countOf cX0_countOf 2 (some .int), Cond.fieldLink RX0 37 "CrowdReports$Crowd" "known" "[I", Cond.methodLink RX0 65 yJ6_bitCount_0f7a4, Cond.static yJ6_bitCount_0f7a4, Cond.initialized RJ6, Cond.code yJ6_bitCount_0f7a4 cJ6_bitCount_0f7a4 1 (some .int), Cond.constant RJ6 265 (1431655765), Cond.constant RJ6 266 (858993459), Cond.constant RJ6 267 (252645135), Cond.methodLink RX0 87 yX0_waitOf, Cond.instanceMethod yX0_waitOf, Cond.selects RX0 yX0_waitOf yX0_waitOf, Cond.code yX0_waitOf cX0_waitOf 3 (some .int), Cond.fieldLink RX0 24 "CrowdReports$Crowd" "lot" "I", Cond.constant RX0 83 (65536)]
def wsX0_comeDue_r2 : List Cond := [Cond.methodLink RX0 77 Lib.Math.max.name, Cond.static Lib.Math.max.name, Cond.initialized "java/lang/Math", Cond.code Lib.Math.max.name Lib.Math.max.code 2 (some .int), Cond.methodLink RX0 84 yX0_spanOf, Cond.instanceMethod yX0_spanOf, Cond.selects RX0 yX0_spanOf yX0_spanOf, Cond.code yX0_spanOf cX0_spanOf 3 (some .int), Cond.fieldLink RX0 15 "CrowdReports$Crowd" "rate" "I", Cond.fieldLink RX0 18 "CrowdReports$Crowd" "min" "I", Cond.fieldLink RX0 9 "CrowdReports$Crowd" "size" "I", Cond.methodLink RX0 97 yX0_sendBye, Cond.instanceMethod yX0_sendBye, Cond.selects RX0 yX0_sendBye yX0_sendBye, Cond.code yX0_sendBye cX0_sendBye 3 none, Cond.fieldLink RX0 30 "CrowdReports$Crowd" "byes" "I", Cond.methodLink RX0 55 yX0_goAway, Cond.instanceMethod yX0_goAway, Cond.selects RX0 yX0_goAway yX0_goAway, Cond.code yX0_goAway cX0_goAway 2 none, Cond.methodLink RX0 126 yX0_reaches, Cond.instanceMethod yX0_reaches, Cond.selects RX0 yX0_reaches yX0_reaches, Cond.code yX0_reaches cX0_reaches 3 (some .boolean)]
def wsX0_comeDue_r3 : List Cond := [Cond.methodLink RX0 123 yX0_isOpen, Cond.instanceMethod yX0_isOpen, Cond.selects RX0 yX0_isOpen yX0_isOpen, Cond.code yX0_isOpen cX0_isOpen 3 (some .boolean), Cond.fieldLink RX0 49 "CrowdReports$Crowd" "shut" "[I", Cond.methodLink RX0 129 yX0_hearBye, Cond.instanceMethod yX0_hearBye, Cond.selects RX0 yX0_hearBye yX0_hearBye, Cond.code yX0_hearBye cX0_hearBye 5 none, Cond.methodLink RX0 119 yX0_knows, Cond.instanceMethod yX0_knows, Cond.selects RX0 yX0_knows yX0_knows, Cond.code yX0_knows cX0_knows 3 (some .boolean), Cond.methodLink RX0 116 yX0_sendReport, Cond.instanceMethod yX0_sendReport, Cond.selects RX0 yX0_sendReport yX0_sendReport, Cond.code yX0_sendReport cX0_sendReport 3 none, Cond.fieldLink RX0 27 "CrowdReports$Crowd" "reports" "I", Cond.fieldLink RX0 52 "CrowdReports$Crowd" "lastHeard" "[I"]
def wsX0_comeDue : List Cond := .code yX0_comeDue cX0_comeDue 4 none :: ((wsX0_comeDue_r1 ++ (wsX0_comeDue_r2 ++ wsX0_comeDue_r3)) ++ wsX00)
def wsX0_forgetOld_r1 : List Cond := [Cond.fieldLink RX0 21 "CrowdReports$Crowd" "clock" "I", Cond.fieldLink RX0 52 "CrowdReports$Crowd" "lastHeard" "[I", Cond.fieldLink RX0 37 "CrowdReports$Crowd" "known" "[I", Cond.methodLink RX0 71 yX0_countOf, Cond.instanceMethod yX0_countOf, Cond.selects RX0 yX0_countOf yX0_countOf, Cond.initialized RX0, Cond.code yX0_countOf cX0_countOf 2 (some .int), Cond.methodLink RX0 65 yJ6_bitCount_0f7a4, Cond.static yJ6_bitCount_0f7a4, Cond.initialized RJ6, Cond.code yJ6_bitCount_0f7a4 cJ6_bitCount_0f7a4 1 (some .int), Cond.constant RJ6 265 (1431655765), Cond.constant RJ6 266 (858993459), Cond.constant RJ6 267 (252645135), Cond.methodLink RX0 84 yX0_spanOf, Cond.instanceMethod yX0_spanOf, Cond.selects RX0 yX0_spanOf yX0_spanOf, Cond.code yX0_spanOf cX0_spanOf 3 (some .int), Cond.fieldLink RX0 15 "CrowdReports$Crowd" "rate" "I", Cond.methodLink RX0 77 Lib.Math.max.name, Cond.static Lib.Math.max.name, Cond.initialized "java/lang/Math", Cond.code Lib.Math.max.name Lib.Math.max.code 2 (some .int)]
def wsX0_forgetOld_r2 : List Cond := [Cond.fieldLink RX0 18 "CrowdReports$Crowd" "min" "I", Cond.fieldLink RX0 9 "CrowdReports$Crowd" "size" "I", Cond.methodLink RX0 119 yX0_knows, Cond.instanceMethod yX0_knows, Cond.selects RX0 yX0_knows yX0_knows, Cond.code yX0_knows cX0_knows 3 (some .boolean)]
def wsX0_forgetOld : List Cond := .code yX0_forgetOld cX0_forgetOld 5 none :: ((wsX0_forgetOld_r1 ++ wsX0_forgetOld_r2) ++ wsX00)
def wsX0_run_r1 : List Cond := [Cond.fieldLink RX0 21 "CrowdReports$Crowd" "clock" "I", Cond.fieldLink RX0 33 "CrowdReports$Crowd" "kind" "[I", Cond.fieldLink RX0 43 "CrowdReports$Crowd" "due" "[I", Cond.fieldLink RX0 37 "CrowdReports$Crowd" "known" "[I", Cond.methodLink RX0 106 yX0_sent, Cond.instanceMethod yX0_sent, Cond.selects RX0 yX0_sent yX0_sent, Cond.initialized RX0, Cond.code yX0_sent cX0_sent 1 (some .int), Cond.fieldLink RX0 27 "CrowdReports$Crowd" "reports" "I", Cond.fieldLink RX0 30 "CrowdReports$Crowd" "byes" "I", Cond.methodLink RX0 110 yX0_comeDue, Cond.instanceMethod yX0_comeDue, Cond.selects RX0 yX0_comeDue yX0_comeDue, Cond.code yX0_comeDue cX0_comeDue 4 none, Cond.fieldLink RX0 46 "CrowdReports$Crowd" "goers" "[I", Cond.fieldLink RX0 40 "CrowdReports$Crowd" "begun" "[I", Cond.methodLink RX0 71 yX0_countOf, Cond.instanceMethod yX0_countOf, Cond.selects RX0 yX0_countOf yX0_countOf, Cond.code yX0_countOf cX0_countOf 2 (some .int), Cond.methodLink RX0 65 yJ6_bitCount_0f7a4, Cond.static yJ6_bitCount_0f7a4, Cond.initialized RJ6]
def wsX0_run_r2 : List Cond := [Cond.code yJ6_bitCount_0f7a4 cJ6_bitCount_0f7a4 1 (some .int), Cond.constant RJ6 265 (1431655765), Cond.constant RJ6 266 (858993459), Cond.constant RJ6 267 (252645135), Cond.methodLink RX0 87 yX0_waitOf, Cond.instanceMethod yX0_waitOf, Cond.selects RX0 yX0_waitOf yX0_waitOf, Cond.code yX0_waitOf cX0_waitOf 3 (some .int), Cond.fieldLink RX0 24 "CrowdReports$Crowd" "lot" "I", Cond.constant RX0 83 (65536), Cond.methodLink RX0 77 Lib.Math.max.name, Cond.static Lib.Math.max.name, Cond.initialized "java/lang/Math", Cond.code Lib.Math.max.name Lib.Math.max.code 2 (some .int), Cond.methodLink RX0 84 yX0_spanOf, Cond.instanceMethod yX0_spanOf, Cond.selects RX0 yX0_spanOf yX0_spanOf, Cond.code yX0_spanOf cX0_spanOf 3 (some .int), Cond.fieldLink RX0 15 "CrowdReports$Crowd" "rate" "I", Cond.fieldLink RX0 18 "CrowdReports$Crowd" "min" "I", Cond.fieldLink RX0 9 "CrowdReports$Crowd" "size" "I", Cond.methodLink RX0 97 yX0_sendBye, Cond.instanceMethod yX0_sendBye, Cond.selects RX0 yX0_sendBye yX0_sendBye]
def wsX0_run_r3 : List Cond := [Cond.code yX0_sendBye cX0_sendBye 3 none, Cond.methodLink RX0 55 yX0_goAway, Cond.instanceMethod yX0_goAway, Cond.selects RX0 yX0_goAway yX0_goAway, Cond.code yX0_goAway cX0_goAway 2 none, Cond.methodLink RX0 126 yX0_reaches, Cond.instanceMethod yX0_reaches, Cond.selects RX0 yX0_reaches yX0_reaches, Cond.code yX0_reaches cX0_reaches 3 (some .boolean), Cond.methodLink RX0 123 yX0_isOpen, Cond.instanceMethod yX0_isOpen, Cond.selects RX0 yX0_isOpen yX0_isOpen, Cond.code yX0_isOpen cX0_isOpen 3 (some .boolean), Cond.fieldLink RX0 49 "CrowdReports$Crowd" "shut" "[I", Cond.methodLink RX0 129 yX0_hearBye, Cond.instanceMethod yX0_hearBye, Cond.selects RX0 yX0_hearBye yX0_hearBye, Cond.code yX0_hearBye cX0_hearBye 5 none, Cond.methodLink RX0 119 yX0_knows, Cond.instanceMethod yX0_knows, Cond.selects RX0 yX0_knows yX0_knows, Cond.code yX0_knows cX0_knows 3 (some .boolean), Cond.methodLink RX0 116 yX0_sendReport, Cond.instanceMethod yX0_sendReport]
def wsX0_run_r4 : List Cond := [Cond.selects RX0 yX0_sendReport yX0_sendReport, Cond.code yX0_sendReport cX0_sendReport 3 none, Cond.fieldLink RX0 52 "CrowdReports$Crowd" "lastHeard" "[I", Cond.methodLink RX0 113 yX0_forgetOld, Cond.instanceMethod yX0_forgetOld, Cond.selects RX0 yX0_forgetOld yX0_forgetOld, Cond.code yX0_forgetOld cX0_forgetOld 5 none]
def wsX0_run : List Cond := .code yX0_run cX0_run 5 (some .int) :: ((wsX0_run_r1 ++ (wsX0_run_r2 ++ (wsX0_run_r3 ++ wsX0_run_r4))) ++ wsX00)
def wsX1_init_r1 : List Cond := [Cond.methodLink RX1 1 objectInit, Cond.instanceMethod objectInit, Cond.code objectInit ⟨#[0xb1]⟩ 1 none, Cond.classLink RX1 7 RX0, Cond.instantiable RX0 14, Cond.initialized RX0, Cond.fieldLink RX1 10 "CrowdReports" "now" "LCrowdReports$Crowd;", Cond.fieldLink RX1 16 "CrowdReports" "trial" "LCrowdReports$Crowd;", Cond.fieldLink RX1 19 "CrowdReports" "past" "[LCrowdReports$Crowd;", Cond.fieldLink RX1 23 "CrowdReports" "acts" "I", Cond.fieldLink RX1 27 "CrowdReports" "slots" "[LCrowdReports$Crowd;", Cond.fieldLink RX1 30 "CrowdReports" "keptBits" "I", Cond.arrayClass .int, Cond.fieldLink RX1 33 "CrowdReports" "text" "[I", Cond.fieldLink RX1 37 "CrowdReports" "letters" "I", Cond.fieldLink RX1 40 "CrowdReports" "seenTicks" "[I", Cond.fieldLink RX1 43 "CrowdReports" "seenLetters" "[I", Cond.fieldLink RX1 46 "CrowdReports" "seen" "I", Cond.fieldLink RX1 49 "CrowdReports" "lastSeed" "J", Cond.fieldLink RX1 53 "CrowdReports" "sentBy" "[I", Cond.instanceMethod yX0_init, Cond.code yX0_init cX0_init 1 none, Cond.methodLink RX0 3 objectInit, Cond.fieldLink RX0 9 "CrowdReports$Crowd" "size" "I"]
def wsX1_init_r2 : List Cond := [Cond.fieldLink RX0 15 "CrowdReports$Crowd" "rate" "I", Cond.fieldLink RX0 18 "CrowdReports$Crowd" "min" "I", Cond.fieldLink RX0 21 "CrowdReports$Crowd" "clock" "I", Cond.fieldLink RX0 24 "CrowdReports$Crowd" "lot" "I", Cond.fieldLink RX0 27 "CrowdReports$Crowd" "reports" "I", Cond.fieldLink RX0 30 "CrowdReports$Crowd" "byes" "I", Cond.fieldLink RX0 33 "CrowdReports$Crowd" "kind" "[I", Cond.fieldLink RX0 37 "CrowdReports$Crowd" "known" "[I", Cond.fieldLink RX0 40 "CrowdReports$Crowd" "begun" "[I", Cond.fieldLink RX0 43 "CrowdReports$Crowd" "due" "[I", Cond.fieldLink RX0 46 "CrowdReports$Crowd" "goers" "[I", Cond.fieldLink RX0 49 "CrowdReports$Crowd" "shut" "[I", Cond.fieldLink RX0 52 "CrowdReports$Crowd" "lastHeard" "[I"]
def wsX1_init : List Cond := .code yX1_init cX1_init 2 none :: ((wsX1_init_r1 ++ wsX1_init_r2) ++ wsX00 ++ wsX10)
def wsX1_write : List Cond := .code yX1_write cX1_write 2 (some .int) :: ([.fieldLink RX1 37 "CrowdReports" "letters" "I", .fieldLink RX1 33 "CrowdReports" "text" "[I"] ++ wsX10)
def wsX1_wipe : List Cond := .code yX1_wipe cX1_wipe 2 (some .int) :: ([.fieldLink RX1 37 "CrowdReports" "letters" "I"] ++ wsX10)
def wsX1_isFigure : List Cond := .code yX1_isFigure cX1_isFigure 2 (some .boolean) :: ([])
def wsX1_readHead_r1 : List Cond := [Cond.fieldLink RX1 37 "CrowdReports" "letters" "I", Cond.fieldLink RX1 33 "CrowdReports" "text" "[I", Cond.fieldLink RX1 16 "CrowdReports" "trial" "LCrowdReports$Crowd;", Cond.fieldLink RX1 67 "CrowdReports$Crowd" "size" "I", Cond.fieldLink RX1 70 "CrowdReports$Crowd" "rate" "I", Cond.fieldLink RX1 73 "CrowdReports$Crowd" "min" "I", Cond.fieldLink RX1 76 "CrowdReports$Crowd" "lot" "I", Cond.methodLink RX1 206 yX1_isFigure, Cond.static yX1_isFigure, Cond.initialized RX1, Cond.code yX1_isFigure cX1_isFigure 2 (some .boolean), Cond.methodLink RX1 212 yX0_restart, Cond.instanceMethod yX0_restart, Cond.selects RX0 yX0_restart yX0_restart, Cond.initialized RX0, Cond.code yX0_restart cX0_restart 2 none, Cond.fieldLink RX0 21 "CrowdReports$Crowd" "clock" "I", Cond.fieldLink RX0 27 "CrowdReports$Crowd" "reports" "I", Cond.fieldLink RX0 30 "CrowdReports$Crowd" "byes" "I", Cond.fieldLink RX0 49 "CrowdReports$Crowd" "shut" "[I", Cond.methodLink RX0 55 yX0_goAway, Cond.instanceMethod yX0_goAway, Cond.selects RX0 yX0_goAway yX0_goAway, Cond.code yX0_goAway cX0_goAway 2 none]
def wsX1_readHead_r2 : List Cond := [Cond.fieldLink RX0 33 "CrowdReports$Crowd" "kind" "[I", Cond.fieldLink RX0 37 "CrowdReports$Crowd" "known" "[I", Cond.fieldLink RX0 40 "CrowdReports$Crowd" "begun" "[I", Cond.fieldLink RX0 43 "CrowdReports$Crowd" "due" "[I", Cond.fieldLink RX0 46 "CrowdReports$Crowd" "goers" "[I"]
def wsX1_readHead : List Cond := .code yX1_readHead cX1_readHead 3 (some .int) :: ((wsX1_readHead_r1 ++ wsX1_readHead_r2) ++ wsX10 ++ wsX00)
def wsX1_canBegin : List Cond := .code yX1_canBegin cX1_canBegin 2 (some .boolean) :: ([.fieldLink RX1 16 "CrowdReports" "trial" "LCrowdReports$Crowd;", .methodLink RX1 85 yX0_bitsOf, .instanceMethod yX0_bitsOf, .selects RX0 yX0_bitsOf yX0_bitsOf, .initialized RX0, .code yX0_bitsOf cX0_bitsOf 4 (some .int), .fieldLink RX0 33 "CrowdReports$Crowd" "kind" "[I"] ++ wsX10 ++ wsX00)
def wsX1_readText_r1 : List Cond := [Cond.fieldLink RX1 37 "CrowdReports" "letters" "I", Cond.fieldLink RX1 33 "CrowdReports" "text" "[I", Cond.fieldLink RX1 16 "CrowdReports" "trial" "LCrowdReports$Crowd;", Cond.methodLink RX1 203 yX1_readHead, Cond.instanceMethod yX1_readHead, Cond.selects RX1 yX1_readHead yX1_readHead, Cond.initialized RX1, Cond.code yX1_readHead cX1_readHead 3 (some .int), Cond.fieldLink RX1 67 "CrowdReports$Crowd" "size" "I", Cond.fieldLink RX1 70 "CrowdReports$Crowd" "rate" "I", Cond.fieldLink RX1 73 "CrowdReports$Crowd" "min" "I", Cond.fieldLink RX1 76 "CrowdReports$Crowd" "lot" "I", Cond.methodLink RX1 206 yX1_isFigure, Cond.static yX1_isFigure, Cond.code yX1_isFigure cX1_isFigure 2 (some .boolean), Cond.methodLink RX1 212 yX0_restart, Cond.instanceMethod yX0_restart, Cond.selects RX0 yX0_restart yX0_restart, Cond.initialized RX0, Cond.code yX0_restart cX0_restart 2 none, Cond.fieldLink RX0 21 "CrowdReports$Crowd" "clock" "I", Cond.fieldLink RX0 27 "CrowdReports$Crowd" "reports" "I", Cond.fieldLink RX0 30 "CrowdReports$Crowd" "byes" "I", Cond.fieldLink RX0 49 "CrowdReports$Crowd" "shut" "[I"]
def wsX1_readText_r2 : List Cond := [Cond.methodLink RX0 55 yX0_goAway, Cond.instanceMethod yX0_goAway, Cond.selects RX0 yX0_goAway yX0_goAway, Cond.code yX0_goAway cX0_goAway 2 none, Cond.fieldLink RX0 33 "CrowdReports$Crowd" "kind" "[I", Cond.fieldLink RX0 37 "CrowdReports$Crowd" "known" "[I", Cond.fieldLink RX0 40 "CrowdReports$Crowd" "begun" "[I", Cond.fieldLink RX0 43 "CrowdReports$Crowd" "due" "[I", Cond.fieldLink RX0 46 "CrowdReports$Crowd" "goers" "[I", Cond.methodLink RX1 127 yX0_enter, Cond.instanceMethod yX0_enter, Cond.selects RX0 yX0_enter yX0_enter, Cond.code yX0_enter cX0_enter 2 (some .boolean), Cond.static yX1_isMember, Cond.code yX1_isMember cX1_isMember 1 (some .boolean), Cond.methodLink RX0 94 yX0_begin, Cond.instanceMethod yX0_begin, Cond.selects RX0 yX0_begin yX0_begin, Cond.code yX0_begin cX0_begin 2 none, Cond.methodLink RX0 87 yX0_waitOf, Cond.instanceMethod yX0_waitOf, Cond.selects RX0 yX0_waitOf yX0_waitOf, Cond.code yX0_waitOf cX0_waitOf 3 (some .int), Cond.fieldLink RX0 24 "CrowdReports$Crowd" "lot" "I"]
def wsX1_readText_r3 : List Cond := [Cond.constant RX0 83 (65536), Cond.methodLink RX0 77 Lib.Math.max.name, Cond.static Lib.Math.max.name, Cond.initialized "java/lang/Math", Cond.code Lib.Math.max.name Lib.Math.max.code 2 (some .int), Cond.methodLink RX0 84 yX0_spanOf, Cond.instanceMethod yX0_spanOf, Cond.selects RX0 yX0_spanOf yX0_spanOf, Cond.code yX0_spanOf cX0_spanOf 3 (some .int), Cond.fieldLink RX0 15 "CrowdReports$Crowd" "rate" "I", Cond.fieldLink RX0 18 "CrowdReports$Crowd" "min" "I", Cond.fieldLink RX0 9 "CrowdReports$Crowd" "size" "I", Cond.methodLink RX1 130 yX0_depart, Cond.instanceMethod yX0_depart, Cond.selects RX0 yX0_depart yX0_depart, Cond.code yX0_depart cX0_depart 2 (some .boolean), Cond.methodLink RX0 71 yX0_countOf, Cond.instanceMethod yX0_countOf, Cond.selects RX0 yX0_countOf yX0_countOf, Cond.code yX0_countOf cX0_countOf 2 (some .int), Cond.methodLink RX0 65 yJ6_bitCount_0f7a4, Cond.static yJ6_bitCount_0f7a4, Cond.initialized RJ6, Cond.code yJ6_bitCount_0f7a4 cJ6_bitCount_0f7a4 1 (some .int)]
def wsX1_readText_r4 : List Cond := [Cond.constant RJ6 265 (1431655765), Cond.constant RJ6 266 (858993459), Cond.constant RJ6 267 (252645135), Cond.methodLink RX0 97 yX0_sendBye, Cond.instanceMethod yX0_sendBye, Cond.selects RX0 yX0_sendBye yX0_sendBye, Cond.code yX0_sendBye cX0_sendBye 3 none, Cond.methodLink RX0 126 yX0_reaches, Cond.instanceMethod yX0_reaches, Cond.selects RX0 yX0_reaches yX0_reaches, Cond.code yX0_reaches cX0_reaches 3 (some .boolean), Cond.methodLink RX0 123 yX0_isOpen, Cond.instanceMethod yX0_isOpen, Cond.selects RX0 yX0_isOpen yX0_isOpen, Cond.code yX0_isOpen cX0_isOpen 3 (some .boolean), Cond.methodLink RX0 129 yX0_hearBye, Cond.instanceMethod yX0_hearBye, Cond.selects RX0 yX0_hearBye yX0_hearBye, Cond.code yX0_hearBye cX0_hearBye 5 none, Cond.methodLink RX0 119 yX0_knows, Cond.instanceMethod yX0_knows, Cond.selects RX0 yX0_knows yX0_knows, Cond.code yX0_knows cX0_knows 3 (some .boolean), Cond.methodLink RX1 133 yX0_run]
def wsX1_readText_r5 : List Cond := [Cond.instanceMethod yX0_run, Cond.selects RX0 yX0_run yX0_run, Cond.code yX0_run cX0_run 5 (some .int), Cond.methodLink RX0 106 yX0_sent, Cond.instanceMethod yX0_sent, Cond.selects RX0 yX0_sent yX0_sent, Cond.code yX0_sent cX0_sent 1 (some .int), Cond.methodLink RX0 110 yX0_comeDue, Cond.instanceMethod yX0_comeDue, Cond.selects RX0 yX0_comeDue yX0_comeDue, Cond.code yX0_comeDue cX0_comeDue 4 none, Cond.methodLink RX0 116 yX0_sendReport, Cond.instanceMethod yX0_sendReport, Cond.selects RX0 yX0_sendReport yX0_sendReport, Cond.code yX0_sendReport cX0_sendReport 3 none, Cond.fieldLink RX0 52 "CrowdReports$Crowd" "lastHeard" "[I", Cond.methodLink RX0 113 yX0_forgetOld, Cond.instanceMethod yX0_forgetOld, Cond.selects RX0 yX0_forgetOld yX0_forgetOld, Cond.code yX0_forgetOld cX0_forgetOld 5 none, Cond.methodLink RX1 209 yX1_canBegin, Cond.instanceMethod yX1_canBegin, Cond.selects RX1 yX1_canBegin yX1_canBegin, Cond.code yX1_canBegin cX1_canBegin 2 (some .boolean)]
def wsX1_readText_r6 : List Cond := [Cond.methodLink RX1 85 yX0_bitsOf, Cond.instanceMethod yX0_bitsOf, Cond.selects RX0 yX0_bitsOf yX0_bitsOf, Cond.code yX0_bitsOf cX0_bitsOf 4 (some .int)]
def wsX1_readText : List Cond := .code yX1_readText cX1_readText 7 (some .int) :: ((wsX1_readText_r1 ++ (wsX1_readText_r2 ++ (wsX1_readText_r3 ++ (wsX1_readText_r4 ++ (wsX1_readText_r5 ++ wsX1_readText_r6))))) ++ wsX10 ++ wsX00)
def wsX1_fault_r1 : List Cond := [Cond.methodLink RX1 56 yX1_readText, Cond.instanceMethod yX1_readText, Cond.selects RX1 yX1_readText yX1_readText, Cond.initialized RX1, Cond.code yX1_readText cX1_readText 7 (some .int), Cond.fieldLink RX1 37 "CrowdReports" "letters" "I", Cond.fieldLink RX1 33 "CrowdReports" "text" "[I", Cond.fieldLink RX1 16 "CrowdReports" "trial" "LCrowdReports$Crowd;", Cond.methodLink RX1 203 yX1_readHead, Cond.instanceMethod yX1_readHead, Cond.selects RX1 yX1_readHead yX1_readHead, Cond.code yX1_readHead cX1_readHead 3 (some .int), Cond.fieldLink RX1 67 "CrowdReports$Crowd" "size" "I", Cond.fieldLink RX1 70 "CrowdReports$Crowd" "rate" "I", Cond.fieldLink RX1 73 "CrowdReports$Crowd" "min" "I", Cond.fieldLink RX1 76 "CrowdReports$Crowd" "lot" "I", Cond.methodLink RX1 206 yX1_isFigure, Cond.static yX1_isFigure, Cond.code yX1_isFigure cX1_isFigure 2 (some .boolean), Cond.methodLink RX1 212 yX0_restart, Cond.instanceMethod yX0_restart, Cond.selects RX0 yX0_restart yX0_restart, Cond.initialized RX0, Cond.code yX0_restart cX0_restart 2 none]
def wsX1_fault_r2 : List Cond := [Cond.fieldLink RX0 21 "CrowdReports$Crowd" "clock" "I", Cond.fieldLink RX0 27 "CrowdReports$Crowd" "reports" "I", Cond.fieldLink RX0 30 "CrowdReports$Crowd" "byes" "I", Cond.fieldLink RX0 49 "CrowdReports$Crowd" "shut" "[I", Cond.methodLink RX0 55 yX0_goAway, Cond.instanceMethod yX0_goAway, Cond.selects RX0 yX0_goAway yX0_goAway, Cond.code yX0_goAway cX0_goAway 2 none, Cond.fieldLink RX0 33 "CrowdReports$Crowd" "kind" "[I", Cond.fieldLink RX0 37 "CrowdReports$Crowd" "known" "[I", Cond.fieldLink RX0 40 "CrowdReports$Crowd" "begun" "[I", Cond.fieldLink RX0 43 "CrowdReports$Crowd" "due" "[I", Cond.fieldLink RX0 46 "CrowdReports$Crowd" "goers" "[I", Cond.methodLink RX1 127 yX0_enter, Cond.instanceMethod yX0_enter, Cond.selects RX0 yX0_enter yX0_enter, Cond.code yX0_enter cX0_enter 2 (some .boolean), Cond.static yX1_isMember, Cond.code yX1_isMember cX1_isMember 1 (some .boolean), Cond.methodLink RX0 94 yX0_begin, Cond.instanceMethod yX0_begin, Cond.selects RX0 yX0_begin yX0_begin, Cond.code yX0_begin cX0_begin 2 none, Cond.methodLink RX0 87 yX0_waitOf]
def wsX1_fault_r3 : List Cond := [Cond.instanceMethod yX0_waitOf, Cond.selects RX0 yX0_waitOf yX0_waitOf, Cond.code yX0_waitOf cX0_waitOf 3 (some .int), Cond.fieldLink RX0 24 "CrowdReports$Crowd" "lot" "I", Cond.constant RX0 83 (65536), Cond.methodLink RX0 77 Lib.Math.max.name, Cond.static Lib.Math.max.name, Cond.initialized "java/lang/Math", Cond.code Lib.Math.max.name Lib.Math.max.code 2 (some .int), Cond.methodLink RX0 84 yX0_spanOf, Cond.instanceMethod yX0_spanOf, Cond.selects RX0 yX0_spanOf yX0_spanOf, Cond.code yX0_spanOf cX0_spanOf 3 (some .int), Cond.fieldLink RX0 15 "CrowdReports$Crowd" "rate" "I", Cond.fieldLink RX0 18 "CrowdReports$Crowd" "min" "I", Cond.fieldLink RX0 9 "CrowdReports$Crowd" "size" "I", Cond.methodLink RX1 130 yX0_depart, Cond.instanceMethod yX0_depart, Cond.selects RX0 yX0_depart yX0_depart, Cond.code yX0_depart cX0_depart 2 (some .boolean), Cond.methodLink RX0 71 yX0_countOf, Cond.instanceMethod yX0_countOf, Cond.selects RX0 yX0_countOf yX0_countOf, Cond.code yX0_countOf cX0_countOf 2 (some .int)]
def wsX1_fault_r4 : List Cond := [Cond.methodLink RX0 65 yJ6_bitCount_0f7a4, Cond.static yJ6_bitCount_0f7a4, Cond.initialized RJ6, Cond.code yJ6_bitCount_0f7a4 cJ6_bitCount_0f7a4 1 (some .int), Cond.constant RJ6 265 (1431655765), Cond.constant RJ6 266 (858993459), Cond.constant RJ6 267 (252645135), Cond.methodLink RX0 97 yX0_sendBye, Cond.instanceMethod yX0_sendBye, Cond.selects RX0 yX0_sendBye yX0_sendBye, Cond.code yX0_sendBye cX0_sendBye 3 none, Cond.methodLink RX0 126 yX0_reaches, Cond.instanceMethod yX0_reaches, Cond.selects RX0 yX0_reaches yX0_reaches, Cond.code yX0_reaches cX0_reaches 3 (some .boolean), Cond.methodLink RX0 123 yX0_isOpen, Cond.instanceMethod yX0_isOpen, Cond.selects RX0 yX0_isOpen yX0_isOpen, Cond.code yX0_isOpen cX0_isOpen 3 (some .boolean), Cond.methodLink RX0 129 yX0_hearBye, Cond.instanceMethod yX0_hearBye, Cond.selects RX0 yX0_hearBye yX0_hearBye, Cond.code yX0_hearBye cX0_hearBye 5 none, Cond.methodLink RX0 119 yX0_knows]
def wsX1_fault_r5 : List Cond := [Cond.instanceMethod yX0_knows, Cond.selects RX0 yX0_knows yX0_knows, Cond.code yX0_knows cX0_knows 3 (some .boolean), Cond.methodLink RX1 133 yX0_run, Cond.instanceMethod yX0_run, Cond.selects RX0 yX0_run yX0_run, Cond.code yX0_run cX0_run 5 (some .int), Cond.methodLink RX0 106 yX0_sent, Cond.instanceMethod yX0_sent, Cond.selects RX0 yX0_sent yX0_sent, Cond.code yX0_sent cX0_sent 1 (some .int), Cond.methodLink RX0 110 yX0_comeDue, Cond.instanceMethod yX0_comeDue, Cond.selects RX0 yX0_comeDue yX0_comeDue, Cond.code yX0_comeDue cX0_comeDue 4 none, Cond.methodLink RX0 116 yX0_sendReport, Cond.instanceMethod yX0_sendReport, Cond.selects RX0 yX0_sendReport yX0_sendReport, Cond.code yX0_sendReport cX0_sendReport 3 none, Cond.fieldLink RX0 52 "CrowdReports$Crowd" "lastHeard" "[I", Cond.methodLink RX0 113 yX0_forgetOld, Cond.instanceMethod yX0_forgetOld, Cond.selects RX0 yX0_forgetOld yX0_forgetOld, Cond.code yX0_forgetOld cX0_forgetOld 5 none]
def wsX1_fault_r6 : List Cond := [Cond.methodLink RX1 209 yX1_canBegin, Cond.instanceMethod yX1_canBegin, Cond.selects RX1 yX1_canBegin yX1_canBegin, Cond.code yX1_canBegin cX1_canBegin 2 (some .boolean), Cond.methodLink RX1 85 yX0_bitsOf, Cond.instanceMethod yX0_bitsOf, Cond.selects RX0 yX0_bitsOf yX0_bitsOf, Cond.code yX0_bitsOf cX0_bitsOf 4 (some .int)]
def wsX1_fault : List Cond := .code yX1_fault cX1_fault 1 (some .int) :: ((wsX1_fault_r1 ++ (wsX1_fault_r2 ++ (wsX1_fault_r3 ++ (wsX1_fault_r4 ++ (wsX1_fault_r5 ++ wsX1_fault_r6))))) ++ wsX10 ++ wsX00)
def wsX1_meeting_r1 : List Cond := [Cond.fieldLink RX1 10 "CrowdReports" "now" "LCrowdReports$Crowd;", Cond.fieldLink RX1 16 "CrowdReports" "trial" "LCrowdReports$Crowd;", Cond.fieldLink RX1 23 "CrowdReports" "acts" "I", Cond.fieldLink RX1 30 "CrowdReports" "keptBits" "I", Cond.fieldLink RX1 64 "CrowdReports$Crowd" "clock" "I", Cond.methodLink RX1 56 yX1_readText, Cond.instanceMethod yX1_readText, Cond.selects RX1 yX1_readText yX1_readText, Cond.initialized RX1, Cond.code yX1_readText cX1_readText 7 (some .int), Cond.fieldLink RX1 37 "CrowdReports" "letters" "I", Cond.fieldLink RX1 33 "CrowdReports" "text" "[I", Cond.methodLink RX1 203 yX1_readHead, Cond.instanceMethod yX1_readHead, Cond.selects RX1 yX1_readHead yX1_readHead, Cond.code yX1_readHead cX1_readHead 3 (some .int), Cond.fieldLink RX1 67 "CrowdReports$Crowd" "size" "I", Cond.fieldLink RX1 70 "CrowdReports$Crowd" "rate" "I", Cond.fieldLink RX1 73 "CrowdReports$Crowd" "min" "I", Cond.fieldLink RX1 76 "CrowdReports$Crowd" "lot" "I", Cond.methodLink RX1 206 yX1_isFigure, Cond.static yX1_isFigure, Cond.code yX1_isFigure cX1_isFigure 2 (some .boolean), Cond.methodLink RX1 212 yX0_restart]
def wsX1_meeting_r2 : List Cond := [Cond.instanceMethod yX0_restart, Cond.selects RX0 yX0_restart yX0_restart, Cond.initialized RX0, Cond.code yX0_restart cX0_restart 2 none, Cond.fieldLink RX0 21 "CrowdReports$Crowd" "clock" "I", Cond.fieldLink RX0 27 "CrowdReports$Crowd" "reports" "I", Cond.fieldLink RX0 30 "CrowdReports$Crowd" "byes" "I", Cond.fieldLink RX0 49 "CrowdReports$Crowd" "shut" "[I", Cond.methodLink RX0 55 yX0_goAway, Cond.instanceMethod yX0_goAway, Cond.selects RX0 yX0_goAway yX0_goAway, Cond.code yX0_goAway cX0_goAway 2 none, Cond.fieldLink RX0 33 "CrowdReports$Crowd" "kind" "[I", Cond.fieldLink RX0 37 "CrowdReports$Crowd" "known" "[I", Cond.fieldLink RX0 40 "CrowdReports$Crowd" "begun" "[I", Cond.fieldLink RX0 43 "CrowdReports$Crowd" "due" "[I", Cond.fieldLink RX0 46 "CrowdReports$Crowd" "goers" "[I", Cond.methodLink RX1 127 yX0_enter, Cond.instanceMethod yX0_enter, Cond.selects RX0 yX0_enter yX0_enter, Cond.code yX0_enter cX0_enter 2 (some .boolean), Cond.static yX1_isMember, Cond.code yX1_isMember cX1_isMember 1 (some .boolean), Cond.methodLink RX0 94 yX0_begin]
def wsX1_meeting_r3 : List Cond := [Cond.instanceMethod yX0_begin, Cond.selects RX0 yX0_begin yX0_begin, Cond.code yX0_begin cX0_begin 2 none, Cond.methodLink RX0 87 yX0_waitOf, Cond.instanceMethod yX0_waitOf, Cond.selects RX0 yX0_waitOf yX0_waitOf, Cond.code yX0_waitOf cX0_waitOf 3 (some .int), Cond.fieldLink RX0 24 "CrowdReports$Crowd" "lot" "I", Cond.constant RX0 83 (65536), Cond.methodLink RX0 77 Lib.Math.max.name, Cond.static Lib.Math.max.name, Cond.initialized "java/lang/Math", Cond.code Lib.Math.max.name Lib.Math.max.code 2 (some .int), Cond.methodLink RX0 84 yX0_spanOf, Cond.instanceMethod yX0_spanOf, Cond.selects RX0 yX0_spanOf yX0_spanOf, Cond.code yX0_spanOf cX0_spanOf 3 (some .int), Cond.fieldLink RX0 15 "CrowdReports$Crowd" "rate" "I", Cond.fieldLink RX0 18 "CrowdReports$Crowd" "min" "I", Cond.fieldLink RX0 9 "CrowdReports$Crowd" "size" "I", Cond.methodLink RX1 130 yX0_depart, Cond.instanceMethod yX0_depart, Cond.selects RX0 yX0_depart yX0_depart, Cond.code yX0_depart cX0_depart 2 (some .boolean)]
def wsX1_meeting_r4 : List Cond := [Cond.methodLink RX0 71 yX0_countOf, Cond.instanceMethod yX0_countOf, Cond.selects RX0 yX0_countOf yX0_countOf, Cond.code yX0_countOf cX0_countOf 2 (some .int), Cond.methodLink RX0 65 yJ6_bitCount_0f7a4, Cond.static yJ6_bitCount_0f7a4, Cond.initialized RJ6, Cond.code yJ6_bitCount_0f7a4 cJ6_bitCount_0f7a4 1 (some .int), Cond.constant RJ6 265 (1431655765), Cond.constant RJ6 266 (858993459), Cond.constant RJ6 267 (252645135), Cond.methodLink RX0 97 yX0_sendBye, Cond.instanceMethod yX0_sendBye, Cond.selects RX0 yX0_sendBye yX0_sendBye, Cond.code yX0_sendBye cX0_sendBye 3 none, Cond.methodLink RX0 126 yX0_reaches, Cond.instanceMethod yX0_reaches, Cond.selects RX0 yX0_reaches yX0_reaches, Cond.code yX0_reaches cX0_reaches 3 (some .boolean), Cond.methodLink RX0 123 yX0_isOpen, Cond.instanceMethod yX0_isOpen, Cond.selects RX0 yX0_isOpen yX0_isOpen, Cond.code yX0_isOpen cX0_isOpen 3 (some .boolean), Cond.methodLink RX0 129 yX0_hearBye]
def wsX1_meeting_r5 : List Cond := [Cond.instanceMethod yX0_hearBye, Cond.selects RX0 yX0_hearBye yX0_hearBye, Cond.code yX0_hearBye cX0_hearBye 5 none, Cond.methodLink RX0 119 yX0_knows, Cond.instanceMethod yX0_knows, Cond.selects RX0 yX0_knows yX0_knows, Cond.code yX0_knows cX0_knows 3 (some .boolean), Cond.methodLink RX1 133 yX0_run, Cond.instanceMethod yX0_run, Cond.selects RX0 yX0_run yX0_run, Cond.code yX0_run cX0_run 5 (some .int), Cond.methodLink RX0 106 yX0_sent, Cond.instanceMethod yX0_sent, Cond.selects RX0 yX0_sent yX0_sent, Cond.code yX0_sent cX0_sent 1 (some .int), Cond.methodLink RX0 110 yX0_comeDue, Cond.instanceMethod yX0_comeDue, Cond.selects RX0 yX0_comeDue yX0_comeDue, Cond.code yX0_comeDue cX0_comeDue 4 none, Cond.methodLink RX0 116 yX0_sendReport, Cond.instanceMethod yX0_sendReport, Cond.selects RX0 yX0_sendReport yX0_sendReport, Cond.code yX0_sendReport cX0_sendReport 3 none, Cond.fieldLink RX0 52 "CrowdReports$Crowd" "lastHeard" "[I"]
def wsX1_meeting_r6 : List Cond := [Cond.methodLink RX0 113 yX0_forgetOld, Cond.instanceMethod yX0_forgetOld, Cond.selects RX0 yX0_forgetOld yX0_forgetOld, Cond.code yX0_forgetOld cX0_forgetOld 5 none, Cond.methodLink RX1 209 yX1_canBegin, Cond.instanceMethod yX1_canBegin, Cond.selects RX1 yX1_canBegin yX1_canBegin, Cond.code yX1_canBegin cX1_canBegin 2 (some .boolean), Cond.methodLink RX1 85 yX0_bitsOf, Cond.instanceMethod yX0_bitsOf, Cond.selects RX0 yX0_bitsOf yX0_bitsOf, Cond.code yX0_bitsOf cX0_bitsOf 4 (some .int), Cond.methodLink RX1 60 yX0_takeFrom, Cond.instanceMethod yX0_takeFrom, Cond.selects RX0 yX0_takeFrom yX0_takeFrom, Cond.code yX0_takeFrom cX0_takeFrom 2 none, Cond.methodLink RX0 59 arraycopyName, Cond.native arraycopyName, Cond.static arraycopyName, Cond.initialized "java/lang/System"]
def wsX1_meeting : List Cond := .code yX1_meeting cX1_meeting 1 (some .int) :: ((wsX1_meeting_r1 ++ (wsX1_meeting_r2 ++ (wsX1_meeting_r3 ++ (wsX1_meeting_r4 ++ (wsX1_meeting_r5 ++ wsX1_meeting_r6))))) ++ wsX10 ++ wsX00)
def wsX1_restAt_r1 : List Cond := [Cond.fieldLink RX1 16 "CrowdReports" "trial" "LCrowdReports$Crowd;", Cond.fieldLink RX1 10 "CrowdReports" "now" "LCrowdReports$Crowd;", Cond.methodLink RX1 60 yX0_takeFrom, Cond.instanceMethod yX0_takeFrom, Cond.selects RX0 yX0_takeFrom yX0_takeFrom, Cond.initialized RX0, Cond.code yX0_takeFrom cX0_takeFrom 2 none, Cond.fieldLink RX0 9 "CrowdReports$Crowd" "size" "I", Cond.fieldLink RX0 15 "CrowdReports$Crowd" "rate" "I", Cond.fieldLink RX0 18 "CrowdReports$Crowd" "min" "I", Cond.fieldLink RX0 21 "CrowdReports$Crowd" "clock" "I", Cond.fieldLink RX0 24 "CrowdReports$Crowd" "lot" "I", Cond.fieldLink RX0 27 "CrowdReports$Crowd" "reports" "I", Cond.fieldLink RX0 30 "CrowdReports$Crowd" "byes" "I", Cond.fieldLink RX0 33 "CrowdReports$Crowd" "kind" "[I", Cond.methodLink RX0 59 arraycopyName, Cond.native arraycopyName, Cond.static arraycopyName, Cond.initialized "java/lang/System", Cond.fieldLink RX0 37 "CrowdReports$Crowd" "known" "[I", Cond.fieldLink RX0 40 "CrowdReports$Crowd" "begun" "[I", Cond.fieldLink RX0 43 "CrowdReports$Crowd" "due" "[I", Cond.fieldLink RX0 46 "CrowdReports$Crowd" "goers" "[I", Cond.fieldLink RX0 49 "CrowdReports$Crowd" "shut" "[I"]
def wsX1_restAt_r2 : List Cond := [Cond.fieldLink RX0 52 "CrowdReports$Crowd" "lastHeard" "[I", Cond.methodLink RX1 215 yX0_isAtRest, Cond.instanceMethod yX0_isAtRest, Cond.selects RX0 yX0_isAtRest yX0_isAtRest, Cond.code yX0_isAtRest cX0_isAtRest 3 (some .boolean), Cond.methodLink RX0 74 yX0_bitsOf, Cond.instanceMethod yX0_bitsOf, Cond.selects RX0 yX0_bitsOf yX0_bitsOf, Cond.code yX0_bitsOf cX0_bitsOf 4 (some .int), Cond.methodLink RX1 133 yX0_run, Cond.instanceMethod yX0_run, Cond.selects RX0 yX0_run yX0_run, Cond.code yX0_run cX0_run 5 (some .int), Cond.methodLink RX0 106 yX0_sent, Cond.instanceMethod yX0_sent, Cond.selects RX0 yX0_sent yX0_sent, Cond.code yX0_sent cX0_sent 1 (some .int), Cond.methodLink RX0 110 yX0_comeDue, Cond.instanceMethod yX0_comeDue, Cond.selects RX0 yX0_comeDue yX0_comeDue, Cond.code yX0_comeDue cX0_comeDue 4 none, Cond.methodLink RX0 71 yX0_countOf, Cond.instanceMethod yX0_countOf, Cond.selects RX0 yX0_countOf yX0_countOf]
def wsX1_restAt_r3 : List Cond := [Cond.code yX0_countOf cX0_countOf 2 (some .int), Cond.methodLink RX0 65 yJ6_bitCount_0f7a4, Cond.static yJ6_bitCount_0f7a4, Cond.initialized RJ6, Cond.code yJ6_bitCount_0f7a4 cJ6_bitCount_0f7a4 1 (some .int), Cond.constant RJ6 265 (1431655765), Cond.constant RJ6 266 (858993459), Cond.constant RJ6 267 (252645135), Cond.methodLink RX0 87 yX0_waitOf, Cond.instanceMethod yX0_waitOf, Cond.selects RX0 yX0_waitOf yX0_waitOf, Cond.code yX0_waitOf cX0_waitOf 3 (some .int), Cond.constant RX0 83 (65536), Cond.methodLink RX0 77 Lib.Math.max.name, Cond.static Lib.Math.max.name, Cond.initialized "java/lang/Math", Cond.code Lib.Math.max.name Lib.Math.max.code 2 (some .int), Cond.methodLink RX0 84 yX0_spanOf, Cond.instanceMethod yX0_spanOf, Cond.selects RX0 yX0_spanOf yX0_spanOf, Cond.code yX0_spanOf cX0_spanOf 3 (some .int), Cond.methodLink RX0 97 yX0_sendBye, Cond.instanceMethod yX0_sendBye, Cond.selects RX0 yX0_sendBye yX0_sendBye]
def wsX1_restAt_r4 : List Cond := [Cond.code yX0_sendBye cX0_sendBye 3 none, Cond.methodLink RX0 55 yX0_goAway, Cond.instanceMethod yX0_goAway, Cond.selects RX0 yX0_goAway yX0_goAway, Cond.code yX0_goAway cX0_goAway 2 none, Cond.methodLink RX0 126 yX0_reaches, Cond.instanceMethod yX0_reaches, Cond.selects RX0 yX0_reaches yX0_reaches, Cond.code yX0_reaches cX0_reaches 3 (some .boolean), Cond.methodLink RX0 123 yX0_isOpen, Cond.instanceMethod yX0_isOpen, Cond.selects RX0 yX0_isOpen yX0_isOpen, Cond.code yX0_isOpen cX0_isOpen 3 (some .boolean), Cond.methodLink RX0 129 yX0_hearBye, Cond.instanceMethod yX0_hearBye, Cond.selects RX0 yX0_hearBye yX0_hearBye, Cond.code yX0_hearBye cX0_hearBye 5 none, Cond.methodLink RX0 119 yX0_knows, Cond.instanceMethod yX0_knows, Cond.selects RX0 yX0_knows yX0_knows, Cond.code yX0_knows cX0_knows 3 (some .boolean), Cond.methodLink RX0 116 yX0_sendReport, Cond.instanceMethod yX0_sendReport, Cond.selects RX0 yX0_sendReport yX0_sendReport]
def wsX1_restAt_r5 : List Cond := [Cond.code yX0_sendReport cX0_sendReport 3 none, Cond.methodLink RX0 113 yX0_forgetOld, Cond.instanceMethod yX0_forgetOld, Cond.selects RX0 yX0_forgetOld yX0_forgetOld, Cond.code yX0_forgetOld cX0_forgetOld 5 none]
def wsX1_restAt : List Cond := .code yX1_restAt cX1_restAt 2 (some .int) :: ((wsX1_restAt_r1 ++ (wsX1_restAt_r2 ++ (wsX1_restAt_r3 ++ (wsX1_restAt_r4 ++ wsX1_restAt_r5)))) ++ wsX10 ++ wsX00)
def wsX1_about_r1 : List Cond := [Cond.fieldLink RX1 10 "CrowdReports" "now" "LCrowdReports$Crowd;", Cond.fieldLink RX1 67 "CrowdReports$Crowd" "size" "I", Cond.fieldLink RX1 70 "CrowdReports$Crowd" "rate" "I", Cond.fieldLink RX1 73 "CrowdReports$Crowd" "min" "I", Cond.fieldLink RX1 64 "CrowdReports$Crowd" "clock" "I", Cond.fieldLink RX1 76 "CrowdReports$Crowd" "lot" "I", Cond.fieldLink RX1 79 "CrowdReports$Crowd" "reports" "I", Cond.fieldLink RX1 82 "CrowdReports$Crowd" "byes" "I", Cond.fieldLink RX1 23 "CrowdReports" "acts" "I", Cond.fieldLink RX1 46 "CrowdReports" "seen" "I", Cond.fieldLink RX1 37 "CrowdReports" "letters" "I", Cond.methodLink RX1 85 yX0_bitsOf, Cond.instanceMethod yX0_bitsOf, Cond.selects RX0 yX0_bitsOf yX0_bitsOf, Cond.initialized RX0, Cond.code yX0_bitsOf cX0_bitsOf 4 (some .int), Cond.fieldLink RX0 33 "CrowdReports$Crowd" "kind" "[I", Cond.methodLink RX1 89 yX1_restAt, Cond.instanceMethod yX1_restAt, Cond.selects RX1 yX1_restAt yX1_restAt, Cond.initialized RX1, Cond.code yX1_restAt cX1_restAt 2 (some .int), Cond.fieldLink RX1 16 "CrowdReports" "trial" "LCrowdReports$Crowd;", Cond.methodLink RX1 60 yX0_takeFrom]
def wsX1_about_r2 : List Cond := [Cond.instanceMethod yX0_takeFrom, Cond.selects RX0 yX0_takeFrom yX0_takeFrom, Cond.code yX0_takeFrom cX0_takeFrom 2 none, Cond.fieldLink RX0 9 "CrowdReports$Crowd" "size" "I", Cond.fieldLink RX0 15 "CrowdReports$Crowd" "rate" "I", Cond.fieldLink RX0 18 "CrowdReports$Crowd" "min" "I", Cond.fieldLink RX0 21 "CrowdReports$Crowd" "clock" "I", Cond.fieldLink RX0 24 "CrowdReports$Crowd" "lot" "I", Cond.fieldLink RX0 27 "CrowdReports$Crowd" "reports" "I", Cond.fieldLink RX0 30 "CrowdReports$Crowd" "byes" "I", Cond.methodLink RX0 59 arraycopyName, Cond.native arraycopyName, Cond.static arraycopyName, Cond.initialized "java/lang/System", Cond.fieldLink RX0 37 "CrowdReports$Crowd" "known" "[I", Cond.fieldLink RX0 40 "CrowdReports$Crowd" "begun" "[I", Cond.fieldLink RX0 43 "CrowdReports$Crowd" "due" "[I", Cond.fieldLink RX0 46 "CrowdReports$Crowd" "goers" "[I", Cond.fieldLink RX0 49 "CrowdReports$Crowd" "shut" "[I", Cond.fieldLink RX0 52 "CrowdReports$Crowd" "lastHeard" "[I", Cond.methodLink RX1 215 yX0_isAtRest, Cond.instanceMethod yX0_isAtRest, Cond.selects RX0 yX0_isAtRest yX0_isAtRest, Cond.code yX0_isAtRest cX0_isAtRest 3 (some .boolean)]
def wsX1_about_r3 : List Cond := [Cond.methodLink RX0 74 yX0_bitsOf, Cond.methodLink RX1 133 yX0_run, Cond.instanceMethod yX0_run, Cond.selects RX0 yX0_run yX0_run, Cond.code yX0_run cX0_run 5 (some .int), Cond.methodLink RX0 106 yX0_sent, Cond.instanceMethod yX0_sent, Cond.selects RX0 yX0_sent yX0_sent, Cond.code yX0_sent cX0_sent 1 (some .int), Cond.methodLink RX0 110 yX0_comeDue, Cond.instanceMethod yX0_comeDue, Cond.selects RX0 yX0_comeDue yX0_comeDue, Cond.code yX0_comeDue cX0_comeDue 4 none, Cond.methodLink RX0 71 yX0_countOf, Cond.instanceMethod yX0_countOf, Cond.selects RX0 yX0_countOf yX0_countOf, Cond.code yX0_countOf cX0_countOf 2 (some .int), Cond.methodLink RX0 65 yJ6_bitCount_0f7a4, Cond.static yJ6_bitCount_0f7a4, Cond.initialized RJ6, Cond.code yJ6_bitCount_0f7a4 cJ6_bitCount_0f7a4 1 (some .int), Cond.constant RJ6 265 (1431655765), Cond.constant RJ6 266 (858993459), Cond.constant RJ6 267 (252645135)]
def wsX1_about_r4 : List Cond := [Cond.methodLink RX0 87 yX0_waitOf, Cond.instanceMethod yX0_waitOf, Cond.selects RX0 yX0_waitOf yX0_waitOf, Cond.code yX0_waitOf cX0_waitOf 3 (some .int), Cond.constant RX0 83 (65536), Cond.methodLink RX0 77 Lib.Math.max.name, Cond.static Lib.Math.max.name, Cond.initialized "java/lang/Math", Cond.code Lib.Math.max.name Lib.Math.max.code 2 (some .int), Cond.methodLink RX0 84 yX0_spanOf, Cond.instanceMethod yX0_spanOf, Cond.selects RX0 yX0_spanOf yX0_spanOf, Cond.code yX0_spanOf cX0_spanOf 3 (some .int), Cond.methodLink RX0 97 yX0_sendBye, Cond.instanceMethod yX0_sendBye, Cond.selects RX0 yX0_sendBye yX0_sendBye, Cond.code yX0_sendBye cX0_sendBye 3 none, Cond.methodLink RX0 55 yX0_goAway, Cond.instanceMethod yX0_goAway, Cond.selects RX0 yX0_goAway yX0_goAway, Cond.code yX0_goAway cX0_goAway 2 none, Cond.methodLink RX0 126 yX0_reaches, Cond.instanceMethod yX0_reaches, Cond.selects RX0 yX0_reaches yX0_reaches]
def wsX1_about_r5 : List Cond := [Cond.code yX0_reaches cX0_reaches 3 (some .boolean), Cond.methodLink RX0 123 yX0_isOpen, Cond.instanceMethod yX0_isOpen, Cond.selects RX0 yX0_isOpen yX0_isOpen, Cond.code yX0_isOpen cX0_isOpen 3 (some .boolean), Cond.methodLink RX0 129 yX0_hearBye, Cond.instanceMethod yX0_hearBye, Cond.selects RX0 yX0_hearBye yX0_hearBye, Cond.code yX0_hearBye cX0_hearBye 5 none, Cond.methodLink RX0 119 yX0_knows, Cond.instanceMethod yX0_knows, Cond.selects RX0 yX0_knows yX0_knows, Cond.code yX0_knows cX0_knows 3 (some .boolean), Cond.methodLink RX0 116 yX0_sendReport, Cond.instanceMethod yX0_sendReport, Cond.selects RX0 yX0_sendReport yX0_sendReport, Cond.code yX0_sendReport cX0_sendReport 3 none, Cond.methodLink RX0 113 yX0_forgetOld, Cond.instanceMethod yX0_forgetOld, Cond.selects RX0 yX0_forgetOld yX0_forgetOld, Cond.code yX0_forgetOld cX0_forgetOld 5 none]
def wsX1_about : List Cond := .code yX1_about cX1_about 2 (some .int) :: ((wsX1_about_r1 ++ (wsX1_about_r2 ++ (wsX1_about_r3 ++ (wsX1_about_r4 ++ wsX1_about_r5)))) ++ wsX10 ++ wsX00)
def wsX1_member_r1 : List Cond := [Cond.fieldLink RX1 10 "CrowdReports" "now" "LCrowdReports$Crowd;", Cond.fieldLink RX1 96 "CrowdReports$Crowd" "kind" "[I", Cond.fieldLink RX1 99 "CrowdReports$Crowd" "known" "[I", Cond.fieldLink RX1 105 "CrowdReports$Crowd" "begun" "[I", Cond.fieldLink RX1 108 "CrowdReports$Crowd" "due" "[I", Cond.fieldLink RX1 111 "CrowdReports$Crowd" "goers" "[I", Cond.methodLink RX1 92 yX1_isMember, Cond.static yX1_isMember, Cond.initialized RX1, Cond.code yX1_isMember cX1_isMember 1 (some .boolean), Cond.methodLink RX1 102 yX0_countTold, Cond.instanceMethod yX0_countTold, Cond.selects RX0 yX0_countTold yX0_countTold, Cond.initialized RX0, Cond.code yX0_countTold cX0_countTold 2 (some .int), Cond.fieldLink RX0 33 "CrowdReports$Crowd" "kind" "[I", Cond.methodLink RX0 71 yX0_countOf, Cond.instanceMethod yX0_countOf, Cond.selects RX0 yX0_countOf yX0_countOf, Cond.code yX0_countOf cX0_countOf 2 (some .int), Cond.fieldLink RX0 37 "CrowdReports$Crowd" "known" "[I", Cond.methodLink RX0 65 yJ6_bitCount_0f7a4, Cond.static yJ6_bitCount_0f7a4, Cond.initialized RJ6]
def wsX1_member_r2 : List Cond := [Cond.code yJ6_bitCount_0f7a4 cJ6_bitCount_0f7a4 1 (some .int), Cond.constant RJ6 265 (1431655765), Cond.constant RJ6 266 (858993459), Cond.constant RJ6 267 (252645135)]
def wsX1_member : List Cond := .code yX1_member cX1_member 3 (some .int) :: ((wsX1_member_r1 ++ wsX1_member_r2) ++ wsX10 ++ wsX00)
def wsX1_heard : List Cond := .code yX1_heard cX1_heard 3 (some .int) :: ([.fieldLink RX1 10 "CrowdReports" "now" "LCrowdReports$Crowd;", .fieldLink RX1 118 "CrowdReports$Crowd" "lastHeard" "[I", .methodLink RX1 92 yX1_isMember, .static yX1_isMember, .initialized RX1, .code yX1_isMember cX1_isMember 1 (some .boolean), .methodLink RX1 114 yX0_knows, .instanceMethod yX0_knows, .selects RX0 yX0_knows yX0_knows, .initialized RX0, .code yX0_knows cX0_knows 3 (some .boolean), .fieldLink RX0 37 "CrowdReports$Crowd" "known" "[I"] ++ wsX10 ++ wsX00)
def wsX1_way : List Cond := .code yX1_way cX1_way 3 (some .int) :: ([.fieldLink RX1 10 "CrowdReports" "now" "LCrowdReports$Crowd;", .methodLink RX1 92 yX1_isMember, .static yX1_isMember, .initialized RX1, .code yX1_isMember cX1_isMember 1 (some .boolean), .methodLink RX1 121 yX0_isOpen, .instanceMethod yX0_isOpen, .selects RX0 yX0_isOpen yX0_isOpen, .initialized RX0, .code yX0_isOpen cX0_isOpen 3 (some .boolean), .fieldLink RX0 49 "CrowdReports$Crowd" "shut" "[I"] ++ wsX10 ++ wsX00)
def wsX1_remember_r1 : List Cond := [Cond.fieldLink RX1 23 "CrowdReports" "acts" "I", Cond.fieldLink RX1 19 "CrowdReports" "past" "[LCrowdReports$Crowd;", Cond.fieldLink RX1 10 "CrowdReports" "now" "LCrowdReports$Crowd;", Cond.methodLink RX1 60 yX0_takeFrom, Cond.instanceMethod yX0_takeFrom, Cond.selects RX0 yX0_takeFrom yX0_takeFrom, Cond.initialized RX0, Cond.code yX0_takeFrom cX0_takeFrom 2 none, Cond.fieldLink RX0 9 "CrowdReports$Crowd" "size" "I", Cond.fieldLink RX0 15 "CrowdReports$Crowd" "rate" "I", Cond.fieldLink RX0 18 "CrowdReports$Crowd" "min" "I", Cond.fieldLink RX0 21 "CrowdReports$Crowd" "clock" "I", Cond.fieldLink RX0 24 "CrowdReports$Crowd" "lot" "I", Cond.fieldLink RX0 27 "CrowdReports$Crowd" "reports" "I", Cond.fieldLink RX0 30 "CrowdReports$Crowd" "byes" "I", Cond.fieldLink RX0 33 "CrowdReports$Crowd" "kind" "[I", Cond.methodLink RX0 59 arraycopyName, Cond.native arraycopyName, Cond.static arraycopyName, Cond.initialized "java/lang/System", Cond.fieldLink RX0 37 "CrowdReports$Crowd" "known" "[I", Cond.fieldLink RX0 40 "CrowdReports$Crowd" "begun" "[I", Cond.fieldLink RX0 43 "CrowdReports$Crowd" "due" "[I", Cond.fieldLink RX0 46 "CrowdReports$Crowd" "goers" "[I"]
def wsX1_remember_r2 : List Cond := [Cond.fieldLink RX0 49 "CrowdReports$Crowd" "shut" "[I", Cond.fieldLink RX0 52 "CrowdReports$Crowd" "lastHeard" "[I"]
def wsX1_remember : List Cond := .code yX1_remember cX1_remember 3 none :: ((wsX1_remember_r1 ++ wsX1_remember_r2) ++ wsX10 ++ wsX00)
def wsX1_join_r1 : List Cond := [Cond.fieldLink RX1 10 "CrowdReports" "now" "LCrowdReports$Crowd;", Cond.fieldLink RX1 96 "CrowdReports$Crowd" "kind" "[I", Cond.fieldLink RX1 108 "CrowdReports$Crowd" "due" "[I", Cond.methodLink RX1 92 yX1_isMember, Cond.static yX1_isMember, Cond.initialized RX1, Cond.code yX1_isMember cX1_isMember 1 (some .boolean), Cond.methodLink RX1 124 yX1_remember, Cond.instanceMethod yX1_remember, Cond.selects RX1 yX1_remember yX1_remember, Cond.code yX1_remember cX1_remember 3 none, Cond.fieldLink RX1 23 "CrowdReports" "acts" "I", Cond.fieldLink RX1 19 "CrowdReports" "past" "[LCrowdReports$Crowd;", Cond.methodLink RX1 60 yX0_takeFrom, Cond.instanceMethod yX0_takeFrom, Cond.selects RX0 yX0_takeFrom yX0_takeFrom, Cond.initialized RX0, Cond.code yX0_takeFrom cX0_takeFrom 2 none, Cond.fieldLink RX0 9 "CrowdReports$Crowd" "size" "I", Cond.fieldLink RX0 15 "CrowdReports$Crowd" "rate" "I", Cond.fieldLink RX0 18 "CrowdReports$Crowd" "min" "I", Cond.fieldLink RX0 21 "CrowdReports$Crowd" "clock" "I", Cond.fieldLink RX0 24 "CrowdReports$Crowd" "lot" "I", Cond.fieldLink RX0 27 "CrowdReports$Crowd" "reports" "I"]
def wsX1_join_r2 : List Cond := [Cond.fieldLink RX0 30 "CrowdReports$Crowd" "byes" "I", Cond.fieldLink RX0 33 "CrowdReports$Crowd" "kind" "[I", Cond.methodLink RX0 59 arraycopyName, Cond.native arraycopyName, Cond.static arraycopyName, Cond.initialized "java/lang/System", Cond.fieldLink RX0 37 "CrowdReports$Crowd" "known" "[I", Cond.fieldLink RX0 40 "CrowdReports$Crowd" "begun" "[I", Cond.fieldLink RX0 43 "CrowdReports$Crowd" "due" "[I", Cond.fieldLink RX0 46 "CrowdReports$Crowd" "goers" "[I", Cond.fieldLink RX0 49 "CrowdReports$Crowd" "shut" "[I", Cond.fieldLink RX0 52 "CrowdReports$Crowd" "lastHeard" "[I", Cond.methodLink RX1 127 yX0_enter, Cond.instanceMethod yX0_enter, Cond.selects RX0 yX0_enter yX0_enter, Cond.code yX0_enter cX0_enter 2 (some .boolean), Cond.methodLink RX0 94 yX0_begin, Cond.instanceMethod yX0_begin, Cond.selects RX0 yX0_begin yX0_begin, Cond.code yX0_begin cX0_begin 2 none, Cond.methodLink RX0 87 yX0_waitOf, Cond.instanceMethod yX0_waitOf, Cond.selects RX0 yX0_waitOf yX0_waitOf, Cond.code yX0_waitOf cX0_waitOf 3 (some .int)]
def wsX1_join_r3 : List Cond := [Cond.constant RX0 83 (65536), Cond.methodLink RX0 77 Lib.Math.max.name, Cond.static Lib.Math.max.name, Cond.initialized "java/lang/Math", Cond.code Lib.Math.max.name Lib.Math.max.code 2 (some .int), Cond.methodLink RX0 84 yX0_spanOf, Cond.instanceMethod yX0_spanOf, Cond.selects RX0 yX0_spanOf yX0_spanOf, Cond.code yX0_spanOf cX0_spanOf 3 (some .int)]
def wsX1_join : List Cond := .code yX1_join cX1_join 2 (some .int) :: ((wsX1_join_r1 ++ (wsX1_join_r2 ++ wsX1_join_r3)) ++ wsX10 ++ wsX00)
def wsX1_leave_r1 : List Cond := [Cond.fieldLink RX1 10 "CrowdReports" "now" "LCrowdReports$Crowd;", Cond.fieldLink RX1 96 "CrowdReports$Crowd" "kind" "[I", Cond.fieldLink RX1 108 "CrowdReports$Crowd" "due" "[I", Cond.methodLink RX1 92 yX1_isMember, Cond.static yX1_isMember, Cond.initialized RX1, Cond.code yX1_isMember cX1_isMember 1 (some .boolean), Cond.methodLink RX1 124 yX1_remember, Cond.instanceMethod yX1_remember, Cond.selects RX1 yX1_remember yX1_remember, Cond.code yX1_remember cX1_remember 3 none, Cond.fieldLink RX1 23 "CrowdReports" "acts" "I", Cond.fieldLink RX1 19 "CrowdReports" "past" "[LCrowdReports$Crowd;", Cond.methodLink RX1 60 yX0_takeFrom, Cond.instanceMethod yX0_takeFrom, Cond.selects RX0 yX0_takeFrom yX0_takeFrom, Cond.initialized RX0, Cond.code yX0_takeFrom cX0_takeFrom 2 none, Cond.fieldLink RX0 9 "CrowdReports$Crowd" "size" "I", Cond.fieldLink RX0 15 "CrowdReports$Crowd" "rate" "I", Cond.fieldLink RX0 18 "CrowdReports$Crowd" "min" "I", Cond.fieldLink RX0 21 "CrowdReports$Crowd" "clock" "I", Cond.fieldLink RX0 24 "CrowdReports$Crowd" "lot" "I", Cond.fieldLink RX0 27 "CrowdReports$Crowd" "reports" "I"]
def wsX1_leave_r2 : List Cond := [Cond.fieldLink RX0 30 "CrowdReports$Crowd" "byes" "I", Cond.fieldLink RX0 33 "CrowdReports$Crowd" "kind" "[I", Cond.methodLink RX0 59 arraycopyName, Cond.native arraycopyName, Cond.static arraycopyName, Cond.initialized "java/lang/System", Cond.fieldLink RX0 37 "CrowdReports$Crowd" "known" "[I", Cond.fieldLink RX0 40 "CrowdReports$Crowd" "begun" "[I", Cond.fieldLink RX0 43 "CrowdReports$Crowd" "due" "[I", Cond.fieldLink RX0 46 "CrowdReports$Crowd" "goers" "[I", Cond.fieldLink RX0 49 "CrowdReports$Crowd" "shut" "[I", Cond.fieldLink RX0 52 "CrowdReports$Crowd" "lastHeard" "[I", Cond.methodLink RX1 130 yX0_depart, Cond.instanceMethod yX0_depart, Cond.selects RX0 yX0_depart yX0_depart, Cond.code yX0_depart cX0_depart 2 (some .boolean), Cond.methodLink RX0 71 yX0_countOf, Cond.instanceMethod yX0_countOf, Cond.selects RX0 yX0_countOf yX0_countOf, Cond.code yX0_countOf cX0_countOf 2 (some .int), Cond.methodLink RX0 65 yJ6_bitCount_0f7a4, Cond.static yJ6_bitCount_0f7a4, Cond.initialized RJ6, Cond.code yJ6_bitCount_0f7a4 cJ6_bitCount_0f7a4 1 (some .int)]
def wsX1_leave_r3 : List Cond := [Cond.constant RJ6 265 (1431655765), Cond.constant RJ6 266 (858993459), Cond.constant RJ6 267 (252645135), Cond.methodLink RX0 97 yX0_sendBye, Cond.instanceMethod yX0_sendBye, Cond.selects RX0 yX0_sendBye yX0_sendBye, Cond.code yX0_sendBye cX0_sendBye 3 none, Cond.methodLink RX0 55 yX0_goAway, Cond.instanceMethod yX0_goAway, Cond.selects RX0 yX0_goAway yX0_goAway, Cond.code yX0_goAway cX0_goAway 2 none, Cond.methodLink RX0 126 yX0_reaches, Cond.instanceMethod yX0_reaches, Cond.selects RX0 yX0_reaches yX0_reaches, Cond.code yX0_reaches cX0_reaches 3 (some .boolean), Cond.methodLink RX0 123 yX0_isOpen, Cond.instanceMethod yX0_isOpen, Cond.selects RX0 yX0_isOpen yX0_isOpen, Cond.code yX0_isOpen cX0_isOpen 3 (some .boolean), Cond.methodLink RX0 129 yX0_hearBye, Cond.instanceMethod yX0_hearBye, Cond.selects RX0 yX0_hearBye yX0_hearBye, Cond.code yX0_hearBye cX0_hearBye 5 none, Cond.methodLink RX0 77 Lib.Math.max.name]
def wsX1_leave_r4 : List Cond := [Cond.static Lib.Math.max.name, Cond.initialized "java/lang/Math", Cond.code Lib.Math.max.name Lib.Math.max.code 2 (some .int), Cond.methodLink RX0 119 yX0_knows, Cond.instanceMethod yX0_knows, Cond.selects RX0 yX0_knows yX0_knows, Cond.code yX0_knows cX0_knows 3 (some .boolean), Cond.methodLink RX0 94 yX0_begin, Cond.instanceMethod yX0_begin, Cond.selects RX0 yX0_begin yX0_begin, Cond.code yX0_begin cX0_begin 2 none, Cond.methodLink RX0 87 yX0_waitOf, Cond.instanceMethod yX0_waitOf, Cond.selects RX0 yX0_waitOf yX0_waitOf, Cond.code yX0_waitOf cX0_waitOf 3 (some .int), Cond.constant RX0 83 (65536), Cond.methodLink RX0 84 yX0_spanOf, Cond.instanceMethod yX0_spanOf, Cond.selects RX0 yX0_spanOf yX0_spanOf, Cond.code yX0_spanOf cX0_spanOf 3 (some .int)]
def wsX1_leave : List Cond := .code yX1_leave cX1_leave 2 (some .int) :: ((wsX1_leave_r1 ++ (wsX1_leave_r2 ++ (wsX1_leave_r3 ++ wsX1_leave_r4))) ++ wsX10 ++ wsX00)
def wsX1_pass_r1 : List Cond := [Cond.fieldLink RX1 10 "CrowdReports" "now" "LCrowdReports$Crowd;", Cond.methodLink RX1 124 yX1_remember, Cond.instanceMethod yX1_remember, Cond.selects RX1 yX1_remember yX1_remember, Cond.initialized RX1, Cond.code yX1_remember cX1_remember 3 none, Cond.fieldLink RX1 23 "CrowdReports" "acts" "I", Cond.fieldLink RX1 19 "CrowdReports" "past" "[LCrowdReports$Crowd;", Cond.methodLink RX1 60 yX0_takeFrom, Cond.instanceMethod yX0_takeFrom, Cond.selects RX0 yX0_takeFrom yX0_takeFrom, Cond.initialized RX0, Cond.code yX0_takeFrom cX0_takeFrom 2 none, Cond.fieldLink RX0 9 "CrowdReports$Crowd" "size" "I", Cond.fieldLink RX0 15 "CrowdReports$Crowd" "rate" "I", Cond.fieldLink RX0 18 "CrowdReports$Crowd" "min" "I", Cond.fieldLink RX0 21 "CrowdReports$Crowd" "clock" "I", Cond.fieldLink RX0 24 "CrowdReports$Crowd" "lot" "I", Cond.fieldLink RX0 27 "CrowdReports$Crowd" "reports" "I", Cond.fieldLink RX0 30 "CrowdReports$Crowd" "byes" "I", Cond.fieldLink RX0 33 "CrowdReports$Crowd" "kind" "[I", Cond.methodLink RX0 59 arraycopyName, Cond.native arraycopyName, Cond.static arraycopyName]
def wsX1_pass_r2 : List Cond := [Cond.initialized "java/lang/System", Cond.fieldLink RX0 37 "CrowdReports$Crowd" "known" "[I", Cond.fieldLink RX0 40 "CrowdReports$Crowd" "begun" "[I", Cond.fieldLink RX0 43 "CrowdReports$Crowd" "due" "[I", Cond.fieldLink RX0 46 "CrowdReports$Crowd" "goers" "[I", Cond.fieldLink RX0 49 "CrowdReports$Crowd" "shut" "[I", Cond.fieldLink RX0 52 "CrowdReports$Crowd" "lastHeard" "[I", Cond.methodLink RX1 133 yX0_run, Cond.instanceMethod yX0_run, Cond.selects RX0 yX0_run yX0_run, Cond.code yX0_run cX0_run 5 (some .int), Cond.methodLink RX0 106 yX0_sent, Cond.instanceMethod yX0_sent, Cond.selects RX0 yX0_sent yX0_sent, Cond.code yX0_sent cX0_sent 1 (some .int), Cond.methodLink RX0 110 yX0_comeDue, Cond.instanceMethod yX0_comeDue, Cond.selects RX0 yX0_comeDue yX0_comeDue, Cond.code yX0_comeDue cX0_comeDue 4 none, Cond.methodLink RX0 71 yX0_countOf, Cond.instanceMethod yX0_countOf, Cond.selects RX0 yX0_countOf yX0_countOf, Cond.code yX0_countOf cX0_countOf 2 (some .int), Cond.methodLink RX0 65 yJ6_bitCount_0f7a4]
def wsX1_pass_r3 : List Cond := [Cond.static yJ6_bitCount_0f7a4, Cond.initialized RJ6, Cond.code yJ6_bitCount_0f7a4 cJ6_bitCount_0f7a4 1 (some .int), Cond.constant RJ6 265 (1431655765), Cond.constant RJ6 266 (858993459), Cond.constant RJ6 267 (252645135), Cond.methodLink RX0 87 yX0_waitOf, Cond.instanceMethod yX0_waitOf, Cond.selects RX0 yX0_waitOf yX0_waitOf, Cond.code yX0_waitOf cX0_waitOf 3 (some .int), Cond.constant RX0 83 (65536), Cond.methodLink RX0 77 Lib.Math.max.name, Cond.static Lib.Math.max.name, Cond.initialized "java/lang/Math", Cond.code Lib.Math.max.name Lib.Math.max.code 2 (some .int), Cond.methodLink RX0 84 yX0_spanOf, Cond.instanceMethod yX0_spanOf, Cond.selects RX0 yX0_spanOf yX0_spanOf, Cond.code yX0_spanOf cX0_spanOf 3 (some .int), Cond.methodLink RX0 97 yX0_sendBye, Cond.instanceMethod yX0_sendBye, Cond.selects RX0 yX0_sendBye yX0_sendBye, Cond.code yX0_sendBye cX0_sendBye 3 none, Cond.methodLink RX0 55 yX0_goAway]
def wsX1_pass_r4 : List Cond := [Cond.instanceMethod yX0_goAway, Cond.selects RX0 yX0_goAway yX0_goAway, Cond.code yX0_goAway cX0_goAway 2 none, Cond.methodLink RX0 126 yX0_reaches, Cond.instanceMethod yX0_reaches, Cond.selects RX0 yX0_reaches yX0_reaches, Cond.code yX0_reaches cX0_reaches 3 (some .boolean), Cond.methodLink RX0 123 yX0_isOpen, Cond.instanceMethod yX0_isOpen, Cond.selects RX0 yX0_isOpen yX0_isOpen, Cond.code yX0_isOpen cX0_isOpen 3 (some .boolean), Cond.methodLink RX0 129 yX0_hearBye, Cond.instanceMethod yX0_hearBye, Cond.selects RX0 yX0_hearBye yX0_hearBye, Cond.code yX0_hearBye cX0_hearBye 5 none, Cond.methodLink RX0 119 yX0_knows, Cond.instanceMethod yX0_knows, Cond.selects RX0 yX0_knows yX0_knows, Cond.code yX0_knows cX0_knows 3 (some .boolean), Cond.methodLink RX0 116 yX0_sendReport, Cond.instanceMethod yX0_sendReport, Cond.selects RX0 yX0_sendReport yX0_sendReport, Cond.code yX0_sendReport cX0_sendReport 3 none, Cond.methodLink RX0 113 yX0_forgetOld]
def wsX1_pass_r5 : List Cond := [Cond.instanceMethod yX0_forgetOld, Cond.selects RX0 yX0_forgetOld yX0_forgetOld, Cond.code yX0_forgetOld cX0_forgetOld 5 none]
def wsX1_pass : List Cond := .code yX1_pass cX1_pass 2 (some .int) :: ((wsX1_pass_r1 ++ (wsX1_pass_r2 ++ (wsX1_pass_r3 ++ (wsX1_pass_r4 ++ wsX1_pass_r5)))) ++ wsX10 ++ wsX00)
def wsX1_turn_r1 : List Cond := [Cond.fieldLink RX1 10 "CrowdReports" "now" "LCrowdReports$Crowd;", Cond.methodLink RX1 92 yX1_isMember, Cond.static yX1_isMember, Cond.initialized RX1, Cond.code yX1_isMember cX1_isMember 1 (some .boolean), Cond.methodLink RX1 124 yX1_remember, Cond.instanceMethod yX1_remember, Cond.selects RX1 yX1_remember yX1_remember, Cond.code yX1_remember cX1_remember 3 none, Cond.fieldLink RX1 23 "CrowdReports" "acts" "I", Cond.fieldLink RX1 19 "CrowdReports" "past" "[LCrowdReports$Crowd;", Cond.methodLink RX1 60 yX0_takeFrom, Cond.instanceMethod yX0_takeFrom, Cond.selects RX0 yX0_takeFrom yX0_takeFrom, Cond.initialized RX0, Cond.code yX0_takeFrom cX0_takeFrom 2 none, Cond.fieldLink RX0 9 "CrowdReports$Crowd" "size" "I", Cond.fieldLink RX0 15 "CrowdReports$Crowd" "rate" "I", Cond.fieldLink RX0 18 "CrowdReports$Crowd" "min" "I", Cond.fieldLink RX0 21 "CrowdReports$Crowd" "clock" "I", Cond.fieldLink RX0 24 "CrowdReports$Crowd" "lot" "I", Cond.fieldLink RX0 27 "CrowdReports$Crowd" "reports" "I", Cond.fieldLink RX0 30 "CrowdReports$Crowd" "byes" "I", Cond.fieldLink RX0 33 "CrowdReports$Crowd" "kind" "[I"]
def wsX1_turn_r2 : List Cond := [Cond.methodLink RX0 59 arraycopyName, Cond.native arraycopyName, Cond.static arraycopyName, Cond.initialized "java/lang/System", Cond.fieldLink RX0 37 "CrowdReports$Crowd" "known" "[I", Cond.fieldLink RX0 40 "CrowdReports$Crowd" "begun" "[I", Cond.fieldLink RX0 43 "CrowdReports$Crowd" "due" "[I", Cond.fieldLink RX0 46 "CrowdReports$Crowd" "goers" "[I", Cond.fieldLink RX0 49 "CrowdReports$Crowd" "shut" "[I", Cond.fieldLink RX0 52 "CrowdReports$Crowd" "lastHeard" "[I", Cond.methodLink RX1 136 yX0_turnWay, Cond.instanceMethod yX0_turnWay, Cond.selects RX0 yX0_turnWay yX0_turnWay, Cond.code yX0_turnWay cX0_turnWay 3 (some .boolean), Cond.methodLink RX1 121 yX0_isOpen, Cond.instanceMethod yX0_isOpen, Cond.selects RX0 yX0_isOpen yX0_isOpen, Cond.code yX0_isOpen cX0_isOpen 3 (some .boolean)]
def wsX1_turn : List Cond := .code yX1_turn cX1_turn 3 (some .int) :: ((wsX1_turn_r1 ++ wsX1_turn_r2) ++ wsX10 ++ wsX00)
def wsX1_set_r1 : List Cond := [Cond.fieldLink RX1 10 "CrowdReports" "now" "LCrowdReports$Crowd;", Cond.methodLink RX1 124 yX1_remember, Cond.instanceMethod yX1_remember, Cond.selects RX1 yX1_remember yX1_remember, Cond.initialized RX1, Cond.code yX1_remember cX1_remember 3 none, Cond.fieldLink RX1 23 "CrowdReports" "acts" "I", Cond.fieldLink RX1 19 "CrowdReports" "past" "[LCrowdReports$Crowd;", Cond.methodLink RX1 60 yX0_takeFrom, Cond.instanceMethod yX0_takeFrom, Cond.selects RX0 yX0_takeFrom yX0_takeFrom, Cond.initialized RX0, Cond.code yX0_takeFrom cX0_takeFrom 2 none, Cond.fieldLink RX0 9 "CrowdReports$Crowd" "size" "I", Cond.fieldLink RX0 15 "CrowdReports$Crowd" "rate" "I", Cond.fieldLink RX0 18 "CrowdReports$Crowd" "min" "I", Cond.fieldLink RX0 21 "CrowdReports$Crowd" "clock" "I", Cond.fieldLink RX0 24 "CrowdReports$Crowd" "lot" "I", Cond.fieldLink RX0 27 "CrowdReports$Crowd" "reports" "I", Cond.fieldLink RX0 30 "CrowdReports$Crowd" "byes" "I", Cond.fieldLink RX0 33 "CrowdReports$Crowd" "kind" "[I", Cond.methodLink RX0 59 arraycopyName, Cond.native arraycopyName, Cond.static arraycopyName]
def wsX1_set_r2 : List Cond := [Cond.initialized "java/lang/System", Cond.fieldLink RX0 37 "CrowdReports$Crowd" "known" "[I", Cond.fieldLink RX0 40 "CrowdReports$Crowd" "begun" "[I", Cond.fieldLink RX0 43 "CrowdReports$Crowd" "due" "[I", Cond.fieldLink RX0 46 "CrowdReports$Crowd" "goers" "[I", Cond.fieldLink RX0 49 "CrowdReports$Crowd" "shut" "[I", Cond.fieldLink RX0 52 "CrowdReports$Crowd" "lastHeard" "[I", Cond.methodLink RX1 139 yX0_tellAnew, Cond.instanceMethod yX0_tellAnew, Cond.selects RX0 yX0_tellAnew yX0_tellAnew, Cond.code yX0_tellAnew cX0_tellAnew 4 (some .int)]
def wsX1_set : List Cond := .code yX1_set cX1_set 3 (some .int) :: ((wsX1_set_r1 ++ wsX1_set_r2) ++ wsX10 ++ wsX00)
def wsX1_undo_r1 : List Cond := [Cond.fieldLink RX1 23 "CrowdReports" "acts" "I", Cond.fieldLink RX1 10 "CrowdReports" "now" "LCrowdReports$Crowd;", Cond.fieldLink RX1 19 "CrowdReports" "past" "[LCrowdReports$Crowd;", Cond.methodLink RX1 60 yX0_takeFrom, Cond.instanceMethod yX0_takeFrom, Cond.selects RX0 yX0_takeFrom yX0_takeFrom, Cond.initialized RX0, Cond.code yX0_takeFrom cX0_takeFrom 2 none, Cond.fieldLink RX0 9 "CrowdReports$Crowd" "size" "I", Cond.fieldLink RX0 15 "CrowdReports$Crowd" "rate" "I", Cond.fieldLink RX0 18 "CrowdReports$Crowd" "min" "I", Cond.fieldLink RX0 21 "CrowdReports$Crowd" "clock" "I", Cond.fieldLink RX0 24 "CrowdReports$Crowd" "lot" "I", Cond.fieldLink RX0 27 "CrowdReports$Crowd" "reports" "I", Cond.fieldLink RX0 30 "CrowdReports$Crowd" "byes" "I", Cond.fieldLink RX0 33 "CrowdReports$Crowd" "kind" "[I", Cond.methodLink RX0 59 arraycopyName, Cond.native arraycopyName, Cond.static arraycopyName, Cond.initialized "java/lang/System", Cond.fieldLink RX0 37 "CrowdReports$Crowd" "known" "[I", Cond.fieldLink RX0 40 "CrowdReports$Crowd" "begun" "[I", Cond.fieldLink RX0 43 "CrowdReports$Crowd" "due" "[I", Cond.fieldLink RX0 46 "CrowdReports$Crowd" "goers" "[I"]
def wsX1_undo_r2 : List Cond := [Cond.fieldLink RX0 49 "CrowdReports$Crowd" "shut" "[I", Cond.fieldLink RX0 52 "CrowdReports$Crowd" "lastHeard" "[I"]
def wsX1_undo : List Cond := .code yX1_undo cX1_undo 1 (some .int) :: ((wsX1_undo_r1 ++ wsX1_undo_r2) ++ wsX10 ++ wsX00)
def wsX1_ahead_r1 : List Cond := [Cond.fieldLink RX1 16 "CrowdReports" "trial" "LCrowdReports$Crowd;", Cond.fieldLink RX1 10 "CrowdReports" "now" "LCrowdReports$Crowd;", Cond.fieldLink RX1 79 "CrowdReports$Crowd" "reports" "I", Cond.fieldLink RX1 82 "CrowdReports$Crowd" "byes" "I", Cond.fieldLink RX1 76 "CrowdReports$Crowd" "lot" "I", Cond.methodLink RX1 60 yX0_takeFrom, Cond.instanceMethod yX0_takeFrom, Cond.selects RX0 yX0_takeFrom yX0_takeFrom, Cond.initialized RX0, Cond.code yX0_takeFrom cX0_takeFrom 2 none, Cond.fieldLink RX0 9 "CrowdReports$Crowd" "size" "I", Cond.fieldLink RX0 15 "CrowdReports$Crowd" "rate" "I", Cond.fieldLink RX0 18 "CrowdReports$Crowd" "min" "I", Cond.fieldLink RX0 21 "CrowdReports$Crowd" "clock" "I", Cond.fieldLink RX0 24 "CrowdReports$Crowd" "lot" "I", Cond.fieldLink RX0 27 "CrowdReports$Crowd" "reports" "I", Cond.fieldLink RX0 30 "CrowdReports$Crowd" "byes" "I", Cond.fieldLink RX0 33 "CrowdReports$Crowd" "kind" "[I", Cond.methodLink RX0 59 arraycopyName, Cond.native arraycopyName, Cond.static arraycopyName, Cond.initialized "java/lang/System", Cond.fieldLink RX0 37 "CrowdReports$Crowd" "known" "[I", Cond.fieldLink RX0 40 "CrowdReports$Crowd" "begun" "[I"]
def wsX1_ahead_r2 : List Cond := [Cond.fieldLink RX0 43 "CrowdReports$Crowd" "due" "[I", Cond.fieldLink RX0 46 "CrowdReports$Crowd" "goers" "[I", Cond.fieldLink RX0 49 "CrowdReports$Crowd" "shut" "[I", Cond.fieldLink RX0 52 "CrowdReports$Crowd" "lastHeard" "[I", Cond.methodLink RX1 133 yX0_run, Cond.instanceMethod yX0_run, Cond.selects RX0 yX0_run yX0_run, Cond.code yX0_run cX0_run 5 (some .int), Cond.methodLink RX0 106 yX0_sent, Cond.instanceMethod yX0_sent, Cond.selects RX0 yX0_sent yX0_sent, Cond.code yX0_sent cX0_sent 1 (some .int), Cond.methodLink RX0 110 yX0_comeDue, Cond.instanceMethod yX0_comeDue, Cond.selects RX0 yX0_comeDue yX0_comeDue, Cond.code yX0_comeDue cX0_comeDue 4 none, Cond.methodLink RX0 71 yX0_countOf, Cond.instanceMethod yX0_countOf, Cond.selects RX0 yX0_countOf yX0_countOf, Cond.code yX0_countOf cX0_countOf 2 (some .int), Cond.methodLink RX0 65 yJ6_bitCount_0f7a4, Cond.static yJ6_bitCount_0f7a4, Cond.initialized RJ6, Cond.code yJ6_bitCount_0f7a4 cJ6_bitCount_0f7a4 1 (some .int)]
def wsX1_ahead_r3 : List Cond := [Cond.constant RJ6 265 (1431655765), Cond.constant RJ6 266 (858993459), Cond.constant RJ6 267 (252645135), Cond.methodLink RX0 87 yX0_waitOf, Cond.instanceMethod yX0_waitOf, Cond.selects RX0 yX0_waitOf yX0_waitOf, Cond.code yX0_waitOf cX0_waitOf 3 (some .int), Cond.constant RX0 83 (65536), Cond.methodLink RX0 77 Lib.Math.max.name, Cond.static Lib.Math.max.name, Cond.initialized "java/lang/Math", Cond.code Lib.Math.max.name Lib.Math.max.code 2 (some .int), Cond.methodLink RX0 84 yX0_spanOf, Cond.instanceMethod yX0_spanOf, Cond.selects RX0 yX0_spanOf yX0_spanOf, Cond.code yX0_spanOf cX0_spanOf 3 (some .int), Cond.methodLink RX0 97 yX0_sendBye, Cond.instanceMethod yX0_sendBye, Cond.selects RX0 yX0_sendBye yX0_sendBye, Cond.code yX0_sendBye cX0_sendBye 3 none, Cond.methodLink RX0 55 yX0_goAway, Cond.instanceMethod yX0_goAway, Cond.selects RX0 yX0_goAway yX0_goAway, Cond.code yX0_goAway cX0_goAway 2 none]
def wsX1_ahead_r4 : List Cond := [Cond.methodLink RX0 126 yX0_reaches, Cond.instanceMethod yX0_reaches, Cond.selects RX0 yX0_reaches yX0_reaches, Cond.code yX0_reaches cX0_reaches 3 (some .boolean), Cond.methodLink RX0 123 yX0_isOpen, Cond.instanceMethod yX0_isOpen, Cond.selects RX0 yX0_isOpen yX0_isOpen, Cond.code yX0_isOpen cX0_isOpen 3 (some .boolean), Cond.methodLink RX0 129 yX0_hearBye, Cond.instanceMethod yX0_hearBye, Cond.selects RX0 yX0_hearBye yX0_hearBye, Cond.code yX0_hearBye cX0_hearBye 5 none, Cond.methodLink RX0 119 yX0_knows, Cond.instanceMethod yX0_knows, Cond.selects RX0 yX0_knows yX0_knows, Cond.code yX0_knows cX0_knows 3 (some .boolean), Cond.methodLink RX0 116 yX0_sendReport, Cond.instanceMethod yX0_sendReport, Cond.selects RX0 yX0_sendReport yX0_sendReport, Cond.code yX0_sendReport cX0_sendReport 3 none, Cond.methodLink RX0 113 yX0_forgetOld, Cond.instanceMethod yX0_forgetOld, Cond.selects RX0 yX0_forgetOld yX0_forgetOld, Cond.code yX0_forgetOld cX0_forgetOld 5 none]
def wsX1_ahead_r5 : List Cond := [Cond.methodLink RX1 85 yX0_bitsOf, Cond.instanceMethod yX0_bitsOf, Cond.selects RX0 yX0_bitsOf yX0_bitsOf, Cond.code yX0_bitsOf cX0_bitsOf 4 (some .int)]
def wsX1_ahead : List Cond := .code yX1_ahead cX1_ahead 3 (some .int) :: ((wsX1_ahead_r1 ++ (wsX1_ahead_r2 ++ (wsX1_ahead_r3 ++ (wsX1_ahead_r4 ++ wsX1_ahead_r5)))) ++ wsX10 ++ wsX00)
def wsX1_crowd_r1 : List Cond := [Cond.fieldLink RX1 16 "CrowdReports" "trial" "LCrowdReports$Crowd;", Cond.fieldLink RX1 10 "CrowdReports" "now" "LCrowdReports$Crowd;", Cond.methodLink RX1 143 Lib.Math.max.name, Cond.static Lib.Math.max.name, Cond.initialized "java/lang/Math", Cond.code Lib.Math.max.name Lib.Math.max.code 2 (some .int), Cond.methodLink RX1 60 yX0_takeFrom, Cond.instanceMethod yX0_takeFrom, Cond.selects RX0 yX0_takeFrom yX0_takeFrom, Cond.initialized RX0, Cond.code yX0_takeFrom cX0_takeFrom 2 none, Cond.fieldLink RX0 9 "CrowdReports$Crowd" "size" "I", Cond.fieldLink RX0 15 "CrowdReports$Crowd" "rate" "I", Cond.fieldLink RX0 18 "CrowdReports$Crowd" "min" "I", Cond.fieldLink RX0 21 "CrowdReports$Crowd" "clock" "I", Cond.fieldLink RX0 24 "CrowdReports$Crowd" "lot" "I", Cond.fieldLink RX0 27 "CrowdReports$Crowd" "reports" "I", Cond.fieldLink RX0 30 "CrowdReports$Crowd" "byes" "I", Cond.fieldLink RX0 33 "CrowdReports$Crowd" "kind" "[I", Cond.methodLink RX0 59 arraycopyName, Cond.native arraycopyName, Cond.static arraycopyName, Cond.initialized "java/lang/System", Cond.fieldLink RX0 37 "CrowdReports$Crowd" "known" "[I"]
def wsX1_crowd_r2 : List Cond := [Cond.fieldLink RX0 40 "CrowdReports$Crowd" "begun" "[I", Cond.fieldLink RX0 43 "CrowdReports$Crowd" "due" "[I", Cond.fieldLink RX0 46 "CrowdReports$Crowd" "goers" "[I", Cond.fieldLink RX0 49 "CrowdReports$Crowd" "shut" "[I", Cond.fieldLink RX0 52 "CrowdReports$Crowd" "lastHeard" "[I", Cond.methodLink RX1 133 yX0_run, Cond.instanceMethod yX0_run, Cond.selects RX0 yX0_run yX0_run, Cond.code yX0_run cX0_run 5 (some .int), Cond.methodLink RX0 106 yX0_sent, Cond.instanceMethod yX0_sent, Cond.selects RX0 yX0_sent yX0_sent, Cond.code yX0_sent cX0_sent 1 (some .int), Cond.methodLink RX0 110 yX0_comeDue, Cond.instanceMethod yX0_comeDue, Cond.selects RX0 yX0_comeDue yX0_comeDue, Cond.code yX0_comeDue cX0_comeDue 4 none, Cond.methodLink RX0 71 yX0_countOf, Cond.instanceMethod yX0_countOf, Cond.selects RX0 yX0_countOf yX0_countOf, Cond.code yX0_countOf cX0_countOf 2 (some .int), Cond.methodLink RX0 65 yJ6_bitCount_0f7a4, Cond.static yJ6_bitCount_0f7a4, Cond.initialized RJ6]
def wsX1_crowd_r3 : List Cond := [Cond.code yJ6_bitCount_0f7a4 cJ6_bitCount_0f7a4 1 (some .int), Cond.constant RJ6 265 (1431655765), Cond.constant RJ6 266 (858993459), Cond.constant RJ6 267 (252645135), Cond.methodLink RX0 87 yX0_waitOf, Cond.instanceMethod yX0_waitOf, Cond.selects RX0 yX0_waitOf yX0_waitOf, Cond.code yX0_waitOf cX0_waitOf 3 (some .int), Cond.constant RX0 83 (65536), Cond.methodLink RX0 77 Lib.Math.max.name, Cond.methodLink RX0 84 yX0_spanOf, Cond.instanceMethod yX0_spanOf, Cond.selects RX0 yX0_spanOf yX0_spanOf, Cond.code yX0_spanOf cX0_spanOf 3 (some .int), Cond.methodLink RX0 97 yX0_sendBye, Cond.instanceMethod yX0_sendBye, Cond.selects RX0 yX0_sendBye yX0_sendBye, Cond.code yX0_sendBye cX0_sendBye 3 none, Cond.methodLink RX0 55 yX0_goAway, Cond.instanceMethod yX0_goAway, Cond.selects RX0 yX0_goAway yX0_goAway, Cond.code yX0_goAway cX0_goAway 2 none, Cond.methodLink RX0 126 yX0_reaches, Cond.instanceMethod yX0_reaches]
def wsX1_crowd_r4 : List Cond := [Cond.selects RX0 yX0_reaches yX0_reaches, Cond.code yX0_reaches cX0_reaches 3 (some .boolean), Cond.methodLink RX0 123 yX0_isOpen, Cond.instanceMethod yX0_isOpen, Cond.selects RX0 yX0_isOpen yX0_isOpen, Cond.code yX0_isOpen cX0_isOpen 3 (some .boolean), Cond.methodLink RX0 129 yX0_hearBye, Cond.instanceMethod yX0_hearBye, Cond.selects RX0 yX0_hearBye yX0_hearBye, Cond.code yX0_hearBye cX0_hearBye 5 none, Cond.methodLink RX0 119 yX0_knows, Cond.instanceMethod yX0_knows, Cond.selects RX0 yX0_knows yX0_knows, Cond.code yX0_knows cX0_knows 3 (some .boolean), Cond.methodLink RX0 116 yX0_sendReport, Cond.instanceMethod yX0_sendReport, Cond.selects RX0 yX0_sendReport yX0_sendReport, Cond.code yX0_sendReport cX0_sendReport 3 none, Cond.methodLink RX0 113 yX0_forgetOld, Cond.instanceMethod yX0_forgetOld, Cond.selects RX0 yX0_forgetOld yX0_forgetOld, Cond.code yX0_forgetOld cX0_forgetOld 5 none]
def wsX1_crowd : List Cond := .code yX1_crowd cX1_crowd 4 (some .int) :: ((wsX1_crowd_r1 ++ (wsX1_crowd_r2 ++ (wsX1_crowd_r3 ++ wsX1_crowd_r4))) ++ wsX10 ++ wsX00)
def wsX1_tenTo : List Cond := .code yX1_tenTo cX1_tenTo 4 (some .long) :: ([.constantLong RX1 198 (10)])
def wsX1_part : List Cond := .code yX1_part cX1_part 4 (some .int) :: ([.methodLink RX1 148 yX1_tenTo, .static yX1_tenTo, .initialized RX1, .code yX1_tenTo cX1_tenTo 4 (some .long), .constantLong RX1 198 (10)])
def wsX1_jitter : List Cond := .code yX1_jitter cX1_jitter 7 (some .int) :: ([.methodLink RX1 156 Lib.Math.abs.name, .static Lib.Math.abs.name, .initialized "java/lang/Math", .code Lib.Math.abs.name Lib.Math.abs.code 1 (some .int), .methodLink RX1 148 yX1_tenTo, .static yX1_tenTo, .initialized RX1, .code yX1_tenTo cX1_tenTo 4 (some .long), .constantLong RX1 198 (10), .methodLink RX1 152 yX1_part, .static yX1_part, .code yX1_part cX1_part 4 (some .int)])
def wsX1_isTime : List Cond := .code yX1_isTime cX1_isTime 1 (some .boolean) :: ([])
def wsX1_round : List Cond := .code yX1_round cX1_round 5 (some .int) :: ([.methodLink RX1 159 yX1_isTime, .static yX1_isTime, .initialized RX1, .code yX1_isTime cX1_isTime 1 (some .boolean)])
def wsX1_canBe_r1 : List Cond := [Cond.fieldLink RX1 16 "CrowdReports" "trial" "LCrowdReports$Crowd;", Cond.fieldLink RX1 96 "CrowdReports$Crowd" "kind" "[I", Cond.methodLink RX1 127 yX0_enter, Cond.instanceMethod yX0_enter, Cond.selects RX0 yX0_enter yX0_enter, Cond.initialized RX0, Cond.code yX0_enter cX0_enter 2 (some .boolean), Cond.fieldLink RX0 33 "CrowdReports$Crowd" "kind" "[I", Cond.static yX1_isMember, Cond.initialized RX1, Cond.code yX1_isMember cX1_isMember 1 (some .boolean), Cond.methodLink RX0 94 yX0_begin, Cond.instanceMethod yX0_begin, Cond.selects RX0 yX0_begin yX0_begin, Cond.code yX0_begin cX0_begin 2 none, Cond.fieldLink RX0 40 "CrowdReports$Crowd" "begun" "[I", Cond.fieldLink RX0 21 "CrowdReports$Crowd" "clock" "I", Cond.fieldLink RX0 43 "CrowdReports$Crowd" "due" "[I", Cond.methodLink RX0 87 yX0_waitOf, Cond.instanceMethod yX0_waitOf, Cond.selects RX0 yX0_waitOf yX0_waitOf, Cond.code yX0_waitOf cX0_waitOf 3 (some .int), Cond.fieldLink RX0 24 "CrowdReports$Crowd" "lot" "I", Cond.constant RX0 83 (65536)]
def wsX1_canBe_r2 : List Cond := [Cond.methodLink RX0 77 Lib.Math.max.name, Cond.static Lib.Math.max.name, Cond.initialized "java/lang/Math", Cond.code Lib.Math.max.name Lib.Math.max.code 2 (some .int), Cond.methodLink RX0 84 yX0_spanOf, Cond.instanceMethod yX0_spanOf, Cond.selects RX0 yX0_spanOf yX0_spanOf, Cond.code yX0_spanOf cX0_spanOf 3 (some .int), Cond.fieldLink RX0 15 "CrowdReports$Crowd" "rate" "I", Cond.fieldLink RX0 18 "CrowdReports$Crowd" "min" "I", Cond.fieldLink RX0 9 "CrowdReports$Crowd" "size" "I", Cond.methodLink RX1 130 yX0_depart, Cond.instanceMethod yX0_depart, Cond.selects RX0 yX0_depart yX0_depart, Cond.code yX0_depart cX0_depart 2 (some .boolean), Cond.fieldLink RX0 46 "CrowdReports$Crowd" "goers" "[I", Cond.methodLink RX0 71 yX0_countOf, Cond.instanceMethod yX0_countOf, Cond.selects RX0 yX0_countOf yX0_countOf, Cond.code yX0_countOf cX0_countOf 2 (some .int), Cond.fieldLink RX0 37 "CrowdReports$Crowd" "known" "[I", Cond.methodLink RX0 65 yJ6_bitCount_0f7a4, Cond.static yJ6_bitCount_0f7a4, Cond.initialized RJ6]
def wsX1_canBe_r3 : List Cond := [Cond.code yJ6_bitCount_0f7a4 cJ6_bitCount_0f7a4 1 (some .int), Cond.constant RJ6 265 (1431655765), Cond.constant RJ6 266 (858993459), Cond.constant RJ6 267 (252645135), Cond.methodLink RX0 97 yX0_sendBye, Cond.instanceMethod yX0_sendBye, Cond.selects RX0 yX0_sendBye yX0_sendBye, Cond.code yX0_sendBye cX0_sendBye 3 none, Cond.fieldLink RX0 30 "CrowdReports$Crowd" "byes" "I", Cond.methodLink RX0 55 yX0_goAway, Cond.instanceMethod yX0_goAway, Cond.selects RX0 yX0_goAway yX0_goAway, Cond.code yX0_goAway cX0_goAway 2 none, Cond.methodLink RX0 126 yX0_reaches, Cond.instanceMethod yX0_reaches, Cond.selects RX0 yX0_reaches yX0_reaches, Cond.code yX0_reaches cX0_reaches 3 (some .boolean), Cond.methodLink RX0 123 yX0_isOpen, Cond.instanceMethod yX0_isOpen, Cond.selects RX0 yX0_isOpen yX0_isOpen, Cond.code yX0_isOpen cX0_isOpen 3 (some .boolean), Cond.fieldLink RX0 49 "CrowdReports$Crowd" "shut" "[I", Cond.methodLink RX0 129 yX0_hearBye, Cond.instanceMethod yX0_hearBye]
def wsX1_canBe_r4 : List Cond := [Cond.selects RX0 yX0_hearBye yX0_hearBye, Cond.code yX0_hearBye cX0_hearBye 5 none, Cond.methodLink RX0 119 yX0_knows, Cond.instanceMethod yX0_knows, Cond.selects RX0 yX0_knows yX0_knows, Cond.code yX0_knows cX0_knows 3 (some .boolean), Cond.methodLink RX1 133 yX0_run, Cond.instanceMethod yX0_run, Cond.selects RX0 yX0_run yX0_run, Cond.code yX0_run cX0_run 5 (some .int), Cond.methodLink RX0 106 yX0_sent, Cond.instanceMethod yX0_sent, Cond.selects RX0 yX0_sent yX0_sent, Cond.code yX0_sent cX0_sent 1 (some .int), Cond.fieldLink RX0 27 "CrowdReports$Crowd" "reports" "I", Cond.methodLink RX0 110 yX0_comeDue, Cond.instanceMethod yX0_comeDue, Cond.selects RX0 yX0_comeDue yX0_comeDue, Cond.code yX0_comeDue cX0_comeDue 4 none, Cond.methodLink RX0 116 yX0_sendReport, Cond.instanceMethod yX0_sendReport, Cond.selects RX0 yX0_sendReport yX0_sendReport, Cond.code yX0_sendReport cX0_sendReport 3 none, Cond.fieldLink RX0 52 "CrowdReports$Crowd" "lastHeard" "[I"]
def wsX1_canBe_r5 : List Cond := [Cond.methodLink RX0 113 yX0_forgetOld, Cond.instanceMethod yX0_forgetOld, Cond.selects RX0 yX0_forgetOld yX0_forgetOld, Cond.code yX0_forgetOld cX0_forgetOld 5 none, Cond.methodLink RX1 92 yX1_isMember, Cond.methodLink RX1 114 yX0_knows, Cond.methodLink RX1 102 yX0_countTold, Cond.instanceMethod yX0_countTold, Cond.selects RX0 yX0_countTold yX0_countTold, Cond.code yX0_countTold cX0_countTold 2 (some .int), Cond.methodLink RX1 136 yX0_turnWay, Cond.instanceMethod yX0_turnWay, Cond.selects RX0 yX0_turnWay yX0_turnWay, Cond.code yX0_turnWay cX0_turnWay 3 (some .boolean)]
def wsX1_canBe : List Cond := .code yX1_canBe cX1_canBe 5 (some .boolean) :: ((wsX1_canBe_r1 ++ (wsX1_canBe_r2 ++ (wsX1_canBe_r3 ++ (wsX1_canBe_r4 ++ wsX1_canBe_r5)))) ++ wsX10 ++ wsX00)
def wsX1_judge_r1 : List Cond := [Cond.fieldLink RX1 16 "CrowdReports" "trial" "LCrowdReports$Crowd;", Cond.fieldLink RX1 10 "CrowdReports" "now" "LCrowdReports$Crowd;", Cond.methodLink RX1 148 yX1_tenTo, Cond.static yX1_tenTo, Cond.initialized RX1, Cond.code yX1_tenTo cX1_tenTo 4 (some .long), Cond.constantLong RX1 198 (10), Cond.methodLink RX1 60 yX0_takeFrom, Cond.instanceMethod yX0_takeFrom, Cond.selects RX0 yX0_takeFrom yX0_takeFrom, Cond.initialized RX0, Cond.code yX0_takeFrom cX0_takeFrom 2 none, Cond.fieldLink RX0 9 "CrowdReports$Crowd" "size" "I", Cond.fieldLink RX0 15 "CrowdReports$Crowd" "rate" "I", Cond.fieldLink RX0 18 "CrowdReports$Crowd" "min" "I", Cond.fieldLink RX0 21 "CrowdReports$Crowd" "clock" "I", Cond.fieldLink RX0 24 "CrowdReports$Crowd" "lot" "I", Cond.fieldLink RX0 27 "CrowdReports$Crowd" "reports" "I", Cond.fieldLink RX0 30 "CrowdReports$Crowd" "byes" "I", Cond.fieldLink RX0 33 "CrowdReports$Crowd" "kind" "[I", Cond.methodLink RX0 59 arraycopyName, Cond.native arraycopyName, Cond.static arraycopyName, Cond.initialized "java/lang/System"]
def wsX1_judge_r2 : List Cond := [Cond.fieldLink RX0 37 "CrowdReports$Crowd" "known" "[I", Cond.fieldLink RX0 40 "CrowdReports$Crowd" "begun" "[I", Cond.fieldLink RX0 43 "CrowdReports$Crowd" "due" "[I", Cond.fieldLink RX0 46 "CrowdReports$Crowd" "goers" "[I", Cond.fieldLink RX0 49 "CrowdReports$Crowd" "shut" "[I", Cond.fieldLink RX0 52 "CrowdReports$Crowd" "lastHeard" "[I", Cond.methodLink RX1 152 yX1_part, Cond.static yX1_part, Cond.code yX1_part cX1_part 4 (some .int), Cond.methodLink RX1 162 yX1_canBe, Cond.instanceMethod yX1_canBe, Cond.selects RX1 yX1_canBe yX1_canBe, Cond.code yX1_canBe cX1_canBe 5 (some .boolean), Cond.fieldLink RX1 96 "CrowdReports$Crowd" "kind" "[I", Cond.methodLink RX1 127 yX0_enter, Cond.instanceMethod yX0_enter, Cond.selects RX0 yX0_enter yX0_enter, Cond.code yX0_enter cX0_enter 2 (some .boolean), Cond.static yX1_isMember, Cond.code yX1_isMember cX1_isMember 1 (some .boolean), Cond.methodLink RX0 94 yX0_begin, Cond.instanceMethod yX0_begin, Cond.selects RX0 yX0_begin yX0_begin, Cond.code yX0_begin cX0_begin 2 none]
def wsX1_judge_r3 : List Cond := [Cond.methodLink RX0 87 yX0_waitOf, Cond.instanceMethod yX0_waitOf, Cond.selects RX0 yX0_waitOf yX0_waitOf, Cond.code yX0_waitOf cX0_waitOf 3 (some .int), Cond.constant RX0 83 (65536), Cond.methodLink RX0 77 Lib.Math.max.name, Cond.static Lib.Math.max.name, Cond.initialized "java/lang/Math", Cond.code Lib.Math.max.name Lib.Math.max.code 2 (some .int), Cond.methodLink RX0 84 yX0_spanOf, Cond.instanceMethod yX0_spanOf, Cond.selects RX0 yX0_spanOf yX0_spanOf, Cond.code yX0_spanOf cX0_spanOf 3 (some .int), Cond.methodLink RX1 130 yX0_depart, Cond.instanceMethod yX0_depart, Cond.selects RX0 yX0_depart yX0_depart, Cond.code yX0_depart cX0_depart 2 (some .boolean), Cond.methodLink RX0 71 yX0_countOf, Cond.instanceMethod yX0_countOf, Cond.selects RX0 yX0_countOf yX0_countOf, Cond.code yX0_countOf cX0_countOf 2 (some .int), Cond.methodLink RX0 65 yJ6_bitCount_0f7a4, Cond.static yJ6_bitCount_0f7a4, Cond.initialized RJ6]
def wsX1_judge_r4 : List Cond := [Cond.code yJ6_bitCount_0f7a4 cJ6_bitCount_0f7a4 1 (some .int), Cond.constant RJ6 265 (1431655765), Cond.constant RJ6 266 (858993459), Cond.constant RJ6 267 (252645135), Cond.methodLink RX0 97 yX0_sendBye, Cond.instanceMethod yX0_sendBye, Cond.selects RX0 yX0_sendBye yX0_sendBye, Cond.code yX0_sendBye cX0_sendBye 3 none, Cond.methodLink RX0 55 yX0_goAway, Cond.instanceMethod yX0_goAway, Cond.selects RX0 yX0_goAway yX0_goAway, Cond.code yX0_goAway cX0_goAway 2 none, Cond.methodLink RX0 126 yX0_reaches, Cond.instanceMethod yX0_reaches, Cond.selects RX0 yX0_reaches yX0_reaches, Cond.code yX0_reaches cX0_reaches 3 (some .boolean), Cond.methodLink RX0 123 yX0_isOpen, Cond.instanceMethod yX0_isOpen, Cond.selects RX0 yX0_isOpen yX0_isOpen, Cond.code yX0_isOpen cX0_isOpen 3 (some .boolean), Cond.methodLink RX0 129 yX0_hearBye, Cond.instanceMethod yX0_hearBye, Cond.selects RX0 yX0_hearBye yX0_hearBye, Cond.code yX0_hearBye cX0_hearBye 5 none]
def wsX1_judge_r5 : List Cond := [Cond.methodLink RX0 119 yX0_knows, Cond.instanceMethod yX0_knows, Cond.selects RX0 yX0_knows yX0_knows, Cond.code yX0_knows cX0_knows 3 (some .boolean), Cond.methodLink RX1 133 yX0_run, Cond.instanceMethod yX0_run, Cond.selects RX0 yX0_run yX0_run, Cond.code yX0_run cX0_run 5 (some .int), Cond.methodLink RX0 106 yX0_sent, Cond.instanceMethod yX0_sent, Cond.selects RX0 yX0_sent yX0_sent, Cond.code yX0_sent cX0_sent 1 (some .int), Cond.methodLink RX0 110 yX0_comeDue, Cond.instanceMethod yX0_comeDue, Cond.selects RX0 yX0_comeDue yX0_comeDue, Cond.code yX0_comeDue cX0_comeDue 4 none, Cond.methodLink RX0 116 yX0_sendReport, Cond.instanceMethod yX0_sendReport, Cond.selects RX0 yX0_sendReport yX0_sendReport, Cond.code yX0_sendReport cX0_sendReport 3 none, Cond.methodLink RX0 113 yX0_forgetOld, Cond.instanceMethod yX0_forgetOld, Cond.selects RX0 yX0_forgetOld yX0_forgetOld, Cond.code yX0_forgetOld cX0_forgetOld 5 none]
def wsX1_judge_r6 : List Cond := [Cond.methodLink RX1 92 yX1_isMember, Cond.methodLink RX1 114 yX0_knows, Cond.methodLink RX1 102 yX0_countTold, Cond.instanceMethod yX0_countTold, Cond.selects RX0 yX0_countTold yX0_countTold, Cond.code yX0_countTold cX0_countTold 2 (some .int), Cond.methodLink RX1 136 yX0_turnWay, Cond.instanceMethod yX0_turnWay, Cond.selects RX0 yX0_turnWay yX0_turnWay, Cond.code yX0_turnWay cX0_turnWay 3 (some .boolean)]
def wsX1_judge : List Cond := .code yX1_judge cX1_judge 5 (some .int) :: ((wsX1_judge_r1 ++ (wsX1_judge_r2 ++ (wsX1_judge_r3 ++ (wsX1_judge_r4 ++ (wsX1_judge_r5 ++ wsX1_judge_r6))))) ++ wsX10 ++ wsX00)
def wsX1_see : List Cond := .code yX1_see cX1_see 3 (some .int) :: ([.fieldLink RX1 46 "CrowdReports" "seen" "I", .fieldLink RX1 40 "CrowdReports" "seenTicks" "[I", .fieldLink RX1 43 "CrowdReports" "seenLetters" "[I"] ++ wsX10)
def wsX1_unsee : List Cond := .code yX1_unsee cX1_unsee 2 (some .int) :: ([.fieldLink RX1 46 "CrowdReports" "seen" "I"] ++ wsX10)
def wsX1_fitsSeen_r1 : List Cond := [Cond.fieldLink RX1 16 "CrowdReports" "trial" "LCrowdReports$Crowd;", Cond.fieldLink RX1 10 "CrowdReports" "now" "LCrowdReports$Crowd;", Cond.fieldLink RX1 70 "CrowdReports$Crowd" "rate" "I", Cond.fieldLink RX1 46 "CrowdReports" "seen" "I", Cond.fieldLink RX1 40 "CrowdReports" "seenTicks" "[I", Cond.fieldLink RX1 43 "CrowdReports" "seenLetters" "[I", Cond.methodLink RX1 60 yX0_takeFrom, Cond.instanceMethod yX0_takeFrom, Cond.selects RX0 yX0_takeFrom yX0_takeFrom, Cond.initialized RX0, Cond.code yX0_takeFrom cX0_takeFrom 2 none, Cond.fieldLink RX0 9 "CrowdReports$Crowd" "size" "I", Cond.fieldLink RX0 15 "CrowdReports$Crowd" "rate" "I", Cond.fieldLink RX0 18 "CrowdReports$Crowd" "min" "I", Cond.fieldLink RX0 21 "CrowdReports$Crowd" "clock" "I", Cond.fieldLink RX0 24 "CrowdReports$Crowd" "lot" "I", Cond.fieldLink RX0 27 "CrowdReports$Crowd" "reports" "I", Cond.fieldLink RX0 30 "CrowdReports$Crowd" "byes" "I", Cond.fieldLink RX0 33 "CrowdReports$Crowd" "kind" "[I", Cond.methodLink RX0 59 arraycopyName, Cond.native arraycopyName, Cond.static arraycopyName, Cond.initialized "java/lang/System", Cond.fieldLink RX0 37 "CrowdReports$Crowd" "known" "[I"]
def wsX1_fitsSeen_r2 : List Cond := [Cond.fieldLink RX0 40 "CrowdReports$Crowd" "begun" "[I", Cond.fieldLink RX0 43 "CrowdReports$Crowd" "due" "[I", Cond.fieldLink RX0 46 "CrowdReports$Crowd" "goers" "[I", Cond.fieldLink RX0 49 "CrowdReports$Crowd" "shut" "[I", Cond.fieldLink RX0 52 "CrowdReports$Crowd" "lastHeard" "[I", Cond.methodLink RX1 133 yX0_run, Cond.instanceMethod yX0_run, Cond.selects RX0 yX0_run yX0_run, Cond.code yX0_run cX0_run 5 (some .int), Cond.methodLink RX0 106 yX0_sent, Cond.instanceMethod yX0_sent, Cond.selects RX0 yX0_sent yX0_sent, Cond.code yX0_sent cX0_sent 1 (some .int), Cond.methodLink RX0 110 yX0_comeDue, Cond.instanceMethod yX0_comeDue, Cond.selects RX0 yX0_comeDue yX0_comeDue, Cond.code yX0_comeDue cX0_comeDue 4 none, Cond.methodLink RX0 71 yX0_countOf, Cond.instanceMethod yX0_countOf, Cond.selects RX0 yX0_countOf yX0_countOf, Cond.code yX0_countOf cX0_countOf 2 (some .int), Cond.methodLink RX0 65 yJ6_bitCount_0f7a4, Cond.static yJ6_bitCount_0f7a4, Cond.initialized RJ6]
def wsX1_fitsSeen_r3 : List Cond := [Cond.code yJ6_bitCount_0f7a4 cJ6_bitCount_0f7a4 1 (some .int), Cond.constant RJ6 265 (1431655765), Cond.constant RJ6 266 (858993459), Cond.constant RJ6 267 (252645135), Cond.methodLink RX0 87 yX0_waitOf, Cond.instanceMethod yX0_waitOf, Cond.selects RX0 yX0_waitOf yX0_waitOf, Cond.code yX0_waitOf cX0_waitOf 3 (some .int), Cond.constant RX0 83 (65536), Cond.methodLink RX0 77 Lib.Math.max.name, Cond.static Lib.Math.max.name, Cond.initialized "java/lang/Math", Cond.code Lib.Math.max.name Lib.Math.max.code 2 (some .int), Cond.methodLink RX0 84 yX0_spanOf, Cond.instanceMethod yX0_spanOf, Cond.selects RX0 yX0_spanOf yX0_spanOf, Cond.code yX0_spanOf cX0_spanOf 3 (some .int), Cond.methodLink RX0 97 yX0_sendBye, Cond.instanceMethod yX0_sendBye, Cond.selects RX0 yX0_sendBye yX0_sendBye, Cond.code yX0_sendBye cX0_sendBye 3 none, Cond.methodLink RX0 55 yX0_goAway, Cond.instanceMethod yX0_goAway, Cond.selects RX0 yX0_goAway yX0_goAway]
def wsX1_fitsSeen_r4 : List Cond := [Cond.code yX0_goAway cX0_goAway 2 none, Cond.methodLink RX0 126 yX0_reaches, Cond.instanceMethod yX0_reaches, Cond.selects RX0 yX0_reaches yX0_reaches, Cond.code yX0_reaches cX0_reaches 3 (some .boolean), Cond.methodLink RX0 123 yX0_isOpen, Cond.instanceMethod yX0_isOpen, Cond.selects RX0 yX0_isOpen yX0_isOpen, Cond.code yX0_isOpen cX0_isOpen 3 (some .boolean), Cond.methodLink RX0 129 yX0_hearBye, Cond.instanceMethod yX0_hearBye, Cond.selects RX0 yX0_hearBye yX0_hearBye, Cond.code yX0_hearBye cX0_hearBye 5 none, Cond.methodLink RX0 119 yX0_knows, Cond.instanceMethod yX0_knows, Cond.selects RX0 yX0_knows yX0_knows, Cond.code yX0_knows cX0_knows 3 (some .boolean), Cond.methodLink RX0 116 yX0_sendReport, Cond.instanceMethod yX0_sendReport, Cond.selects RX0 yX0_sendReport yX0_sendReport, Cond.code yX0_sendReport cX0_sendReport 3 none, Cond.methodLink RX0 113 yX0_forgetOld, Cond.instanceMethod yX0_forgetOld, Cond.selects RX0 yX0_forgetOld yX0_forgetOld]
def wsX1_fitsSeen_r5 : List Cond := [Cond.code yX0_forgetOld cX0_forgetOld 5 none]
def wsX1_fitsSeen : List Cond := .code yX1_fitsSeen cX1_fitsSeen 5 (some .boolean) :: ((wsX1_fitsSeen_r1 ++ (wsX1_fitsSeen_r2 ++ (wsX1_fitsSeen_r3 ++ (wsX1_fitsSeen_r4 ++ wsX1_fitsSeen_r5)))) ++ wsX10 ++ wsX00)
def wsX1_which_r1 : List Cond := [Cond.methodLink RX1 165 yX1_fitsSeen, Cond.instanceMethod yX1_fitsSeen, Cond.selects RX1 yX1_fitsSeen yX1_fitsSeen, Cond.initialized RX1, Cond.code yX1_fitsSeen cX1_fitsSeen 5 (some .boolean), Cond.fieldLink RX1 16 "CrowdReports" "trial" "LCrowdReports$Crowd;", Cond.fieldLink RX1 10 "CrowdReports" "now" "LCrowdReports$Crowd;", Cond.fieldLink RX1 70 "CrowdReports$Crowd" "rate" "I", Cond.fieldLink RX1 46 "CrowdReports" "seen" "I", Cond.fieldLink RX1 40 "CrowdReports" "seenTicks" "[I", Cond.fieldLink RX1 43 "CrowdReports" "seenLetters" "[I", Cond.methodLink RX1 60 yX0_takeFrom, Cond.instanceMethod yX0_takeFrom, Cond.selects RX0 yX0_takeFrom yX0_takeFrom, Cond.initialized RX0, Cond.code yX0_takeFrom cX0_takeFrom 2 none, Cond.fieldLink RX0 9 "CrowdReports$Crowd" "size" "I", Cond.fieldLink RX0 15 "CrowdReports$Crowd" "rate" "I", Cond.fieldLink RX0 18 "CrowdReports$Crowd" "min" "I", Cond.fieldLink RX0 21 "CrowdReports$Crowd" "clock" "I", Cond.fieldLink RX0 24 "CrowdReports$Crowd" "lot" "I", Cond.fieldLink RX0 27 "CrowdReports$Crowd" "reports" "I", Cond.fieldLink RX0 30 "CrowdReports$Crowd" "byes" "I", Cond.fieldLink RX0 33 "CrowdReports$Crowd" "kind" "[I"]
def wsX1_which_r2 : List Cond := [Cond.methodLink RX0 59 arraycopyName, Cond.native arraycopyName, Cond.static arraycopyName, Cond.initialized "java/lang/System", Cond.fieldLink RX0 37 "CrowdReports$Crowd" "known" "[I", Cond.fieldLink RX0 40 "CrowdReports$Crowd" "begun" "[I", Cond.fieldLink RX0 43 "CrowdReports$Crowd" "due" "[I", Cond.fieldLink RX0 46 "CrowdReports$Crowd" "goers" "[I", Cond.fieldLink RX0 49 "CrowdReports$Crowd" "shut" "[I", Cond.fieldLink RX0 52 "CrowdReports$Crowd" "lastHeard" "[I", Cond.methodLink RX1 133 yX0_run, Cond.instanceMethod yX0_run, Cond.selects RX0 yX0_run yX0_run, Cond.code yX0_run cX0_run 5 (some .int), Cond.methodLink RX0 106 yX0_sent, Cond.instanceMethod yX0_sent, Cond.selects RX0 yX0_sent yX0_sent, Cond.code yX0_sent cX0_sent 1 (some .int), Cond.methodLink RX0 110 yX0_comeDue, Cond.instanceMethod yX0_comeDue, Cond.selects RX0 yX0_comeDue yX0_comeDue, Cond.code yX0_comeDue cX0_comeDue 4 none, Cond.methodLink RX0 71 yX0_countOf, Cond.instanceMethod yX0_countOf]
def wsX1_which_r3 : List Cond := [Cond.selects RX0 yX0_countOf yX0_countOf, Cond.code yX0_countOf cX0_countOf 2 (some .int), Cond.methodLink RX0 65 yJ6_bitCount_0f7a4, Cond.static yJ6_bitCount_0f7a4, Cond.initialized RJ6, Cond.code yJ6_bitCount_0f7a4 cJ6_bitCount_0f7a4 1 (some .int), Cond.constant RJ6 265 (1431655765), Cond.constant RJ6 266 (858993459), Cond.constant RJ6 267 (252645135), Cond.methodLink RX0 87 yX0_waitOf, Cond.instanceMethod yX0_waitOf, Cond.selects RX0 yX0_waitOf yX0_waitOf, Cond.code yX0_waitOf cX0_waitOf 3 (some .int), Cond.constant RX0 83 (65536), Cond.methodLink RX0 77 Lib.Math.max.name, Cond.static Lib.Math.max.name, Cond.initialized "java/lang/Math", Cond.code Lib.Math.max.name Lib.Math.max.code 2 (some .int), Cond.methodLink RX0 84 yX0_spanOf, Cond.instanceMethod yX0_spanOf, Cond.selects RX0 yX0_spanOf yX0_spanOf, Cond.code yX0_spanOf cX0_spanOf 3 (some .int), Cond.methodLink RX0 97 yX0_sendBye, Cond.instanceMethod yX0_sendBye]
def wsX1_which_r4 : List Cond := [Cond.selects RX0 yX0_sendBye yX0_sendBye, Cond.code yX0_sendBye cX0_sendBye 3 none, Cond.methodLink RX0 55 yX0_goAway, Cond.instanceMethod yX0_goAway, Cond.selects RX0 yX0_goAway yX0_goAway, Cond.code yX0_goAway cX0_goAway 2 none, Cond.methodLink RX0 126 yX0_reaches, Cond.instanceMethod yX0_reaches, Cond.selects RX0 yX0_reaches yX0_reaches, Cond.code yX0_reaches cX0_reaches 3 (some .boolean), Cond.methodLink RX0 123 yX0_isOpen, Cond.instanceMethod yX0_isOpen, Cond.selects RX0 yX0_isOpen yX0_isOpen, Cond.code yX0_isOpen cX0_isOpen 3 (some .boolean), Cond.methodLink RX0 129 yX0_hearBye, Cond.instanceMethod yX0_hearBye, Cond.selects RX0 yX0_hearBye yX0_hearBye, Cond.code yX0_hearBye cX0_hearBye 5 none, Cond.methodLink RX0 119 yX0_knows, Cond.instanceMethod yX0_knows, Cond.selects RX0 yX0_knows yX0_knows, Cond.code yX0_knows cX0_knows 3 (some .boolean), Cond.methodLink RX0 116 yX0_sendReport, Cond.instanceMethod yX0_sendReport]
def wsX1_which_r5 : List Cond := [Cond.selects RX0 yX0_sendReport yX0_sendReport, Cond.code yX0_sendReport cX0_sendReport 3 none, Cond.methodLink RX0 113 yX0_forgetOld, Cond.instanceMethod yX0_forgetOld, Cond.selects RX0 yX0_forgetOld yX0_forgetOld, Cond.code yX0_forgetOld cX0_forgetOld 5 none]
def wsX1_which : List Cond := .code yX1_which cX1_which 3 (some .int) :: ((wsX1_which_r1 ++ (wsX1_which_r2 ++ (wsX1_which_r3 ++ (wsX1_which_r4 ++ wsX1_which_r5)))) ++ wsX10 ++ wsX00)
def wsX1_runSubsets_r1 : List Cond := [Cond.fieldLink RX1 10 "CrowdReports" "now" "LCrowdReports$Crowd;", Cond.fieldLink RX1 53 "CrowdReports" "sentBy" "[I", Cond.fieldLink RX1 16 "CrowdReports" "trial" "LCrowdReports$Crowd;", Cond.methodLink RX1 219 yX0_feltBits, Cond.instanceMethod yX0_feltBits, Cond.selects RX0 yX0_feltBits yX0_feltBits, Cond.initialized RX0, Cond.code yX0_feltBits cX0_feltBits 3 (some .int), Cond.fieldLink RX0 37 "CrowdReports$Crowd" "known" "[I", Cond.fieldLink RX0 33 "CrowdReports$Crowd" "kind" "[I", Cond.methodLink RX1 60 yX0_takeFrom, Cond.instanceMethod yX0_takeFrom, Cond.selects RX0 yX0_takeFrom yX0_takeFrom, Cond.code yX0_takeFrom cX0_takeFrom 2 none, Cond.fieldLink RX0 9 "CrowdReports$Crowd" "size" "I", Cond.fieldLink RX0 15 "CrowdReports$Crowd" "rate" "I", Cond.fieldLink RX0 18 "CrowdReports$Crowd" "min" "I", Cond.fieldLink RX0 21 "CrowdReports$Crowd" "clock" "I", Cond.fieldLink RX0 24 "CrowdReports$Crowd" "lot" "I", Cond.fieldLink RX0 27 "CrowdReports$Crowd" "reports" "I", Cond.fieldLink RX0 30 "CrowdReports$Crowd" "byes" "I", Cond.methodLink RX0 59 arraycopyName, Cond.native arraycopyName, Cond.static arraycopyName]
def wsX1_runSubsets_r2 : List Cond := [Cond.initialized "java/lang/System", Cond.fieldLink RX0 40 "CrowdReports$Crowd" "begun" "[I", Cond.fieldLink RX0 43 "CrowdReports$Crowd" "due" "[I", Cond.fieldLink RX0 46 "CrowdReports$Crowd" "goers" "[I", Cond.fieldLink RX0 49 "CrowdReports$Crowd" "shut" "[I", Cond.fieldLink RX0 52 "CrowdReports$Crowd" "lastHeard" "[I", Cond.methodLink RX1 222 yX0_leaveOnly, Cond.instanceMethod yX0_leaveOnly, Cond.selects RX0 yX0_leaveOnly yX0_leaveOnly, Cond.code yX0_leaveOnly cX0_leaveOnly 3 none, Cond.methodLink RX0 55 yX0_goAway, Cond.instanceMethod yX0_goAway, Cond.selects RX0 yX0_goAway yX0_goAway, Cond.code yX0_goAway cX0_goAway 2 none, Cond.methodLink RX1 133 yX0_run, Cond.instanceMethod yX0_run, Cond.selects RX0 yX0_run yX0_run, Cond.code yX0_run cX0_run 5 (some .int), Cond.methodLink RX0 106 yX0_sent, Cond.instanceMethod yX0_sent, Cond.selects RX0 yX0_sent yX0_sent, Cond.code yX0_sent cX0_sent 1 (some .int), Cond.methodLink RX0 110 yX0_comeDue, Cond.instanceMethod yX0_comeDue]
def wsX1_runSubsets_r3 : List Cond := [Cond.selects RX0 yX0_comeDue yX0_comeDue, Cond.code yX0_comeDue cX0_comeDue 4 none, Cond.methodLink RX0 71 yX0_countOf, Cond.instanceMethod yX0_countOf, Cond.selects RX0 yX0_countOf yX0_countOf, Cond.code yX0_countOf cX0_countOf 2 (some .int), Cond.methodLink RX0 65 yJ6_bitCount_0f7a4, Cond.static yJ6_bitCount_0f7a4, Cond.initialized RJ6, Cond.code yJ6_bitCount_0f7a4 cJ6_bitCount_0f7a4 1 (some .int), Cond.constant RJ6 265 (1431655765), Cond.constant RJ6 266 (858993459), Cond.constant RJ6 267 (252645135), Cond.methodLink RX0 87 yX0_waitOf, Cond.instanceMethod yX0_waitOf, Cond.selects RX0 yX0_waitOf yX0_waitOf, Cond.code yX0_waitOf cX0_waitOf 3 (some .int), Cond.constant RX0 83 (65536), Cond.methodLink RX0 77 Lib.Math.max.name, Cond.static Lib.Math.max.name, Cond.initialized "java/lang/Math", Cond.code Lib.Math.max.name Lib.Math.max.code 2 (some .int), Cond.methodLink RX0 84 yX0_spanOf, Cond.instanceMethod yX0_spanOf]
def wsX1_runSubsets_r4 : List Cond := [Cond.selects RX0 yX0_spanOf yX0_spanOf, Cond.code yX0_spanOf cX0_spanOf 3 (some .int), Cond.methodLink RX0 97 yX0_sendBye, Cond.instanceMethod yX0_sendBye, Cond.selects RX0 yX0_sendBye yX0_sendBye, Cond.code yX0_sendBye cX0_sendBye 3 none, Cond.methodLink RX0 126 yX0_reaches, Cond.instanceMethod yX0_reaches, Cond.selects RX0 yX0_reaches yX0_reaches, Cond.code yX0_reaches cX0_reaches 3 (some .boolean), Cond.methodLink RX0 123 yX0_isOpen, Cond.instanceMethod yX0_isOpen, Cond.selects RX0 yX0_isOpen yX0_isOpen, Cond.code yX0_isOpen cX0_isOpen 3 (some .boolean), Cond.methodLink RX0 129 yX0_hearBye, Cond.instanceMethod yX0_hearBye, Cond.selects RX0 yX0_hearBye yX0_hearBye, Cond.code yX0_hearBye cX0_hearBye 5 none, Cond.methodLink RX0 119 yX0_knows, Cond.instanceMethod yX0_knows, Cond.selects RX0 yX0_knows yX0_knows, Cond.code yX0_knows cX0_knows 3 (some .boolean), Cond.methodLink RX0 116 yX0_sendReport, Cond.instanceMethod yX0_sendReport]
def wsX1_runSubsets_r5 : List Cond := [Cond.selects RX0 yX0_sendReport yX0_sendReport, Cond.code yX0_sendReport cX0_sendReport 3 none, Cond.methodLink RX0 113 yX0_forgetOld, Cond.instanceMethod yX0_forgetOld, Cond.selects RX0 yX0_forgetOld yX0_forgetOld, Cond.code yX0_forgetOld cX0_forgetOld 5 none]
def wsX1_runSubsets : List Cond := .code yX1_runSubsets cX1_runSubsets 5 none :: ((wsX1_runSubsets_r1 ++ (wsX1_runSubsets_r2 ++ (wsX1_runSubsets_r3 ++ (wsX1_runSubsets_r4 ++ wsX1_runSubsets_r5)))) ++ wsX10 ++ wsX00)
def wsX1_greatestDivisor : List Cond := .code yX1_greatestDivisor cX1_greatestDivisor 6 (some .int) :: ([.methodLink RX1 143 Lib.Math.max.name, .static Lib.Math.max.name, .initialized "java/lang/Math", .code Lib.Math.max.name Lib.Math.max.code 2 (some .int)])
def wsX1_fraction : List Cond := .code yX1_fraction cX1_fraction 4 (some .int) :: ([.methodLink RX1 156 Lib.Math.abs.name, .static Lib.Math.abs.name, .initialized "java/lang/Math", .code Lib.Math.abs.name Lib.Math.abs.code 1 (some .int), .methodLink RX1 200 yX1_greatestDivisor, .static yX1_greatestDivisor, .initialized RX1, .code yX1_greatestDivisor cX1_greatestDivisor 6 (some .int), .methodLink RX1 143 Lib.Math.max.name, .static Lib.Math.max.name, .code Lib.Math.max.name Lib.Math.max.code 2 (some .int)])
def wsX1_share_r1 : List Cond := [Cond.fieldLink RX1 53 "CrowdReports" "sentBy" "[I", Cond.fieldLink RX1 172 "CrowdReports" "ORDERS" "[I", Cond.methodLink RX1 92 yX1_isMember, Cond.static yX1_isMember, Cond.initialized RX1, Cond.code yX1_isMember cX1_isMember 1 (some .boolean), Cond.methodLink RX1 168 yX1_runSubsets, Cond.instanceMethod yX1_runSubsets, Cond.selects RX1 yX1_runSubsets yX1_runSubsets, Cond.code yX1_runSubsets cX1_runSubsets 5 none, Cond.fieldLink RX1 10 "CrowdReports" "now" "LCrowdReports$Crowd;", Cond.fieldLink RX1 16 "CrowdReports" "trial" "LCrowdReports$Crowd;", Cond.methodLink RX1 219 yX0_feltBits, Cond.instanceMethod yX0_feltBits, Cond.selects RX0 yX0_feltBits yX0_feltBits, Cond.initialized RX0, Cond.code yX0_feltBits cX0_feltBits 3 (some .int), Cond.fieldLink RX0 37 "CrowdReports$Crowd" "known" "[I", Cond.fieldLink RX0 33 "CrowdReports$Crowd" "kind" "[I", Cond.methodLink RX1 60 yX0_takeFrom, Cond.instanceMethod yX0_takeFrom, Cond.selects RX0 yX0_takeFrom yX0_takeFrom, Cond.code yX0_takeFrom cX0_takeFrom 2 none, Cond.fieldLink RX0 9 "CrowdReports$Crowd" "size" "I"]
def wsX1_share_r2 : List Cond := [Cond.fieldLink RX0 15 "CrowdReports$Crowd" "rate" "I", Cond.fieldLink RX0 18 "CrowdReports$Crowd" "min" "I", Cond.fieldLink RX0 21 "CrowdReports$Crowd" "clock" "I", Cond.fieldLink RX0 24 "CrowdReports$Crowd" "lot" "I", Cond.fieldLink RX0 27 "CrowdReports$Crowd" "reports" "I", Cond.fieldLink RX0 30 "CrowdReports$Crowd" "byes" "I", Cond.methodLink RX0 59 arraycopyName, Cond.native arraycopyName, Cond.static arraycopyName, Cond.initialized "java/lang/System", Cond.fieldLink RX0 40 "CrowdReports$Crowd" "begun" "[I", Cond.fieldLink RX0 43 "CrowdReports$Crowd" "due" "[I", Cond.fieldLink RX0 46 "CrowdReports$Crowd" "goers" "[I", Cond.fieldLink RX0 49 "CrowdReports$Crowd" "shut" "[I", Cond.fieldLink RX0 52 "CrowdReports$Crowd" "lastHeard" "[I", Cond.methodLink RX1 222 yX0_leaveOnly, Cond.instanceMethod yX0_leaveOnly, Cond.selects RX0 yX0_leaveOnly yX0_leaveOnly, Cond.code yX0_leaveOnly cX0_leaveOnly 3 none, Cond.methodLink RX0 55 yX0_goAway, Cond.instanceMethod yX0_goAway, Cond.selects RX0 yX0_goAway yX0_goAway, Cond.code yX0_goAway cX0_goAway 2 none, Cond.methodLink RX1 133 yX0_run]
def wsX1_share_r3 : List Cond := [Cond.instanceMethod yX0_run, Cond.selects RX0 yX0_run yX0_run, Cond.code yX0_run cX0_run 5 (some .int), Cond.methodLink RX0 106 yX0_sent, Cond.instanceMethod yX0_sent, Cond.selects RX0 yX0_sent yX0_sent, Cond.code yX0_sent cX0_sent 1 (some .int), Cond.methodLink RX0 110 yX0_comeDue, Cond.instanceMethod yX0_comeDue, Cond.selects RX0 yX0_comeDue yX0_comeDue, Cond.code yX0_comeDue cX0_comeDue 4 none, Cond.methodLink RX0 71 yX0_countOf, Cond.instanceMethod yX0_countOf, Cond.selects RX0 yX0_countOf yX0_countOf, Cond.code yX0_countOf cX0_countOf 2 (some .int), Cond.methodLink RX0 65 yJ6_bitCount_0f7a4, Cond.static yJ6_bitCount_0f7a4, Cond.initialized RJ6, Cond.code yJ6_bitCount_0f7a4 cJ6_bitCount_0f7a4 1 (some .int), Cond.constant RJ6 265 (1431655765), Cond.constant RJ6 266 (858993459), Cond.constant RJ6 267 (252645135), Cond.methodLink RX0 87 yX0_waitOf, Cond.instanceMethod yX0_waitOf]
def wsX1_share_r4 : List Cond := [Cond.selects RX0 yX0_waitOf yX0_waitOf, Cond.code yX0_waitOf cX0_waitOf 3 (some .int), Cond.constant RX0 83 (65536), Cond.methodLink RX0 77 Lib.Math.max.name, Cond.static Lib.Math.max.name, Cond.initialized "java/lang/Math", Cond.code Lib.Math.max.name Lib.Math.max.code 2 (some .int), Cond.methodLink RX0 84 yX0_spanOf, Cond.instanceMethod yX0_spanOf, Cond.selects RX0 yX0_spanOf yX0_spanOf, Cond.code yX0_spanOf cX0_spanOf 3 (some .int), Cond.methodLink RX0 97 yX0_sendBye, Cond.instanceMethod yX0_sendBye, Cond.selects RX0 yX0_sendBye yX0_sendBye, Cond.code yX0_sendBye cX0_sendBye 3 none, Cond.methodLink RX0 126 yX0_reaches, Cond.instanceMethod yX0_reaches, Cond.selects RX0 yX0_reaches yX0_reaches, Cond.code yX0_reaches cX0_reaches 3 (some .boolean), Cond.methodLink RX0 123 yX0_isOpen, Cond.instanceMethod yX0_isOpen, Cond.selects RX0 yX0_isOpen yX0_isOpen, Cond.code yX0_isOpen cX0_isOpen 3 (some .boolean), Cond.methodLink RX0 129 yX0_hearBye]
def wsX1_share_r5 : List Cond := [Cond.instanceMethod yX0_hearBye, Cond.selects RX0 yX0_hearBye yX0_hearBye, Cond.code yX0_hearBye cX0_hearBye 5 none, Cond.methodLink RX0 119 yX0_knows, Cond.instanceMethod yX0_knows, Cond.selects RX0 yX0_knows yX0_knows, Cond.code yX0_knows cX0_knows 3 (some .boolean), Cond.methodLink RX0 116 yX0_sendReport, Cond.instanceMethod yX0_sendReport, Cond.selects RX0 yX0_sendReport yX0_sendReport, Cond.code yX0_sendReport cX0_sendReport 3 none, Cond.methodLink RX0 113 yX0_forgetOld, Cond.instanceMethod yX0_forgetOld, Cond.selects RX0 yX0_forgetOld yX0_forgetOld, Cond.code yX0_forgetOld cX0_forgetOld 5 none, Cond.methodLink RX1 175 yJ6_bitCount_0f7a4, Cond.methodLink RX1 180 yX1_fraction, Cond.static yX1_fraction, Cond.code yX1_fraction cX1_fraction 4 (some .int), Cond.methodLink RX1 156 Lib.Math.abs.name, Cond.static Lib.Math.abs.name, Cond.code Lib.Math.abs.name Lib.Math.abs.code 1 (some .int), Cond.methodLink RX1 200 yX1_greatestDivisor, Cond.static yX1_greatestDivisor]
def wsX1_share_r6 : List Cond := [Cond.code yX1_greatestDivisor cX1_greatestDivisor 6 (some .int), Cond.methodLink RX1 143 Lib.Math.max.name]
def wsX1_share : List Cond := .code yX1_share cX1_share 6 (some .int) :: ((wsX1_share_r1 ++ (wsX1_share_r2 ++ (wsX1_share_r3 ++ (wsX1_share_r4 ++ (wsX1_share_r5 ++ wsX1_share_r6))))) ++ wsX10 ++ wsX00)
def wsX1_likelihood : List Cond := .code yX1_likelihood cX1_likelihood 4 (some .int) :: ([])
def wsX1_chance_r1 : List Cond := [Cond.fieldLink RX1 53 "CrowdReports" "sentBy" "[I", Cond.constant RX1 187 (1000000), Cond.methodLink RX1 168 yX1_runSubsets, Cond.instanceMethod yX1_runSubsets, Cond.selects RX1 yX1_runSubsets yX1_runSubsets, Cond.initialized RX1, Cond.code yX1_runSubsets cX1_runSubsets 5 none, Cond.fieldLink RX1 10 "CrowdReports" "now" "LCrowdReports$Crowd;", Cond.fieldLink RX1 16 "CrowdReports" "trial" "LCrowdReports$Crowd;", Cond.methodLink RX1 219 yX0_feltBits, Cond.instanceMethod yX0_feltBits, Cond.selects RX0 yX0_feltBits yX0_feltBits, Cond.initialized RX0, Cond.code yX0_feltBits cX0_feltBits 3 (some .int), Cond.fieldLink RX0 37 "CrowdReports$Crowd" "known" "[I", Cond.fieldLink RX0 33 "CrowdReports$Crowd" "kind" "[I", Cond.methodLink RX1 60 yX0_takeFrom, Cond.instanceMethod yX0_takeFrom, Cond.selects RX0 yX0_takeFrom yX0_takeFrom, Cond.code yX0_takeFrom cX0_takeFrom 2 none, Cond.fieldLink RX0 9 "CrowdReports$Crowd" "size" "I", Cond.fieldLink RX0 15 "CrowdReports$Crowd" "rate" "I", Cond.fieldLink RX0 18 "CrowdReports$Crowd" "min" "I", Cond.fieldLink RX0 21 "CrowdReports$Crowd" "clock" "I"]
def wsX1_chance_r2 : List Cond := [Cond.fieldLink RX0 24 "CrowdReports$Crowd" "lot" "I", Cond.fieldLink RX0 27 "CrowdReports$Crowd" "reports" "I", Cond.fieldLink RX0 30 "CrowdReports$Crowd" "byes" "I", Cond.methodLink RX0 59 arraycopyName, Cond.native arraycopyName, Cond.static arraycopyName, Cond.initialized "java/lang/System", Cond.fieldLink RX0 40 "CrowdReports$Crowd" "begun" "[I", Cond.fieldLink RX0 43 "CrowdReports$Crowd" "due" "[I", Cond.fieldLink RX0 46 "CrowdReports$Crowd" "goers" "[I", Cond.fieldLink RX0 49 "CrowdReports$Crowd" "shut" "[I", Cond.fieldLink RX0 52 "CrowdReports$Crowd" "lastHeard" "[I", Cond.methodLink RX1 222 yX0_leaveOnly, Cond.instanceMethod yX0_leaveOnly, Cond.selects RX0 yX0_leaveOnly yX0_leaveOnly, Cond.code yX0_leaveOnly cX0_leaveOnly 3 none, Cond.methodLink RX0 55 yX0_goAway, Cond.instanceMethod yX0_goAway, Cond.selects RX0 yX0_goAway yX0_goAway, Cond.code yX0_goAway cX0_goAway 2 none, Cond.methodLink RX1 133 yX0_run, Cond.instanceMethod yX0_run, Cond.selects RX0 yX0_run yX0_run, Cond.code yX0_run cX0_run 5 (some .int)]
def wsX1_chance_r3 : List Cond := [Cond.methodLink RX0 106 yX0_sent, Cond.instanceMethod yX0_sent, Cond.selects RX0 yX0_sent yX0_sent, Cond.code yX0_sent cX0_sent 1 (some .int), Cond.methodLink RX0 110 yX0_comeDue, Cond.instanceMethod yX0_comeDue, Cond.selects RX0 yX0_comeDue yX0_comeDue, Cond.code yX0_comeDue cX0_comeDue 4 none, Cond.methodLink RX0 71 yX0_countOf, Cond.instanceMethod yX0_countOf, Cond.selects RX0 yX0_countOf yX0_countOf, Cond.code yX0_countOf cX0_countOf 2 (some .int), Cond.methodLink RX0 65 yJ6_bitCount_0f7a4, Cond.static yJ6_bitCount_0f7a4, Cond.initialized RJ6, Cond.code yJ6_bitCount_0f7a4 cJ6_bitCount_0f7a4 1 (some .int), Cond.constant RJ6 265 (1431655765), Cond.constant RJ6 266 (858993459), Cond.constant RJ6 267 (252645135), Cond.methodLink RX0 87 yX0_waitOf, Cond.instanceMethod yX0_waitOf, Cond.selects RX0 yX0_waitOf yX0_waitOf, Cond.code yX0_waitOf cX0_waitOf 3 (some .int), Cond.constant RX0 83 (65536)]
def wsX1_chance_r4 : List Cond := [Cond.methodLink RX0 77 Lib.Math.max.name, Cond.static Lib.Math.max.name, Cond.initialized "java/lang/Math", Cond.code Lib.Math.max.name Lib.Math.max.code 2 (some .int), Cond.methodLink RX0 84 yX0_spanOf, Cond.instanceMethod yX0_spanOf, Cond.selects RX0 yX0_spanOf yX0_spanOf, Cond.code yX0_spanOf cX0_spanOf 3 (some .int), Cond.methodLink RX0 97 yX0_sendBye, Cond.instanceMethod yX0_sendBye, Cond.selects RX0 yX0_sendBye yX0_sendBye, Cond.code yX0_sendBye cX0_sendBye 3 none, Cond.methodLink RX0 126 yX0_reaches, Cond.instanceMethod yX0_reaches, Cond.selects RX0 yX0_reaches yX0_reaches, Cond.code yX0_reaches cX0_reaches 3 (some .boolean), Cond.methodLink RX0 123 yX0_isOpen, Cond.instanceMethod yX0_isOpen, Cond.selects RX0 yX0_isOpen yX0_isOpen, Cond.code yX0_isOpen cX0_isOpen 3 (some .boolean), Cond.methodLink RX0 129 yX0_hearBye, Cond.instanceMethod yX0_hearBye, Cond.selects RX0 yX0_hearBye yX0_hearBye, Cond.code yX0_hearBye cX0_hearBye 5 none]
def wsX1_chance_r5 : List Cond := [Cond.methodLink RX0 119 yX0_knows, Cond.instanceMethod yX0_knows, Cond.selects RX0 yX0_knows yX0_knows, Cond.code yX0_knows cX0_knows 3 (some .boolean), Cond.methodLink RX0 116 yX0_sendReport, Cond.instanceMethod yX0_sendReport, Cond.selects RX0 yX0_sendReport yX0_sendReport, Cond.code yX0_sendReport cX0_sendReport 3 none, Cond.methodLink RX0 113 yX0_forgetOld, Cond.instanceMethod yX0_forgetOld, Cond.selects RX0 yX0_forgetOld yX0_forgetOld, Cond.code yX0_forgetOld cX0_forgetOld 5 none, Cond.methodLink RX1 184 yX1_likelihood, Cond.static yX1_likelihood, Cond.code yX1_likelihood cX1_likelihood 4 (some .int), Cond.methodLink RX1 180 yX1_fraction, Cond.static yX1_fraction, Cond.code yX1_fraction cX1_fraction 4 (some .int), Cond.methodLink RX1 156 Lib.Math.abs.name, Cond.static Lib.Math.abs.name, Cond.code Lib.Math.abs.name Lib.Math.abs.code 1 (some .int), Cond.methodLink RX1 200 yX1_greatestDivisor, Cond.static yX1_greatestDivisor, Cond.code yX1_greatestDivisor cX1_greatestDivisor 6 (some .int)]
def wsX1_chance_r6 : List Cond := [Cond.methodLink RX1 143 Lib.Math.max.name]
def wsX1_chance : List Cond := .code yX1_chance cX1_chance 6 (some .int) :: ((wsX1_chance_r1 ++ (wsX1_chance_r2 ++ (wsX1_chance_r3 ++ (wsX1_chance_r4 ++ (wsX1_chance_r5 ++ wsX1_chance_r6))))) ++ wsX10 ++ wsX00)
def wsX1_seed : List Cond := .code yX1_seed cX1_seed 5 (some .long) :: ([.fieldLink RX1 49 "CrowdReports" "lastSeed" "J"] ++ wsX10)
def wsX1_drawn_r1 : List Cond := [Cond.fieldLink RX1 16 "CrowdReports" "trial" "LCrowdReports$Crowd;", Cond.fieldLink RX1 10 "CrowdReports" "now" "LCrowdReports$Crowd;", Cond.fieldLink RX1 49 "CrowdReports" "lastSeed" "J", Cond.constantLong RX1 191 (6364136223846793005), Cond.constantLong RX1 193 (1442695040888963407), Cond.methodLink RX1 60 yX0_takeFrom, Cond.instanceMethod yX0_takeFrom, Cond.selects RX0 yX0_takeFrom yX0_takeFrom, Cond.initialized RX0, Cond.code yX0_takeFrom cX0_takeFrom 2 none, Cond.fieldLink RX0 9 "CrowdReports$Crowd" "size" "I", Cond.fieldLink RX0 15 "CrowdReports$Crowd" "rate" "I", Cond.fieldLink RX0 18 "CrowdReports$Crowd" "min" "I", Cond.fieldLink RX0 21 "CrowdReports$Crowd" "clock" "I", Cond.fieldLink RX0 24 "CrowdReports$Crowd" "lot" "I", Cond.fieldLink RX0 27 "CrowdReports$Crowd" "reports" "I", Cond.fieldLink RX0 30 "CrowdReports$Crowd" "byes" "I", Cond.fieldLink RX0 33 "CrowdReports$Crowd" "kind" "[I", Cond.methodLink RX0 59 arraycopyName, Cond.native arraycopyName, Cond.static arraycopyName, Cond.initialized "java/lang/System", Cond.fieldLink RX0 37 "CrowdReports$Crowd" "known" "[I", Cond.fieldLink RX0 40 "CrowdReports$Crowd" "begun" "[I"]
def wsX1_drawn_r2 : List Cond := [Cond.fieldLink RX0 43 "CrowdReports$Crowd" "due" "[I", Cond.fieldLink RX0 46 "CrowdReports$Crowd" "goers" "[I", Cond.fieldLink RX0 49 "CrowdReports$Crowd" "shut" "[I", Cond.fieldLink RX0 52 "CrowdReports$Crowd" "lastHeard" "[I", Cond.methodLink RX1 188 yX0_sent, Cond.instanceMethod yX0_sent, Cond.selects RX0 yX0_sent yX0_sent, Cond.code yX0_sent cX0_sent 1 (some .int), Cond.methodLink RX1 195 yX0_enterOrDepart, Cond.instanceMethod yX0_enterOrDepart, Cond.selects RX0 yX0_enterOrDepart yX0_enterOrDepart, Cond.code yX0_enterOrDepart cX0_enterOrDepart 2 none, Cond.methodLink RX0 100 yX0_enter, Cond.instanceMethod yX0_enter, Cond.selects RX0 yX0_enter yX0_enter, Cond.code yX0_enter cX0_enter 2 (some .boolean), Cond.static yX1_isMember, Cond.initialized RX1, Cond.code yX1_isMember cX1_isMember 1 (some .boolean), Cond.methodLink RX0 94 yX0_begin, Cond.instanceMethod yX0_begin, Cond.selects RX0 yX0_begin yX0_begin, Cond.code yX0_begin cX0_begin 2 none, Cond.methodLink RX0 87 yX0_waitOf]
def wsX1_drawn_r3 : List Cond := [Cond.instanceMethod yX0_waitOf, Cond.selects RX0 yX0_waitOf yX0_waitOf, Cond.code yX0_waitOf cX0_waitOf 3 (some .int), Cond.constant RX0 83 (65536), Cond.methodLink RX0 77 Lib.Math.max.name, Cond.static Lib.Math.max.name, Cond.initialized "java/lang/Math", Cond.code Lib.Math.max.name Lib.Math.max.code 2 (some .int), Cond.methodLink RX0 84 yX0_spanOf, Cond.instanceMethod yX0_spanOf, Cond.selects RX0 yX0_spanOf yX0_spanOf, Cond.code yX0_spanOf cX0_spanOf 3 (some .int), Cond.methodLink RX0 103 yX0_depart, Cond.instanceMethod yX0_depart, Cond.selects RX0 yX0_depart yX0_depart, Cond.code yX0_depart cX0_depart 2 (some .boolean), Cond.methodLink RX0 71 yX0_countOf, Cond.instanceMethod yX0_countOf, Cond.selects RX0 yX0_countOf yX0_countOf, Cond.code yX0_countOf cX0_countOf 2 (some .int), Cond.methodLink RX0 65 yJ6_bitCount_0f7a4, Cond.static yJ6_bitCount_0f7a4, Cond.initialized RJ6, Cond.code yJ6_bitCount_0f7a4 cJ6_bitCount_0f7a4 1 (some .int)]
def wsX1_drawn_r4 : List Cond := [Cond.constant RJ6 265 (1431655765), Cond.constant RJ6 266 (858993459), Cond.constant RJ6 267 (252645135), Cond.methodLink RX0 97 yX0_sendBye, Cond.instanceMethod yX0_sendBye, Cond.selects RX0 yX0_sendBye yX0_sendBye, Cond.code yX0_sendBye cX0_sendBye 3 none, Cond.methodLink RX0 55 yX0_goAway, Cond.instanceMethod yX0_goAway, Cond.selects RX0 yX0_goAway yX0_goAway, Cond.code yX0_goAway cX0_goAway 2 none, Cond.methodLink RX0 126 yX0_reaches, Cond.instanceMethod yX0_reaches, Cond.selects RX0 yX0_reaches yX0_reaches, Cond.code yX0_reaches cX0_reaches 3 (some .boolean), Cond.methodLink RX0 123 yX0_isOpen, Cond.instanceMethod yX0_isOpen, Cond.selects RX0 yX0_isOpen yX0_isOpen, Cond.code yX0_isOpen cX0_isOpen 3 (some .boolean), Cond.methodLink RX0 129 yX0_hearBye, Cond.instanceMethod yX0_hearBye, Cond.selects RX0 yX0_hearBye yX0_hearBye, Cond.code yX0_hearBye cX0_hearBye 5 none, Cond.methodLink RX0 119 yX0_knows]
def wsX1_drawn_r5 : List Cond := [Cond.instanceMethod yX0_knows, Cond.selects RX0 yX0_knows yX0_knows, Cond.code yX0_knows cX0_knows 3 (some .boolean), Cond.methodLink RX1 133 yX0_run, Cond.instanceMethod yX0_run, Cond.selects RX0 yX0_run yX0_run, Cond.code yX0_run cX0_run 5 (some .int), Cond.methodLink RX0 106 yX0_sent, Cond.methodLink RX0 110 yX0_comeDue, Cond.instanceMethod yX0_comeDue, Cond.selects RX0 yX0_comeDue yX0_comeDue, Cond.code yX0_comeDue cX0_comeDue 4 none, Cond.methodLink RX0 116 yX0_sendReport, Cond.instanceMethod yX0_sendReport, Cond.selects RX0 yX0_sendReport yX0_sendReport, Cond.code yX0_sendReport cX0_sendReport 3 none, Cond.methodLink RX0 113 yX0_forgetOld, Cond.instanceMethod yX0_forgetOld, Cond.selects RX0 yX0_forgetOld yX0_forgetOld, Cond.code yX0_forgetOld cX0_forgetOld 5 none]
def wsX1_drawn : List Cond := .code yX1_drawn cX1_drawn 5 (some .int) :: ((wsX1_drawn_r1 ++ (wsX1_drawn_r2 ++ (wsX1_drawn_r3 ++ (wsX1_drawn_r4 ++ wsX1_drawn_r5)))) ++ wsX10 ++ wsX00)
def wsX1_keep_r1 : List Cond := [Cond.fieldLink RX1 27 "CrowdReports" "slots" "[LCrowdReports$Crowd;", Cond.fieldLink RX1 10 "CrowdReports" "now" "LCrowdReports$Crowd;", Cond.fieldLink RX1 30 "CrowdReports" "keptBits" "I", Cond.fieldLink RX1 64 "CrowdReports$Crowd" "clock" "I", Cond.methodLink RX1 60 yX0_takeFrom, Cond.instanceMethod yX0_takeFrom, Cond.selects RX0 yX0_takeFrom yX0_takeFrom, Cond.initialized RX0, Cond.code yX0_takeFrom cX0_takeFrom 2 none, Cond.fieldLink RX0 9 "CrowdReports$Crowd" "size" "I", Cond.fieldLink RX0 15 "CrowdReports$Crowd" "rate" "I", Cond.fieldLink RX0 18 "CrowdReports$Crowd" "min" "I", Cond.fieldLink RX0 21 "CrowdReports$Crowd" "clock" "I", Cond.fieldLink RX0 24 "CrowdReports$Crowd" "lot" "I", Cond.fieldLink RX0 27 "CrowdReports$Crowd" "reports" "I", Cond.fieldLink RX0 30 "CrowdReports$Crowd" "byes" "I", Cond.fieldLink RX0 33 "CrowdReports$Crowd" "kind" "[I", Cond.methodLink RX0 59 arraycopyName, Cond.native arraycopyName, Cond.static arraycopyName, Cond.initialized "java/lang/System", Cond.fieldLink RX0 37 "CrowdReports$Crowd" "known" "[I", Cond.fieldLink RX0 40 "CrowdReports$Crowd" "begun" "[I", Cond.fieldLink RX0 43 "CrowdReports$Crowd" "due" "[I"]
def wsX1_keep_r2 : List Cond := [Cond.fieldLink RX0 46 "CrowdReports$Crowd" "goers" "[I", Cond.fieldLink RX0 49 "CrowdReports$Crowd" "shut" "[I", Cond.fieldLink RX0 52 "CrowdReports$Crowd" "lastHeard" "[I"]
def wsX1_keep : List Cond := .code yX1_keep cX1_keep 2 (some .int) :: ((wsX1_keep_r1 ++ wsX1_keep_r2) ++ wsX10 ++ wsX00)
def wsX1_again_r1 : List Cond := [Cond.fieldLink RX1 30 "CrowdReports" "keptBits" "I", Cond.fieldLink RX1 10 "CrowdReports" "now" "LCrowdReports$Crowd;", Cond.fieldLink RX1 27 "CrowdReports" "slots" "[LCrowdReports$Crowd;", Cond.fieldLink RX1 23 "CrowdReports" "acts" "I", Cond.fieldLink RX1 64 "CrowdReports$Crowd" "clock" "I", Cond.methodLink RX1 60 yX0_takeFrom, Cond.instanceMethod yX0_takeFrom, Cond.selects RX0 yX0_takeFrom yX0_takeFrom, Cond.initialized RX0, Cond.code yX0_takeFrom cX0_takeFrom 2 none, Cond.fieldLink RX0 9 "CrowdReports$Crowd" "size" "I", Cond.fieldLink RX0 15 "CrowdReports$Crowd" "rate" "I", Cond.fieldLink RX0 18 "CrowdReports$Crowd" "min" "I", Cond.fieldLink RX0 21 "CrowdReports$Crowd" "clock" "I", Cond.fieldLink RX0 24 "CrowdReports$Crowd" "lot" "I", Cond.fieldLink RX0 27 "CrowdReports$Crowd" "reports" "I", Cond.fieldLink RX0 30 "CrowdReports$Crowd" "byes" "I", Cond.fieldLink RX0 33 "CrowdReports$Crowd" "kind" "[I", Cond.methodLink RX0 59 arraycopyName, Cond.native arraycopyName, Cond.static arraycopyName, Cond.initialized "java/lang/System", Cond.fieldLink RX0 37 "CrowdReports$Crowd" "known" "[I", Cond.fieldLink RX0 40 "CrowdReports$Crowd" "begun" "[I"]
def wsX1_again_r2 : List Cond := [Cond.fieldLink RX0 43 "CrowdReports$Crowd" "due" "[I", Cond.fieldLink RX0 46 "CrowdReports$Crowd" "goers" "[I", Cond.fieldLink RX0 49 "CrowdReports$Crowd" "shut" "[I", Cond.fieldLink RX0 52 "CrowdReports$Crowd" "lastHeard" "[I"]
def wsX1_again : List Cond := .code yX1_again cX1_again 2 (some .int) :: ((wsX1_again_r1 ++ wsX1_again_r2) ++ wsX10 ++ wsX00)
def wsX2_clear : List Cond := .code yX2_clear cX2_clear 2 none :: ([])
def wsX2_init : List Cond := .code yX2_init cX2_init 1 none :: ([.methodLink RX2 1 objectInit, .instanceMethod objectInit, .code objectInit ⟨#[0xb1]⟩ 1 none, .arrayClass .int, .fieldLink RX2 7 "CrowdReportsModel" "text" "[I", .fieldLink RX2 13 "CrowdReportsModel" "now" "[I", .fieldLink RX2 16 "CrowdReportsModel" "trial" "[I", .fieldLink RX2 19 "CrowdReportsModel" "diary" "[I", .fieldLink RX2 22 "CrowdReportsModel" "kept" "[I", .arrayClass .boolean, .fieldLink RX2 25 "CrowdReportsModel" "isKept" "[Z", .fieldLink RX2 29 "CrowdReportsModel" "seenTicks" "[I", .fieldLink RX2 32 "CrowdReportsModel" "seenMany" "[I", .fieldLink RX2 35 "CrowdReportsModel" "worth" "[I", .fieldLink RX2 38 "CrowdReportsModel" "read" "[I", .methodLink RX2 41 yX2_clear, .static yX2_clear, .initialized RX2, .code yX2_clear cX2_clear 2 none] ++ wsX20)
def wsX2_copy : List Cond := .code yX2_copy cX2_copy 3 none :: ([])
def wsX2_in : List Cond := .code yX2_in cX2_in 6 (some .boolean) :: ([])
def wsX2_has : List Cond := .code yX2_has cX2_has 2 (some .boolean) :: ([])
def wsX2_ones : List Cond := .code yX2_ones cX2_ones 3 (some .int) :: ([])
def wsX2_power : List Cond := .code yX2_power cX2_power 4 (some .int) :: ([])
def wsX2_factorial : List Cond := .code yX2_factorial cX2_factorial 3 (some .int) :: ([])
def wsX2_fraction : List Cond := .code yX2_fraction cX2_fraction 6 (some .int) :: ([])
def wsX2_isMember : List Cond := .code yX2_isMember cX2_isMember 1 (some .boolean) :: ([.constantLong RX2 45 (5), .methodLink RX2 47 yX2_in, .static yX2_in, .initialized RX2, .code yX2_in cX2_in 6 (some .boolean)])
def wsX2_countOf : List Cond := .code yX2_countOf cX2_countOf 2 (some .int) :: ([.methodLink RX2 51 yX2_ones, .static yX2_ones, .initialized RX2, .code yX2_ones cX2_ones 3 (some .int)])
def wsX2_spanOf : List Cond := .code yX2_spanOf cX2_spanOf 3 (some .int) :: ([])
def wsX2_draw : List Cond := .code yX2_draw cX2_draw 1 (some .int) :: ([.constant RX2 55 (65536)])
def wsX2_waitOf : List Cond := .code yX2_waitOf cX2_waitOf 4 (some .int) :: ([.methodLink RX2 56 yX2_spanOf, .static yX2_spanOf, .initialized RX2, .code yX2_spanOf cX2_spanOf 3 (some .int), .methodLink RX2 60 yX2_draw, .static yX2_draw, .code yX2_draw cX2_draw 1 (some .int), .constant RX2 55 (65536)])
def wsX2_lettersOf : List Cond := .code yX2_lettersOf cX2_lettersOf 1 (some .int) :: ([])
def wsX2_reaches : List Cond := .code yX2_reaches cX2_reaches 3 (some .boolean) :: ([.methodLink RX2 64 yX2_has, .static yX2_has, .initialized RX2, .code yX2_has cX2_has 2 (some .boolean)])
def wsX2_report : List Cond := .code yX2_report cX2_report 3 none :: ([.methodLink RX2 68 yX2_reaches, .static yX2_reaches, .initialized RX2, .code yX2_reaches cX2_reaches 3 (some .boolean), .methodLink RX2 64 yX2_has, .static yX2_has, .code yX2_has cX2_has 2 (some .boolean)])
def wsX2_goAway : List Cond := .code yX2_goAway cX2_goAway 2 none :: ([])
def wsX2_bye : List Cond := .code yX2_bye cX2_bye 7 none :: ([.methodLink RX2 72 yX2_goAway, .static yX2_goAway, .initialized RX2, .code yX2_goAway cX2_goAway 2 none, .methodLink RX2 68 yX2_reaches, .static yX2_reaches, .code yX2_reaches cX2_reaches 3 (some .boolean), .methodLink RX2 64 yX2_has, .static yX2_has, .code yX2_has cX2_has 2 (some .boolean), .methodLink RX2 76 yX2_countOf, .static yX2_countOf, .code yX2_countOf cX2_countOf 2 (some .int), .methodLink RX2 51 yX2_ones, .static yX2_ones, .code yX2_ones cX2_ones 3 (some .int)])
def wsX2_joins : List Cond := .code yX2_joins cX2_joins 2 none :: ([.methodLink RX2 79 yX2_waitOf, .static yX2_waitOf, .initialized RX2, .code yX2_waitOf cX2_waitOf 4 (some .int), .methodLink RX2 56 yX2_spanOf, .static yX2_spanOf, .code yX2_spanOf cX2_spanOf 3 (some .int), .methodLink RX2 60 yX2_draw, .static yX2_draw, .code yX2_draw cX2_draw 1 (some .int), .constant RX2 55 (65536)])
def wsX2_leaves_r1 : List Cond := [Cond.methodLink RX2 76 yX2_countOf, Cond.static yX2_countOf, Cond.initialized RX2, Cond.code yX2_countOf cX2_countOf 2 (some .int), Cond.methodLink RX2 51 yX2_ones, Cond.static yX2_ones, Cond.code yX2_ones cX2_ones 3 (some .int), Cond.methodLink RX2 82 yX2_bye, Cond.static yX2_bye, Cond.code yX2_bye cX2_bye 7 none, Cond.methodLink RX2 72 yX2_goAway, Cond.static yX2_goAway, Cond.code yX2_goAway cX2_goAway 2 none, Cond.methodLink RX2 68 yX2_reaches, Cond.static yX2_reaches, Cond.code yX2_reaches cX2_reaches 3 (some .boolean), Cond.methodLink RX2 64 yX2_has, Cond.static yX2_has, Cond.code yX2_has cX2_has 2 (some .boolean), Cond.methodLink RX2 79 yX2_waitOf, Cond.static yX2_waitOf, Cond.code yX2_waitOf cX2_waitOf 4 (some .int), Cond.methodLink RX2 56 yX2_spanOf, Cond.static yX2_spanOf]
def wsX2_leaves_r2 : List Cond := [Cond.code yX2_spanOf cX2_spanOf 3 (some .int), Cond.methodLink RX2 60 yX2_draw, Cond.static yX2_draw, Cond.code yX2_draw cX2_draw 1 (some .int), Cond.constant RX2 55 (65536)]
def wsX2_leaves : List Cond := .code yX2_leaves cX2_leaves 2 none :: ((wsX2_leaves_r1 ++ wsX2_leaves_r2))
def wsX2_look_r1 : List Cond := [Cond.methodLink RX2 76 yX2_countOf, Cond.static yX2_countOf, Cond.initialized RX2, Cond.code yX2_countOf cX2_countOf 2 (some .int), Cond.methodLink RX2 51 yX2_ones, Cond.static yX2_ones, Cond.code yX2_ones cX2_ones 3 (some .int), Cond.methodLink RX2 79 yX2_waitOf, Cond.static yX2_waitOf, Cond.code yX2_waitOf cX2_waitOf 4 (some .int), Cond.methodLink RX2 56 yX2_spanOf, Cond.static yX2_spanOf, Cond.code yX2_spanOf cX2_spanOf 3 (some .int), Cond.methodLink RX2 60 yX2_draw, Cond.static yX2_draw, Cond.code yX2_draw cX2_draw 1 (some .int), Cond.constant RX2 55 (65536), Cond.methodLink RX2 85 yX2_report, Cond.static yX2_report, Cond.code yX2_report cX2_report 3 none, Cond.methodLink RX2 68 yX2_reaches, Cond.static yX2_reaches, Cond.code yX2_reaches cX2_reaches 3 (some .boolean), Cond.methodLink RX2 64 yX2_has]
def wsX2_look_r2 : List Cond := [Cond.static yX2_has, Cond.code yX2_has cX2_has 2 (some .boolean), Cond.methodLink RX2 82 yX2_bye, Cond.static yX2_bye, Cond.code yX2_bye cX2_bye 7 none, Cond.methodLink RX2 72 yX2_goAway, Cond.static yX2_goAway, Cond.code yX2_goAway cX2_goAway 2 none]
def wsX2_look : List Cond := .code yX2_look cX2_look 4 none :: ((wsX2_look_r1 ++ wsX2_look_r2))
def wsX2_forget : List Cond := .code yX2_forget cX2_forget 5 none :: ([.methodLink RX2 76 yX2_countOf, .static yX2_countOf, .initialized RX2, .code yX2_countOf cX2_countOf 2 (some .int), .methodLink RX2 51 yX2_ones, .static yX2_ones, .code yX2_ones cX2_ones 3 (some .int), .methodLink RX2 56 yX2_spanOf, .static yX2_spanOf, .code yX2_spanOf cX2_spanOf 3 (some .int), .methodLink RX2 64 yX2_has, .static yX2_has, .code yX2_has cX2_has 2 (some .boolean)])
def wsX2_tick_r1 : List Cond := [Cond.methodLink RX2 88 yX2_look, Cond.static yX2_look, Cond.initialized RX2, Cond.code yX2_look cX2_look 4 none, Cond.methodLink RX2 76 yX2_countOf, Cond.static yX2_countOf, Cond.code yX2_countOf cX2_countOf 2 (some .int), Cond.methodLink RX2 51 yX2_ones, Cond.static yX2_ones, Cond.code yX2_ones cX2_ones 3 (some .int), Cond.methodLink RX2 79 yX2_waitOf, Cond.static yX2_waitOf, Cond.code yX2_waitOf cX2_waitOf 4 (some .int), Cond.methodLink RX2 56 yX2_spanOf, Cond.static yX2_spanOf, Cond.code yX2_spanOf cX2_spanOf 3 (some .int), Cond.methodLink RX2 60 yX2_draw, Cond.static yX2_draw, Cond.code yX2_draw cX2_draw 1 (some .int), Cond.constant RX2 55 (65536), Cond.methodLink RX2 85 yX2_report, Cond.static yX2_report, Cond.code yX2_report cX2_report 3 none, Cond.methodLink RX2 68 yX2_reaches]
def wsX2_tick_r2 : List Cond := [Cond.static yX2_reaches, Cond.code yX2_reaches cX2_reaches 3 (some .boolean), Cond.methodLink RX2 64 yX2_has, Cond.static yX2_has, Cond.code yX2_has cX2_has 2 (some .boolean), Cond.methodLink RX2 82 yX2_bye, Cond.static yX2_bye, Cond.code yX2_bye cX2_bye 7 none, Cond.methodLink RX2 72 yX2_goAway, Cond.static yX2_goAway, Cond.code yX2_goAway cX2_goAway 2 none, Cond.methodLink RX2 91 yX2_forget, Cond.static yX2_forget, Cond.code yX2_forget cX2_forget 5 none]
def wsX2_tick : List Cond := .code yX2_tick cX2_tick 2 none :: ((wsX2_tick_r1 ++ wsX2_tick_r2))
def wsX2_passOn_r1 : List Cond := [Cond.methodLink RX2 94 yX2_lettersOf, Cond.static yX2_lettersOf, Cond.initialized RX2, Cond.code yX2_lettersOf cX2_lettersOf 1 (some .int), Cond.methodLink RX2 97 yX2_tick, Cond.static yX2_tick, Cond.code yX2_tick cX2_tick 2 none, Cond.methodLink RX2 88 yX2_look, Cond.static yX2_look, Cond.code yX2_look cX2_look 4 none, Cond.methodLink RX2 76 yX2_countOf, Cond.static yX2_countOf, Cond.code yX2_countOf cX2_countOf 2 (some .int), Cond.methodLink RX2 51 yX2_ones, Cond.static yX2_ones, Cond.code yX2_ones cX2_ones 3 (some .int), Cond.methodLink RX2 79 yX2_waitOf, Cond.static yX2_waitOf, Cond.code yX2_waitOf cX2_waitOf 4 (some .int), Cond.methodLink RX2 56 yX2_spanOf, Cond.static yX2_spanOf, Cond.code yX2_spanOf cX2_spanOf 3 (some .int), Cond.methodLink RX2 60 yX2_draw, Cond.static yX2_draw]
def wsX2_passOn_r2 : List Cond := [Cond.code yX2_draw cX2_draw 1 (some .int), Cond.constant RX2 55 (65536), Cond.methodLink RX2 85 yX2_report, Cond.static yX2_report, Cond.code yX2_report cX2_report 3 none, Cond.methodLink RX2 68 yX2_reaches, Cond.static yX2_reaches, Cond.code yX2_reaches cX2_reaches 3 (some .boolean), Cond.methodLink RX2 64 yX2_has, Cond.static yX2_has, Cond.code yX2_has cX2_has 2 (some .boolean), Cond.methodLink RX2 82 yX2_bye, Cond.static yX2_bye, Cond.code yX2_bye cX2_bye 7 none, Cond.methodLink RX2 72 yX2_goAway, Cond.static yX2_goAway, Cond.code yX2_goAway cX2_goAway 2 none, Cond.methodLink RX2 91 yX2_forget, Cond.static yX2_forget, Cond.code yX2_forget cX2_forget 5 none]
def wsX2_passOn : List Cond := .code yX2_passOn cX2_passOn 4 (some .int) :: ((wsX2_passOn_r1 ++ wsX2_passOn_r2))
def wsX2_write : List Cond := .code yX2_write cX2_write 2 (some .int) :: ([.constantLong RX2 100 (255), .fieldLink RX2 102 "CrowdReportsModel" "length" "I", .fieldLink RX2 7 "CrowdReportsModel" "text" "[I", .methodLink RX2 47 yX2_in, .static yX2_in, .initialized RX2, .code yX2_in cX2_in 6 (some .boolean)] ++ wsX20)
def wsX2_wipe : List Cond := .code yX2_wipe cX2_wipe 2 (some .int) :: ([.fieldLink RX2 102 "CrowdReportsModel" "length" "I"] ++ wsX20)
def wsX2_those : List Cond := .code yX2_those cX2_those 4 (some .int) :: ([])
def wsX2_readText_r1 : List Cond := [Cond.fieldLink RX2 38 "CrowdReportsModel" "read" "[I", Cond.fieldLink RX2 102 "CrowdReportsModel" "length" "I", Cond.fieldLink RX2 7 "CrowdReportsModel" "text" "[I", Cond.constantLong RX2 106 (9), Cond.methodLink RX2 41 yX2_clear, Cond.static yX2_clear, Cond.initialized RX2, Cond.code yX2_clear cX2_clear 2 none, Cond.methodLink RX2 47 yX2_in, Cond.static yX2_in, Cond.code yX2_in cX2_in 6 (some .boolean), Cond.methodLink RX2 108 yX2_passOn, Cond.static yX2_passOn, Cond.code yX2_passOn cX2_passOn 4 (some .int), Cond.methodLink RX2 94 yX2_lettersOf, Cond.static yX2_lettersOf, Cond.code yX2_lettersOf cX2_lettersOf 1 (some .int), Cond.methodLink RX2 97 yX2_tick, Cond.static yX2_tick, Cond.code yX2_tick cX2_tick 2 none, Cond.methodLink RX2 88 yX2_look, Cond.static yX2_look, Cond.code yX2_look cX2_look 4 none, Cond.methodLink RX2 76 yX2_countOf]
def wsX2_readText_r2 : List Cond := [Cond.static yX2_countOf, Cond.code yX2_countOf cX2_countOf 2 (some .int), Cond.methodLink RX2 51 yX2_ones, Cond.static yX2_ones, Cond.code yX2_ones cX2_ones 3 (some .int), Cond.methodLink RX2 79 yX2_waitOf, Cond.static yX2_waitOf, Cond.code yX2_waitOf cX2_waitOf 4 (some .int), Cond.methodLink RX2 56 yX2_spanOf, Cond.static yX2_spanOf, Cond.code yX2_spanOf cX2_spanOf 3 (some .int), Cond.methodLink RX2 60 yX2_draw, Cond.static yX2_draw, Cond.code yX2_draw cX2_draw 1 (some .int), Cond.constant RX2 55 (65536), Cond.methodLink RX2 85 yX2_report, Cond.static yX2_report, Cond.code yX2_report cX2_report 3 none, Cond.methodLink RX2 68 yX2_reaches, Cond.static yX2_reaches, Cond.code yX2_reaches cX2_reaches 3 (some .boolean), Cond.methodLink RX2 64 yX2_has, Cond.static yX2_has, Cond.code yX2_has cX2_has 2 (some .boolean)]
def wsX2_readText_r3 : List Cond := [Cond.methodLink RX2 82 yX2_bye, Cond.static yX2_bye, Cond.code yX2_bye cX2_bye 7 none, Cond.methodLink RX2 72 yX2_goAway, Cond.static yX2_goAway, Cond.code yX2_goAway cX2_goAway 2 none, Cond.methodLink RX2 91 yX2_forget, Cond.static yX2_forget, Cond.code yX2_forget cX2_forget 5 none, Cond.methodLink RX2 111 yX2_those, Cond.static yX2_those, Cond.code yX2_those cX2_those 4 (some .int), Cond.methodLink RX2 114 yX2_isMember, Cond.static yX2_isMember, Cond.code yX2_isMember cX2_isMember 1 (some .boolean), Cond.constantLong RX2 45 (5), Cond.methodLink RX2 118 yX2_joins, Cond.static yX2_joins, Cond.code yX2_joins cX2_joins 2 none, Cond.methodLink RX2 121 yX2_leaves, Cond.static yX2_leaves, Cond.code yX2_leaves cX2_leaves 2 none]
def wsX2_readText : List Cond := .code yX2_readText cX2_readText 7 (some .int) :: ((wsX2_readText_r1 ++ (wsX2_readText_r2 ++ wsX2_readText_r3)) ++ wsX20)
def wsX2_fault_r1 : List Cond := [Cond.methodLink RX2 124 yX2_readText, Cond.instanceMethod yX2_readText, Cond.selects RX2 yX2_readText yX2_readText, Cond.initialized RX2, Cond.code yX2_readText cX2_readText 7 (some .int), Cond.fieldLink RX2 38 "CrowdReportsModel" "read" "[I", Cond.fieldLink RX2 102 "CrowdReportsModel" "length" "I", Cond.fieldLink RX2 7 "CrowdReportsModel" "text" "[I", Cond.constantLong RX2 106 (9), Cond.methodLink RX2 41 yX2_clear, Cond.static yX2_clear, Cond.code yX2_clear cX2_clear 2 none, Cond.methodLink RX2 47 yX2_in, Cond.static yX2_in, Cond.code yX2_in cX2_in 6 (some .boolean), Cond.methodLink RX2 108 yX2_passOn, Cond.static yX2_passOn, Cond.code yX2_passOn cX2_passOn 4 (some .int), Cond.methodLink RX2 94 yX2_lettersOf, Cond.static yX2_lettersOf, Cond.code yX2_lettersOf cX2_lettersOf 1 (some .int), Cond.methodLink RX2 97 yX2_tick, Cond.static yX2_tick, Cond.code yX2_tick cX2_tick 2 none]
def wsX2_fault_r2 : List Cond := [Cond.methodLink RX2 88 yX2_look, Cond.static yX2_look, Cond.code yX2_look cX2_look 4 none, Cond.methodLink RX2 76 yX2_countOf, Cond.static yX2_countOf, Cond.code yX2_countOf cX2_countOf 2 (some .int), Cond.methodLink RX2 51 yX2_ones, Cond.static yX2_ones, Cond.code yX2_ones cX2_ones 3 (some .int), Cond.methodLink RX2 79 yX2_waitOf, Cond.static yX2_waitOf, Cond.code yX2_waitOf cX2_waitOf 4 (some .int), Cond.methodLink RX2 56 yX2_spanOf, Cond.static yX2_spanOf, Cond.code yX2_spanOf cX2_spanOf 3 (some .int), Cond.methodLink RX2 60 yX2_draw, Cond.static yX2_draw, Cond.code yX2_draw cX2_draw 1 (some .int), Cond.constant RX2 55 (65536), Cond.methodLink RX2 85 yX2_report, Cond.static yX2_report, Cond.code yX2_report cX2_report 3 none, Cond.methodLink RX2 68 yX2_reaches, Cond.static yX2_reaches]
def wsX2_fault_r3 : List Cond := [Cond.code yX2_reaches cX2_reaches 3 (some .boolean), Cond.methodLink RX2 64 yX2_has, Cond.static yX2_has, Cond.code yX2_has cX2_has 2 (some .boolean), Cond.methodLink RX2 82 yX2_bye, Cond.static yX2_bye, Cond.code yX2_bye cX2_bye 7 none, Cond.methodLink RX2 72 yX2_goAway, Cond.static yX2_goAway, Cond.code yX2_goAway cX2_goAway 2 none, Cond.methodLink RX2 91 yX2_forget, Cond.static yX2_forget, Cond.code yX2_forget cX2_forget 5 none, Cond.methodLink RX2 111 yX2_those, Cond.static yX2_those, Cond.code yX2_those cX2_those 4 (some .int), Cond.methodLink RX2 114 yX2_isMember, Cond.static yX2_isMember, Cond.code yX2_isMember cX2_isMember 1 (some .boolean), Cond.constantLong RX2 45 (5), Cond.methodLink RX2 118 yX2_joins, Cond.static yX2_joins, Cond.code yX2_joins cX2_joins 2 none, Cond.methodLink RX2 121 yX2_leaves]
def wsX2_fault_r4 : List Cond := [Cond.static yX2_leaves, Cond.code yX2_leaves cX2_leaves 2 none]
def wsX2_fault : List Cond := .code yX2_fault cX2_fault 1 (some .int) :: ((wsX2_fault_r1 ++ (wsX2_fault_r2 ++ (wsX2_fault_r3 ++ wsX2_fault_r4))) ++ wsX20)
def wsX2_meeting_r1 : List Cond := [Cond.fieldLink RX2 38 "CrowdReportsModel" "read" "[I", Cond.fieldLink RX2 13 "CrowdReportsModel" "now" "[I", Cond.fieldLink RX2 132 "CrowdReportsModel" "acts" "I", Cond.fieldLink RX2 25 "CrowdReportsModel" "isKept" "[Z", Cond.methodLink RX2 124 yX2_readText, Cond.instanceMethod yX2_readText, Cond.selects RX2 yX2_readText yX2_readText, Cond.initialized RX2, Cond.code yX2_readText cX2_readText 7 (some .int), Cond.fieldLink RX2 102 "CrowdReportsModel" "length" "I", Cond.fieldLink RX2 7 "CrowdReportsModel" "text" "[I", Cond.constantLong RX2 106 (9), Cond.methodLink RX2 41 yX2_clear, Cond.static yX2_clear, Cond.code yX2_clear cX2_clear 2 none, Cond.methodLink RX2 47 yX2_in, Cond.static yX2_in, Cond.code yX2_in cX2_in 6 (some .boolean), Cond.methodLink RX2 108 yX2_passOn, Cond.static yX2_passOn, Cond.code yX2_passOn cX2_passOn 4 (some .int), Cond.methodLink RX2 94 yX2_lettersOf, Cond.static yX2_lettersOf, Cond.code yX2_lettersOf cX2_lettersOf 1 (some .int)]
def wsX2_meeting_r2 : List Cond := [Cond.methodLink RX2 97 yX2_tick, Cond.static yX2_tick, Cond.code yX2_tick cX2_tick 2 none, Cond.methodLink RX2 88 yX2_look, Cond.static yX2_look, Cond.code yX2_look cX2_look 4 none, Cond.methodLink RX2 76 yX2_countOf, Cond.static yX2_countOf, Cond.code yX2_countOf cX2_countOf 2 (some .int), Cond.methodLink RX2 51 yX2_ones, Cond.static yX2_ones, Cond.code yX2_ones cX2_ones 3 (some .int), Cond.methodLink RX2 79 yX2_waitOf, Cond.static yX2_waitOf, Cond.code yX2_waitOf cX2_waitOf 4 (some .int), Cond.methodLink RX2 56 yX2_spanOf, Cond.static yX2_spanOf, Cond.code yX2_spanOf cX2_spanOf 3 (some .int), Cond.methodLink RX2 60 yX2_draw, Cond.static yX2_draw, Cond.code yX2_draw cX2_draw 1 (some .int), Cond.constant RX2 55 (65536), Cond.methodLink RX2 85 yX2_report, Cond.static yX2_report]
def wsX2_meeting_r3 : List Cond := [Cond.code yX2_report cX2_report 3 none, Cond.methodLink RX2 68 yX2_reaches, Cond.static yX2_reaches, Cond.code yX2_reaches cX2_reaches 3 (some .boolean), Cond.methodLink RX2 64 yX2_has, Cond.static yX2_has, Cond.code yX2_has cX2_has 2 (some .boolean), Cond.methodLink RX2 82 yX2_bye, Cond.static yX2_bye, Cond.code yX2_bye cX2_bye 7 none, Cond.methodLink RX2 72 yX2_goAway, Cond.static yX2_goAway, Cond.code yX2_goAway cX2_goAway 2 none, Cond.methodLink RX2 91 yX2_forget, Cond.static yX2_forget, Cond.code yX2_forget cX2_forget 5 none, Cond.methodLink RX2 111 yX2_those, Cond.static yX2_those, Cond.code yX2_those cX2_those 4 (some .int), Cond.methodLink RX2 114 yX2_isMember, Cond.static yX2_isMember, Cond.code yX2_isMember cX2_isMember 1 (some .boolean), Cond.constantLong RX2 45 (5), Cond.methodLink RX2 118 yX2_joins]
def wsX2_meeting_r4 : List Cond := [Cond.static yX2_joins, Cond.code yX2_joins cX2_joins 2 none, Cond.methodLink RX2 121 yX2_leaves, Cond.static yX2_leaves, Cond.code yX2_leaves cX2_leaves 2 none, Cond.methodLink RX2 128 yX2_copy, Cond.static yX2_copy, Cond.code yX2_copy cX2_copy 3 none]
def wsX2_meeting : List Cond := .code yX2_meeting cX2_meeting 1 (some .int) :: ((wsX2_meeting_r1 ++ (wsX2_meeting_r2 ++ (wsX2_meeting_r3 ++ wsX2_meeting_r4))) ++ wsX20)
def wsX2_rest_r1 : List Cond := [Cond.fieldLink RX2 13 "CrowdReportsModel" "now" "[I", Cond.fieldLink RX2 16 "CrowdReportsModel" "trial" "[I", Cond.methodLink RX2 128 yX2_copy, Cond.static yX2_copy, Cond.initialized RX2, Cond.code yX2_copy cX2_copy 3 none, Cond.methodLink RX2 111 yX2_those, Cond.static yX2_those, Cond.code yX2_those cX2_those 4 (some .int), Cond.methodLink RX2 97 yX2_tick, Cond.static yX2_tick, Cond.code yX2_tick cX2_tick 2 none, Cond.methodLink RX2 88 yX2_look, Cond.static yX2_look, Cond.code yX2_look cX2_look 4 none, Cond.methodLink RX2 76 yX2_countOf, Cond.static yX2_countOf, Cond.code yX2_countOf cX2_countOf 2 (some .int), Cond.methodLink RX2 51 yX2_ones, Cond.static yX2_ones, Cond.code yX2_ones cX2_ones 3 (some .int), Cond.methodLink RX2 79 yX2_waitOf, Cond.static yX2_waitOf, Cond.code yX2_waitOf cX2_waitOf 4 (some .int)]
def wsX2_rest_r2 : List Cond := [Cond.methodLink RX2 56 yX2_spanOf, Cond.static yX2_spanOf, Cond.code yX2_spanOf cX2_spanOf 3 (some .int), Cond.methodLink RX2 60 yX2_draw, Cond.static yX2_draw, Cond.code yX2_draw cX2_draw 1 (some .int), Cond.constant RX2 55 (65536), Cond.methodLink RX2 85 yX2_report, Cond.static yX2_report, Cond.code yX2_report cX2_report 3 none, Cond.methodLink RX2 68 yX2_reaches, Cond.static yX2_reaches, Cond.code yX2_reaches cX2_reaches 3 (some .boolean), Cond.methodLink RX2 64 yX2_has, Cond.static yX2_has, Cond.code yX2_has cX2_has 2 (some .boolean), Cond.methodLink RX2 82 yX2_bye, Cond.static yX2_bye, Cond.code yX2_bye cX2_bye 7 none, Cond.methodLink RX2 72 yX2_goAway, Cond.static yX2_goAway, Cond.code yX2_goAway cX2_goAway 2 none, Cond.methodLink RX2 91 yX2_forget, Cond.static yX2_forget]
def wsX2_rest_r3 : List Cond := [Cond.code yX2_forget cX2_forget 5 none]
def wsX2_rest : List Cond := .code yX2_rest cX2_rest 5 (some .int) :: ((wsX2_rest_r1 ++ (wsX2_rest_r2 ++ wsX2_rest_r3)) ++ wsX20)
def wsX2_about_r1 : List Cond := [Cond.fieldLink RX2 13 "CrowdReportsModel" "now" "[I", Cond.fieldLink RX2 132 "CrowdReportsModel" "acts" "I", Cond.fieldLink RX2 138 "CrowdReportsModel" "seen" "I", Cond.fieldLink RX2 102 "CrowdReportsModel" "length" "I", Cond.methodLink RX2 111 yX2_those, Cond.static yX2_those, Cond.initialized RX2, Cond.code yX2_those cX2_those 4 (some .int), Cond.methodLink RX2 135 yX2_rest, Cond.instanceMethod yX2_rest, Cond.selects RX2 yX2_rest yX2_rest, Cond.code yX2_rest cX2_rest 5 (some .int), Cond.fieldLink RX2 16 "CrowdReportsModel" "trial" "[I", Cond.methodLink RX2 128 yX2_copy, Cond.static yX2_copy, Cond.code yX2_copy cX2_copy 3 none, Cond.methodLink RX2 97 yX2_tick, Cond.static yX2_tick, Cond.code yX2_tick cX2_tick 2 none, Cond.methodLink RX2 88 yX2_look, Cond.static yX2_look, Cond.code yX2_look cX2_look 4 none, Cond.methodLink RX2 76 yX2_countOf, Cond.static yX2_countOf]
def wsX2_about_r2 : List Cond := [Cond.code yX2_countOf cX2_countOf 2 (some .int), Cond.methodLink RX2 51 yX2_ones, Cond.static yX2_ones, Cond.code yX2_ones cX2_ones 3 (some .int), Cond.methodLink RX2 79 yX2_waitOf, Cond.static yX2_waitOf, Cond.code yX2_waitOf cX2_waitOf 4 (some .int), Cond.methodLink RX2 56 yX2_spanOf, Cond.static yX2_spanOf, Cond.code yX2_spanOf cX2_spanOf 3 (some .int), Cond.methodLink RX2 60 yX2_draw, Cond.static yX2_draw, Cond.code yX2_draw cX2_draw 1 (some .int), Cond.constant RX2 55 (65536), Cond.methodLink RX2 85 yX2_report, Cond.static yX2_report, Cond.code yX2_report cX2_report 3 none, Cond.methodLink RX2 68 yX2_reaches, Cond.static yX2_reaches, Cond.code yX2_reaches cX2_reaches 3 (some .boolean), Cond.methodLink RX2 64 yX2_has, Cond.static yX2_has, Cond.code yX2_has cX2_has 2 (some .boolean), Cond.methodLink RX2 82 yX2_bye]
def wsX2_about_r3 : List Cond := [Cond.static yX2_bye, Cond.code yX2_bye cX2_bye 7 none, Cond.methodLink RX2 72 yX2_goAway, Cond.static yX2_goAway, Cond.code yX2_goAway cX2_goAway 2 none, Cond.methodLink RX2 91 yX2_forget, Cond.static yX2_forget, Cond.code yX2_forget cX2_forget 5 none]
def wsX2_about : List Cond := .code yX2_about cX2_about 2 (some .int) :: ((wsX2_about_r1 ++ (wsX2_about_r2 ++ wsX2_about_r3)) ++ wsX20)
def wsX2_member : List Cond := .code yX2_member cX2_member 3 (some .int) :: ([.fieldLink RX2 13 "CrowdReportsModel" "now" "[I", .methodLink RX2 114 yX2_isMember, .static yX2_isMember, .initialized RX2, .code yX2_isMember cX2_isMember 1 (some .boolean), .constantLong RX2 45 (5), .methodLink RX2 47 yX2_in, .static yX2_in, .code yX2_in cX2_in 6 (some .boolean), .methodLink RX2 76 yX2_countOf, .static yX2_countOf, .code yX2_countOf cX2_countOf 2 (some .int), .methodLink RX2 51 yX2_ones, .static yX2_ones, .code yX2_ones cX2_ones 3 (some .int)] ++ wsX20)
def wsX2_heard : List Cond := .code yX2_heard cX2_heard 3 (some .int) :: ([.fieldLink RX2 13 "CrowdReportsModel" "now" "[I", .methodLink RX2 114 yX2_isMember, .static yX2_isMember, .initialized RX2, .code yX2_isMember cX2_isMember 1 (some .boolean), .constantLong RX2 45 (5), .methodLink RX2 47 yX2_in, .static yX2_in, .code yX2_in cX2_in 6 (some .boolean), .methodLink RX2 64 yX2_has, .static yX2_has, .code yX2_has cX2_has 2 (some .boolean)] ++ wsX20)
def wsX2_way : List Cond := .code yX2_way cX2_way 3 (some .int) :: ([.fieldLink RX2 13 "CrowdReportsModel" "now" "[I", .methodLink RX2 114 yX2_isMember, .static yX2_isMember, .initialized RX2, .code yX2_isMember cX2_isMember 1 (some .boolean), .constantLong RX2 45 (5), .methodLink RX2 47 yX2_in, .static yX2_in, .code yX2_in cX2_in 6 (some .boolean), .methodLink RX2 64 yX2_has, .static yX2_has, .code yX2_has cX2_has 2 (some .boolean)] ++ wsX20)
def wsX2_note : List Cond := .code yX2_note cX2_note 2 none :: ([.fieldLink RX2 19 "CrowdReportsModel" "diary" "[I", .fieldLink RX2 141 "CrowdReportsModel" "next" "I", .fieldLink RX2 13 "CrowdReportsModel" "now" "[I", .fieldLink RX2 132 "CrowdReportsModel" "acts" "I"] ++ wsX20)
def wsX2_join_r1 : List Cond := [Cond.fieldLink RX2 13 "CrowdReportsModel" "now" "[I", Cond.methodLink RX2 114 yX2_isMember, Cond.static yX2_isMember, Cond.initialized RX2, Cond.code yX2_isMember cX2_isMember 1 (some .boolean), Cond.constantLong RX2 45 (5), Cond.methodLink RX2 47 yX2_in, Cond.static yX2_in, Cond.code yX2_in cX2_in 6 (some .boolean), Cond.methodLink RX2 144 yX2_note, Cond.instanceMethod yX2_note, Cond.selects RX2 yX2_note yX2_note, Cond.code yX2_note cX2_note 2 none, Cond.fieldLink RX2 19 "CrowdReportsModel" "diary" "[I", Cond.fieldLink RX2 141 "CrowdReportsModel" "next" "I", Cond.fieldLink RX2 132 "CrowdReportsModel" "acts" "I", Cond.methodLink RX2 118 yX2_joins, Cond.static yX2_joins, Cond.code yX2_joins cX2_joins 2 none, Cond.methodLink RX2 79 yX2_waitOf, Cond.static yX2_waitOf, Cond.code yX2_waitOf cX2_waitOf 4 (some .int), Cond.methodLink RX2 56 yX2_spanOf, Cond.static yX2_spanOf]
def wsX2_join_r2 : List Cond := [Cond.code yX2_spanOf cX2_spanOf 3 (some .int), Cond.methodLink RX2 60 yX2_draw, Cond.static yX2_draw, Cond.code yX2_draw cX2_draw 1 (some .int), Cond.constant RX2 55 (65536)]
def wsX2_join : List Cond := .code yX2_join cX2_join 2 (some .int) :: ((wsX2_join_r1 ++ wsX2_join_r2) ++ wsX20)
def wsX2_leave_r1 : List Cond := [Cond.fieldLink RX2 13 "CrowdReportsModel" "now" "[I", Cond.methodLink RX2 114 yX2_isMember, Cond.static yX2_isMember, Cond.initialized RX2, Cond.code yX2_isMember cX2_isMember 1 (some .boolean), Cond.constantLong RX2 45 (5), Cond.methodLink RX2 47 yX2_in, Cond.static yX2_in, Cond.code yX2_in cX2_in 6 (some .boolean), Cond.methodLink RX2 144 yX2_note, Cond.instanceMethod yX2_note, Cond.selects RX2 yX2_note yX2_note, Cond.code yX2_note cX2_note 2 none, Cond.fieldLink RX2 19 "CrowdReportsModel" "diary" "[I", Cond.fieldLink RX2 141 "CrowdReportsModel" "next" "I", Cond.fieldLink RX2 132 "CrowdReportsModel" "acts" "I", Cond.methodLink RX2 121 yX2_leaves, Cond.static yX2_leaves, Cond.code yX2_leaves cX2_leaves 2 none, Cond.methodLink RX2 76 yX2_countOf, Cond.static yX2_countOf, Cond.code yX2_countOf cX2_countOf 2 (some .int), Cond.methodLink RX2 51 yX2_ones, Cond.static yX2_ones]
def wsX2_leave_r2 : List Cond := [Cond.code yX2_ones cX2_ones 3 (some .int), Cond.methodLink RX2 82 yX2_bye, Cond.static yX2_bye, Cond.code yX2_bye cX2_bye 7 none, Cond.methodLink RX2 72 yX2_goAway, Cond.static yX2_goAway, Cond.code yX2_goAway cX2_goAway 2 none, Cond.methodLink RX2 68 yX2_reaches, Cond.static yX2_reaches, Cond.code yX2_reaches cX2_reaches 3 (some .boolean), Cond.methodLink RX2 64 yX2_has, Cond.static yX2_has, Cond.code yX2_has cX2_has 2 (some .boolean), Cond.methodLink RX2 79 yX2_waitOf, Cond.static yX2_waitOf, Cond.code yX2_waitOf cX2_waitOf 4 (some .int), Cond.methodLink RX2 56 yX2_spanOf, Cond.static yX2_spanOf, Cond.code yX2_spanOf cX2_spanOf 3 (some .int), Cond.methodLink RX2 60 yX2_draw, Cond.static yX2_draw, Cond.code yX2_draw cX2_draw 1 (some .int), Cond.constant RX2 55 (65536)]
def wsX2_leave : List Cond := .code yX2_leave cX2_leave 2 (some .int) :: ((wsX2_leave_r1 ++ wsX2_leave_r2) ++ wsX20)
def wsX2_pass_r1 : List Cond := [Cond.constantLong RX2 147 (30), Cond.fieldLink RX2 13 "CrowdReportsModel" "now" "[I", Cond.methodLink RX2 47 yX2_in, Cond.static yX2_in, Cond.initialized RX2, Cond.code yX2_in cX2_in 6 (some .boolean), Cond.methodLink RX2 144 yX2_note, Cond.instanceMethod yX2_note, Cond.selects RX2 yX2_note yX2_note, Cond.code yX2_note cX2_note 2 none, Cond.fieldLink RX2 19 "CrowdReportsModel" "diary" "[I", Cond.fieldLink RX2 141 "CrowdReportsModel" "next" "I", Cond.fieldLink RX2 132 "CrowdReportsModel" "acts" "I", Cond.methodLink RX2 108 yX2_passOn, Cond.static yX2_passOn, Cond.code yX2_passOn cX2_passOn 4 (some .int), Cond.methodLink RX2 94 yX2_lettersOf, Cond.static yX2_lettersOf, Cond.code yX2_lettersOf cX2_lettersOf 1 (some .int), Cond.methodLink RX2 97 yX2_tick, Cond.static yX2_tick, Cond.code yX2_tick cX2_tick 2 none, Cond.methodLink RX2 88 yX2_look, Cond.static yX2_look]
def wsX2_pass_r2 : List Cond := [Cond.code yX2_look cX2_look 4 none, Cond.methodLink RX2 76 yX2_countOf, Cond.static yX2_countOf, Cond.code yX2_countOf cX2_countOf 2 (some .int), Cond.methodLink RX2 51 yX2_ones, Cond.static yX2_ones, Cond.code yX2_ones cX2_ones 3 (some .int), Cond.methodLink RX2 79 yX2_waitOf, Cond.static yX2_waitOf, Cond.code yX2_waitOf cX2_waitOf 4 (some .int), Cond.methodLink RX2 56 yX2_spanOf, Cond.static yX2_spanOf, Cond.code yX2_spanOf cX2_spanOf 3 (some .int), Cond.methodLink RX2 60 yX2_draw, Cond.static yX2_draw, Cond.code yX2_draw cX2_draw 1 (some .int), Cond.constant RX2 55 (65536), Cond.methodLink RX2 85 yX2_report, Cond.static yX2_report, Cond.code yX2_report cX2_report 3 none, Cond.methodLink RX2 68 yX2_reaches, Cond.static yX2_reaches, Cond.code yX2_reaches cX2_reaches 3 (some .boolean), Cond.methodLink RX2 64 yX2_has]
def wsX2_pass_r3 : List Cond := [Cond.static yX2_has, Cond.code yX2_has cX2_has 2 (some .boolean), Cond.methodLink RX2 82 yX2_bye, Cond.static yX2_bye, Cond.code yX2_bye cX2_bye 7 none, Cond.methodLink RX2 72 yX2_goAway, Cond.static yX2_goAway, Cond.code yX2_goAway cX2_goAway 2 none, Cond.methodLink RX2 91 yX2_forget, Cond.static yX2_forget, Cond.code yX2_forget cX2_forget 5 none]
def wsX2_pass : List Cond := .code yX2_pass cX2_pass 2 (some .int) :: ((wsX2_pass_r1 ++ (wsX2_pass_r2 ++ wsX2_pass_r3)) ++ wsX20)
def wsX2_turn : List Cond := .code yX2_turn cX2_turn 3 (some .int) :: ([.fieldLink RX2 13 "CrowdReportsModel" "now" "[I", .methodLink RX2 114 yX2_isMember, .static yX2_isMember, .initialized RX2, .code yX2_isMember cX2_isMember 1 (some .boolean), .constantLong RX2 45 (5), .methodLink RX2 47 yX2_in, .static yX2_in, .code yX2_in cX2_in 6 (some .boolean), .methodLink RX2 144 yX2_note, .instanceMethod yX2_note, .selects RX2 yX2_note yX2_note, .code yX2_note cX2_note 2 none, .fieldLink RX2 19 "CrowdReportsModel" "diary" "[I", .fieldLink RX2 141 "CrowdReportsModel" "next" "I", .fieldLink RX2 132 "CrowdReportsModel" "acts" "I", .methodLink RX2 64 yX2_has, .static yX2_has, .code yX2_has cX2_has 2 (some .boolean)] ++ wsX20)
def wsX2_set : List Cond := .code yX2_set cX2_set 4 (some .int) :: ([.constantLong RX2 149 (2), .constantLong RX2 106 (9), .fieldLink RX2 13 "CrowdReportsModel" "now" "[I", .methodLink RX2 47 yX2_in, .static yX2_in, .initialized RX2, .code yX2_in cX2_in 6 (some .boolean), .methodLink RX2 144 yX2_note, .instanceMethod yX2_note, .selects RX2 yX2_note yX2_note, .code yX2_note cX2_note 2 none, .fieldLink RX2 19 "CrowdReportsModel" "diary" "[I", .fieldLink RX2 141 "CrowdReportsModel" "next" "I", .fieldLink RX2 132 "CrowdReportsModel" "acts" "I"] ++ wsX20)
def wsX2_undo : List Cond := .code yX2_undo cX2_undo 2 (some .int) :: ([.fieldLink RX2 132 "CrowdReportsModel" "acts" "I", .fieldLink RX2 141 "CrowdReportsModel" "next" "I", .fieldLink RX2 13 "CrowdReportsModel" "now" "[I", .fieldLink RX2 19 "CrowdReportsModel" "diary" "[I"] ++ wsX20)
def wsX2_ahead_r1 : List Cond := [Cond.constantLong RX2 151 (99), Cond.constantLong RX2 153 (3), Cond.fieldLink RX2 13 "CrowdReportsModel" "now" "[I", Cond.fieldLink RX2 16 "CrowdReportsModel" "trial" "[I", Cond.methodLink RX2 47 yX2_in, Cond.static yX2_in, Cond.initialized RX2, Cond.code yX2_in cX2_in 6 (some .boolean), Cond.methodLink RX2 128 yX2_copy, Cond.static yX2_copy, Cond.code yX2_copy cX2_copy 3 none, Cond.methodLink RX2 108 yX2_passOn, Cond.static yX2_passOn, Cond.code yX2_passOn cX2_passOn 4 (some .int), Cond.methodLink RX2 94 yX2_lettersOf, Cond.static yX2_lettersOf, Cond.code yX2_lettersOf cX2_lettersOf 1 (some .int), Cond.methodLink RX2 97 yX2_tick, Cond.static yX2_tick, Cond.code yX2_tick cX2_tick 2 none, Cond.methodLink RX2 88 yX2_look, Cond.static yX2_look, Cond.code yX2_look cX2_look 4 none, Cond.methodLink RX2 76 yX2_countOf]
def wsX2_ahead_r2 : List Cond := [Cond.static yX2_countOf, Cond.code yX2_countOf cX2_countOf 2 (some .int), Cond.methodLink RX2 51 yX2_ones, Cond.static yX2_ones, Cond.code yX2_ones cX2_ones 3 (some .int), Cond.methodLink RX2 79 yX2_waitOf, Cond.static yX2_waitOf, Cond.code yX2_waitOf cX2_waitOf 4 (some .int), Cond.methodLink RX2 56 yX2_spanOf, Cond.static yX2_spanOf, Cond.code yX2_spanOf cX2_spanOf 3 (some .int), Cond.methodLink RX2 60 yX2_draw, Cond.static yX2_draw, Cond.code yX2_draw cX2_draw 1 (some .int), Cond.constant RX2 55 (65536), Cond.methodLink RX2 85 yX2_report, Cond.static yX2_report, Cond.code yX2_report cX2_report 3 none, Cond.methodLink RX2 68 yX2_reaches, Cond.static yX2_reaches, Cond.code yX2_reaches cX2_reaches 3 (some .boolean), Cond.methodLink RX2 64 yX2_has, Cond.static yX2_has, Cond.code yX2_has cX2_has 2 (some .boolean)]
def wsX2_ahead_r3 : List Cond := [Cond.methodLink RX2 82 yX2_bye, Cond.static yX2_bye, Cond.code yX2_bye cX2_bye 7 none, Cond.methodLink RX2 72 yX2_goAway, Cond.static yX2_goAway, Cond.code yX2_goAway cX2_goAway 2 none, Cond.methodLink RX2 91 yX2_forget, Cond.static yX2_forget, Cond.code yX2_forget cX2_forget 5 none, Cond.methodLink RX2 111 yX2_those, Cond.static yX2_those, Cond.code yX2_those cX2_those 4 (some .int)]
def wsX2_ahead : List Cond := .code yX2_ahead cX2_ahead 4 (some .int) :: ((wsX2_ahead_r1 ++ (wsX2_ahead_r2 ++ wsX2_ahead_r3)) ++ wsX20)
def wsX2_crowd_r1 : List Cond := [Cond.constantLong RX2 151 (99), Cond.fieldLink RX2 13 "CrowdReportsModel" "now" "[I", Cond.fieldLink RX2 16 "CrowdReportsModel" "trial" "[I", Cond.methodLink RX2 47 yX2_in, Cond.static yX2_in, Cond.initialized RX2, Cond.code yX2_in cX2_in 6 (some .boolean), Cond.methodLink RX2 128 yX2_copy, Cond.static yX2_copy, Cond.code yX2_copy cX2_copy 3 none, Cond.methodLink RX2 108 yX2_passOn, Cond.static yX2_passOn, Cond.code yX2_passOn cX2_passOn 4 (some .int), Cond.methodLink RX2 94 yX2_lettersOf, Cond.static yX2_lettersOf, Cond.code yX2_lettersOf cX2_lettersOf 1 (some .int), Cond.methodLink RX2 97 yX2_tick, Cond.static yX2_tick, Cond.code yX2_tick cX2_tick 2 none, Cond.methodLink RX2 88 yX2_look, Cond.static yX2_look, Cond.code yX2_look cX2_look 4 none, Cond.methodLink RX2 76 yX2_countOf, Cond.static yX2_countOf]
def wsX2_crowd_r2 : List Cond := [Cond.code yX2_countOf cX2_countOf 2 (some .int), Cond.methodLink RX2 51 yX2_ones, Cond.static yX2_ones, Cond.code yX2_ones cX2_ones 3 (some .int), Cond.methodLink RX2 79 yX2_waitOf, Cond.static yX2_waitOf, Cond.code yX2_waitOf cX2_waitOf 4 (some .int), Cond.methodLink RX2 56 yX2_spanOf, Cond.static yX2_spanOf, Cond.code yX2_spanOf cX2_spanOf 3 (some .int), Cond.methodLink RX2 60 yX2_draw, Cond.static yX2_draw, Cond.code yX2_draw cX2_draw 1 (some .int), Cond.constant RX2 55 (65536), Cond.methodLink RX2 85 yX2_report, Cond.static yX2_report, Cond.code yX2_report cX2_report 3 none, Cond.methodLink RX2 68 yX2_reaches, Cond.static yX2_reaches, Cond.code yX2_reaches cX2_reaches 3 (some .boolean), Cond.methodLink RX2 64 yX2_has, Cond.static yX2_has, Cond.code yX2_has cX2_has 2 (some .boolean), Cond.methodLink RX2 82 yX2_bye]
def wsX2_crowd_r3 : List Cond := [Cond.static yX2_bye, Cond.code yX2_bye cX2_bye 7 none, Cond.methodLink RX2 72 yX2_goAway, Cond.static yX2_goAway, Cond.code yX2_goAway cX2_goAway 2 none, Cond.methodLink RX2 91 yX2_forget, Cond.static yX2_forget, Cond.code yX2_forget cX2_forget 5 none]
def wsX2_crowd : List Cond := .code yX2_crowd cX2_crowd 5 (some .int) :: ((wsX2_crowd_r1 ++ (wsX2_crowd_r2 ++ wsX2_crowd_r3)) ++ wsX20)
def wsX2_longPower : List Cond := .code yX2_longPower cX2_longPower 6 (some .long) :: ([])
def wsX2_jitter : List Cond := .code yX2_jitter cX2_jitter 9 (some .int) :: ([.constantLong RX2 155 (6), .constantLong RX2 157 (100), .methodLink RX2 47 yX2_in, .static yX2_in, .initialized RX2, .code yX2_in cX2_in 6 (some .boolean), .methodLink RX2 159 yX2_longPower, .static yX2_longPower, .code yX2_longPower cX2_longPower 6 (some .long)])
def wsX2_round : List Cond := .code yX2_round cX2_round 5 (some .int) :: ([.constantLong RX2 163 (9999), .methodLink RX2 47 yX2_in, .static yX2_in, .initialized RX2, .code yX2_in cX2_in 6 (some .boolean)])
def wsX2_judged_r1 : List Cond := [Cond.fieldLink RX2 16 "CrowdReportsModel" "trial" "[I", Cond.constantLong RX2 147 (30), Cond.methodLink RX2 114 yX2_isMember, Cond.static yX2_isMember, Cond.initialized RX2, Cond.code yX2_isMember cX2_isMember 1 (some .boolean), Cond.constantLong RX2 45 (5), Cond.methodLink RX2 47 yX2_in, Cond.static yX2_in, Cond.code yX2_in cX2_in 6 (some .boolean), Cond.methodLink RX2 118 yX2_joins, Cond.static yX2_joins, Cond.code yX2_joins cX2_joins 2 none, Cond.methodLink RX2 79 yX2_waitOf, Cond.static yX2_waitOf, Cond.code yX2_waitOf cX2_waitOf 4 (some .int), Cond.methodLink RX2 56 yX2_spanOf, Cond.static yX2_spanOf, Cond.code yX2_spanOf cX2_spanOf 3 (some .int), Cond.methodLink RX2 60 yX2_draw, Cond.static yX2_draw, Cond.code yX2_draw cX2_draw 1 (some .int), Cond.constant RX2 55 (65536), Cond.methodLink RX2 121 yX2_leaves]
def wsX2_judged_r2 : List Cond := [Cond.static yX2_leaves, Cond.code yX2_leaves cX2_leaves 2 none, Cond.methodLink RX2 76 yX2_countOf, Cond.static yX2_countOf, Cond.code yX2_countOf cX2_countOf 2 (some .int), Cond.methodLink RX2 51 yX2_ones, Cond.static yX2_ones, Cond.code yX2_ones cX2_ones 3 (some .int), Cond.methodLink RX2 82 yX2_bye, Cond.static yX2_bye, Cond.code yX2_bye cX2_bye 7 none, Cond.methodLink RX2 72 yX2_goAway, Cond.static yX2_goAway, Cond.code yX2_goAway cX2_goAway 2 none, Cond.methodLink RX2 68 yX2_reaches, Cond.static yX2_reaches, Cond.code yX2_reaches cX2_reaches 3 (some .boolean), Cond.methodLink RX2 64 yX2_has, Cond.static yX2_has, Cond.code yX2_has cX2_has 2 (some .boolean), Cond.methodLink RX2 108 yX2_passOn, Cond.static yX2_passOn, Cond.code yX2_passOn cX2_passOn 4 (some .int), Cond.methodLink RX2 94 yX2_lettersOf]
def wsX2_judged_r3 : List Cond := [Cond.static yX2_lettersOf, Cond.code yX2_lettersOf cX2_lettersOf 1 (some .int), Cond.methodLink RX2 97 yX2_tick, Cond.static yX2_tick, Cond.code yX2_tick cX2_tick 2 none, Cond.methodLink RX2 88 yX2_look, Cond.static yX2_look, Cond.code yX2_look cX2_look 4 none, Cond.methodLink RX2 85 yX2_report, Cond.static yX2_report, Cond.code yX2_report cX2_report 3 none, Cond.methodLink RX2 91 yX2_forget, Cond.static yX2_forget, Cond.code yX2_forget cX2_forget 5 none]
def wsX2_judged : List Cond := .code yX2_judged cX2_judged 6 (some .boolean) :: ((wsX2_judged_r1 ++ (wsX2_judged_r2 ++ wsX2_judged_r3)) ++ wsX20)
def wsX2_judge_r1 : List Cond := [Cond.constantLong RX2 165 (4), Cond.constantLong RX2 167 (1000), Cond.fieldLink RX2 13 "CrowdReportsModel" "now" "[I", Cond.fieldLink RX2 16 "CrowdReportsModel" "trial" "[I", Cond.methodLink RX2 47 yX2_in, Cond.static yX2_in, Cond.initialized RX2, Cond.code yX2_in cX2_in 6 (some .boolean), Cond.methodLink RX2 159 yX2_longPower, Cond.static yX2_longPower, Cond.code yX2_longPower cX2_longPower 6 (some .long), Cond.methodLink RX2 128 yX2_copy, Cond.static yX2_copy, Cond.code yX2_copy cX2_copy 3 none, Cond.methodLink RX2 169 yX2_judged, Cond.instanceMethod yX2_judged, Cond.selects RX2 yX2_judged yX2_judged, Cond.code yX2_judged cX2_judged 6 (some .boolean), Cond.constantLong RX2 147 (30), Cond.methodLink RX2 114 yX2_isMember, Cond.static yX2_isMember, Cond.code yX2_isMember cX2_isMember 1 (some .boolean), Cond.constantLong RX2 45 (5), Cond.methodLink RX2 118 yX2_joins]
def wsX2_judge_r2 : List Cond := [Cond.static yX2_joins, Cond.code yX2_joins cX2_joins 2 none, Cond.methodLink RX2 79 yX2_waitOf, Cond.static yX2_waitOf, Cond.code yX2_waitOf cX2_waitOf 4 (some .int), Cond.methodLink RX2 56 yX2_spanOf, Cond.static yX2_spanOf, Cond.code yX2_spanOf cX2_spanOf 3 (some .int), Cond.methodLink RX2 60 yX2_draw, Cond.static yX2_draw, Cond.code yX2_draw cX2_draw 1 (some .int), Cond.constant RX2 55 (65536), Cond.methodLink RX2 121 yX2_leaves, Cond.static yX2_leaves, Cond.code yX2_leaves cX2_leaves 2 none, Cond.methodLink RX2 76 yX2_countOf, Cond.static yX2_countOf, Cond.code yX2_countOf cX2_countOf 2 (some .int), Cond.methodLink RX2 51 yX2_ones, Cond.static yX2_ones, Cond.code yX2_ones cX2_ones 3 (some .int), Cond.methodLink RX2 82 yX2_bye, Cond.static yX2_bye, Cond.code yX2_bye cX2_bye 7 none]
def wsX2_judge_r3 : List Cond := [Cond.methodLink RX2 72 yX2_goAway, Cond.static yX2_goAway, Cond.code yX2_goAway cX2_goAway 2 none, Cond.methodLink RX2 68 yX2_reaches, Cond.static yX2_reaches, Cond.code yX2_reaches cX2_reaches 3 (some .boolean), Cond.methodLink RX2 64 yX2_has, Cond.static yX2_has, Cond.code yX2_has cX2_has 2 (some .boolean), Cond.methodLink RX2 108 yX2_passOn, Cond.static yX2_passOn, Cond.code yX2_passOn cX2_passOn 4 (some .int), Cond.methodLink RX2 94 yX2_lettersOf, Cond.static yX2_lettersOf, Cond.code yX2_lettersOf cX2_lettersOf 1 (some .int), Cond.methodLink RX2 97 yX2_tick, Cond.static yX2_tick, Cond.code yX2_tick cX2_tick 2 none, Cond.methodLink RX2 88 yX2_look, Cond.static yX2_look, Cond.code yX2_look cX2_look 4 none, Cond.methodLink RX2 85 yX2_report, Cond.static yX2_report, Cond.code yX2_report cX2_report 3 none]
def wsX2_judge_r4 : List Cond := [Cond.methodLink RX2 91 yX2_forget, Cond.static yX2_forget, Cond.code yX2_forget cX2_forget 5 none]
def wsX2_judge : List Cond := .code yX2_judge cX2_judge 6 (some .int) :: ((wsX2_judge_r1 ++ (wsX2_judge_r2 ++ (wsX2_judge_r3 ++ wsX2_judge_r4))) ++ wsX20)
def wsX2_see : List Cond := .code yX2_see cX2_see 3 (some .int) :: ([.constantLong RX2 173 (60), .constantLong RX2 151 (99), .fieldLink RX2 138 "CrowdReportsModel" "seen" "I", .fieldLink RX2 29 "CrowdReportsModel" "seenTicks" "[I", .fieldLink RX2 32 "CrowdReportsModel" "seenMany" "[I", .methodLink RX2 47 yX2_in, .static yX2_in, .initialized RX2, .code yX2_in cX2_in 6 (some .boolean)] ++ wsX20)
def wsX2_unsee : List Cond := .code yX2_unsee cX2_unsee 2 (some .int) :: ([.fieldLink RX2 138 "CrowdReportsModel" "seen" "I"] ++ wsX20)
def wsX2_which_r1 : List Cond := [Cond.fieldLink RX2 138 "CrowdReportsModel" "seen" "I", Cond.fieldLink RX2 13 "CrowdReportsModel" "now" "[I", Cond.fieldLink RX2 16 "CrowdReportsModel" "trial" "[I", Cond.fieldLink RX2 29 "CrowdReportsModel" "seenTicks" "[I", Cond.fieldLink RX2 32 "CrowdReportsModel" "seenMany" "[I", Cond.methodLink RX2 128 yX2_copy, Cond.static yX2_copy, Cond.initialized RX2, Cond.code yX2_copy cX2_copy 3 none, Cond.methodLink RX2 108 yX2_passOn, Cond.static yX2_passOn, Cond.code yX2_passOn cX2_passOn 4 (some .int), Cond.methodLink RX2 94 yX2_lettersOf, Cond.static yX2_lettersOf, Cond.code yX2_lettersOf cX2_lettersOf 1 (some .int), Cond.methodLink RX2 97 yX2_tick, Cond.static yX2_tick, Cond.code yX2_tick cX2_tick 2 none, Cond.methodLink RX2 88 yX2_look, Cond.static yX2_look, Cond.code yX2_look cX2_look 4 none, Cond.methodLink RX2 76 yX2_countOf, Cond.static yX2_countOf, Cond.code yX2_countOf cX2_countOf 2 (some .int)]
def wsX2_which_r2 : List Cond := [Cond.methodLink RX2 51 yX2_ones, Cond.static yX2_ones, Cond.code yX2_ones cX2_ones 3 (some .int), Cond.methodLink RX2 79 yX2_waitOf, Cond.static yX2_waitOf, Cond.code yX2_waitOf cX2_waitOf 4 (some .int), Cond.methodLink RX2 56 yX2_spanOf, Cond.static yX2_spanOf, Cond.code yX2_spanOf cX2_spanOf 3 (some .int), Cond.methodLink RX2 60 yX2_draw, Cond.static yX2_draw, Cond.code yX2_draw cX2_draw 1 (some .int), Cond.constant RX2 55 (65536), Cond.methodLink RX2 85 yX2_report, Cond.static yX2_report, Cond.code yX2_report cX2_report 3 none, Cond.methodLink RX2 68 yX2_reaches, Cond.static yX2_reaches, Cond.code yX2_reaches cX2_reaches 3 (some .boolean), Cond.methodLink RX2 64 yX2_has, Cond.static yX2_has, Cond.code yX2_has cX2_has 2 (some .boolean), Cond.methodLink RX2 82 yX2_bye, Cond.static yX2_bye]
def wsX2_which_r3 : List Cond := [Cond.code yX2_bye cX2_bye 7 none, Cond.methodLink RX2 72 yX2_goAway, Cond.static yX2_goAway, Cond.code yX2_goAway cX2_goAway 2 none, Cond.methodLink RX2 91 yX2_forget, Cond.static yX2_forget, Cond.code yX2_forget cX2_forget 5 none]
def wsX2_which : List Cond := .code yX2_which cX2_which 5 (some .int) :: ((wsX2_which_r1 ++ (wsX2_which_r2 ++ wsX2_which_r3)) ++ wsX20)
def wsX2_lettersBy_r1 : List Cond := [Cond.fieldLink RX2 13 "CrowdReportsModel" "now" "[I", Cond.fieldLink RX2 16 "CrowdReportsModel" "trial" "[I", Cond.methodLink RX2 128 yX2_copy, Cond.static yX2_copy, Cond.initialized RX2, Cond.code yX2_copy cX2_copy 3 none, Cond.methodLink RX2 64 yX2_has, Cond.static yX2_has, Cond.code yX2_has cX2_has 2 (some .boolean), Cond.methodLink RX2 72 yX2_goAway, Cond.static yX2_goAway, Cond.code yX2_goAway cX2_goAway 2 none, Cond.methodLink RX2 108 yX2_passOn, Cond.static yX2_passOn, Cond.code yX2_passOn cX2_passOn 4 (some .int), Cond.methodLink RX2 94 yX2_lettersOf, Cond.static yX2_lettersOf, Cond.code yX2_lettersOf cX2_lettersOf 1 (some .int), Cond.methodLink RX2 97 yX2_tick, Cond.static yX2_tick, Cond.code yX2_tick cX2_tick 2 none, Cond.methodLink RX2 88 yX2_look, Cond.static yX2_look, Cond.code yX2_look cX2_look 4 none]
def wsX2_lettersBy_r2 : List Cond := [Cond.methodLink RX2 76 yX2_countOf, Cond.static yX2_countOf, Cond.code yX2_countOf cX2_countOf 2 (some .int), Cond.methodLink RX2 51 yX2_ones, Cond.static yX2_ones, Cond.code yX2_ones cX2_ones 3 (some .int), Cond.methodLink RX2 79 yX2_waitOf, Cond.static yX2_waitOf, Cond.code yX2_waitOf cX2_waitOf 4 (some .int), Cond.methodLink RX2 56 yX2_spanOf, Cond.static yX2_spanOf, Cond.code yX2_spanOf cX2_spanOf 3 (some .int), Cond.methodLink RX2 60 yX2_draw, Cond.static yX2_draw, Cond.code yX2_draw cX2_draw 1 (some .int), Cond.constant RX2 55 (65536), Cond.methodLink RX2 85 yX2_report, Cond.static yX2_report, Cond.code yX2_report cX2_report 3 none, Cond.methodLink RX2 68 yX2_reaches, Cond.static yX2_reaches, Cond.code yX2_reaches cX2_reaches 3 (some .boolean), Cond.methodLink RX2 82 yX2_bye, Cond.static yX2_bye]
def wsX2_lettersBy_r3 : List Cond := [Cond.code yX2_bye cX2_bye 7 none, Cond.methodLink RX2 91 yX2_forget, Cond.static yX2_forget, Cond.code yX2_forget cX2_forget 5 none]
def wsX2_lettersBy : List Cond := .code yX2_lettersBy cX2_lettersBy 4 (some .int) :: ((wsX2_lettersBy_r1 ++ (wsX2_lettersBy_r2 ++ wsX2_lettersBy_r3)) ++ wsX20)
def wsX2_share_r1 : List Cond := [Cond.fieldLink RX2 35 "CrowdReportsModel" "worth" "[I", Cond.methodLink RX2 114 yX2_isMember, Cond.static yX2_isMember, Cond.initialized RX2, Cond.code yX2_isMember cX2_isMember 1 (some .boolean), Cond.constantLong RX2 45 (5), Cond.methodLink RX2 47 yX2_in, Cond.static yX2_in, Cond.code yX2_in cX2_in 6 (some .boolean), Cond.methodLink RX2 175 yX2_lettersBy, Cond.instanceMethod yX2_lettersBy, Cond.selects RX2 yX2_lettersBy yX2_lettersBy, Cond.code yX2_lettersBy cX2_lettersBy 4 (some .int), Cond.fieldLink RX2 13 "CrowdReportsModel" "now" "[I", Cond.fieldLink RX2 16 "CrowdReportsModel" "trial" "[I", Cond.methodLink RX2 128 yX2_copy, Cond.static yX2_copy, Cond.code yX2_copy cX2_copy 3 none, Cond.methodLink RX2 64 yX2_has, Cond.static yX2_has, Cond.code yX2_has cX2_has 2 (some .boolean), Cond.methodLink RX2 72 yX2_goAway, Cond.static yX2_goAway, Cond.code yX2_goAway cX2_goAway 2 none]
def wsX2_share_r2 : List Cond := [Cond.methodLink RX2 108 yX2_passOn, Cond.static yX2_passOn, Cond.code yX2_passOn cX2_passOn 4 (some .int), Cond.methodLink RX2 94 yX2_lettersOf, Cond.static yX2_lettersOf, Cond.code yX2_lettersOf cX2_lettersOf 1 (some .int), Cond.methodLink RX2 97 yX2_tick, Cond.static yX2_tick, Cond.code yX2_tick cX2_tick 2 none, Cond.methodLink RX2 88 yX2_look, Cond.static yX2_look, Cond.code yX2_look cX2_look 4 none, Cond.methodLink RX2 76 yX2_countOf, Cond.static yX2_countOf, Cond.code yX2_countOf cX2_countOf 2 (some .int), Cond.methodLink RX2 51 yX2_ones, Cond.static yX2_ones, Cond.code yX2_ones cX2_ones 3 (some .int), Cond.methodLink RX2 79 yX2_waitOf, Cond.static yX2_waitOf, Cond.code yX2_waitOf cX2_waitOf 4 (some .int), Cond.methodLink RX2 56 yX2_spanOf, Cond.static yX2_spanOf, Cond.code yX2_spanOf cX2_spanOf 3 (some .int)]
def wsX2_share_r3 : List Cond := [Cond.methodLink RX2 60 yX2_draw, Cond.static yX2_draw, Cond.code yX2_draw cX2_draw 1 (some .int), Cond.constant RX2 55 (65536), Cond.methodLink RX2 85 yX2_report, Cond.static yX2_report, Cond.code yX2_report cX2_report 3 none, Cond.methodLink RX2 68 yX2_reaches, Cond.static yX2_reaches, Cond.code yX2_reaches cX2_reaches 3 (some .boolean), Cond.methodLink RX2 82 yX2_bye, Cond.static yX2_bye, Cond.code yX2_bye cX2_bye 7 none, Cond.methodLink RX2 91 yX2_forget, Cond.static yX2_forget, Cond.code yX2_forget cX2_forget 5 none, Cond.methodLink RX2 179 yX2_factorial, Cond.static yX2_factorial, Cond.code yX2_factorial cX2_factorial 3 (some .int), Cond.methodLink RX2 182 yX2_fraction, Cond.static yX2_fraction, Cond.code yX2_fraction cX2_fraction 6 (some .int)]
def wsX2_share : List Cond := .code yX2_share cX2_share 6 (some .int) :: ((wsX2_share_r1 ++ (wsX2_share_r2 ++ wsX2_share_r3)) ++ wsX20)
def wsX2_chance_r1 : List Cond := [Cond.constantLong RX2 151 (99), Cond.constantLong RX2 186 (10), Cond.methodLink RX2 47 yX2_in, Cond.static yX2_in, Cond.initialized RX2, Cond.code yX2_in cX2_in 6 (some .boolean), Cond.methodLink RX2 51 yX2_ones, Cond.static yX2_ones, Cond.code yX2_ones cX2_ones 3 (some .int), Cond.methodLink RX2 175 yX2_lettersBy, Cond.instanceMethod yX2_lettersBy, Cond.selects RX2 yX2_lettersBy yX2_lettersBy, Cond.code yX2_lettersBy cX2_lettersBy 4 (some .int), Cond.fieldLink RX2 13 "CrowdReportsModel" "now" "[I", Cond.fieldLink RX2 16 "CrowdReportsModel" "trial" "[I", Cond.methodLink RX2 128 yX2_copy, Cond.static yX2_copy, Cond.code yX2_copy cX2_copy 3 none, Cond.methodLink RX2 64 yX2_has, Cond.static yX2_has, Cond.code yX2_has cX2_has 2 (some .boolean), Cond.methodLink RX2 72 yX2_goAway, Cond.static yX2_goAway, Cond.code yX2_goAway cX2_goAway 2 none]
def wsX2_chance_r2 : List Cond := [Cond.methodLink RX2 108 yX2_passOn, Cond.static yX2_passOn, Cond.code yX2_passOn cX2_passOn 4 (some .int), Cond.methodLink RX2 94 yX2_lettersOf, Cond.static yX2_lettersOf, Cond.code yX2_lettersOf cX2_lettersOf 1 (some .int), Cond.methodLink RX2 97 yX2_tick, Cond.static yX2_tick, Cond.code yX2_tick cX2_tick 2 none, Cond.methodLink RX2 88 yX2_look, Cond.static yX2_look, Cond.code yX2_look cX2_look 4 none, Cond.methodLink RX2 76 yX2_countOf, Cond.static yX2_countOf, Cond.code yX2_countOf cX2_countOf 2 (some .int), Cond.methodLink RX2 79 yX2_waitOf, Cond.static yX2_waitOf, Cond.code yX2_waitOf cX2_waitOf 4 (some .int), Cond.methodLink RX2 56 yX2_spanOf, Cond.static yX2_spanOf, Cond.code yX2_spanOf cX2_spanOf 3 (some .int), Cond.methodLink RX2 60 yX2_draw, Cond.static yX2_draw, Cond.code yX2_draw cX2_draw 1 (some .int)]
def wsX2_chance_r3 : List Cond := [Cond.constant RX2 55 (65536), Cond.methodLink RX2 85 yX2_report, Cond.static yX2_report, Cond.code yX2_report cX2_report 3 none, Cond.methodLink RX2 68 yX2_reaches, Cond.static yX2_reaches, Cond.code yX2_reaches cX2_reaches 3 (some .boolean), Cond.methodLink RX2 82 yX2_bye, Cond.static yX2_bye, Cond.code yX2_bye cX2_bye 7 none, Cond.methodLink RX2 91 yX2_forget, Cond.static yX2_forget, Cond.code yX2_forget cX2_forget 5 none, Cond.methodLink RX2 188 yX2_power, Cond.static yX2_power, Cond.code yX2_power cX2_power 4 (some .int), Cond.methodLink RX2 182 yX2_fraction, Cond.static yX2_fraction, Cond.code yX2_fraction cX2_fraction 6 (some .int)]
def wsX2_chance : List Cond := .code yX2_chance cX2_chance 7 (some .int) :: ((wsX2_chance_r1 ++ (wsX2_chance_r2 ++ wsX2_chance_r3)) ++ wsX20)
def wsX2_seed : List Cond := .code yX2_seed cX2_seed 5 (some .long) :: ([.fieldLink RX2 191 "CrowdReportsModel" "seed" "J"] ++ wsX20)
def wsX2_drawn_r1 : List Cond := [Cond.constantLong RX2 195 (40), Cond.fieldLink RX2 13 "CrowdReportsModel" "now" "[I", Cond.fieldLink RX2 16 "CrowdReportsModel" "trial" "[I", Cond.fieldLink RX2 191 "CrowdReportsModel" "seed" "J", Cond.constantLong RX2 197 (6364136223846793005), Cond.constantLong RX2 199 (1442695040888963407), Cond.methodLink RX2 47 yX2_in, Cond.static yX2_in, Cond.initialized RX2, Cond.code yX2_in cX2_in 6 (some .boolean), Cond.methodLink RX2 128 yX2_copy, Cond.static yX2_copy, Cond.code yX2_copy cX2_copy 3 none, Cond.methodLink RX2 118 yX2_joins, Cond.static yX2_joins, Cond.code yX2_joins cX2_joins 2 none, Cond.methodLink RX2 79 yX2_waitOf, Cond.static yX2_waitOf, Cond.code yX2_waitOf cX2_waitOf 4 (some .int), Cond.methodLink RX2 56 yX2_spanOf, Cond.static yX2_spanOf, Cond.code yX2_spanOf cX2_spanOf 3 (some .int), Cond.methodLink RX2 60 yX2_draw, Cond.static yX2_draw]
def wsX2_drawn_r2 : List Cond := [Cond.code yX2_draw cX2_draw 1 (some .int), Cond.constant RX2 55 (65536), Cond.methodLink RX2 121 yX2_leaves, Cond.static yX2_leaves, Cond.code yX2_leaves cX2_leaves 2 none, Cond.methodLink RX2 76 yX2_countOf, Cond.static yX2_countOf, Cond.code yX2_countOf cX2_countOf 2 (some .int), Cond.methodLink RX2 51 yX2_ones, Cond.static yX2_ones, Cond.code yX2_ones cX2_ones 3 (some .int), Cond.methodLink RX2 82 yX2_bye, Cond.static yX2_bye, Cond.code yX2_bye cX2_bye 7 none, Cond.methodLink RX2 72 yX2_goAway, Cond.static yX2_goAway, Cond.code yX2_goAway cX2_goAway 2 none, Cond.methodLink RX2 68 yX2_reaches, Cond.static yX2_reaches, Cond.code yX2_reaches cX2_reaches 3 (some .boolean), Cond.methodLink RX2 64 yX2_has, Cond.static yX2_has, Cond.code yX2_has cX2_has 2 (some .boolean), Cond.methodLink RX2 97 yX2_tick]
def wsX2_drawn_r3 : List Cond := [Cond.static yX2_tick, Cond.code yX2_tick cX2_tick 2 none, Cond.methodLink RX2 88 yX2_look, Cond.static yX2_look, Cond.code yX2_look cX2_look 4 none, Cond.methodLink RX2 85 yX2_report, Cond.static yX2_report, Cond.code yX2_report cX2_report 3 none, Cond.methodLink RX2 91 yX2_forget, Cond.static yX2_forget, Cond.code yX2_forget cX2_forget 5 none, Cond.methodLink RX2 94 yX2_lettersOf, Cond.static yX2_lettersOf, Cond.code yX2_lettersOf cX2_lettersOf 1 (some .int)]
def wsX2_drawn : List Cond := .code yX2_drawn cX2_drawn 5 (some .int) :: ((wsX2_drawn_r1 ++ (wsX2_drawn_r2 ++ wsX2_drawn_r3)) ++ wsX20)
def wsX2_keep : List Cond := .code yX2_keep cX2_keep 3 (some .int) :: ([.fieldLink RX2 25 "CrowdReportsModel" "isKept" "[Z", .fieldLink RX2 22 "CrowdReportsModel" "kept" "[I", .fieldLink RX2 13 "CrowdReportsModel" "now" "[I", .methodLink RX2 47 yX2_in, .static yX2_in, .initialized RX2, .code yX2_in cX2_in 6 (some .boolean)] ++ wsX20)
def wsX2_again : List Cond := .code yX2_again cX2_again 3 (some .int) :: ([.fieldLink RX2 25 "CrowdReportsModel" "isKept" "[Z", .fieldLink RX2 13 "CrowdReportsModel" "now" "[I", .fieldLink RX2 22 "CrowdReportsModel" "kept" "[I", .fieldLink RX2 132 "CrowdReportsModel" "acts" "I", .methodLink RX2 47 yX2_in, .static yX2_in, .initialized RX2, .code yX2_in cX2_in 6 (some .boolean)] ++ wsX20)
def wsJ9_abs_0f7a4 : List Cond := .code yJ9_abs_0f7a4 cJ9_abs_0f7a4 1 (some .int) :: ([])
def wsJ9_max_7cf53 : List Cond := .code yJ9_max_7cf53 cJ9_max_7cf53 2 (some .int) :: ([])
def wsL_law_r1 : List Cond := [Cond.classLink RL 7 RX1, Cond.instantiable RX1 13, Cond.initialized RX1, Cond.classLink RL 10 RX2, Cond.instantiable RX2 15, Cond.initialized RX2, Cond.constantLong RL 80 (4294967295), Cond.methodLink RL 9 yX1_init, Cond.instanceMethod yX1_init, Cond.code yX1_init cX1_init 2 none, Cond.methodLink RX1 1 objectInit, Cond.instanceMethod objectInit, Cond.code objectInit ⟨#[0xb1]⟩ 1 none, Cond.classLink RX1 7 RX0, Cond.instantiable RX0 14, Cond.initialized RX0, Cond.fieldLink RX1 10 "CrowdReports" "now" "LCrowdReports$Crowd;", Cond.fieldLink RX1 16 "CrowdReports" "trial" "LCrowdReports$Crowd;", Cond.fieldLink RX1 19 "CrowdReports" "past" "[LCrowdReports$Crowd;", Cond.fieldLink RX1 23 "CrowdReports" "acts" "I", Cond.fieldLink RX1 27 "CrowdReports" "slots" "[LCrowdReports$Crowd;", Cond.fieldLink RX1 30 "CrowdReports" "keptBits" "I", Cond.arrayClass .int, Cond.fieldLink RX1 33 "CrowdReports" "text" "[I"]
def wsL_law_r2 : List Cond := [Cond.fieldLink RX1 37 "CrowdReports" "letters" "I", Cond.fieldLink RX1 40 "CrowdReports" "seenTicks" "[I", Cond.fieldLink RX1 43 "CrowdReports" "seenLetters" "[I", Cond.fieldLink RX1 46 "CrowdReports" "seen" "I", Cond.fieldLink RX1 49 "CrowdReports" "lastSeed" "J", Cond.fieldLink RX1 53 "CrowdReports" "sentBy" "[I", Cond.instanceMethod yX0_init, Cond.code yX0_init cX0_init 1 none, Cond.methodLink RX0 3 objectInit, Cond.fieldLink RX0 9 "CrowdReports$Crowd" "size" "I", Cond.fieldLink RX0 15 "CrowdReports$Crowd" "rate" "I", Cond.fieldLink RX0 18 "CrowdReports$Crowd" "min" "I", Cond.fieldLink RX0 21 "CrowdReports$Crowd" "clock" "I", Cond.fieldLink RX0 24 "CrowdReports$Crowd" "lot" "I", Cond.fieldLink RX0 27 "CrowdReports$Crowd" "reports" "I", Cond.fieldLink RX0 30 "CrowdReports$Crowd" "byes" "I", Cond.fieldLink RX0 33 "CrowdReports$Crowd" "kind" "[I", Cond.fieldLink RX0 37 "CrowdReports$Crowd" "known" "[I", Cond.fieldLink RX0 40 "CrowdReports$Crowd" "begun" "[I", Cond.fieldLink RX0 43 "CrowdReports$Crowd" "due" "[I", Cond.fieldLink RX0 46 "CrowdReports$Crowd" "goers" "[I", Cond.fieldLink RX0 49 "CrowdReports$Crowd" "shut" "[I", Cond.fieldLink RX0 52 "CrowdReports$Crowd" "lastHeard" "[I", Cond.methodLink RL 12 yX2_init]
def wsL_law_r3 : List Cond := [Cond.instanceMethod yX2_init, Cond.code yX2_init cX2_init 1 none, Cond.methodLink RX2 1 objectInit, Cond.fieldLink RX2 7 "CrowdReportsModel" "text" "[I", Cond.fieldLink RX2 13 "CrowdReportsModel" "now" "[I", Cond.fieldLink RX2 16 "CrowdReportsModel" "trial" "[I", Cond.fieldLink RX2 19 "CrowdReportsModel" "diary" "[I", Cond.fieldLink RX2 22 "CrowdReportsModel" "kept" "[I", Cond.arrayClass .boolean, Cond.fieldLink RX2 25 "CrowdReportsModel" "isKept" "[Z", Cond.fieldLink RX2 29 "CrowdReportsModel" "seenTicks" "[I", Cond.fieldLink RX2 32 "CrowdReportsModel" "seenMany" "[I", Cond.fieldLink RX2 35 "CrowdReportsModel" "worth" "[I", Cond.fieldLink RX2 38 "CrowdReportsModel" "read" "[I", Cond.methodLink RX2 41 yX2_clear, Cond.static yX2_clear, Cond.code yX2_clear cX2_clear 2 none, Cond.methodLink RL 13 yX1_write, Cond.instanceMethod yX1_write, Cond.selects RX1 yX1_write yX1_write, Cond.code yX1_write cX1_write 2 (some .int), Cond.methodLink RL 17 yX2_write, Cond.instanceMethod yX2_write, Cond.selects RX2 yX2_write yX2_write]
def wsL_law_r4 : List Cond := [Cond.code yX2_write cX2_write 2 (some .int), Cond.constantLong RX2 100 (255), Cond.fieldLink RX2 102 "CrowdReportsModel" "length" "I", Cond.methodLink RX2 47 yX2_in, Cond.static yX2_in, Cond.code yX2_in cX2_in 6 (some .boolean), Cond.methodLink RL 18 yX1_wipe, Cond.instanceMethod yX1_wipe, Cond.selects RX1 yX1_wipe yX1_wipe, Cond.code yX1_wipe cX1_wipe 2 (some .int), Cond.methodLink RL 22 yX2_wipe, Cond.instanceMethod yX2_wipe, Cond.selects RX2 yX2_wipe yX2_wipe, Cond.code yX2_wipe cX2_wipe 2 (some .int), Cond.methodLink RL 23 yX1_fault, Cond.instanceMethod yX1_fault, Cond.selects RX1 yX1_fault yX1_fault, Cond.code yX1_fault cX1_fault 1 (some .int), Cond.methodLink RX1 56 yX1_readText, Cond.instanceMethod yX1_readText, Cond.selects RX1 yX1_readText yX1_readText, Cond.code yX1_readText cX1_readText 7 (some .int), Cond.methodLink RX1 203 yX1_readHead, Cond.instanceMethod yX1_readHead]
def wsL_law_r5 : List Cond := [Cond.selects RX1 yX1_readHead yX1_readHead, Cond.code yX1_readHead cX1_readHead 3 (some .int), Cond.fieldLink RX1 67 "CrowdReports$Crowd" "size" "I", Cond.fieldLink RX1 70 "CrowdReports$Crowd" "rate" "I", Cond.fieldLink RX1 73 "CrowdReports$Crowd" "min" "I", Cond.fieldLink RX1 76 "CrowdReports$Crowd" "lot" "I", Cond.methodLink RX1 206 yX1_isFigure, Cond.static yX1_isFigure, Cond.code yX1_isFigure cX1_isFigure 2 (some .boolean), Cond.methodLink RX1 212 yX0_restart, Cond.instanceMethod yX0_restart, Cond.selects RX0 yX0_restart yX0_restart, Cond.code yX0_restart cX0_restart 2 none, Cond.methodLink RX0 55 yX0_goAway, Cond.instanceMethod yX0_goAway, Cond.selects RX0 yX0_goAway yX0_goAway, Cond.code yX0_goAway cX0_goAway 2 none, Cond.methodLink RX1 127 yX0_enter, Cond.instanceMethod yX0_enter, Cond.selects RX0 yX0_enter yX0_enter, Cond.code yX0_enter cX0_enter 2 (some .boolean), Cond.static yX1_isMember, Cond.code yX1_isMember cX1_isMember 1 (some .boolean), Cond.methodLink RX0 94 yX0_begin]
def wsL_law_r6 : List Cond := [Cond.instanceMethod yX0_begin, Cond.selects RX0 yX0_begin yX0_begin, Cond.code yX0_begin cX0_begin 2 none, Cond.methodLink RX0 87 yX0_waitOf, Cond.instanceMethod yX0_waitOf, Cond.selects RX0 yX0_waitOf yX0_waitOf, Cond.code yX0_waitOf cX0_waitOf 3 (some .int), Cond.constant RX0 83 (65536), Cond.methodLink RX0 77 Lib.Math.max.name, Cond.static Lib.Math.max.name, Cond.initialized "java/lang/Math", Cond.code Lib.Math.max.name Lib.Math.max.code 2 (some .int), Cond.methodLink RX0 84 yX0_spanOf, Cond.instanceMethod yX0_spanOf, Cond.selects RX0 yX0_spanOf yX0_spanOf, Cond.code yX0_spanOf cX0_spanOf 3 (some .int), Cond.methodLink RX1 130 yX0_depart, Cond.instanceMethod yX0_depart, Cond.selects RX0 yX0_depart yX0_depart, Cond.code yX0_depart cX0_depart 2 (some .boolean), Cond.methodLink RX0 71 yX0_countOf, Cond.instanceMethod yX0_countOf, Cond.selects RX0 yX0_countOf yX0_countOf, Cond.code yX0_countOf cX0_countOf 2 (some .int)]
def wsL_law_r7 : List Cond := [Cond.methodLink RX0 65 yJ6_bitCount_0f7a4, Cond.static yJ6_bitCount_0f7a4, Cond.initialized RJ6, Cond.code yJ6_bitCount_0f7a4 cJ6_bitCount_0f7a4 1 (some .int), Cond.constant RJ6 265 (1431655765), Cond.constant RJ6 266 (858993459), Cond.constant RJ6 267 (252645135), Cond.methodLink RX0 97 yX0_sendBye, Cond.instanceMethod yX0_sendBye, Cond.selects RX0 yX0_sendBye yX0_sendBye, Cond.code yX0_sendBye cX0_sendBye 3 none, Cond.methodLink RX0 126 yX0_reaches, Cond.instanceMethod yX0_reaches, Cond.selects RX0 yX0_reaches yX0_reaches, Cond.code yX0_reaches cX0_reaches 3 (some .boolean), Cond.methodLink RX0 123 yX0_isOpen, Cond.instanceMethod yX0_isOpen, Cond.selects RX0 yX0_isOpen yX0_isOpen, Cond.code yX0_isOpen cX0_isOpen 3 (some .boolean), Cond.methodLink RX0 129 yX0_hearBye, Cond.instanceMethod yX0_hearBye, Cond.selects RX0 yX0_hearBye yX0_hearBye, Cond.code yX0_hearBye cX0_hearBye 5 none, Cond.methodLink RX0 119 yX0_knows]
def wsL_law_r8 : List Cond := [Cond.instanceMethod yX0_knows, Cond.selects RX0 yX0_knows yX0_knows, Cond.code yX0_knows cX0_knows 3 (some .boolean), Cond.methodLink RX1 133 yX0_run, Cond.instanceMethod yX0_run, Cond.selects RX0 yX0_run yX0_run, Cond.code yX0_run cX0_run 5 (some .int), Cond.methodLink RX0 106 yX0_sent, Cond.instanceMethod yX0_sent, Cond.selects RX0 yX0_sent yX0_sent, Cond.code yX0_sent cX0_sent 1 (some .int), Cond.methodLink RX0 110 yX0_comeDue, Cond.instanceMethod yX0_comeDue, Cond.selects RX0 yX0_comeDue yX0_comeDue, Cond.code yX0_comeDue cX0_comeDue 4 none, Cond.methodLink RX0 116 yX0_sendReport, Cond.instanceMethod yX0_sendReport, Cond.selects RX0 yX0_sendReport yX0_sendReport, Cond.code yX0_sendReport cX0_sendReport 3 none, Cond.methodLink RX0 113 yX0_forgetOld, Cond.instanceMethod yX0_forgetOld, Cond.selects RX0 yX0_forgetOld yX0_forgetOld, Cond.code yX0_forgetOld cX0_forgetOld 5 none, Cond.methodLink RX1 209 yX1_canBegin]
def wsL_law_r9 : List Cond := [Cond.instanceMethod yX1_canBegin, Cond.selects RX1 yX1_canBegin yX1_canBegin, Cond.code yX1_canBegin cX1_canBegin 2 (some .boolean), Cond.methodLink RX1 85 yX0_bitsOf, Cond.instanceMethod yX0_bitsOf, Cond.selects RX0 yX0_bitsOf yX0_bitsOf, Cond.code yX0_bitsOf cX0_bitsOf 4 (some .int), Cond.methodLink RL 26 yX2_fault, Cond.instanceMethod yX2_fault, Cond.selects RX2 yX2_fault yX2_fault, Cond.code yX2_fault cX2_fault 1 (some .int), Cond.methodLink RX2 124 yX2_readText, Cond.instanceMethod yX2_readText, Cond.selects RX2 yX2_readText yX2_readText, Cond.code yX2_readText cX2_readText 7 (some .int), Cond.constantLong RX2 106 (9), Cond.methodLink RX2 108 yX2_passOn, Cond.static yX2_passOn, Cond.code yX2_passOn cX2_passOn 4 (some .int), Cond.methodLink RX2 94 yX2_lettersOf, Cond.static yX2_lettersOf, Cond.code yX2_lettersOf cX2_lettersOf 1 (some .int), Cond.methodLink RX2 97 yX2_tick, Cond.static yX2_tick]
def wsL_law_r10 : List Cond := [Cond.code yX2_tick cX2_tick 2 none, Cond.methodLink RX2 88 yX2_look, Cond.static yX2_look, Cond.code yX2_look cX2_look 4 none, Cond.methodLink RX2 76 yX2_countOf, Cond.static yX2_countOf, Cond.code yX2_countOf cX2_countOf 2 (some .int), Cond.methodLink RX2 51 yX2_ones, Cond.static yX2_ones, Cond.code yX2_ones cX2_ones 3 (some .int), Cond.methodLink RX2 79 yX2_waitOf, Cond.static yX2_waitOf, Cond.code yX2_waitOf cX2_waitOf 4 (some .int), Cond.methodLink RX2 56 yX2_spanOf, Cond.static yX2_spanOf, Cond.code yX2_spanOf cX2_spanOf 3 (some .int), Cond.methodLink RX2 60 yX2_draw, Cond.static yX2_draw, Cond.code yX2_draw cX2_draw 1 (some .int), Cond.constant RX2 55 (65536), Cond.methodLink RX2 85 yX2_report, Cond.static yX2_report, Cond.code yX2_report cX2_report 3 none, Cond.methodLink RX2 68 yX2_reaches]
def wsL_law_r11 : List Cond := [Cond.static yX2_reaches, Cond.code yX2_reaches cX2_reaches 3 (some .boolean), Cond.methodLink RX2 64 yX2_has, Cond.static yX2_has, Cond.code yX2_has cX2_has 2 (some .boolean), Cond.methodLink RX2 82 yX2_bye, Cond.static yX2_bye, Cond.code yX2_bye cX2_bye 7 none, Cond.methodLink RX2 72 yX2_goAway, Cond.static yX2_goAway, Cond.code yX2_goAway cX2_goAway 2 none, Cond.methodLink RX2 91 yX2_forget, Cond.static yX2_forget, Cond.code yX2_forget cX2_forget 5 none, Cond.methodLink RX2 111 yX2_those, Cond.static yX2_those, Cond.code yX2_those cX2_those 4 (some .int), Cond.methodLink RX2 114 yX2_isMember, Cond.static yX2_isMember, Cond.code yX2_isMember cX2_isMember 1 (some .boolean), Cond.constantLong RX2 45 (5), Cond.methodLink RX2 118 yX2_joins, Cond.static yX2_joins, Cond.code yX2_joins cX2_joins 2 none]
def wsL_law_r12 : List Cond := [Cond.methodLink RX2 121 yX2_leaves, Cond.static yX2_leaves, Cond.code yX2_leaves cX2_leaves 2 none, Cond.methodLink RL 27 yX1_meeting, Cond.instanceMethod yX1_meeting, Cond.selects RX1 yX1_meeting yX1_meeting, Cond.code yX1_meeting cX1_meeting 1 (some .int), Cond.fieldLink RX1 64 "CrowdReports$Crowd" "clock" "I", Cond.methodLink RX1 60 yX0_takeFrom, Cond.instanceMethod yX0_takeFrom, Cond.selects RX0 yX0_takeFrom yX0_takeFrom, Cond.code yX0_takeFrom cX0_takeFrom 2 none, Cond.methodLink RX0 59 arraycopyName, Cond.native arraycopyName, Cond.static arraycopyName, Cond.initialized "java/lang/System", Cond.methodLink RL 30 yX2_meeting, Cond.instanceMethod yX2_meeting, Cond.selects RX2 yX2_meeting yX2_meeting, Cond.code yX2_meeting cX2_meeting 1 (some .int), Cond.fieldLink RX2 132 "CrowdReportsModel" "acts" "I", Cond.methodLink RX2 128 yX2_copy, Cond.static yX2_copy, Cond.code yX2_copy cX2_copy 3 none]
def wsL_law_r13 : List Cond := [Cond.methodLink RL 31 yX1_about, Cond.instanceMethod yX1_about, Cond.selects RX1 yX1_about yX1_about, Cond.code yX1_about cX1_about 2 (some .int), Cond.fieldLink RX1 79 "CrowdReports$Crowd" "reports" "I", Cond.fieldLink RX1 82 "CrowdReports$Crowd" "byes" "I", Cond.methodLink RX1 89 yX1_restAt, Cond.instanceMethod yX1_restAt, Cond.selects RX1 yX1_restAt yX1_restAt, Cond.code yX1_restAt cX1_restAt 2 (some .int), Cond.methodLink RX1 215 yX0_isAtRest, Cond.instanceMethod yX0_isAtRest, Cond.selects RX0 yX0_isAtRest yX0_isAtRest, Cond.code yX0_isAtRest cX0_isAtRest 3 (some .boolean), Cond.methodLink RX0 74 yX0_bitsOf, Cond.methodLink RL 34 yX2_about, Cond.instanceMethod yX2_about, Cond.selects RX2 yX2_about yX2_about, Cond.code yX2_about cX2_about 2 (some .int), Cond.fieldLink RX2 138 "CrowdReportsModel" "seen" "I", Cond.methodLink RX2 135 yX2_rest, Cond.instanceMethod yX2_rest, Cond.selects RX2 yX2_rest yX2_rest, Cond.code yX2_rest cX2_rest 5 (some .int)]
def wsL_law_r14 : List Cond := [Cond.methodLink RL 35 yX1_member, Cond.instanceMethod yX1_member, Cond.selects RX1 yX1_member yX1_member, Cond.code yX1_member cX1_member 3 (some .int), Cond.fieldLink RX1 96 "CrowdReports$Crowd" "kind" "[I", Cond.fieldLink RX1 99 "CrowdReports$Crowd" "known" "[I", Cond.fieldLink RX1 105 "CrowdReports$Crowd" "begun" "[I", Cond.fieldLink RX1 108 "CrowdReports$Crowd" "due" "[I", Cond.fieldLink RX1 111 "CrowdReports$Crowd" "goers" "[I", Cond.methodLink RX1 92 yX1_isMember, Cond.methodLink RX1 102 yX0_countTold, Cond.instanceMethod yX0_countTold, Cond.selects RX0 yX0_countTold yX0_countTold, Cond.code yX0_countTold cX0_countTold 2 (some .int), Cond.methodLink RL 39 yX2_member, Cond.instanceMethod yX2_member, Cond.selects RX2 yX2_member yX2_member, Cond.code yX2_member cX2_member 3 (some .int), Cond.methodLink RL 40 yX1_heard, Cond.instanceMethod yX1_heard, Cond.selects RX1 yX1_heard yX1_heard, Cond.code yX1_heard cX1_heard 3 (some .int), Cond.fieldLink RX1 118 "CrowdReports$Crowd" "lastHeard" "[I", Cond.methodLink RX1 114 yX0_knows]
def wsL_law_r15 : List Cond := [Cond.methodLink RL 43 yX2_heard, Cond.instanceMethod yX2_heard, Cond.selects RX2 yX2_heard yX2_heard, Cond.code yX2_heard cX2_heard 3 (some .int), Cond.methodLink RL 44 yX1_way, Cond.instanceMethod yX1_way, Cond.selects RX1 yX1_way yX1_way, Cond.code yX1_way cX1_way 3 (some .int), Cond.methodLink RX1 121 yX0_isOpen, Cond.methodLink RL 47 yX2_way, Cond.instanceMethod yX2_way, Cond.selects RX2 yX2_way yX2_way, Cond.code yX2_way cX2_way 3 (some .int), Cond.methodLink RL 48 yX1_join, Cond.instanceMethod yX1_join, Cond.selects RX1 yX1_join yX1_join, Cond.code yX1_join cX1_join 2 (some .int), Cond.methodLink RX1 124 yX1_remember, Cond.instanceMethod yX1_remember, Cond.selects RX1 yX1_remember yX1_remember, Cond.code yX1_remember cX1_remember 3 none, Cond.methodLink RL 51 yX2_join, Cond.instanceMethod yX2_join, Cond.selects RX2 yX2_join yX2_join]
def wsL_law_r16 : List Cond := [Cond.code yX2_join cX2_join 2 (some .int), Cond.methodLink RX2 144 yX2_note, Cond.instanceMethod yX2_note, Cond.selects RX2 yX2_note yX2_note, Cond.code yX2_note cX2_note 2 none, Cond.fieldLink RX2 141 "CrowdReportsModel" "next" "I", Cond.methodLink RL 52 yX1_leave, Cond.instanceMethod yX1_leave, Cond.selects RX1 yX1_leave yX1_leave, Cond.code yX1_leave cX1_leave 2 (some .int), Cond.methodLink RL 55 yX2_leave, Cond.instanceMethod yX2_leave, Cond.selects RX2 yX2_leave yX2_leave, Cond.code yX2_leave cX2_leave 2 (some .int), Cond.methodLink RL 56 yX1_pass, Cond.instanceMethod yX1_pass, Cond.selects RX1 yX1_pass yX1_pass, Cond.code yX1_pass cX1_pass 2 (some .int), Cond.methodLink RL 59 yX2_pass, Cond.instanceMethod yX2_pass, Cond.selects RX2 yX2_pass yX2_pass, Cond.code yX2_pass cX2_pass 2 (some .int), Cond.constantLong RX2 147 (30), Cond.methodLink RL 60 yX1_turn]
def wsL_law_r17 : List Cond := [Cond.instanceMethod yX1_turn, Cond.selects RX1 yX1_turn yX1_turn, Cond.code yX1_turn cX1_turn 3 (some .int), Cond.methodLink RX1 136 yX0_turnWay, Cond.instanceMethod yX0_turnWay, Cond.selects RX0 yX0_turnWay yX0_turnWay, Cond.code yX0_turnWay cX0_turnWay 3 (some .boolean), Cond.methodLink RL 63 yX2_turn, Cond.instanceMethod yX2_turn, Cond.selects RX2 yX2_turn yX2_turn, Cond.code yX2_turn cX2_turn 3 (some .int), Cond.methodLink RL 64 yX1_set, Cond.instanceMethod yX1_set, Cond.selects RX1 yX1_set yX1_set, Cond.code yX1_set cX1_set 3 (some .int), Cond.methodLink RX1 139 yX0_tellAnew, Cond.instanceMethod yX0_tellAnew, Cond.selects RX0 yX0_tellAnew yX0_tellAnew, Cond.code yX0_tellAnew cX0_tellAnew 4 (some .int), Cond.methodLink RL 67 yX2_set, Cond.instanceMethod yX2_set, Cond.selects RX2 yX2_set yX2_set, Cond.code yX2_set cX2_set 4 (some .int), Cond.constantLong RX2 149 (2)]
def wsL_law_r18 : List Cond := [Cond.methodLink RL 68 yX1_undo, Cond.instanceMethod yX1_undo, Cond.selects RX1 yX1_undo yX1_undo, Cond.code yX1_undo cX1_undo 1 (some .int), Cond.methodLink RL 71 yX2_undo, Cond.instanceMethod yX2_undo, Cond.selects RX2 yX2_undo yX2_undo, Cond.code yX2_undo cX2_undo 2 (some .int), Cond.methodLink RL 72 yX1_ahead, Cond.instanceMethod yX1_ahead, Cond.selects RX1 yX1_ahead yX1_ahead, Cond.code yX1_ahead cX1_ahead 3 (some .int), Cond.methodLink RL 75 yX2_ahead, Cond.instanceMethod yX2_ahead, Cond.selects RX2 yX2_ahead yX2_ahead, Cond.code yX2_ahead cX2_ahead 4 (some .int), Cond.constantLong RX2 151 (99), Cond.constantLong RX2 153 (3), Cond.methodLink RL 76 yX1_crowd, Cond.instanceMethod yX1_crowd, Cond.selects RX1 yX1_crowd yX1_crowd, Cond.code yX1_crowd cX1_crowd 4 (some .int), Cond.methodLink RX1 143 Lib.Math.max.name, Cond.methodLink RL 79 yX2_crowd]
def wsL_law_r19 : List Cond := [Cond.instanceMethod yX2_crowd, Cond.selects RX2 yX2_crowd yX2_crowd, Cond.code yX2_crowd cX2_crowd 5 (some .int), Cond.methodLink RL 82 yX1_jitter, Cond.instanceMethod yX1_jitter, Cond.selects RX1 yX1_jitter yX1_jitter, Cond.code yX1_jitter cX1_jitter 7 (some .int), Cond.methodLink RX1 156 Lib.Math.abs.name, Cond.static Lib.Math.abs.name, Cond.code Lib.Math.abs.name Lib.Math.abs.code 1 (some .int), Cond.methodLink RX1 148 yX1_tenTo, Cond.static yX1_tenTo, Cond.code yX1_tenTo cX1_tenTo 4 (some .long), Cond.constantLong RX1 198 (10), Cond.methodLink RX1 152 yX1_part, Cond.static yX1_part, Cond.code yX1_part cX1_part 4 (some .int), Cond.methodLink RL 86 yX2_jitter, Cond.instanceMethod yX2_jitter, Cond.selects RX2 yX2_jitter yX2_jitter, Cond.code yX2_jitter cX2_jitter 9 (some .int), Cond.constantLong RX2 155 (6), Cond.constantLong RX2 157 (100), Cond.methodLink RX2 159 yX2_longPower]
def wsL_law_r20 : List Cond := [Cond.static yX2_longPower, Cond.code yX2_longPower cX2_longPower 6 (some .long), Cond.methodLink RL 87 yX1_round, Cond.instanceMethod yX1_round, Cond.selects RX1 yX1_round yX1_round, Cond.code yX1_round cX1_round 5 (some .int), Cond.methodLink RX1 159 yX1_isTime, Cond.static yX1_isTime, Cond.code yX1_isTime cX1_isTime 1 (some .boolean), Cond.methodLink RL 91 yX2_round, Cond.instanceMethod yX2_round, Cond.selects RX2 yX2_round yX2_round, Cond.code yX2_round cX2_round 5 (some .int), Cond.constantLong RX2 163 (9999), Cond.methodLink RL 92 yX1_judge, Cond.instanceMethod yX1_judge, Cond.selects RX1 yX1_judge yX1_judge, Cond.code yX1_judge cX1_judge 5 (some .int), Cond.methodLink RX1 162 yX1_canBe, Cond.instanceMethod yX1_canBe, Cond.selects RX1 yX1_canBe yX1_canBe, Cond.code yX1_canBe cX1_canBe 5 (some .boolean), Cond.methodLink RL 95 yX2_judge, Cond.instanceMethod yX2_judge]
def wsL_law_r21 : List Cond := [Cond.selects RX2 yX2_judge yX2_judge, Cond.code yX2_judge cX2_judge 6 (some .int), Cond.constantLong RX2 165 (4), Cond.constantLong RX2 167 (1000), Cond.methodLink RX2 169 yX2_judged, Cond.instanceMethod yX2_judged, Cond.selects RX2 yX2_judged yX2_judged, Cond.code yX2_judged cX2_judged 6 (some .boolean), Cond.methodLink RL 96 yX1_see, Cond.instanceMethod yX1_see, Cond.selects RX1 yX1_see yX1_see, Cond.code yX1_see cX1_see 3 (some .int), Cond.methodLink RL 99 yX2_see, Cond.instanceMethod yX2_see, Cond.selects RX2 yX2_see yX2_see, Cond.code yX2_see cX2_see 3 (some .int), Cond.constantLong RX2 173 (60), Cond.methodLink RL 100 yX1_unsee, Cond.instanceMethod yX1_unsee, Cond.selects RX1 yX1_unsee yX1_unsee, Cond.code yX1_unsee cX1_unsee 2 (some .int), Cond.methodLink RL 103 yX2_unsee, Cond.instanceMethod yX2_unsee, Cond.selects RX2 yX2_unsee yX2_unsee]
def wsL_law_r22 : List Cond := [Cond.code yX2_unsee cX2_unsee 2 (some .int), Cond.methodLink RL 104 yX1_which, Cond.instanceMethod yX1_which, Cond.selects RX1 yX1_which yX1_which, Cond.code yX1_which cX1_which 3 (some .int), Cond.methodLink RX1 165 yX1_fitsSeen, Cond.instanceMethod yX1_fitsSeen, Cond.selects RX1 yX1_fitsSeen yX1_fitsSeen, Cond.code yX1_fitsSeen cX1_fitsSeen 5 (some .boolean), Cond.methodLink RL 107 yX2_which, Cond.instanceMethod yX2_which, Cond.selects RX2 yX2_which yX2_which, Cond.code yX2_which cX2_which 5 (some .int), Cond.methodLink RL 108 yX1_share, Cond.instanceMethod yX1_share, Cond.selects RX1 yX1_share yX1_share, Cond.code yX1_share cX1_share 6 (some .int), Cond.fieldLink RX1 172 "CrowdReports" "ORDERS" "[I", Cond.methodLink RX1 168 yX1_runSubsets, Cond.instanceMethod yX1_runSubsets, Cond.selects RX1 yX1_runSubsets yX1_runSubsets, Cond.code yX1_runSubsets cX1_runSubsets 5 none, Cond.methodLink RX1 219 yX0_feltBits, Cond.instanceMethod yX0_feltBits]
def wsL_law_r23 : List Cond := [Cond.selects RX0 yX0_feltBits yX0_feltBits, Cond.code yX0_feltBits cX0_feltBits 3 (some .int), Cond.methodLink RX1 222 yX0_leaveOnly, Cond.instanceMethod yX0_leaveOnly, Cond.selects RX0 yX0_leaveOnly yX0_leaveOnly, Cond.code yX0_leaveOnly cX0_leaveOnly 3 none, Cond.methodLink RX1 175 yJ6_bitCount_0f7a4, Cond.methodLink RX1 180 yX1_fraction, Cond.static yX1_fraction, Cond.code yX1_fraction cX1_fraction 4 (some .int), Cond.methodLink RX1 200 yX1_greatestDivisor, Cond.static yX1_greatestDivisor, Cond.code yX1_greatestDivisor cX1_greatestDivisor 6 (some .int), Cond.methodLink RL 112 yX2_share, Cond.instanceMethod yX2_share, Cond.selects RX2 yX2_share yX2_share, Cond.code yX2_share cX2_share 6 (some .int), Cond.methodLink RX2 175 yX2_lettersBy, Cond.instanceMethod yX2_lettersBy, Cond.selects RX2 yX2_lettersBy yX2_lettersBy, Cond.code yX2_lettersBy cX2_lettersBy 4 (some .int), Cond.methodLink RX2 179 yX2_factorial, Cond.static yX2_factorial, Cond.code yX2_factorial cX2_factorial 3 (some .int)]
def wsL_law_r24 : List Cond := [Cond.methodLink RX2 182 yX2_fraction, Cond.static yX2_fraction, Cond.code yX2_fraction cX2_fraction 6 (some .int), Cond.methodLink RL 113 yX1_chance, Cond.instanceMethod yX1_chance, Cond.selects RX1 yX1_chance yX1_chance, Cond.code yX1_chance cX1_chance 6 (some .int), Cond.constant RX1 187 (1000000), Cond.methodLink RX1 184 yX1_likelihood, Cond.static yX1_likelihood, Cond.code yX1_likelihood cX1_likelihood 4 (some .int), Cond.methodLink RL 117 yX2_chance, Cond.instanceMethod yX2_chance, Cond.selects RX2 yX2_chance yX2_chance, Cond.code yX2_chance cX2_chance 7 (some .int), Cond.constantLong RX2 186 (10), Cond.methodLink RX2 188 yX2_power, Cond.static yX2_power, Cond.code yX2_power cX2_power 4 (some .int), Cond.methodLink RL 118 yX1_seed, Cond.instanceMethod yX1_seed, Cond.selects RX1 yX1_seed yX1_seed, Cond.code yX1_seed cX1_seed 5 (some .long), Cond.methodLink RL 122 yX2_seed]
def wsL_law_r25 : List Cond := [Cond.instanceMethod yX2_seed, Cond.selects RX2 yX2_seed yX2_seed, Cond.code yX2_seed cX2_seed 5 (some .long), Cond.fieldLink RX2 191 "CrowdReportsModel" "seed" "J", Cond.methodLink RL 123 yX1_drawn, Cond.instanceMethod yX1_drawn, Cond.selects RX1 yX1_drawn yX1_drawn, Cond.code yX1_drawn cX1_drawn 5 (some .int), Cond.constantLong RX1 191 (6364136223846793005), Cond.constantLong RX1 193 (1442695040888963407), Cond.methodLink RX1 188 yX0_sent, Cond.methodLink RX1 195 yX0_enterOrDepart, Cond.instanceMethod yX0_enterOrDepart, Cond.selects RX0 yX0_enterOrDepart yX0_enterOrDepart, Cond.code yX0_enterOrDepart cX0_enterOrDepart 2 none, Cond.methodLink RX0 100 yX0_enter, Cond.methodLink RX0 103 yX0_depart, Cond.methodLink RL 126 yX2_drawn, Cond.instanceMethod yX2_drawn, Cond.selects RX2 yX2_drawn yX2_drawn, Cond.code yX2_drawn cX2_drawn 5 (some .int), Cond.constantLong RX2 195 (40), Cond.constantLong RX2 197 (6364136223846793005), Cond.constantLong RX2 199 (1442695040888963407)]
def wsL_law_r26 : List Cond := [Cond.methodLink RL 127 yX1_keep, Cond.instanceMethod yX1_keep, Cond.selects RX1 yX1_keep yX1_keep, Cond.code yX1_keep cX1_keep 2 (some .int), Cond.methodLink RL 130 yX2_keep, Cond.instanceMethod yX2_keep, Cond.selects RX2 yX2_keep yX2_keep, Cond.code yX2_keep cX2_keep 3 (some .int), Cond.methodLink RL 131 yX1_again, Cond.instanceMethod yX1_again, Cond.selects RX1 yX1_again yX1_again, Cond.code yX1_again cX1_again 2 (some .int), Cond.methodLink RL 134 yX2_again, Cond.instanceMethod yX2_again, Cond.selects RX2 yX2_again yX2_again, Cond.code yX2_again cX2_again 3 (some .int)]
def wsL_law : List Cond := (wsL_law_r1 ++ (wsL_law_r2 ++ (wsL_law_r3 ++ (wsL_law_r4 ++ (wsL_law_r5 ++ (wsL_law_r6 ++ (wsL_law_r7 ++ (wsL_law_r8 ++ (wsL_law_r9 ++ (wsL_law_r10 ++ (wsL_law_r11 ++ (wsL_law_r12 ++ (wsL_law_r13 ++ (wsL_law_r14 ++ (wsL_law_r15 ++ (wsL_law_r16 ++ (wsL_law_r17 ++ (wsL_law_r18 ++ (wsL_law_r19 ++ (wsL_law_r20 ++ (wsL_law_r21 ++ (wsL_law_r22 ++ (wsL_law_r23 ++ (wsL_law_r24 ++ (wsL_law_r25 ++ wsL_law_r26))))))))))))))))))))))))) ++ wsX10 ++ wsX20 ++ wsX00 ++ ([] : List Cond)
set_option maxRecDepth 20000 in
theorem wsL_law_in : ∀ w ∈ wsL_law, w ∈ lw_tbl := fun w h => (goodIn_p wsL_law [24, 27, 32, 443, 447, 135, 498, 502, 139, 506, 143, 147, 151, 154, 158, 162, 166, 169, 173, 177, 185, 182, 189, 193, 196, 203, 207, 211, 215, 219, 223, 227, 231, 235, 239, 243, 247, 510, 514, 518, 521, 524, 527, 530, 533, 536, 539, 542, 546, 549, 552, 555, 558, 561, 564, 567, 571, 574, 251, 255, 578, 581, 262, 266, 270, 585, 589, 275, 280, 593, 284, 597, 289, 601, 294, 298, 605, 609, 302, 613, 306, 617, 310, 314, 622, 318, 322, 626, 326, 631, 330, 635, 334, 641, 339, 349, 342, 346, 645, 650, 353, 356, 654, 360, 364, 659, 665, 368, 669, 372, 674, 376, 380, 678, 384, 388, 392, 396, 402, 405, 682, 686, 689, 692, 409, 412, 696, 700, 417, 704, 421, 428, 708, 434, 715, 438, 719] (by decide +kernel) (by decide +kernel) w h).1
theorem inlX0 : ∀ w ∈ wsX00, w ∈ wsL_law := fun _ h => List.mem_append_left _ (List.mem_append_right _ h)
theorem inX0 : ∀ w ∈ wsX00, w ∈ lw_tbl := fun w h => wsL_law_in w (inlX0 w h)
theorem inlX1 : ∀ w ∈ wsX10, w ∈ wsL_law := fun _ h => List.mem_append_left _ (List.mem_append_left _ (List.mem_append_left _ (List.mem_append_right _ h)))
theorem inX1 : ∀ w ∈ wsX10, w ∈ lw_tbl := fun w h => wsL_law_in w (inlX1 w h)
theorem inlX2 : ∀ w ∈ wsX20, w ∈ wsL_law := fun _ h => List.mem_append_left _ (List.mem_append_left _ (List.mem_append_right _ h))
theorem inX2 : ∀ w ∈ wsX20, w ∈ lw_tbl := fun w h => wsL_law_in w (inlX2 w h)
theorem inJ6 : ∀ w ∈ wsJ60, w ∈ lw_tbl := by decide +kernel
theorem inJ9 : ∀ w ∈ wsJ90, w ∈ lw_tbl := by decide +kernel
theorem inJ10 : ∀ w ∈ wsJ100, w ∈ lw_tbl := by decide +kernel
theorem dX0_init_0 : decode cX0_init 0 = .ok (.aload_n 0, 1) := by decide +kernel
theorem dX0_init_1 : decode cX0_init 1 = .ok (.invokespecial 3, 3) := by decide +kernel
theorem dX0_init_4 : decode cX0_init 4 = .ok (.aload_n 0, 1) := by decide +kernel
theorem dX0_init_5 : decode cX0_init 5 = .ok (.iconst 1, 1) := by decide +kernel
theorem dX0_init_6 : decode cX0_init 6 = .ok (.putfield 9, 3) := by decide +kernel
theorem dX0_init_9 : decode cX0_init 9 = .ok (.aload_n 0, 1) := by decide +kernel
theorem dX0_init_10 : decode cX0_init 10 = .ok (.iconst 1, 1) := by decide +kernel
theorem dX0_init_11 : decode cX0_init 11 = .ok (.putfield 15, 3) := by decide +kernel
theorem dX0_init_14 : decode cX0_init 14 = .ok (.aload_n 0, 1) := by decide +kernel
theorem dX0_init_15 : decode cX0_init 15 = .ok (.iconst 1, 1) := by decide +kernel
theorem dX0_init_16 : decode cX0_init 16 = .ok (.putfield 18, 3) := by decide +kernel
theorem dX0_init_19 : decode cX0_init 19 = .ok (.aload_n 0, 1) := by decide +kernel
theorem dX0_init_20 : decode cX0_init 20 = .ok (.iconst 0, 1) := by decide +kernel
theorem dX0_init_21 : decode cX0_init 21 = .ok (.putfield 21, 3) := by decide +kernel
theorem dX0_init_24 : decode cX0_init 24 = .ok (.aload_n 0, 1) := by decide +kernel
theorem dX0_init_25 : decode cX0_init 25 = .ok (.iconst 0, 1) := by decide +kernel
theorem dX0_init_26 : decode cX0_init 26 = .ok (.putfield 24, 3) := by decide +kernel
theorem dX0_init_29 : decode cX0_init 29 = .ok (.aload_n 0, 1) := by decide +kernel
theorem dX0_init_30 : decode cX0_init 30 = .ok (.iconst 0, 1) := by decide +kernel
theorem dX0_init_31 : decode cX0_init 31 = .ok (.putfield 27, 3) := by decide +kernel
theorem dX0_init_34 : decode cX0_init 34 = .ok (.aload_n 0, 1) := by decide +kernel
theorem dX0_init_35 : decode cX0_init 35 = .ok (.iconst 0, 1) := by decide +kernel
theorem dX0_init_36 : decode cX0_init 36 = .ok (.putfield 30, 3) := by decide +kernel
theorem dX0_init_39 : decode cX0_init 39 = .ok (.aload_n 0, 1) := by decide +kernel
theorem dX0_init_40 : decode cX0_init 40 = .ok (.bipush 6, 2) := by decide +kernel
theorem dX0_init_42 : decode cX0_init 42 = .ok (.newarray .int, 2) := by decide +kernel
theorem dX0_init_44 : decode cX0_init 44 = .ok (.putfield 33, 3) := by decide +kernel
theorem dX0_init_47 : decode cX0_init 47 = .ok (.aload_n 0, 1) := by decide +kernel
theorem dX0_init_48 : decode cX0_init 48 = .ok (.bipush 6, 2) := by decide +kernel
theorem dX0_init_50 : decode cX0_init 50 = .ok (.newarray .int, 2) := by decide +kernel
theorem dX0_init_52 : decode cX0_init 52 = .ok (.putfield 37, 3) := by decide +kernel
theorem dX0_init_55 : decode cX0_init 55 = .ok (.aload_n 0, 1) := by decide +kernel
theorem dX0_init_56 : decode cX0_init 56 = .ok (.bipush 6, 2) := by decide +kernel
theorem dX0_init_58 : decode cX0_init 58 = .ok (.newarray .int, 2) := by decide +kernel
theorem dX0_init_60 : decode cX0_init 60 = .ok (.putfield 40, 3) := by decide +kernel
theorem dX0_init_63 : decode cX0_init 63 = .ok (.aload_n 0, 1) := by decide +kernel
theorem dX0_init_64 : decode cX0_init 64 = .ok (.bipush 6, 2) := by decide +kernel
theorem dX0_init_66 : decode cX0_init 66 = .ok (.newarray .int, 2) := by decide +kernel
theorem dX0_init_68 : decode cX0_init 68 = .ok (.putfield 43, 3) := by decide +kernel
theorem dX0_init_71 : decode cX0_init 71 = .ok (.aload_n 0, 1) := by decide +kernel
theorem dX0_init_72 : decode cX0_init 72 = .ok (.bipush 6, 2) := by decide +kernel
theorem dX0_init_74 : decode cX0_init 74 = .ok (.newarray .int, 2) := by decide +kernel
theorem dX0_init_76 : decode cX0_init 76 = .ok (.putfield 46, 3) := by decide +kernel
theorem dX0_init_79 : decode cX0_init 79 = .ok (.aload_n 0, 1) := by decide +kernel
theorem dX0_init_80 : decode cX0_init 80 = .ok (.bipush 6, 2) := by decide +kernel
theorem dX0_init_82 : decode cX0_init 82 = .ok (.newarray .int, 2) := by decide +kernel
theorem dX0_init_84 : decode cX0_init 84 = .ok (.putfield 49, 3) := by decide +kernel
theorem dX0_init_87 : decode cX0_init 87 = .ok (.aload_n 0, 1) := by decide +kernel
theorem dX0_init_88 : decode cX0_init 88 = .ok (.bipush 36, 2) := by decide +kernel
theorem dX0_init_90 : decode cX0_init 90 = .ok (.newarray .int, 2) := by decide +kernel
theorem dX0_init_92 : decode cX0_init 92 = .ok (.putfield 52, 3) := by decide +kernel
theorem dX0_init_95 : decode cX0_init 95 = .ok (.return_, 1) := by decide +kernel
set_option maxRecDepth 20000 in
theorem ggX0_restart_X0_goAway : GoodIn wsX0_restart wsX0_goAway := goodIn_r _ [9, 10, 11, 12, 13, 14, 15, 16, 17, 18, 19, 20, 21, 22, 23, 24, 25, 26, 27, 28] (by decide +kernel) (by decide +kernel)
set_option maxRecDepth 20000 in
theorem gX0_restart_X0_goAway : GoodIn wsX0_restart (wsV RX0 55 RX0 yX0_goAway wsX0_goAway) := goodIn_app (goodIn_of _ (by decide +kernel)) ggX0_restart_X0_goAway
theorem dX0_restart_0 : decode cX0_restart 0 = .ok (.aload_n 0, 1) := by decide +kernel
theorem dX0_restart_1 : decode cX0_restart 1 = .ok (.iconst 0, 1) := by decide +kernel
theorem dX0_restart_2 : decode cX0_restart 2 = .ok (.putfield 21, 3) := by decide +kernel
theorem dX0_restart_5 : decode cX0_restart 5 = .ok (.aload_n 0, 1) := by decide +kernel
theorem dX0_restart_6 : decode cX0_restart 6 = .ok (.iconst 0, 1) := by decide +kernel
theorem dX0_restart_7 : decode cX0_restart 7 = .ok (.putfield 27, 3) := by decide +kernel
theorem dX0_restart_10 : decode cX0_restart 10 = .ok (.aload_n 0, 1) := by decide +kernel
theorem dX0_restart_11 : decode cX0_restart 11 = .ok (.iconst 0, 1) := by decide +kernel
theorem dX0_restart_12 : decode cX0_restart 12 = .ok (.putfield 30, 3) := by decide +kernel
theorem dX0_restart_15 : decode cX0_restart 15 = .ok (.iconst 0, 1) := by decide +kernel
theorem dX0_restart_16 : decode cX0_restart 16 = .ok (.istore_n 1, 1) := by decide +kernel
theorem dX0_restart_17 : decode cX0_restart 17 = .ok (.iload_n 1, 1) := by decide +kernel
theorem dX0_restart_18 : decode cX0_restart 18 = .ok (.bipush 6, 2) := by decide +kernel
theorem dX0_restart_20 : decode cX0_restart 20 = .ok (.if_icmp .ge 21, 3) := by decide +kernel
theorem dX0_restart_23 : decode cX0_restart 23 = .ok (.aload_n 0, 1) := by decide +kernel
theorem dX0_restart_24 : decode cX0_restart 24 = .ok (.iload_n 1, 1) := by decide +kernel
theorem dX0_restart_25 : decode cX0_restart 25 = .ok (.invokevirtual 55, 3) := by decide +kernel
theorem dX0_restart_28 : decode cX0_restart 28 = .ok (.aload_n 0, 1) := by decide +kernel
theorem dX0_restart_29 : decode cX0_restart 29 = .ok (.getfield 49, 3) := by decide +kernel
theorem dX0_restart_32 : decode cX0_restart 32 = .ok (.iload_n 1, 1) := by decide +kernel
theorem dX0_restart_33 : decode cX0_restart 33 = .ok (.iconst 0, 1) := by decide +kernel
theorem dX0_restart_34 : decode cX0_restart 34 = .ok (.iastore, 1) := by decide +kernel
theorem dX0_restart_35 : decode cX0_restart 35 = .ok (.iinc 1 1, 3) := by decide +kernel
theorem dX0_restart_38 : decode cX0_restart 38 = .ok (.goto (-21), 3) := by decide +kernel
theorem dX0_restart_41 : decode cX0_restart 41 = .ok (.return_, 1) := by decide +kernel
theorem dX0_takeFrom_0 : decode cX0_takeFrom 0 = .ok (.aload_n 0, 1) := by decide +kernel
theorem dX0_takeFrom_1 : decode cX0_takeFrom 1 = .ok (.aload_n 1, 1) := by decide +kernel
theorem dX0_takeFrom_2 : decode cX0_takeFrom 2 = .ok (.getfield 9, 3) := by decide +kernel
theorem dX0_takeFrom_5 : decode cX0_takeFrom 5 = .ok (.putfield 9, 3) := by decide +kernel
theorem dX0_takeFrom_8 : decode cX0_takeFrom 8 = .ok (.aload_n 0, 1) := by decide +kernel
theorem dX0_takeFrom_9 : decode cX0_takeFrom 9 = .ok (.aload_n 1, 1) := by decide +kernel
theorem dX0_takeFrom_10 : decode cX0_takeFrom 10 = .ok (.getfield 15, 3) := by decide +kernel
theorem dX0_takeFrom_13 : decode cX0_takeFrom 13 = .ok (.putfield 15, 3) := by decide +kernel
theorem dX0_takeFrom_16 : decode cX0_takeFrom 16 = .ok (.aload_n 0, 1) := by decide +kernel
theorem dX0_takeFrom_17 : decode cX0_takeFrom 17 = .ok (.aload_n 1, 1) := by decide +kernel
theorem dX0_takeFrom_18 : decode cX0_takeFrom 18 = .ok (.getfield 18, 3) := by decide +kernel
theorem dX0_takeFrom_21 : decode cX0_takeFrom 21 = .ok (.putfield 18, 3) := by decide +kernel
theorem dX0_takeFrom_24 : decode cX0_takeFrom 24 = .ok (.aload_n 0, 1) := by decide +kernel
theorem dX0_takeFrom_25 : decode cX0_takeFrom 25 = .ok (.aload_n 1, 1) := by decide +kernel
theorem dX0_takeFrom_26 : decode cX0_takeFrom 26 = .ok (.getfield 21, 3) := by decide +kernel
theorem dX0_takeFrom_29 : decode cX0_takeFrom 29 = .ok (.putfield 21, 3) := by decide +kernel
theorem dX0_takeFrom_32 : decode cX0_takeFrom 32 = .ok (.aload_n 0, 1) := by decide +kernel
theorem dX0_takeFrom_33 : decode cX0_takeFrom 33 = .ok (.aload_n 1, 1) := by decide +kernel
theorem dX0_takeFrom_34 : decode cX0_takeFrom 34 = .ok (.getfield 24, 3) := by decide +kernel
theorem dX0_takeFrom_37 : decode cX0_takeFrom 37 = .ok (.putfield 24, 3) := by decide +kernel
theorem dX0_takeFrom_40 : decode cX0_takeFrom 40 = .ok (.aload_n 0, 1) := by decide +kernel
theorem dX0_takeFrom_41 : decode cX0_takeFrom 41 = .ok (.aload_n 1, 1) := by decide +kernel
theorem dX0_takeFrom_42 : decode cX0_takeFrom 42 = .ok (.getfield 27, 3) := by decide +kernel
theorem dX0_takeFrom_45 : decode cX0_takeFrom 45 = .ok (.putfield 27, 3) := by decide +kernel
theorem dX0_takeFrom_48 : decode cX0_takeFrom 48 = .ok (.aload_n 0, 1) := by decide +kernel
theorem dX0_takeFrom_49 : decode cX0_takeFrom 49 = .ok (.aload_n 1, 1) := by decide +kernel
theorem dX0_takeFrom_50 : decode cX0_takeFrom 50 = .ok (.getfield 30, 3) := by decide +kernel
theorem dX0_takeFrom_53 : decode cX0_takeFrom 53 = .ok (.putfield 30, 3) := by decide +kernel
theorem dX0_takeFrom_56 : decode cX0_takeFrom 56 = .ok (.aload_n 1, 1) := by decide +kernel
theorem dX0_takeFrom_57 : decode cX0_takeFrom 57 = .ok (.getfield 33, 3) := by decide +kernel
theorem dX0_takeFrom_60 : decode cX0_takeFrom 60 = .ok (.iconst 0, 1) := by decide +kernel
theorem dX0_takeFrom_61 : decode cX0_takeFrom 61 = .ok (.aload_n 0, 1) := by decide +kernel
theorem dX0_takeFrom_62 : decode cX0_takeFrom 62 = .ok (.getfield 33, 3) := by decide +kernel
theorem dX0_takeFrom_65 : decode cX0_takeFrom 65 = .ok (.iconst 0, 1) := by decide +kernel
theorem dX0_takeFrom_66 : decode cX0_takeFrom 66 = .ok (.bipush 6, 2) := by decide +kernel
theorem dX0_takeFrom_68 : decode cX0_takeFrom 68 = .ok (.invokestatic 59, 3) := by decide +kernel
theorem dX0_takeFrom_71 : decode cX0_takeFrom 71 = .ok (.aload_n 1, 1) := by decide +kernel
theorem dX0_takeFrom_72 : decode cX0_takeFrom 72 = .ok (.getfield 37, 3) := by decide +kernel
theorem dX0_takeFrom_75 : decode cX0_takeFrom 75 = .ok (.iconst 0, 1) := by decide +kernel
theorem dX0_takeFrom_76 : decode cX0_takeFrom 76 = .ok (.aload_n 0, 1) := by decide +kernel
theorem dX0_takeFrom_77 : decode cX0_takeFrom 77 = .ok (.getfield 37, 3) := by decide +kernel
theorem dX0_takeFrom_80 : decode cX0_takeFrom 80 = .ok (.iconst 0, 1) := by decide +kernel
theorem dX0_takeFrom_81 : decode cX0_takeFrom 81 = .ok (.bipush 6, 2) := by decide +kernel
theorem dX0_takeFrom_83 : decode cX0_takeFrom 83 = .ok (.invokestatic 59, 3) := by decide +kernel
theorem dX0_takeFrom_86 : decode cX0_takeFrom 86 = .ok (.aload_n 1, 1) := by decide +kernel
theorem dX0_takeFrom_87 : decode cX0_takeFrom 87 = .ok (.getfield 40, 3) := by decide +kernel
theorem dX0_takeFrom_90 : decode cX0_takeFrom 90 = .ok (.iconst 0, 1) := by decide +kernel
theorem dX0_takeFrom_91 : decode cX0_takeFrom 91 = .ok (.aload_n 0, 1) := by decide +kernel
theorem dX0_takeFrom_92 : decode cX0_takeFrom 92 = .ok (.getfield 40, 3) := by decide +kernel
theorem dX0_takeFrom_95 : decode cX0_takeFrom 95 = .ok (.iconst 0, 1) := by decide +kernel
theorem dX0_takeFrom_96 : decode cX0_takeFrom 96 = .ok (.bipush 6, 2) := by decide +kernel
theorem dX0_takeFrom_98 : decode cX0_takeFrom 98 = .ok (.invokestatic 59, 3) := by decide +kernel
theorem dX0_takeFrom_101 : decode cX0_takeFrom 101 = .ok (.aload_n 1, 1) := by decide +kernel
theorem dX0_takeFrom_102 : decode cX0_takeFrom 102 = .ok (.getfield 43, 3) := by decide +kernel
theorem dX0_takeFrom_105 : decode cX0_takeFrom 105 = .ok (.iconst 0, 1) := by decide +kernel
theorem dX0_takeFrom_106 : decode cX0_takeFrom 106 = .ok (.aload_n 0, 1) := by decide +kernel
theorem dX0_takeFrom_107 : decode cX0_takeFrom 107 = .ok (.getfield 43, 3) := by decide +kernel
theorem dX0_takeFrom_110 : decode cX0_takeFrom 110 = .ok (.iconst 0, 1) := by decide +kernel
theorem dX0_takeFrom_111 : decode cX0_takeFrom 111 = .ok (.bipush 6, 2) := by decide +kernel
theorem dX0_takeFrom_113 : decode cX0_takeFrom 113 = .ok (.invokestatic 59, 3) := by decide +kernel
theorem dX0_takeFrom_116 : decode cX0_takeFrom 116 = .ok (.aload_n 1, 1) := by decide +kernel
theorem dX0_takeFrom_117 : decode cX0_takeFrom 117 = .ok (.getfield 46, 3) := by decide +kernel
theorem dX0_takeFrom_120 : decode cX0_takeFrom 120 = .ok (.iconst 0, 1) := by decide +kernel
theorem dX0_takeFrom_121 : decode cX0_takeFrom 121 = .ok (.aload_n 0, 1) := by decide +kernel
theorem dX0_takeFrom_122 : decode cX0_takeFrom 122 = .ok (.getfield 46, 3) := by decide +kernel
theorem dX0_takeFrom_125 : decode cX0_takeFrom 125 = .ok (.iconst 0, 1) := by decide +kernel
theorem dX0_takeFrom_126 : decode cX0_takeFrom 126 = .ok (.bipush 6, 2) := by decide +kernel
theorem dX0_takeFrom_128 : decode cX0_takeFrom 128 = .ok (.invokestatic 59, 3) := by decide +kernel
theorem dX0_takeFrom_131 : decode cX0_takeFrom 131 = .ok (.aload_n 1, 1) := by decide +kernel
theorem dX0_takeFrom_132 : decode cX0_takeFrom 132 = .ok (.getfield 49, 3) := by decide +kernel
theorem dX0_takeFrom_135 : decode cX0_takeFrom 135 = .ok (.iconst 0, 1) := by decide +kernel
theorem dX0_takeFrom_136 : decode cX0_takeFrom 136 = .ok (.aload_n 0, 1) := by decide +kernel
theorem dX0_takeFrom_137 : decode cX0_takeFrom 137 = .ok (.getfield 49, 3) := by decide +kernel
theorem dX0_takeFrom_140 : decode cX0_takeFrom 140 = .ok (.iconst 0, 1) := by decide +kernel
theorem dX0_takeFrom_141 : decode cX0_takeFrom 141 = .ok (.bipush 6, 2) := by decide +kernel
theorem dX0_takeFrom_143 : decode cX0_takeFrom 143 = .ok (.invokestatic 59, 3) := by decide +kernel
theorem dX0_takeFrom_146 : decode cX0_takeFrom 146 = .ok (.aload_n 1, 1) := by decide +kernel
theorem dX0_takeFrom_147 : decode cX0_takeFrom 147 = .ok (.getfield 52, 3) := by decide +kernel
theorem dX0_takeFrom_150 : decode cX0_takeFrom 150 = .ok (.iconst 0, 1) := by decide +kernel
theorem dX0_takeFrom_151 : decode cX0_takeFrom 151 = .ok (.aload_n 0, 1) := by decide +kernel
theorem dX0_takeFrom_152 : decode cX0_takeFrom 152 = .ok (.getfield 52, 3) := by decide +kernel
theorem dX0_takeFrom_155 : decode cX0_takeFrom 155 = .ok (.iconst 0, 1) := by decide +kernel
theorem dX0_takeFrom_156 : decode cX0_takeFrom 156 = .ok (.bipush 36, 2) := by decide +kernel
theorem dX0_takeFrom_158 : decode cX0_takeFrom 158 = .ok (.invokestatic 59, 3) := by decide +kernel
theorem dX0_takeFrom_161 : decode cX0_takeFrom 161 = .ok (.return_, 1) := by decide +kernel
theorem dX0_sent_0 : decode cX0_sent 0 = .ok (.aload_n 0, 1) := by decide +kernel
theorem dX0_sent_1 : decode cX0_sent 1 = .ok (.getfield 27, 3) := by decide +kernel
theorem dX0_sent_4 : decode cX0_sent 4 = .ok (.aload_n 0, 1) := by decide +kernel
theorem dX0_sent_5 : decode cX0_sent 5 = .ok (.getfield 30, 3) := by decide +kernel
theorem dX0_sent_8 : decode cX0_sent 8 = .ok (.iadd, 1) := by decide +kernel
theorem dX0_sent_9 : decode cX0_sent 9 = .ok (.ireturn, 1) := by decide +kernel
theorem dX0_bitsOf_0 : decode cX0_bitsOf 0 = .ok (.iconst 0, 1) := by decide +kernel
theorem dX0_bitsOf_1 : decode cX0_bitsOf 1 = .ok (.istore_n 2, 1) := by decide +kernel
theorem dX0_bitsOf_2 : decode cX0_bitsOf 2 = .ok (.iconst 0, 1) := by decide +kernel
theorem dX0_bitsOf_3 : decode cX0_bitsOf 3 = .ok (.istore_n 3, 1) := by decide +kernel
theorem dX0_bitsOf_4 : decode cX0_bitsOf 4 = .ok (.iload_n 3, 1) := by decide +kernel
theorem dX0_bitsOf_5 : decode cX0_bitsOf 5 = .ok (.bipush 6, 2) := by decide +kernel
theorem dX0_bitsOf_7 : decode cX0_bitsOf 7 = .ok (.if_icmp .ge 25, 3) := by decide +kernel
theorem dX0_bitsOf_10 : decode cX0_bitsOf 10 = .ok (.aload_n 0, 1) := by decide +kernel
theorem dX0_bitsOf_11 : decode cX0_bitsOf 11 = .ok (.getfield 33, 3) := by decide +kernel
theorem dX0_bitsOf_14 : decode cX0_bitsOf 14 = .ok (.iload_n 3, 1) := by decide +kernel
theorem dX0_bitsOf_15 : decode cX0_bitsOf 15 = .ok (.iaload, 1) := by decide +kernel
theorem dX0_bitsOf_16 : decode cX0_bitsOf 16 = .ok (.iload_n 1, 1) := by decide +kernel
theorem dX0_bitsOf_17 : decode cX0_bitsOf 17 = .ok (.if_icmp .ne 9, 3) := by decide +kernel
theorem dX0_bitsOf_20 : decode cX0_bitsOf 20 = .ok (.iload_n 2, 1) := by decide +kernel
theorem dX0_bitsOf_21 : decode cX0_bitsOf 21 = .ok (.iconst 1, 1) := by decide +kernel
theorem dX0_bitsOf_22 : decode cX0_bitsOf 22 = .ok (.iload_n 3, 1) := by decide +kernel
theorem dX0_bitsOf_23 : decode cX0_bitsOf 23 = .ok (.ishl, 1) := by decide +kernel
theorem dX0_bitsOf_24 : decode cX0_bitsOf 24 = .ok (.ior, 1) := by decide +kernel
theorem dX0_bitsOf_25 : decode cX0_bitsOf 25 = .ok (.istore_n 2, 1) := by decide +kernel
theorem dX0_bitsOf_26 : decode cX0_bitsOf 26 = .ok (.iinc 3 1, 3) := by decide +kernel
theorem dX0_bitsOf_29 : decode cX0_bitsOf 29 = .ok (.goto (-25), 3) := by decide +kernel
theorem dX0_bitsOf_32 : decode cX0_bitsOf 32 = .ok (.iload_n 2, 1) := by decide +kernel
theorem dX0_bitsOf_33 : decode cX0_bitsOf 33 = .ok (.ireturn, 1) := by decide +kernel
theorem dX0_knows_0 : decode cX0_knows 0 = .ok (.aload_n 0, 1) := by decide +kernel
theorem dX0_knows_1 : decode cX0_knows 1 = .ok (.getfield 37, 3) := by decide +kernel
theorem dX0_knows_4 : decode cX0_knows 4 = .ok (.iload_n 1, 1) := by decide +kernel
theorem dX0_knows_5 : decode cX0_knows 5 = .ok (.iaload, 1) := by decide +kernel
theorem dX0_knows_6 : decode cX0_knows 6 = .ok (.iload_n 2, 1) := by decide +kernel
theorem dX0_knows_7 : decode cX0_knows 7 = .ok (.ishr, 1) := by decide +kernel
theorem dX0_knows_8 : decode cX0_knows 8 = .ok (.iconst 1, 1) := by decide +kernel
theorem dX0_knows_9 : decode cX0_knows 9 = .ok (.iand, 1) := by decide +kernel
theorem dX0_knows_10 : decode cX0_knows 10 = .ok (.ifCond .eq 7, 3) := by decide +kernel
theorem dX0_knows_13 : decode cX0_knows 13 = .ok (.iconst 1, 1) := by decide +kernel
theorem dX0_knows_14 : decode cX0_knows 14 = .ok (.goto 4, 3) := by decide +kernel
theorem dX0_knows_17 : decode cX0_knows 17 = .ok (.iconst 0, 1) := by decide +kernel
theorem dX0_knows_18 : decode cX0_knows 18 = .ok (.ireturn, 1) := by decide +kernel
theorem dX0_isOpen_0 : decode cX0_isOpen 0 = .ok (.aload_n 0, 1) := by decide +kernel
theorem dX0_isOpen_1 : decode cX0_isOpen 1 = .ok (.getfield 49, 3) := by decide +kernel
theorem dX0_isOpen_4 : decode cX0_isOpen 4 = .ok (.iload_n 1, 1) := by decide +kernel
theorem dX0_isOpen_5 : decode cX0_isOpen 5 = .ok (.iaload, 1) := by decide +kernel
theorem dX0_isOpen_6 : decode cX0_isOpen 6 = .ok (.iload_n 2, 1) := by decide +kernel
theorem dX0_isOpen_7 : decode cX0_isOpen 7 = .ok (.ishr, 1) := by decide +kernel
theorem dX0_isOpen_8 : decode cX0_isOpen 8 = .ok (.iconst 1, 1) := by decide +kernel
theorem dX0_isOpen_9 : decode cX0_isOpen 9 = .ok (.iand, 1) := by decide +kernel
theorem dX0_isOpen_10 : decode cX0_isOpen 10 = .ok (.ifCond .ne 7, 3) := by decide +kernel
theorem dX0_isOpen_13 : decode cX0_isOpen 13 = .ok (.iconst 1, 1) := by decide +kernel
theorem dX0_isOpen_14 : decode cX0_isOpen 14 = .ok (.goto 4, 3) := by decide +kernel
theorem dX0_isOpen_17 : decode cX0_isOpen 17 = .ok (.iconst 0, 1) := by decide +kernel
theorem dX0_isOpen_18 : decode cX0_isOpen 18 = .ok (.ireturn, 1) := by decide +kernel
set_option maxRecDepth 20000 in
theorem ggX0_countOf_J6_bitCount_0f7a4 : GoodIn wsX0_countOf wsJ6_bitCount_0f7a4 := goodIn_r _ [5, 6, 7, 8] (by decide +kernel) (by decide +kernel)
set_option maxRecDepth 20000 in
theorem gX0_countOf_J6_bitCount_0f7a4 : GoodIn wsX0_countOf (va_wsS RX0 65 yJ6_bitCount_0f7a4 wsJ6_bitCount_0f7a4) := goodIn_app (goodIn_of _ (by decide +kernel)) ggX0_countOf_J6_bitCount_0f7a4
theorem dX0_countOf_0 : decode cX0_countOf 0 = .ok (.iconst 1, 1) := by decide +kernel
theorem dX0_countOf_1 : decode cX0_countOf 1 = .ok (.aload_n 0, 1) := by decide +kernel
theorem dX0_countOf_2 : decode cX0_countOf 2 = .ok (.getfield 37, 3) := by decide +kernel
theorem dX0_countOf_5 : decode cX0_countOf 5 = .ok (.iload_n 1, 1) := by decide +kernel
theorem dX0_countOf_6 : decode cX0_countOf 6 = .ok (.iaload, 1) := by decide +kernel
theorem dX0_countOf_7 : decode cX0_countOf 7 = .ok (.invokestatic 65, 3) := by decide +kernel
theorem dX0_countOf_10 : decode cX0_countOf 10 = .ok (.iadd, 1) := by decide +kernel
theorem dX0_countOf_11 : decode cX0_countOf 11 = .ok (.ireturn, 1) := by decide +kernel
set_option maxRecDepth 20000 in
theorem ggX0_countTold_X0_countOf : GoodIn wsX0_countTold wsX0_countOf := goodIn_r _ [6, 7, 8, 9, 10, 11, 12, 13, 14, 15, 16, 17, 18, 19, 20, 21, 22, 23, 24, 25, 26, 27, 28] (by decide +kernel) (by decide +kernel)
set_option maxRecDepth 20000 in
theorem gX0_countTold_X0_countOf : GoodIn wsX0_countTold (wsV RX0 71 RX0 yX0_countOf wsX0_countOf) := goodIn_app (goodIn_of _ (by decide +kernel)) ggX0_countTold_X0_countOf
theorem dX0_countTold_0 : decode cX0_countTold 0 = .ok (.aload_n 0, 1) := by decide +kernel
theorem dX0_countTold_1 : decode cX0_countTold 1 = .ok (.getfield 33, 3) := by decide +kernel
theorem dX0_countTold_4 : decode cX0_countTold 4 = .ok (.iload_n 1, 1) := by decide +kernel
theorem dX0_countTold_5 : decode cX0_countTold 5 = .ok (.iaload, 1) := by decide +kernel
theorem dX0_countTold_6 : decode cX0_countTold 6 = .ok (.ifCond .ne 7, 3) := by decide +kernel
theorem dX0_countTold_9 : decode cX0_countTold 9 = .ok (.iconst 0, 1) := by decide +kernel
theorem dX0_countTold_10 : decode cX0_countTold 10 = .ok (.goto 8, 3) := by decide +kernel
theorem dX0_countTold_13 : decode cX0_countTold 13 = .ok (.aload_n 0, 1) := by decide +kernel
theorem dX0_countTold_14 : decode cX0_countTold 14 = .ok (.iload_n 1, 1) := by decide +kernel
theorem dX0_countTold_15 : decode cX0_countTold 15 = .ok (.invokevirtual 71, 3) := by decide +kernel
theorem dX0_countTold_18 : decode cX0_countTold 18 = .ok (.ireturn, 1) := by decide +kernel
set_option maxRecDepth 20000 in
theorem ggX0_isAtRest_X0_bitsOf : GoodIn wsX0_isAtRest wsX0_bitsOf := goodIn_r _ [7, 1, 8, 9, 10, 11, 12, 13, 14, 15, 16, 17, 18, 19, 20, 21] (by decide +kernel) (by decide +kernel)
set_option maxRecDepth 20000 in
theorem gX0_isAtRest_X0_bitsOf : GoodIn wsX0_isAtRest (wsV RX0 74 RX0 yX0_bitsOf wsX0_bitsOf) := goodIn_app (goodIn_of _ (by decide +kernel)) ggX0_isAtRest_X0_bitsOf
theorem dX0_isAtRest_0 : decode cX0_isAtRest 0 = .ok (.aload_n 0, 1) := by decide +kernel
theorem dX0_isAtRest_1 : decode cX0_isAtRest 1 = .ok (.iconst 1, 1) := by decide +kernel
theorem dX0_isAtRest_2 : decode cX0_isAtRest 2 = .ok (.invokevirtual 74, 3) := by decide +kernel
theorem dX0_isAtRest_5 : decode cX0_isAtRest 5 = .ok (.istore_n 1, 1) := by decide +kernel
theorem dX0_isAtRest_6 : decode cX0_isAtRest 6 = .ok (.iconst 0, 1) := by decide +kernel
theorem dX0_isAtRest_7 : decode cX0_isAtRest 7 = .ok (.istore_n 2, 1) := by decide +kernel
theorem dX0_isAtRest_8 : decode cX0_isAtRest 8 = .ok (.iload_n 2, 1) := by decide +kernel
theorem dX0_isAtRest_9 : decode cX0_isAtRest 9 = .ok (.bipush 6, 2) := by decide +kernel
theorem dX0_isAtRest_11 : decode cX0_isAtRest 11 = .ok (.if_icmp .ge 47, 3) := by decide +kernel
theorem dX0_isAtRest_14 : decode cX0_isAtRest 14 = .ok (.aload_n 0, 1) := by decide +kernel
theorem dX0_isAtRest_15 : decode cX0_isAtRest 15 = .ok (.getfield 33, 3) := by decide +kernel
theorem dX0_isAtRest_18 : decode cX0_isAtRest 18 = .ok (.iload_n 2, 1) := by decide +kernel
theorem dX0_isAtRest_19 : decode cX0_isAtRest 19 = .ok (.iaload, 1) := by decide +kernel
theorem dX0_isAtRest_20 : decode cX0_isAtRest 20 = .ok (.iconst 2, 1) := by decide +kernel
theorem dX0_isAtRest_21 : decode cX0_isAtRest 21 = .ok (.if_icmp .eq 29, 3) := by decide +kernel
theorem dX0_isAtRest_24 : decode cX0_isAtRest 24 = .ok (.aload_n 0, 1) := by decide +kernel
theorem dX0_isAtRest_25 : decode cX0_isAtRest 25 = .ok (.getfield 33, 3) := by decide +kernel
theorem dX0_isAtRest_28 : decode cX0_isAtRest 28 = .ok (.iload_n 2, 1) := by decide +kernel
theorem dX0_isAtRest_29 : decode cX0_isAtRest 29 = .ok (.iaload, 1) := by decide +kernel
theorem dX0_isAtRest_30 : decode cX0_isAtRest 30 = .ok (.iconst 1, 1) := by decide +kernel
theorem dX0_isAtRest_31 : decode cX0_isAtRest 31 = .ok (.if_icmp .ne 21, 3) := by decide +kernel
theorem dX0_isAtRest_34 : decode cX0_isAtRest 34 = .ok (.aload_n 0, 1) := by decide +kernel
theorem dX0_isAtRest_35 : decode cX0_isAtRest 35 = .ok (.getfield 37, 3) := by decide +kernel
theorem dX0_isAtRest_38 : decode cX0_isAtRest 38 = .ok (.iload_n 2, 1) := by decide +kernel
theorem dX0_isAtRest_39 : decode cX0_isAtRest 39 = .ok (.iaload, 1) := by decide +kernel
theorem dX0_isAtRest_40 : decode cX0_isAtRest 40 = .ok (.iload_n 1, 1) := by decide +kernel
theorem dX0_isAtRest_41 : decode cX0_isAtRest 41 = .ok (.iconst 1, 1) := by decide +kernel
theorem dX0_isAtRest_42 : decode cX0_isAtRest 42 = .ok (.iload_n 2, 1) := by decide +kernel
theorem dX0_isAtRest_43 : decode cX0_isAtRest 43 = .ok (.ishl, 1) := by decide +kernel
theorem dX0_isAtRest_44 : decode cX0_isAtRest 44 = .ok (.iconst (-1), 1) := by decide +kernel
theorem dX0_isAtRest_45 : decode cX0_isAtRest 45 = .ok (.ixor, 1) := by decide +kernel
theorem dX0_isAtRest_46 : decode cX0_isAtRest 46 = .ok (.iand, 1) := by decide +kernel
theorem dX0_isAtRest_47 : decode cX0_isAtRest 47 = .ok (.if_icmp .eq 5, 3) := by decide +kernel
theorem dX0_isAtRest_50 : decode cX0_isAtRest 50 = .ok (.iconst 0, 1) := by decide +kernel
theorem dX0_isAtRest_51 : decode cX0_isAtRest 51 = .ok (.ireturn, 1) := by decide +kernel
theorem dX0_isAtRest_52 : decode cX0_isAtRest 52 = .ok (.iinc 2 1, 3) := by decide +kernel
theorem dX0_isAtRest_55 : decode cX0_isAtRest 55 = .ok (.goto (-47), 3) := by decide +kernel
theorem dX0_isAtRest_58 : decode cX0_isAtRest 58 = .ok (.iconst 1, 1) := by decide +kernel
theorem dX0_isAtRest_59 : decode cX0_isAtRest 59 = .ok (.ireturn, 1) := by decide +kernel
theorem dX0_feltBits_0 : decode cX0_feltBits 0 = .ok (.iconst 0, 1) := by decide +kernel
theorem dX0_feltBits_1 : decode cX0_feltBits 1 = .ok (.istore_n 1, 1) := by decide +kernel
theorem dX0_feltBits_2 : decode cX0_feltBits 2 = .ok (.iconst 0, 1) := by decide +kernel
theorem dX0_feltBits_3 : decode cX0_feltBits 3 = .ok (.istore_n 2, 1) := by decide +kernel
theorem dX0_feltBits_4 : decode cX0_feltBits 4 = .ok (.iload_n 2, 1) := by decide +kernel
theorem dX0_feltBits_5 : decode cX0_feltBits 5 = .ok (.bipush 6, 2) := by decide +kernel
theorem dX0_feltBits_7 : decode cX0_feltBits 7 = .ok (.if_icmp .ge 33, 3) := by decide +kernel
theorem dX0_feltBits_10 : decode cX0_feltBits 10 = .ok (.iload_n 1, 1) := by decide +kernel
theorem dX0_feltBits_11 : decode cX0_feltBits 11 = .ok (.aload_n 0, 1) := by decide +kernel
theorem dX0_feltBits_12 : decode cX0_feltBits 12 = .ok (.getfield 37, 3) := by decide +kernel
theorem dX0_feltBits_15 : decode cX0_feltBits 15 = .ok (.iload_n 2, 1) := by decide +kernel
theorem dX0_feltBits_16 : decode cX0_feltBits 16 = .ok (.iaload, 1) := by decide +kernel
theorem dX0_feltBits_17 : decode cX0_feltBits 17 = .ok (.ior, 1) := by decide +kernel
theorem dX0_feltBits_18 : decode cX0_feltBits 18 = .ok (.istore_n 1, 1) := by decide +kernel
theorem dX0_feltBits_19 : decode cX0_feltBits 19 = .ok (.aload_n 0, 1) := by decide +kernel
theorem dX0_feltBits_20 : decode cX0_feltBits 20 = .ok (.getfield 33, 3) := by decide +kernel
theorem dX0_feltBits_23 : decode cX0_feltBits 23 = .ok (.iload_n 2, 1) := by decide +kernel
theorem dX0_feltBits_24 : decode cX0_feltBits 24 = .ok (.iaload, 1) := by decide +kernel
theorem dX0_feltBits_25 : decode cX0_feltBits 25 = .ok (.ifCond .eq 9, 3) := by decide +kernel
theorem dX0_feltBits_28 : decode cX0_feltBits 28 = .ok (.iload_n 1, 1) := by decide +kernel
theorem dX0_feltBits_29 : decode cX0_feltBits 29 = .ok (.iconst 1, 1) := by decide +kernel
theorem dX0_feltBits_30 : decode cX0_feltBits 30 = .ok (.iload_n 2, 1) := by decide +kernel
theorem dX0_feltBits_31 : decode cX0_feltBits 31 = .ok (.ishl, 1) := by decide +kernel
theorem dX0_feltBits_32 : decode cX0_feltBits 32 = .ok (.ior, 1) := by decide +kernel
theorem dX0_feltBits_33 : decode cX0_feltBits 33 = .ok (.istore_n 1, 1) := by decide +kernel
theorem dX0_feltBits_34 : decode cX0_feltBits 34 = .ok (.iinc 2 1, 3) := by decide +kernel
theorem dX0_feltBits_37 : decode cX0_feltBits 37 = .ok (.goto (-33), 3) := by decide +kernel
theorem dX0_feltBits_40 : decode cX0_feltBits 40 = .ok (.iload_n 1, 1) := by decide +kernel
theorem dX0_feltBits_41 : decode cX0_feltBits 41 = .ok (.ireturn, 1) := by decide +kernel
set_option maxRecDepth 20000 in
theorem ggX0_leaveOnly_X0_goAway : GoodIn wsX0_leaveOnly wsX0_goAway := goodIn_r _ [6, 7, 1, 8, 9, 10, 11, 12, 13, 14, 15, 16, 17, 18, 19, 20, 21, 22, 23, 24] (by decide +kernel) (by decide +kernel)
set_option maxRecDepth 20000 in
theorem gX0_leaveOnly_X0_goAway : GoodIn wsX0_leaveOnly (wsV RX0 55 RX0 yX0_goAway wsX0_goAway) := goodIn_app (goodIn_of _ (by decide +kernel)) ggX0_leaveOnly_X0_goAway
theorem dX0_leaveOnly_0 : decode cX0_leaveOnly 0 = .ok (.iconst 0, 1) := by decide +kernel
theorem dX0_leaveOnly_1 : decode cX0_leaveOnly 1 = .ok (.istore_n 2, 1) := by decide +kernel
theorem dX0_leaveOnly_2 : decode cX0_leaveOnly 2 = .ok (.iload_n 2, 1) := by decide +kernel
theorem dX0_leaveOnly_3 : decode cX0_leaveOnly 3 = .ok (.bipush 6, 2) := by decide +kernel
theorem dX0_leaveOnly_5 : decode cX0_leaveOnly 5 = .ok (.if_icmp .ge 32, 3) := by decide +kernel
theorem dX0_leaveOnly_8 : decode cX0_leaveOnly 8 = .ok (.aload_n 0, 1) := by decide +kernel
theorem dX0_leaveOnly_9 : decode cX0_leaveOnly 9 = .ok (.getfield 37, 3) := by decide +kernel
theorem dX0_leaveOnly_12 : decode cX0_leaveOnly 12 = .ok (.iload_n 2, 1) := by decide +kernel
theorem dX0_leaveOnly_13 : decode cX0_leaveOnly 13 = .ok (.dup2, 1) := by decide +kernel
theorem dX0_leaveOnly_14 : decode cX0_leaveOnly 14 = .ok (.iaload, 1) := by decide +kernel
theorem dX0_leaveOnly_15 : decode cX0_leaveOnly 15 = .ok (.iload_n 1, 1) := by decide +kernel
theorem dX0_leaveOnly_16 : decode cX0_leaveOnly 16 = .ok (.iand, 1) := by decide +kernel
theorem dX0_leaveOnly_17 : decode cX0_leaveOnly 17 = .ok (.iastore, 1) := by decide +kernel
theorem dX0_leaveOnly_18 : decode cX0_leaveOnly 18 = .ok (.iload_n 1, 1) := by decide +kernel
theorem dX0_leaveOnly_19 : decode cX0_leaveOnly 19 = .ok (.iload_n 2, 1) := by decide +kernel
theorem dX0_leaveOnly_20 : decode cX0_leaveOnly 20 = .ok (.ishr, 1) := by decide +kernel
theorem dX0_leaveOnly_21 : decode cX0_leaveOnly 21 = .ok (.iconst 1, 1) := by decide +kernel
theorem dX0_leaveOnly_22 : decode cX0_leaveOnly 22 = .ok (.iand, 1) := by decide +kernel
theorem dX0_leaveOnly_23 : decode cX0_leaveOnly 23 = .ok (.ifCond .ne 8, 3) := by decide +kernel
theorem dX0_leaveOnly_26 : decode cX0_leaveOnly 26 = .ok (.aload_n 0, 1) := by decide +kernel
theorem dX0_leaveOnly_27 : decode cX0_leaveOnly 27 = .ok (.iload_n 2, 1) := by decide +kernel
theorem dX0_leaveOnly_28 : decode cX0_leaveOnly 28 = .ok (.invokevirtual 55, 3) := by decide +kernel
theorem dX0_leaveOnly_31 : decode cX0_leaveOnly 31 = .ok (.iinc 2 1, 3) := by decide +kernel
theorem dX0_leaveOnly_34 : decode cX0_leaveOnly 34 = .ok (.goto (-32), 3) := by decide +kernel
theorem dX0_leaveOnly_37 : decode cX0_leaveOnly 37 = .ok (.return_, 1) := by decide +kernel
theorem dX0_turnWay_0 : decode cX0_turnWay 0 = .ok (.iload_n 1, 1) := by decide +kernel
theorem dX0_turnWay_1 : decode cX0_turnWay 1 = .ok (.iload_n 2, 1) := by decide +kernel
theorem dX0_turnWay_2 : decode cX0_turnWay 2 = .ok (.if_icmp .ne 5, 3) := by decide +kernel
theorem dX0_turnWay_5 : decode cX0_turnWay 5 = .ok (.iconst 0, 1) := by decide +kernel
theorem dX0_turnWay_6 : decode cX0_turnWay 6 = .ok (.ireturn, 1) := by decide +kernel
theorem dX0_turnWay_7 : decode cX0_turnWay 7 = .ok (.aload_n 0, 1) := by decide +kernel
theorem dX0_turnWay_8 : decode cX0_turnWay 8 = .ok (.getfield 49, 3) := by decide +kernel
theorem dX0_turnWay_11 : decode cX0_turnWay 11 = .ok (.iload_n 1, 1) := by decide +kernel
theorem dX0_turnWay_12 : decode cX0_turnWay 12 = .ok (.dup2, 1) := by decide +kernel
theorem dX0_turnWay_13 : decode cX0_turnWay 13 = .ok (.iaload, 1) := by decide +kernel
theorem dX0_turnWay_14 : decode cX0_turnWay 14 = .ok (.iconst 1, 1) := by decide +kernel
theorem dX0_turnWay_15 : decode cX0_turnWay 15 = .ok (.iload_n 2, 1) := by decide +kernel
theorem dX0_turnWay_16 : decode cX0_turnWay 16 = .ok (.ishl, 1) := by decide +kernel
theorem dX0_turnWay_17 : decode cX0_turnWay 17 = .ok (.ixor, 1) := by decide +kernel
theorem dX0_turnWay_18 : decode cX0_turnWay 18 = .ok (.iastore, 1) := by decide +kernel
theorem dX0_turnWay_19 : decode cX0_turnWay 19 = .ok (.iconst 1, 1) := by decide +kernel
theorem dX0_turnWay_20 : decode cX0_turnWay 20 = .ok (.ireturn, 1) := by decide +kernel
theorem dX0_tellAnew_0 : decode cX0_tellAnew 0 = .ok (.iload_n 1, 1) := by decide +kernel
theorem dX0_tellAnew_1 : decode cX0_tellAnew 1 = .ok (.ifCond .ne 16, 3) := by decide +kernel
theorem dX0_tellAnew_4 : decode cX0_tellAnew 4 = .ok (.aload_n 0, 1) := by decide +kernel
theorem dX0_tellAnew_5 : decode cX0_tellAnew 5 = .ok (.getfield 9, 3) := by decide +kernel
theorem dX0_tellAnew_8 : decode cX0_tellAnew 8 = .ok (.istore_n 3, 1) := by decide +kernel
theorem dX0_tellAnew_9 : decode cX0_tellAnew 9 = .ok (.aload_n 0, 1) := by decide +kernel
theorem dX0_tellAnew_10 : decode cX0_tellAnew 10 = .ok (.iload_n 2, 1) := by decide +kernel
theorem dX0_tellAnew_11 : decode cX0_tellAnew 11 = .ok (.putfield 9, 3) := by decide +kernel
theorem dX0_tellAnew_14 : decode cX0_tellAnew 14 = .ok (.goto 31, 3) := by decide +kernel
theorem dX0_tellAnew_17 : decode cX0_tellAnew 17 = .ok (.iload_n 1, 1) := by decide +kernel
theorem dX0_tellAnew_18 : decode cX0_tellAnew 18 = .ok (.iconst 1, 1) := by decide +kernel
theorem dX0_tellAnew_19 : decode cX0_tellAnew 19 = .ok (.if_icmp .ne 16, 3) := by decide +kernel
theorem dX0_tellAnew_22 : decode cX0_tellAnew 22 = .ok (.aload_n 0, 1) := by decide +kernel
theorem dX0_tellAnew_23 : decode cX0_tellAnew 23 = .ok (.getfield 15, 3) := by decide +kernel
theorem dX0_tellAnew_26 : decode cX0_tellAnew 26 = .ok (.istore_n 3, 1) := by decide +kernel
theorem dX0_tellAnew_27 : decode cX0_tellAnew 27 = .ok (.aload_n 0, 1) := by decide +kernel
theorem dX0_tellAnew_28 : decode cX0_tellAnew 28 = .ok (.iload_n 2, 1) := by decide +kernel
theorem dX0_tellAnew_29 : decode cX0_tellAnew 29 = .ok (.putfield 15, 3) := by decide +kernel
theorem dX0_tellAnew_32 : decode cX0_tellAnew 32 = .ok (.goto 13, 3) := by decide +kernel
theorem dX0_tellAnew_35 : decode cX0_tellAnew 35 = .ok (.aload_n 0, 1) := by decide +kernel
theorem dX0_tellAnew_36 : decode cX0_tellAnew 36 = .ok (.getfield 18, 3) := by decide +kernel
theorem dX0_tellAnew_39 : decode cX0_tellAnew 39 = .ok (.istore_n 3, 1) := by decide +kernel
theorem dX0_tellAnew_40 : decode cX0_tellAnew 40 = .ok (.aload_n 0, 1) := by decide +kernel
theorem dX0_tellAnew_41 : decode cX0_tellAnew 41 = .ok (.iload_n 2, 1) := by decide +kernel
theorem dX0_tellAnew_42 : decode cX0_tellAnew 42 = .ok (.putfield 18, 3) := by decide +kernel
theorem dX0_tellAnew_45 : decode cX0_tellAnew 45 = .ok (.iload_n 3, 1) := by decide +kernel
theorem dX0_tellAnew_46 : decode cX0_tellAnew 46 = .ok (.ireturn, 1) := by decide +kernel
theorem dX0_spanOf_0 : decode cX0_spanOf 0 = .ok (.iconst 1, 1) := by decide +kernel
theorem dX0_spanOf_1 : decode cX0_spanOf 1 = .ok (.aload_n 0, 1) := by decide +kernel
theorem dX0_spanOf_2 : decode cX0_spanOf 2 = .ok (.getfield 15, 3) := by decide +kernel
theorem dX0_spanOf_5 : decode cX0_spanOf 5 = .ok (.invokestatic 77, 3) := by decide +kernel
theorem dX0_spanOf_8 : decode cX0_spanOf 8 = .ok (.istore_n 2, 1) := by decide +kernel
theorem dX0_spanOf_9 : decode cX0_spanOf 9 = .ok (.aload_n 0, 1) := by decide +kernel
theorem dX0_spanOf_10 : decode cX0_spanOf 10 = .ok (.getfield 18, 3) := by decide +kernel
theorem dX0_spanOf_13 : decode cX0_spanOf 13 = .ok (.iload_n 1, 1) := by decide +kernel
theorem dX0_spanOf_14 : decode cX0_spanOf 14 = .ok (.aload_n 0, 1) := by decide +kernel
theorem dX0_spanOf_15 : decode cX0_spanOf 15 = .ok (.getfield 9, 3) := by decide +kernel
theorem dX0_spanOf_18 : decode cX0_spanOf 18 = .ok (.imul, 1) := by decide +kernel
theorem dX0_spanOf_19 : decode cX0_spanOf 19 = .ok (.iload_n 2, 1) := by decide +kernel
theorem dX0_spanOf_20 : decode cX0_spanOf 20 = .ok (.iadd, 1) := by decide +kernel
theorem dX0_spanOf_21 : decode cX0_spanOf 21 = .ok (.iconst 1, 1) := by decide +kernel
theorem dX0_spanOf_22 : decode cX0_spanOf 22 = .ok (.isub, 1) := by decide +kernel
theorem dX0_spanOf_23 : decode cX0_spanOf 23 = .ok (.iload_n 2, 1) := by decide +kernel
theorem dX0_spanOf_24 : decode cX0_spanOf 24 = .ok (.idiv, 1) := by decide +kernel
theorem dX0_spanOf_25 : decode cX0_spanOf 25 = .ok (.invokestatic 77, 3) := by decide +kernel
theorem dX0_spanOf_28 : decode cX0_spanOf 28 = .ok (.ireturn, 1) := by decide +kernel
set_option maxRecDepth 20000 in
theorem ggX0_waitOf_X0_spanOf : GoodIn wsX0_waitOf wsX0_spanOf := goodIn_r _ [11, 12, 3, 4, 5, 6, 13, 14, 15, 16, 17, 18, 19, 20, 21, 22, 23, 24, 25, 26, 27, 28] (by decide +kernel) (by decide +kernel)
set_option maxRecDepth 20000 in
theorem gX0_waitOf_X0_spanOf : GoodIn wsX0_waitOf (wsV RX0 84 RX0 yX0_spanOf wsX0_spanOf) := goodIn_app (goodIn_of _ (by decide +kernel)) ggX0_waitOf_X0_spanOf
theorem dX0_waitOf_0 : decode cX0_waitOf 0 = .ok (.aload_n 0, 1) := by decide +kernel
theorem dX0_waitOf_1 : decode cX0_waitOf 1 = .ok (.sipush 25173, 3) := by decide +kernel
theorem dX0_waitOf_4 : decode cX0_waitOf 4 = .ok (.aload_n 0, 1) := by decide +kernel
theorem dX0_waitOf_5 : decode cX0_waitOf 5 = .ok (.getfield 24, 3) := by decide +kernel
theorem dX0_waitOf_8 : decode cX0_waitOf 8 = .ok (.imul, 1) := by decide +kernel
theorem dX0_waitOf_9 : decode cX0_waitOf 9 = .ok (.sipush 13849, 3) := by decide +kernel
theorem dX0_waitOf_12 : decode cX0_waitOf 12 = .ok (.iadd, 1) := by decide +kernel
theorem dX0_waitOf_13 : decode cX0_waitOf 13 = .ok (.ldc 83, 2) := by decide +kernel
theorem dX0_waitOf_15 : decode cX0_waitOf 15 = .ok (.irem, 1) := by decide +kernel
theorem dX0_waitOf_16 : decode cX0_waitOf 16 = .ok (.putfield 24, 3) := by decide +kernel
theorem dX0_waitOf_19 : decode cX0_waitOf 19 = .ok (.aload_n 0, 1) := by decide +kernel
theorem dX0_waitOf_20 : decode cX0_waitOf 20 = .ok (.getfield 24, 3) := by decide +kernel
theorem dX0_waitOf_23 : decode cX0_waitOf 23 = .ok (.bipush 16, 2) := by decide +kernel
theorem dX0_waitOf_25 : decode cX0_waitOf 25 = .ok (.idiv, 1) := by decide +kernel
theorem dX0_waitOf_26 : decode cX0_waitOf 26 = .ok (.iconst 5, 1) := by decide +kernel
theorem dX0_waitOf_27 : decode cX0_waitOf 27 = .ok (.irem, 1) := by decide +kernel
theorem dX0_waitOf_28 : decode cX0_waitOf 28 = .ok (.istore_n 2, 1) := by decide +kernel
theorem dX0_waitOf_29 : decode cX0_waitOf 29 = .ok (.iconst 1, 1) := by decide +kernel
theorem dX0_waitOf_30 : decode cX0_waitOf 30 = .ok (.aload_n 0, 1) := by decide +kernel
theorem dX0_waitOf_31 : decode cX0_waitOf 31 = .ok (.iload_n 1, 1) := by decide +kernel
theorem dX0_waitOf_32 : decode cX0_waitOf 32 = .ok (.invokevirtual 84, 3) := by decide +kernel
theorem dX0_waitOf_35 : decode cX0_waitOf 35 = .ok (.iconst 2, 1) := by decide +kernel
theorem dX0_waitOf_36 : decode cX0_waitOf 36 = .ok (.iload_n 2, 1) := by decide +kernel
theorem dX0_waitOf_37 : decode cX0_waitOf 37 = .ok (.iadd, 1) := by decide +kernel
theorem dX0_waitOf_38 : decode cX0_waitOf 38 = .ok (.imul, 1) := by decide +kernel
theorem dX0_waitOf_39 : decode cX0_waitOf 39 = .ok (.iconst 4, 1) := by decide +kernel
theorem dX0_waitOf_40 : decode cX0_waitOf 40 = .ok (.idiv, 1) := by decide +kernel
theorem dX0_waitOf_41 : decode cX0_waitOf 41 = .ok (.invokestatic 77, 3) := by decide +kernel
theorem dX0_waitOf_44 : decode cX0_waitOf 44 = .ok (.ireturn, 1) := by decide +kernel
set_option maxRecDepth 20000 in
theorem ggX0_begin_X0_waitOf : GoodIn wsX0_begin wsX0_waitOf := goodIn_r _ [8, 9, 10, 11, 12, 13, 14, 15, 16, 17, 7, 18, 19, 20, 21, 22, 23, 24, 25, 26, 27, 28, 29, 30, 31, 32, 33, 34, 35] (by decide +kernel) (by decide +kernel)
set_option maxRecDepth 20000 in
theorem gX0_begin_X0_waitOf : GoodIn wsX0_begin (wsV RX0 87 RX0 yX0_waitOf wsX0_waitOf) := goodIn_app (goodIn_of _ (by decide +kernel)) ggX0_begin_X0_waitOf
theorem dX0_begin_0 : decode cX0_begin 0 = .ok (.aload_n 0, 1) := by decide +kernel
theorem dX0_begin_1 : decode cX0_begin 1 = .ok (.getfield 40, 3) := by decide +kernel
theorem dX0_begin_4 : decode cX0_begin 4 = .ok (.iload_n 1, 1) := by decide +kernel
theorem dX0_begin_5 : decode cX0_begin 5 = .ok (.aload_n 0, 1) := by decide +kernel
theorem dX0_begin_6 : decode cX0_begin 6 = .ok (.getfield 21, 3) := by decide +kernel
theorem dX0_begin_9 : decode cX0_begin 9 = .ok (.iastore, 1) := by decide +kernel
theorem dX0_begin_10 : decode cX0_begin 10 = .ok (.aload_n 0, 1) := by decide +kernel
theorem dX0_begin_11 : decode cX0_begin 11 = .ok (.getfield 43, 3) := by decide +kernel
theorem dX0_begin_14 : decode cX0_begin 14 = .ok (.iload_n 1, 1) := by decide +kernel
theorem dX0_begin_15 : decode cX0_begin 15 = .ok (.aload_n 0, 1) := by decide +kernel
theorem dX0_begin_16 : decode cX0_begin 16 = .ok (.getfield 21, 3) := by decide +kernel
theorem dX0_begin_19 : decode cX0_begin 19 = .ok (.aload_n 0, 1) := by decide +kernel
theorem dX0_begin_20 : decode cX0_begin 20 = .ok (.iconst 1, 1) := by decide +kernel
theorem dX0_begin_21 : decode cX0_begin 21 = .ok (.invokevirtual 87, 3) := by decide +kernel
theorem dX0_begin_24 : decode cX0_begin 24 = .ok (.iadd, 1) := by decide +kernel
theorem dX0_begin_25 : decode cX0_begin 25 = .ok (.iastore, 1) := by decide +kernel
theorem dX0_begin_26 : decode cX0_begin 26 = .ok (.return_, 1) := by decide +kernel
theorem dX0_goAway_0 : decode cX0_goAway 0 = .ok (.aload_n 0, 1) := by decide +kernel
theorem dX0_goAway_1 : decode cX0_goAway 1 = .ok (.getfield 33, 3) := by decide +kernel
theorem dX0_goAway_4 : decode cX0_goAway 4 = .ok (.iload_n 1, 1) := by decide +kernel
theorem dX0_goAway_5 : decode cX0_goAway 5 = .ok (.iconst 0, 1) := by decide +kernel
theorem dX0_goAway_6 : decode cX0_goAway 6 = .ok (.iastore, 1) := by decide +kernel
theorem dX0_goAway_7 : decode cX0_goAway 7 = .ok (.aload_n 0, 1) := by decide +kernel
theorem dX0_goAway_8 : decode cX0_goAway 8 = .ok (.getfield 37, 3) := by decide +kernel
theorem dX0_goAway_11 : decode cX0_goAway 11 = .ok (.iload_n 1, 1) := by decide +kernel
theorem dX0_goAway_12 : decode cX0_goAway 12 = .ok (.iconst 0, 1) := by decide +kernel
theorem dX0_goAway_13 : decode cX0_goAway 13 = .ok (.iastore, 1) := by decide +kernel
theorem dX0_goAway_14 : decode cX0_goAway 14 = .ok (.aload_n 0, 1) := by decide +kernel
theorem dX0_goAway_15 : decode cX0_goAway 15 = .ok (.getfield 40, 3) := by decide +kernel
theorem dX0_goAway_18 : decode cX0_goAway 18 = .ok (.iload_n 1, 1) := by decide +kernel
theorem dX0_goAway_19 : decode cX0_goAway 19 = .ok (.iconst 0, 1) := by decide +kernel
theorem dX0_goAway_20 : decode cX0_goAway 20 = .ok (.iastore, 1) := by decide +kernel
theorem dX0_goAway_21 : decode cX0_goAway 21 = .ok (.aload_n 0, 1) := by decide +kernel
theorem dX0_goAway_22 : decode cX0_goAway 22 = .ok (.getfield 43, 3) := by decide +kernel
theorem dX0_goAway_25 : decode cX0_goAway 25 = .ok (.iload_n 1, 1) := by decide +kernel
theorem dX0_goAway_26 : decode cX0_goAway 26 = .ok (.iconst 0, 1) := by decide +kernel
theorem dX0_goAway_27 : decode cX0_goAway 27 = .ok (.iastore, 1) := by decide +kernel
theorem dX0_goAway_28 : decode cX0_goAway 28 = .ok (.aload_n 0, 1) := by decide +kernel
theorem dX0_goAway_29 : decode cX0_goAway 29 = .ok (.getfield 46, 3) := by decide +kernel
theorem dX0_goAway_32 : decode cX0_goAway 32 = .ok (.iload_n 1, 1) := by decide +kernel
theorem dX0_goAway_33 : decode cX0_goAway 33 = .ok (.iconst 0, 1) := by decide +kernel
theorem dX0_goAway_34 : decode cX0_goAway 34 = .ok (.iastore, 1) := by decide +kernel
theorem dX0_goAway_35 : decode cX0_goAway 35 = .ok (.return_, 1) := by decide +kernel
set_option maxRecDepth 20000 in
theorem ggX0_enter_X1_isMember : GoodIn wsX0_enter wsX1_isMember := goodIn_r _ [4] (by decide +kernel) (by decide +kernel)
set_option maxRecDepth 20000 in
theorem gX0_enter_X1_isMember_n90 : GoodIn wsX0_enter (wsX1_isMember) := ggX0_enter_X1_isMember
set_option maxRecDepth 20000 in
theorem ggX0_enter_X0_begin : GoodIn wsX0_enter wsX0_begin := goodIn_r _ [9, 10, 11, 12, 13, 14, 15, 8, 16, 17, 18, 19, 20, 21, 22, 23, 24, 25, 26, 27, 28, 29, 30, 31, 32, 33, 34, 35, 36, 37, 38, 39, 40, 41, 42, 43] (by decide +kernel) (by decide +kernel)
set_option maxRecDepth 20000 in
theorem gX0_enter_X0_begin : GoodIn wsX0_enter (wsV RX0 94 RX0 yX0_begin wsX0_begin) := goodIn_app (goodIn_of _ (by decide +kernel)) ggX0_enter_X0_begin
theorem dX0_enter_0 : decode cX0_enter 0 = .ok (.iload_n 1, 1) := by decide +kernel
theorem dX0_enter_1 : decode cX0_enter 1 = .ok (.invokestatic 90, 3) := by decide +kernel
theorem dX0_enter_4 : decode cX0_enter 4 = .ok (.ifCond .eq 12, 3) := by decide +kernel
theorem dX0_enter_7 : decode cX0_enter 7 = .ok (.aload_n 0, 1) := by decide +kernel
theorem dX0_enter_8 : decode cX0_enter 8 = .ok (.getfield 33, 3) := by decide +kernel
theorem dX0_enter_11 : decode cX0_enter 11 = .ok (.iload_n 1, 1) := by decide +kernel
theorem dX0_enter_12 : decode cX0_enter 12 = .ok (.iaload, 1) := by decide +kernel
theorem dX0_enter_13 : decode cX0_enter 13 = .ok (.ifCond .eq 5, 3) := by decide +kernel
theorem dX0_enter_16 : decode cX0_enter 16 = .ok (.iconst 0, 1) := by decide +kernel
theorem dX0_enter_17 : decode cX0_enter 17 = .ok (.ireturn, 1) := by decide +kernel
theorem dX0_enter_18 : decode cX0_enter 18 = .ok (.aload_n 0, 1) := by decide +kernel
theorem dX0_enter_19 : decode cX0_enter 19 = .ok (.getfield 33, 3) := by decide +kernel
theorem dX0_enter_22 : decode cX0_enter 22 = .ok (.iload_n 1, 1) := by decide +kernel
theorem dX0_enter_23 : decode cX0_enter 23 = .ok (.iconst 1, 1) := by decide +kernel
theorem dX0_enter_24 : decode cX0_enter 24 = .ok (.iastore, 1) := by decide +kernel
theorem dX0_enter_25 : decode cX0_enter 25 = .ok (.aload_n 0, 1) := by decide +kernel
theorem dX0_enter_26 : decode cX0_enter 26 = .ok (.iload_n 1, 1) := by decide +kernel
theorem dX0_enter_27 : decode cX0_enter 27 = .ok (.invokevirtual 94, 3) := by decide +kernel
theorem dX0_enter_30 : decode cX0_enter 30 = .ok (.iconst 1, 1) := by decide +kernel
theorem dX0_enter_31 : decode cX0_enter 31 = .ok (.ireturn, 1) := by decide +kernel
set_option maxRecDepth 20000 in
theorem ggX0_depart_X1_isMember : GoodIn wsX0_depart wsX1_isMember := goodIn_r _ [5] (by decide +kernel) (by decide +kernel)
set_option maxRecDepth 20000 in
theorem gX0_depart_X1_isMember_n90 : GoodIn wsX0_depart (wsX1_isMember) := ggX0_depart_X1_isMember
set_option maxRecDepth 20000 in
theorem ggX0_depart_X0_countOf : GoodIn wsX0_depart wsX0_countOf := goodIn_r _ [10, 11, 12, 13, 14, 15, 16, 17, 18, 69, 70, 71, 72, 73, 74, 75, 76, 77, 78, 79, 80, 81, 82] (by decide +kernel) (by decide +kernel)
set_option maxRecDepth 20000 in
theorem gX0_depart_X0_countOf : GoodIn wsX0_depart (wsV RX0 71 RX0 yX0_countOf wsX0_countOf) := goodIn_app (goodIn_of _ (by decide +kernel)) ggX0_depart_X0_countOf
set_option maxRecDepth 20000 in
theorem ggX0_depart_X0_sendBye : GoodIn wsX0_depart wsX0_sendBye := goodIn_r _ [22, 23, 24, 25, 26, 9, 27, 1, 11, 28, 29, 2, 30, 31, 32, 33, 34, 35, 36, 37, 38, 39, 40, 41, 42, 43, 44, 45, 46, 47, 48, 49, 50, 51, 6, 7, 8, 10, 12, 13, 14, 15, 16, 17, 18, 69, 70, 71, 72, 73, 74, 75, 76, 77, 78, 79, 80, 81, 82] (by decide +kernel) (by decide +kernel)
set_option maxRecDepth 20000 in
theorem gX0_depart_X0_sendBye : GoodIn wsX0_depart (wsV RX0 97 RX0 yX0_sendBye wsX0_sendBye) := goodIn_app (goodIn_of _ (by decide +kernel)) ggX0_depart_X0_sendBye
set_option maxRecDepth 20000 in
theorem ggX0_depart_X0_begin : GoodIn wsX0_depart wsX0_begin := goodIn_r _ [55, 28, 43, 29, 56, 57, 58, 9, 59, 60, 61, 44, 45, 46, 47, 62, 63, 64, 65, 66, 67, 68, 69, 70, 71, 72, 73, 74, 75, 76, 77, 78, 79, 80, 81, 82] (by decide +kernel) (by decide +kernel)
set_option maxRecDepth 20000 in
theorem gX0_depart_X0_begin : GoodIn wsX0_depart (wsV RX0 94 RX0 yX0_begin wsX0_begin) := goodIn_app (goodIn_of _ (by decide +kernel)) ggX0_depart_X0_begin
theorem dX0_depart_0 : decode cX0_depart 0 = .ok (.iload_n 1, 1) := by decide +kernel
theorem dX0_depart_1 : decode cX0_depart 1 = .ok (.invokestatic 90, 3) := by decide +kernel
theorem dX0_depart_4 : decode cX0_depart 4 = .ok (.ifCond .eq 13, 3) := by decide +kernel
theorem dX0_depart_7 : decode cX0_depart 7 = .ok (.aload_n 0, 1) := by decide +kernel
theorem dX0_depart_8 : decode cX0_depart 8 = .ok (.getfield 33, 3) := by decide +kernel
theorem dX0_depart_11 : decode cX0_depart 11 = .ok (.iload_n 1, 1) := by decide +kernel
theorem dX0_depart_12 : decode cX0_depart 12 = .ok (.iaload, 1) := by decide +kernel
theorem dX0_depart_13 : decode cX0_depart 13 = .ok (.iconst 1, 1) := by decide +kernel
theorem dX0_depart_14 : decode cX0_depart 14 = .ok (.if_icmp .eq 5, 3) := by decide +kernel
theorem dX0_depart_17 : decode cX0_depart 17 = .ok (.iconst 0, 1) := by decide +kernel
theorem dX0_depart_18 : decode cX0_depart 18 = .ok (.ireturn, 1) := by decide +kernel
theorem dX0_depart_19 : decode cX0_depart 19 = .ok (.aload_n 0, 1) := by decide +kernel
theorem dX0_depart_20 : decode cX0_depart 20 = .ok (.iload_n 1, 1) := by decide +kernel
theorem dX0_depart_21 : decode cX0_depart 21 = .ok (.invokevirtual 71, 3) := by decide +kernel
theorem dX0_depart_24 : decode cX0_depart 24 = .ok (.iconst 3, 1) := by decide +kernel
theorem dX0_depart_25 : decode cX0_depart 25 = .ok (.if_icmp .gt 11, 3) := by decide +kernel
theorem dX0_depart_28 : decode cX0_depart 28 = .ok (.aload_n 0, 1) := by decide +kernel
theorem dX0_depart_29 : decode cX0_depart 29 = .ok (.iload_n 1, 1) := by decide +kernel
theorem dX0_depart_30 : decode cX0_depart 30 = .ok (.invokevirtual 97, 3) := by decide +kernel
theorem dX0_depart_33 : decode cX0_depart 33 = .ok (.goto 22, 3) := by decide +kernel
theorem dX0_depart_36 : decode cX0_depart 36 = .ok (.aload_n 0, 1) := by decide +kernel
theorem dX0_depart_37 : decode cX0_depart 37 = .ok (.getfield 33, 3) := by decide +kernel
theorem dX0_depart_40 : decode cX0_depart 40 = .ok (.iload_n 1, 1) := by decide +kernel
theorem dX0_depart_41 : decode cX0_depart 41 = .ok (.iconst 2, 1) := by decide +kernel
theorem dX0_depart_42 : decode cX0_depart 42 = .ok (.iastore, 1) := by decide +kernel
theorem dX0_depart_43 : decode cX0_depart 43 = .ok (.aload_n 0, 1) := by decide +kernel
theorem dX0_depart_44 : decode cX0_depart 44 = .ok (.getfield 46, 3) := by decide +kernel
theorem dX0_depart_47 : decode cX0_depart 47 = .ok (.iload_n 1, 1) := by decide +kernel
theorem dX0_depart_48 : decode cX0_depart 48 = .ok (.iconst 1, 1) := by decide +kernel
theorem dX0_depart_49 : decode cX0_depart 49 = .ok (.iastore, 1) := by decide +kernel
theorem dX0_depart_50 : decode cX0_depart 50 = .ok (.aload_n 0, 1) := by decide +kernel
theorem dX0_depart_51 : decode cX0_depart 51 = .ok (.iload_n 1, 1) := by decide +kernel
theorem dX0_depart_52 : decode cX0_depart 52 = .ok (.invokevirtual 94, 3) := by decide +kernel
theorem dX0_depart_55 : decode cX0_depart 55 = .ok (.iconst 1, 1) := by decide +kernel
theorem dX0_depart_56 : decode cX0_depart 56 = .ok (.ireturn, 1) := by decide +kernel
set_option maxRecDepth 20000 in
theorem ggX0_enterOrDepart_X0_enter : GoodIn wsX0_enterOrDepart wsX0_enter := goodIn_r _ [5, 6, 7, 8, 9, 10, 11, 12, 4, 13, 14, 15, 16, 17, 18, 19, 20, 21, 22, 23, 24, 25, 26, 27, 28, 29, 30, 31, 32, 33, 77, 78, 79, 80, 81, 82, 83, 84, 85, 86, 87, 88, 89, 90] (by decide +kernel) (by decide +kernel)
set_option maxRecDepth 20000 in
theorem gX0_enterOrDepart_X0_enter : GoodIn wsX0_enterOrDepart (wsV RX0 100 RX0 yX0_enter wsX0_enter) := goodIn_app (goodIn_of _ (by decide +kernel)) ggX0_enterOrDepart_X0_enter
set_option maxRecDepth 20000 in
theorem ggX0_enterOrDepart_X0_depart : GoodIn wsX0_enterOrDepart wsX0_depart := goodIn_r _ [37, 6, 38, 7, 8, 9, 39, 40, 41, 4, 42, 43, 44, 45, 46, 47, 48, 49, 50, 51, 52, 53, 54, 55, 56, 57, 58, 59, 14, 16, 60, 61, 62, 63, 64, 65, 66, 67, 68, 69, 70, 71, 72, 15, 23, 24, 25, 26, 73, 74, 75, 76, 10, 11, 12, 13, 17, 18, 19, 20, 21, 22, 27, 28, 29, 30, 31, 32, 33, 77, 78, 79, 80, 81, 82, 83, 84, 85, 86, 87, 88, 89, 90] (by decide +kernel) (by decide +kernel)
set_option maxRecDepth 20000 in
theorem gX0_enterOrDepart_X0_depart : GoodIn wsX0_enterOrDepart (wsV RX0 103 RX0 yX0_depart wsX0_depart) := goodIn_app (goodIn_of _ (by decide +kernel)) ggX0_enterOrDepart_X0_depart
theorem dX0_enterOrDepart_0 : decode cX0_enterOrDepart 0 = .ok (.aload_n 0, 1) := by decide +kernel
theorem dX0_enterOrDepart_1 : decode cX0_enterOrDepart 1 = .ok (.iload_n 1, 1) := by decide +kernel
theorem dX0_enterOrDepart_2 : decode cX0_enterOrDepart 2 = .ok (.invokevirtual 100, 3) := by decide +kernel
theorem dX0_enterOrDepart_5 : decode cX0_enterOrDepart 5 = .ok (.ifCond .ne 9, 3) := by decide +kernel
theorem dX0_enterOrDepart_8 : decode cX0_enterOrDepart 8 = .ok (.aload_n 0, 1) := by decide +kernel
theorem dX0_enterOrDepart_9 : decode cX0_enterOrDepart 9 = .ok (.iload_n 1, 1) := by decide +kernel
theorem dX0_enterOrDepart_10 : decode cX0_enterOrDepart 10 = .ok (.invokevirtual 103, 3) := by decide +kernel
theorem dX0_enterOrDepart_13 : decode cX0_enterOrDepart 13 = .ok (.pop, 1) := by decide +kernel
theorem dX0_enterOrDepart_14 : decode cX0_enterOrDepart 14 = .ok (.return_, 1) := by decide +kernel
set_option maxRecDepth 20000 in
theorem ggX0_run_X0_sent : GoodIn wsX0_run wsX0_sent := goodIn_r _ [9, 10, 11, 80, 81, 82, 83, 84, 85, 86, 87, 88, 89, 90, 91, 92, 93] (by decide +kernel) (by decide +kernel)
set_option maxRecDepth 20000 in
theorem gX0_run_X0_sent : GoodIn wsX0_run (wsV RX0 106 RX0 yX0_sent wsX0_sent) := goodIn_app (goodIn_of _ (by decide +kernel)) ggX0_run_X0_sent
set_option maxRecDepth 20000 in
theorem ggX0_run_X0_comeDue : GoodIn wsX0_run wsX0_comeDue := goodIn_r _ [15, 2, 16, 17, 1, 3, 18, 19, 20, 8, 21, 4, 22, 23, 24, 25, 26, 27, 28, 29, 30, 31, 32, 33, 34, 35, 36, 37, 38, 39, 40, 41, 42, 43, 44, 45, 46, 47, 48, 49, 11, 50, 51, 52, 53, 54, 55, 56, 57, 58, 59, 60, 61, 62, 63, 64, 65, 66, 67, 68, 69, 70, 71, 72, 73, 74, 10, 75, 80, 81, 82, 83, 84, 85, 86, 87, 88, 89, 90, 91, 92, 93] (by decide +kernel) (by decide +kernel)
set_option maxRecDepth 20000 in
theorem gX0_run_X0_comeDue : GoodIn wsX0_run (wsV RX0 110 RX0 yX0_comeDue wsX0_comeDue) := goodIn_app (goodIn_of _ (by decide +kernel)) ggX0_run_X0_comeDue
set_option maxRecDepth 20000 in
theorem ggX0_run_X0_forgetOld : GoodIn wsX0_run wsX0_forgetOld := goodIn_r _ [79, 1, 75, 4, 18, 19, 20, 8, 21, 22, 23, 24, 25, 26, 27, 28, 39, 40, 41, 42, 43, 35, 36, 37, 38, 44, 45, 67, 68, 69, 70, 80, 81, 82, 83, 84, 85, 86, 87, 88, 89, 90, 91, 92, 93] (by decide +kernel) (by decide +kernel)
set_option maxRecDepth 20000 in
theorem gX0_run_X0_forgetOld : GoodIn wsX0_run (wsV RX0 113 RX0 yX0_forgetOld wsX0_forgetOld) := goodIn_app (goodIn_of _ (by decide +kernel)) ggX0_run_X0_forgetOld
theorem dX0_run_0 : decode cX0_run 0 = .ok (.aload_n 0, 1) := by decide +kernel
theorem dX0_run_1 : decode cX0_run 1 = .ok (.invokevirtual 106, 3) := by decide +kernel
theorem dX0_run_4 : decode cX0_run 4 = .ok (.istore_n 2, 1) := by decide +kernel
theorem dX0_run_5 : decode cX0_run 5 = .ok (.iconst 0, 1) := by decide +kernel
theorem dX0_run_6 : decode cX0_run 6 = .ok (.istore_n 3, 1) := by decide +kernel
theorem dX0_run_7 : decode cX0_run 7 = .ok (.iload_n 3, 1) := by decide +kernel
theorem dX0_run_8 : decode cX0_run 8 = .ok (.iload_n 1, 1) := by decide +kernel
theorem dX0_run_9 : decode cX0_run 9 = .ok (.if_icmp .ge 108, 3) := by decide +kernel
theorem dX0_run_12 : decode cX0_run 12 = .ok (.aload_n 0, 1) := by decide +kernel
theorem dX0_run_13 : decode cX0_run 13 = .ok (.dup, 1) := by decide +kernel
theorem dX0_run_14 : decode cX0_run 14 = .ok (.getfield 21, 3) := by decide +kernel
theorem dX0_run_17 : decode cX0_run 17 = .ok (.iconst 1, 1) := by decide +kernel
theorem dX0_run_18 : decode cX0_run 18 = .ok (.iadd, 1) := by decide +kernel
theorem dX0_run_19 : decode cX0_run 19 = .ok (.putfield 21, 3) := by decide +kernel
theorem dX0_run_22 : decode cX0_run 22 = .ok (.iconst 0, 1) := by decide +kernel
theorem dX0_run_23 : decode cX0_run 23 = .ok (.istore 4, 2) := by decide +kernel
theorem dX0_run_25 : decode cX0_run 25 = .ok (.iload 4, 2) := by decide +kernel
theorem dX0_run_27 : decode cX0_run 27 = .ok (.bipush 6, 2) := by decide +kernel
theorem dX0_run_29 : decode cX0_run 29 = .ok (.if_icmp .ge 39, 3) := by decide +kernel
theorem dX0_run_32 : decode cX0_run 32 = .ok (.aload_n 0, 1) := by decide +kernel
theorem dX0_run_33 : decode cX0_run 33 = .ok (.getfield 33, 3) := by decide +kernel
theorem dX0_run_36 : decode cX0_run 36 = .ok (.iload 4, 2) := by decide +kernel
theorem dX0_run_38 : decode cX0_run 38 = .ok (.iaload, 1) := by decide +kernel
theorem dX0_run_39 : decode cX0_run 39 = .ok (.ifCond .eq 23, 3) := by decide +kernel
theorem dX0_run_42 : decode cX0_run 42 = .ok (.aload_n 0, 1) := by decide +kernel
theorem dX0_run_43 : decode cX0_run 43 = .ok (.getfield 43, 3) := by decide +kernel
theorem dX0_run_46 : decode cX0_run 46 = .ok (.iload 4, 2) := by decide +kernel
theorem dX0_run_48 : decode cX0_run 48 = .ok (.iaload, 1) := by decide +kernel
theorem dX0_run_49 : decode cX0_run 49 = .ok (.aload_n 0, 1) := by decide +kernel
theorem dX0_run_50 : decode cX0_run 50 = .ok (.getfield 21, 3) := by decide +kernel
theorem dX0_run_53 : decode cX0_run 53 = .ok (.if_icmp .gt 9, 3) := by decide +kernel
theorem dX0_run_56 : decode cX0_run 56 = .ok (.aload_n 0, 1) := by decide +kernel
theorem dX0_run_57 : decode cX0_run 57 = .ok (.iload 4, 2) := by decide +kernel
theorem dX0_run_59 : decode cX0_run 59 = .ok (.invokevirtual 110, 3) := by decide +kernel
theorem dX0_run_62 : decode cX0_run 62 = .ok (.iinc 4 1, 3) := by decide +kernel
theorem dX0_run_65 : decode cX0_run 65 = .ok (.goto (-40), 3) := by decide +kernel
theorem dX0_run_68 : decode cX0_run 68 = .ok (.iconst 0, 1) := by decide +kernel
theorem dX0_run_69 : decode cX0_run 69 = .ok (.istore 4, 2) := by decide +kernel
theorem dX0_run_71 : decode cX0_run 71 = .ok (.iload 4, 2) := by decide +kernel
theorem dX0_run_73 : decode cX0_run 73 = .ok (.bipush 6, 2) := by decide +kernel
theorem dX0_run_75 : decode cX0_run 75 = .ok (.if_icmp .ge 36, 3) := by decide +kernel
theorem dX0_run_78 : decode cX0_run 78 = .ok (.aload_n 0, 1) := by decide +kernel
theorem dX0_run_79 : decode cX0_run 79 = .ok (.getfield 33, 3) := by decide +kernel
theorem dX0_run_82 : decode cX0_run 82 = .ok (.iload 4, 2) := by decide +kernel
theorem dX0_run_84 : decode cX0_run 84 = .ok (.iaload, 1) := by decide +kernel
theorem dX0_run_85 : decode cX0_run 85 = .ok (.iconst 1, 1) := by decide +kernel
theorem dX0_run_86 : decode cX0_run 86 = .ok (.if_icmp .ne 19, 3) := by decide +kernel
theorem dX0_run_89 : decode cX0_run 89 = .ok (.aload_n 0, 1) := by decide +kernel
theorem dX0_run_90 : decode cX0_run 90 = .ok (.getfield 37, 3) := by decide +kernel
theorem dX0_run_93 : decode cX0_run 93 = .ok (.iload 4, 2) := by decide +kernel
theorem dX0_run_95 : decode cX0_run 95 = .ok (.iaload, 1) := by decide +kernel
theorem dX0_run_96 : decode cX0_run 96 = .ok (.ifCond .eq 9, 3) := by decide +kernel
theorem dX0_run_99 : decode cX0_run 99 = .ok (.aload_n 0, 1) := by decide +kernel
theorem dX0_run_100 : decode cX0_run 100 = .ok (.iload 4, 2) := by decide +kernel
theorem dX0_run_102 : decode cX0_run 102 = .ok (.invokevirtual 113, 3) := by decide +kernel
theorem dX0_run_105 : decode cX0_run 105 = .ok (.iinc 4 1, 3) := by decide +kernel
theorem dX0_run_108 : decode cX0_run 108 = .ok (.goto (-37), 3) := by decide +kernel
theorem dX0_run_111 : decode cX0_run 111 = .ok (.iinc 3 1, 3) := by decide +kernel
theorem dX0_run_114 : decode cX0_run 114 = .ok (.goto (-107), 3) := by decide +kernel
theorem dX0_run_117 : decode cX0_run 117 = .ok (.aload_n 0, 1) := by decide +kernel
theorem dX0_run_118 : decode cX0_run 118 = .ok (.invokevirtual 106, 3) := by decide +kernel
theorem dX0_run_121 : decode cX0_run 121 = .ok (.iload_n 2, 1) := by decide +kernel
theorem dX0_run_122 : decode cX0_run 122 = .ok (.isub, 1) := by decide +kernel
theorem dX0_run_123 : decode cX0_run 123 = .ok (.ireturn, 1) := by decide +kernel
set_option maxRecDepth 20000 in
theorem ggX0_comeDue_X0_countOf : GoodIn wsX0_comeDue wsX0_countOf := goodIn_r _ [10, 11, 12, 13, 14, 15, 16, 17, 18, 68, 69, 70, 71, 72, 73, 74, 75, 76, 77, 78, 79, 80, 81] (by decide +kernel) (by decide +kernel)
set_option maxRecDepth 20000 in
theorem gX0_comeDue_X0_countOf : GoodIn wsX0_comeDue (wsV RX0 71 RX0 yX0_countOf wsX0_countOf) := goodIn_app (goodIn_of _ (by decide +kernel)) ggX0_comeDue_X0_countOf
set_option maxRecDepth 20000 in
theorem ggX0_comeDue_X0_waitOf : GoodIn wsX0_comeDue wsX0_waitOf := goodIn_r _ [22, 23, 24, 25, 26, 27, 28, 29, 30, 31, 9, 32, 33, 34, 35, 68, 69, 70, 71, 72, 73, 74, 75, 76, 77, 78, 79, 80, 81] (by decide +kernel) (by decide +kernel)
set_option maxRecDepth 20000 in
theorem gX0_comeDue_X0_waitOf : GoodIn wsX0_comeDue (wsV RX0 87 RX0 yX0_waitOf wsX0_waitOf) := goodIn_app (goodIn_of _ (by decide +kernel)) ggX0_comeDue_X0_waitOf
set_option maxRecDepth 20000 in
theorem ggX0_comeDue_X0_sendBye : GoodIn wsX0_comeDue wsX0_sendBye := goodIn_r _ [39, 40, 41, 42, 43, 9, 44, 1, 11, 3, 5, 2, 45, 46, 47, 48, 49, 50, 51, 52, 53, 54, 55, 56, 57, 4, 25, 26, 27, 28, 58, 59, 60, 61, 6, 7, 8, 10, 12, 13, 14, 15, 16, 17, 18, 68, 69, 70, 71, 72, 73, 74, 75, 76, 77, 78, 79, 80, 81] (by decide +kernel) (by decide +kernel)
set_option maxRecDepth 20000 in
theorem gX0_comeDue_X0_sendBye : GoodIn wsX0_comeDue (wsV RX0 97 RX0 yX0_sendBye wsX0_sendBye) := goodIn_app (goodIn_of _ (by decide +kernel)) ggX0_comeDue_X0_sendBye
set_option maxRecDepth 20000 in
theorem ggX0_comeDue_X0_sendReport : GoodIn wsX0_comeDue wsX0_sendReport := goodIn_r _ [65, 66, 11, 67, 4, 45, 46, 47, 9, 48, 1, 49, 50, 51, 52, 53, 68, 69, 70, 71, 72, 73, 74, 75, 76, 77, 78, 79, 80, 81] (by decide +kernel) (by decide +kernel)
set_option maxRecDepth 20000 in
theorem gX0_comeDue_X0_sendReport : GoodIn wsX0_comeDue (wsV RX0 116 RX0 yX0_sendReport wsX0_sendReport) := goodIn_app (goodIn_of _ (by decide +kernel)) ggX0_comeDue_X0_sendReport
theorem dX0_comeDue_0 : decode cX0_comeDue 0 = .ok (.aload_n 0, 1) := by decide +kernel
theorem dX0_comeDue_1 : decode cX0_comeDue 1 = .ok (.getfield 33, 3) := by decide +kernel
theorem dX0_comeDue_4 : decode cX0_comeDue 4 = .ok (.iload_n 1, 1) := by decide +kernel
theorem dX0_comeDue_5 : decode cX0_comeDue 5 = .ok (.iaload, 1) := by decide +kernel
theorem dX0_comeDue_6 : decode cX0_comeDue 6 = .ok (.iconst 2, 1) := by decide +kernel
theorem dX0_comeDue_7 : decode cX0_comeDue 7 = .ok (.if_icmp .ne 7, 3) := by decide +kernel
theorem dX0_comeDue_10 : decode cX0_comeDue 10 = .ok (.iconst 1, 1) := by decide +kernel
theorem dX0_comeDue_11 : decode cX0_comeDue 11 = .ok (.goto 4, 3) := by decide +kernel
theorem dX0_comeDue_14 : decode cX0_comeDue 14 = .ok (.iconst 0, 1) := by decide +kernel
theorem dX0_comeDue_15 : decode cX0_comeDue 15 = .ok (.istore_n 2, 1) := by decide +kernel
theorem dX0_comeDue_16 : decode cX0_comeDue 16 = .ok (.aload_n 0, 1) := by decide +kernel
theorem dX0_comeDue_17 : decode cX0_comeDue 17 = .ok (.iload_n 2, 1) := by decide +kernel
theorem dX0_comeDue_18 : decode cX0_comeDue 18 = .ok (.ifCond .eq 12, 3) := by decide +kernel
theorem dX0_comeDue_21 : decode cX0_comeDue 21 = .ok (.aload_n 0, 1) := by decide +kernel
theorem dX0_comeDue_22 : decode cX0_comeDue 22 = .ok (.getfield 46, 3) := by decide +kernel
theorem dX0_comeDue_25 : decode cX0_comeDue 25 = .ok (.iload_n 1, 1) := by decide +kernel
theorem dX0_comeDue_26 : decode cX0_comeDue 26 = .ok (.iaload, 1) := by decide +kernel
theorem dX0_comeDue_27 : decode cX0_comeDue 27 = .ok (.goto 8, 3) := by decide +kernel
theorem dX0_comeDue_30 : decode cX0_comeDue 30 = .ok (.aload_n 0, 1) := by decide +kernel
theorem dX0_comeDue_31 : decode cX0_comeDue 31 = .ok (.iload_n 1, 1) := by decide +kernel
theorem dX0_comeDue_32 : decode cX0_comeDue 32 = .ok (.invokevirtual 71, 3) := by decide +kernel
theorem dX0_comeDue_35 : decode cX0_comeDue 35 = .ok (.invokevirtual 87, 3) := by decide +kernel
theorem dX0_comeDue_38 : decode cX0_comeDue 38 = .ok (.istore_n 3, 1) := by decide +kernel
theorem dX0_comeDue_39 : decode cX0_comeDue 39 = .ok (.aload_n 0, 1) := by decide +kernel
theorem dX0_comeDue_40 : decode cX0_comeDue 40 = .ok (.getfield 40, 3) := by decide +kernel
theorem dX0_comeDue_43 : decode cX0_comeDue 43 = .ok (.iload_n 1, 1) := by decide +kernel
theorem dX0_comeDue_44 : decode cX0_comeDue 44 = .ok (.iaload, 1) := by decide +kernel
theorem dX0_comeDue_45 : decode cX0_comeDue 45 = .ok (.iload_n 3, 1) := by decide +kernel
theorem dX0_comeDue_46 : decode cX0_comeDue 46 = .ok (.iadd, 1) := by decide +kernel
theorem dX0_comeDue_47 : decode cX0_comeDue 47 = .ok (.aload_n 0, 1) := by decide +kernel
theorem dX0_comeDue_48 : decode cX0_comeDue 48 = .ok (.getfield 21, 3) := by decide +kernel
theorem dX0_comeDue_51 : decode cX0_comeDue 51 = .ok (.if_icmp .le 20, 3) := by decide +kernel
theorem dX0_comeDue_54 : decode cX0_comeDue 54 = .ok (.aload_n 0, 1) := by decide +kernel
theorem dX0_comeDue_55 : decode cX0_comeDue 55 = .ok (.getfield 43, 3) := by decide +kernel
theorem dX0_comeDue_58 : decode cX0_comeDue 58 = .ok (.iload_n 1, 1) := by decide +kernel
theorem dX0_comeDue_59 : decode cX0_comeDue 59 = .ok (.aload_n 0, 1) := by decide +kernel
theorem dX0_comeDue_60 : decode cX0_comeDue 60 = .ok (.getfield 40, 3) := by decide +kernel
theorem dX0_comeDue_63 : decode cX0_comeDue 63 = .ok (.iload_n 1, 1) := by decide +kernel
theorem dX0_comeDue_64 : decode cX0_comeDue 64 = .ok (.iaload, 1) := by decide +kernel
theorem dX0_comeDue_65 : decode cX0_comeDue 65 = .ok (.iload_n 3, 1) := by decide +kernel
theorem dX0_comeDue_66 : decode cX0_comeDue 66 = .ok (.iadd, 1) := by decide +kernel
theorem dX0_comeDue_67 : decode cX0_comeDue 67 = .ok (.iastore, 1) := by decide +kernel
theorem dX0_comeDue_68 : decode cX0_comeDue 68 = .ok (.goto 50, 3) := by decide +kernel
theorem dX0_comeDue_71 : decode cX0_comeDue 71 = .ok (.iload_n 2, 1) := by decide +kernel
theorem dX0_comeDue_72 : decode cX0_comeDue 72 = .ok (.ifCond .eq 11, 3) := by decide +kernel
theorem dX0_comeDue_75 : decode cX0_comeDue 75 = .ok (.aload_n 0, 1) := by decide +kernel
theorem dX0_comeDue_76 : decode cX0_comeDue 76 = .ok (.iload_n 1, 1) := by decide +kernel
theorem dX0_comeDue_77 : decode cX0_comeDue 77 = .ok (.invokevirtual 97, 3) := by decide +kernel
theorem dX0_comeDue_80 : decode cX0_comeDue 80 = .ok (.goto 38, 3) := by decide +kernel
theorem dX0_comeDue_83 : decode cX0_comeDue 83 = .ok (.aload_n 0, 1) := by decide +kernel
theorem dX0_comeDue_84 : decode cX0_comeDue 84 = .ok (.iload_n 1, 1) := by decide +kernel
theorem dX0_comeDue_85 : decode cX0_comeDue 85 = .ok (.invokevirtual 116, 3) := by decide +kernel
theorem dX0_comeDue_88 : decode cX0_comeDue 88 = .ok (.aload_n 0, 1) := by decide +kernel
theorem dX0_comeDue_89 : decode cX0_comeDue 89 = .ok (.getfield 40, 3) := by decide +kernel
theorem dX0_comeDue_92 : decode cX0_comeDue 92 = .ok (.iload_n 1, 1) := by decide +kernel
theorem dX0_comeDue_93 : decode cX0_comeDue 93 = .ok (.aload_n 0, 1) := by decide +kernel
theorem dX0_comeDue_94 : decode cX0_comeDue 94 = .ok (.getfield 21, 3) := by decide +kernel
theorem dX0_comeDue_97 : decode cX0_comeDue 97 = .ok (.iastore, 1) := by decide +kernel
theorem dX0_comeDue_98 : decode cX0_comeDue 98 = .ok (.aload_n 0, 1) := by decide +kernel
theorem dX0_comeDue_99 : decode cX0_comeDue 99 = .ok (.getfield 43, 3) := by decide +kernel
theorem dX0_comeDue_102 : decode cX0_comeDue 102 = .ok (.iload_n 1, 1) := by decide +kernel
theorem dX0_comeDue_103 : decode cX0_comeDue 103 = .ok (.aload_n 0, 1) := by decide +kernel
theorem dX0_comeDue_104 : decode cX0_comeDue 104 = .ok (.getfield 21, 3) := by decide +kernel
theorem dX0_comeDue_107 : decode cX0_comeDue 107 = .ok (.aload_n 0, 1) := by decide +kernel
theorem dX0_comeDue_108 : decode cX0_comeDue 108 = .ok (.aload_n 0, 1) := by decide +kernel
theorem dX0_comeDue_109 : decode cX0_comeDue 109 = .ok (.iload_n 1, 1) := by decide +kernel
theorem dX0_comeDue_110 : decode cX0_comeDue 110 = .ok (.invokevirtual 71, 3) := by decide +kernel
theorem dX0_comeDue_113 : decode cX0_comeDue 113 = .ok (.invokevirtual 87, 3) := by decide +kernel
theorem dX0_comeDue_116 : decode cX0_comeDue 116 = .ok (.iadd, 1) := by decide +kernel
theorem dX0_comeDue_117 : decode cX0_comeDue 117 = .ok (.iastore, 1) := by decide +kernel
theorem dX0_comeDue_118 : decode cX0_comeDue 118 = .ok (.return_, 1) := by decide +kernel
set_option maxRecDepth 20000 in
theorem ggX0_forgetOld_X0_countOf : GoodIn wsX0_forgetOld wsX0_countOf := goodIn_r _ [8, 3, 9, 10, 11, 12, 13, 14, 15, 31, 32, 33, 34, 35, 36, 37, 38, 39, 40, 41, 42, 43, 44] (by decide +kernel) (by decide +kernel)
set_option maxRecDepth 20000 in
theorem gX0_forgetOld_X0_countOf : GoodIn wsX0_forgetOld (wsV RX0 71 RX0 yX0_countOf wsX0_countOf) := goodIn_app (goodIn_of _ (by decide +kernel)) ggX0_forgetOld_X0_countOf
set_option maxRecDepth 20000 in
theorem ggX0_forgetOld_X0_spanOf : GoodIn wsX0_forgetOld wsX0_spanOf := goodIn_r _ [19, 20, 21, 22, 23, 24, 25, 26, 31, 32, 33, 34, 35, 36, 37, 38, 39, 40, 41, 42, 43, 44] (by decide +kernel) (by decide +kernel)
set_option maxRecDepth 20000 in
theorem gX0_forgetOld_X0_spanOf : GoodIn wsX0_forgetOld (wsV RX0 84 RX0 yX0_spanOf wsX0_spanOf) := goodIn_app (goodIn_of _ (by decide +kernel)) ggX0_forgetOld_X0_spanOf
set_option maxRecDepth 20000 in
theorem ggX0_forgetOld_X0_knows : GoodIn wsX0_forgetOld wsX0_knows := goodIn_r _ [30, 3, 31, 32, 33, 34, 35, 36, 37, 38, 39, 40, 41, 42, 43, 44] (by decide +kernel) (by decide +kernel)
set_option maxRecDepth 20000 in
theorem gX0_forgetOld_X0_knows : GoodIn wsX0_forgetOld (wsV RX0 119 RX0 yX0_knows wsX0_knows) := goodIn_app (goodIn_of _ (by decide +kernel)) ggX0_forgetOld_X0_knows
theorem dX0_forgetOld_0 : decode cX0_forgetOld 0 = .ok (.iconst 5, 1) := by decide +kernel
theorem dX0_forgetOld_1 : decode cX0_forgetOld 1 = .ok (.aload_n 0, 1) := by decide +kernel
theorem dX0_forgetOld_2 : decode cX0_forgetOld 2 = .ok (.aload_n 0, 1) := by decide +kernel
theorem dX0_forgetOld_3 : decode cX0_forgetOld 3 = .ok (.iload_n 1, 1) := by decide +kernel
theorem dX0_forgetOld_4 : decode cX0_forgetOld 4 = .ok (.invokevirtual 71, 3) := by decide +kernel
theorem dX0_forgetOld_7 : decode cX0_forgetOld 7 = .ok (.invokevirtual 84, 3) := by decide +kernel
theorem dX0_forgetOld_10 : decode cX0_forgetOld 10 = .ok (.imul, 1) := by decide +kernel
theorem dX0_forgetOld_11 : decode cX0_forgetOld 11 = .ok (.istore_n 2, 1) := by decide +kernel
theorem dX0_forgetOld_12 : decode cX0_forgetOld 12 = .ok (.iconst 0, 1) := by decide +kernel
theorem dX0_forgetOld_13 : decode cX0_forgetOld 13 = .ok (.istore_n 3, 1) := by decide +kernel
theorem dX0_forgetOld_14 : decode cX0_forgetOld 14 = .ok (.iload_n 3, 1) := by decide +kernel
theorem dX0_forgetOld_15 : decode cX0_forgetOld 15 = .ok (.bipush 6, 2) := by decide +kernel
theorem dX0_forgetOld_17 : decode cX0_forgetOld 17 = .ok (.if_icmp .ge 56, 3) := by decide +kernel
theorem dX0_forgetOld_20 : decode cX0_forgetOld 20 = .ok (.aload_n 0, 1) := by decide +kernel
theorem dX0_forgetOld_21 : decode cX0_forgetOld 21 = .ok (.getfield 21, 3) := by decide +kernel
theorem dX0_forgetOld_24 : decode cX0_forgetOld 24 = .ok (.aload_n 0, 1) := by decide +kernel
theorem dX0_forgetOld_25 : decode cX0_forgetOld 25 = .ok (.getfield 52, 3) := by decide +kernel
theorem dX0_forgetOld_28 : decode cX0_forgetOld 28 = .ok (.iload_n 1, 1) := by decide +kernel
theorem dX0_forgetOld_29 : decode cX0_forgetOld 29 = .ok (.bipush 6, 2) := by decide +kernel
theorem dX0_forgetOld_31 : decode cX0_forgetOld 31 = .ok (.imul, 1) := by decide +kernel
theorem dX0_forgetOld_32 : decode cX0_forgetOld 32 = .ok (.iload_n 3, 1) := by decide +kernel
theorem dX0_forgetOld_33 : decode cX0_forgetOld 33 = .ok (.iadd, 1) := by decide +kernel
theorem dX0_forgetOld_34 : decode cX0_forgetOld 34 = .ok (.iaload, 1) := by decide +kernel
theorem dX0_forgetOld_35 : decode cX0_forgetOld 35 = .ok (.isub, 1) := by decide +kernel
theorem dX0_forgetOld_36 : decode cX0_forgetOld 36 = .ok (.istore 4, 2) := by decide +kernel
theorem dX0_forgetOld_38 : decode cX0_forgetOld 38 = .ok (.aload_n 0, 1) := by decide +kernel
theorem dX0_forgetOld_39 : decode cX0_forgetOld 39 = .ok (.iload_n 1, 1) := by decide +kernel
theorem dX0_forgetOld_40 : decode cX0_forgetOld 40 = .ok (.iload_n 3, 1) := by decide +kernel
theorem dX0_forgetOld_41 : decode cX0_forgetOld 41 = .ok (.invokevirtual 119, 3) := by decide +kernel
theorem dX0_forgetOld_44 : decode cX0_forgetOld 44 = .ok (.ifCond .eq 23, 3) := by decide +kernel
theorem dX0_forgetOld_47 : decode cX0_forgetOld 47 = .ok (.iload 4, 2) := by decide +kernel
theorem dX0_forgetOld_49 : decode cX0_forgetOld 49 = .ok (.iload_n 2, 1) := by decide +kernel
theorem dX0_forgetOld_50 : decode cX0_forgetOld 50 = .ok (.if_icmp .le 17, 3) := by decide +kernel
theorem dX0_forgetOld_53 : decode cX0_forgetOld 53 = .ok (.aload_n 0, 1) := by decide +kernel
theorem dX0_forgetOld_54 : decode cX0_forgetOld 54 = .ok (.getfield 37, 3) := by decide +kernel
theorem dX0_forgetOld_57 : decode cX0_forgetOld 57 = .ok (.iload_n 1, 1) := by decide +kernel
theorem dX0_forgetOld_58 : decode cX0_forgetOld 58 = .ok (.dup2, 1) := by decide +kernel
theorem dX0_forgetOld_59 : decode cX0_forgetOld 59 = .ok (.iaload, 1) := by decide +kernel
theorem dX0_forgetOld_60 : decode cX0_forgetOld 60 = .ok (.iconst 1, 1) := by decide +kernel
theorem dX0_forgetOld_61 : decode cX0_forgetOld 61 = .ok (.iload_n 3, 1) := by decide +kernel
theorem dX0_forgetOld_62 : decode cX0_forgetOld 62 = .ok (.ishl, 1) := by decide +kernel
theorem dX0_forgetOld_63 : decode cX0_forgetOld 63 = .ok (.iconst (-1), 1) := by decide +kernel
theorem dX0_forgetOld_64 : decode cX0_forgetOld 64 = .ok (.ixor, 1) := by decide +kernel
theorem dX0_forgetOld_65 : decode cX0_forgetOld 65 = .ok (.iand, 1) := by decide +kernel
theorem dX0_forgetOld_66 : decode cX0_forgetOld 66 = .ok (.iastore, 1) := by decide +kernel
theorem dX0_forgetOld_67 : decode cX0_forgetOld 67 = .ok (.iinc 3 1, 3) := by decide +kernel
theorem dX0_forgetOld_70 : decode cX0_forgetOld 70 = .ok (.goto (-56), 3) := by decide +kernel
theorem dX0_forgetOld_73 : decode cX0_forgetOld 73 = .ok (.return_, 1) := by decide +kernel
set_option maxRecDepth 20000 in
theorem ggX0_reaches_X0_isOpen : GoodIn wsX0_reaches wsX0_isOpen := goodIn_r _ [6, 7, 8, 9, 10, 11, 12, 13, 14, 15, 16, 17, 18, 19, 20, 21] (by decide +kernel) (by decide +kernel)
set_option maxRecDepth 20000 in
theorem gX0_reaches_X0_isOpen : GoodIn wsX0_reaches (wsV RX0 123 RX0 yX0_isOpen wsX0_isOpen) := goodIn_app (goodIn_of _ (by decide +kernel)) ggX0_reaches_X0_isOpen
theorem dX0_reaches_0 : decode cX0_reaches 0 = .ok (.iload_n 1, 1) := by decide +kernel
theorem dX0_reaches_1 : decode cX0_reaches 1 = .ok (.iload_n 2, 1) := by decide +kernel
theorem dX0_reaches_2 : decode cX0_reaches 2 = .ok (.if_icmp .eq 25, 3) := by decide +kernel
theorem dX0_reaches_5 : decode cX0_reaches 5 = .ok (.aload_n 0, 1) := by decide +kernel
theorem dX0_reaches_6 : decode cX0_reaches 6 = .ok (.getfield 33, 3) := by decide +kernel
theorem dX0_reaches_9 : decode cX0_reaches 9 = .ok (.iload_n 2, 1) := by decide +kernel
theorem dX0_reaches_10 : decode cX0_reaches 10 = .ok (.iaload, 1) := by decide +kernel
theorem dX0_reaches_11 : decode cX0_reaches 11 = .ok (.ifCond .eq 16, 3) := by decide +kernel
theorem dX0_reaches_14 : decode cX0_reaches 14 = .ok (.aload_n 0, 1) := by decide +kernel
theorem dX0_reaches_15 : decode cX0_reaches 15 = .ok (.iload_n 1, 1) := by decide +kernel
theorem dX0_reaches_16 : decode cX0_reaches 16 = .ok (.iload_n 2, 1) := by decide +kernel
theorem dX0_reaches_17 : decode cX0_reaches 17 = .ok (.invokevirtual 123, 3) := by decide +kernel
theorem dX0_reaches_20 : decode cX0_reaches 20 = .ok (.ifCond .eq 7, 3) := by decide +kernel
theorem dX0_reaches_23 : decode cX0_reaches 23 = .ok (.iconst 1, 1) := by decide +kernel
theorem dX0_reaches_24 : decode cX0_reaches 24 = .ok (.goto 4, 3) := by decide +kernel
theorem dX0_reaches_27 : decode cX0_reaches 27 = .ok (.iconst 0, 1) := by decide +kernel
theorem dX0_reaches_28 : decode cX0_reaches 28 = .ok (.ireturn, 1) := by decide +kernel
set_option maxRecDepth 20000 in
theorem ggX0_sendReport_X0_reaches : GoodIn wsX0_sendReport wsX0_reaches := goodIn_r _ [9, 10, 11, 12, 13, 8, 14, 15, 16, 17, 18, 19, 20, 21, 22, 23, 24, 25, 26, 27, 28, 29] (by decide +kernel) (by decide +kernel)
set_option maxRecDepth 20000 in
theorem gX0_sendReport_X0_reaches : GoodIn wsX0_sendReport (wsV RX0 126 RX0 yX0_reaches wsX0_reaches) := goodIn_app (goodIn_of _ (by decide +kernel)) ggX0_sendReport_X0_reaches
theorem dX0_sendReport_0 : decode cX0_sendReport 0 = .ok (.aload_n 0, 1) := by decide +kernel
theorem dX0_sendReport_1 : decode cX0_sendReport 1 = .ok (.dup, 1) := by decide +kernel
theorem dX0_sendReport_2 : decode cX0_sendReport 2 = .ok (.getfield 27, 3) := by decide +kernel
theorem dX0_sendReport_5 : decode cX0_sendReport 5 = .ok (.iconst 1, 1) := by decide +kernel
theorem dX0_sendReport_6 : decode cX0_sendReport 6 = .ok (.iadd, 1) := by decide +kernel
theorem dX0_sendReport_7 : decode cX0_sendReport 7 = .ok (.putfield 27, 3) := by decide +kernel
theorem dX0_sendReport_10 : decode cX0_sendReport 10 = .ok (.iconst 0, 1) := by decide +kernel
theorem dX0_sendReport_11 : decode cX0_sendReport 11 = .ok (.istore_n 2, 1) := by decide +kernel
theorem dX0_sendReport_12 : decode cX0_sendReport 12 = .ok (.iload_n 2, 1) := by decide +kernel
theorem dX0_sendReport_13 : decode cX0_sendReport 13 = .ok (.bipush 6, 2) := by decide +kernel
theorem dX0_sendReport_15 : decode cX0_sendReport 15 = .ok (.if_icmp .ge 45, 3) := by decide +kernel
theorem dX0_sendReport_18 : decode cX0_sendReport 18 = .ok (.aload_n 0, 1) := by decide +kernel
theorem dX0_sendReport_19 : decode cX0_sendReport 19 = .ok (.iload_n 1, 1) := by decide +kernel
theorem dX0_sendReport_20 : decode cX0_sendReport 20 = .ok (.iload_n 2, 1) := by decide +kernel
theorem dX0_sendReport_21 : decode cX0_sendReport 21 = .ok (.invokevirtual 126, 3) := by decide +kernel
theorem dX0_sendReport_24 : decode cX0_sendReport 24 = .ok (.ifCond .eq 30, 3) := by decide +kernel
theorem dX0_sendReport_27 : decode cX0_sendReport 27 = .ok (.aload_n 0, 1) := by decide +kernel
theorem dX0_sendReport_28 : decode cX0_sendReport 28 = .ok (.getfield 37, 3) := by decide +kernel
theorem dX0_sendReport_31 : decode cX0_sendReport 31 = .ok (.iload_n 2, 1) := by decide +kernel
theorem dX0_sendReport_32 : decode cX0_sendReport 32 = .ok (.dup2, 1) := by decide +kernel
theorem dX0_sendReport_33 : decode cX0_sendReport 33 = .ok (.iaload, 1) := by decide +kernel
theorem dX0_sendReport_34 : decode cX0_sendReport 34 = .ok (.iconst 1, 1) := by decide +kernel
theorem dX0_sendReport_35 : decode cX0_sendReport 35 = .ok (.iload_n 1, 1) := by decide +kernel
theorem dX0_sendReport_36 : decode cX0_sendReport 36 = .ok (.ishl, 1) := by decide +kernel
theorem dX0_sendReport_37 : decode cX0_sendReport 37 = .ok (.ior, 1) := by decide +kernel
theorem dX0_sendReport_38 : decode cX0_sendReport 38 = .ok (.iastore, 1) := by decide +kernel
theorem dX0_sendReport_39 : decode cX0_sendReport 39 = .ok (.aload_n 0, 1) := by decide +kernel
theorem dX0_sendReport_40 : decode cX0_sendReport 40 = .ok (.getfield 52, 3) := by decide +kernel
theorem dX0_sendReport_43 : decode cX0_sendReport 43 = .ok (.iload_n 2, 1) := by decide +kernel
theorem dX0_sendReport_44 : decode cX0_sendReport 44 = .ok (.bipush 6, 2) := by decide +kernel
theorem dX0_sendReport_46 : decode cX0_sendReport 46 = .ok (.imul, 1) := by decide +kernel
theorem dX0_sendReport_47 : decode cX0_sendReport 47 = .ok (.iload_n 1, 1) := by decide +kernel
theorem dX0_sendReport_48 : decode cX0_sendReport 48 = .ok (.iadd, 1) := by decide +kernel
theorem dX0_sendReport_49 : decode cX0_sendReport 49 = .ok (.aload_n 0, 1) := by decide +kernel
theorem dX0_sendReport_50 : decode cX0_sendReport 50 = .ok (.getfield 21, 3) := by decide +kernel
theorem dX0_sendReport_53 : decode cX0_sendReport 53 = .ok (.iastore, 1) := by decide +kernel
theorem dX0_sendReport_54 : decode cX0_sendReport 54 = .ok (.iinc 2 1, 3) := by decide +kernel
theorem dX0_sendReport_57 : decode cX0_sendReport 57 = .ok (.goto (-45), 3) := by decide +kernel
theorem dX0_sendReport_60 : decode cX0_sendReport 60 = .ok (.return_, 1) := by decide +kernel
set_option maxRecDepth 20000 in
theorem ggX0_sendBye_X0_goAway : GoodIn wsX0_sendBye wsX0_goAway := goodIn_r _ [6, 7, 8, 9, 10, 11, 45, 46, 47, 48, 49, 50, 51, 52, 53, 54, 55, 56, 57, 58] (by decide +kernel) (by decide +kernel)
set_option maxRecDepth 20000 in
theorem gX0_sendBye_X0_goAway : GoodIn wsX0_sendBye (wsV RX0 55 RX0 yX0_goAway wsX0_goAway) := goodIn_app (goodIn_of _ (by decide +kernel)) ggX0_sendBye_X0_goAway
set_option maxRecDepth 20000 in
theorem ggX0_sendBye_X0_reaches : GoodIn wsX0_sendBye wsX0_reaches := goodIn_r _ [15, 7, 16, 17, 18, 5, 19, 20, 45, 46, 47, 48, 49, 50, 51, 52, 53, 54, 55, 56, 57, 58] (by decide +kernel) (by decide +kernel)
set_option maxRecDepth 20000 in
theorem gX0_sendBye_X0_reaches : GoodIn wsX0_sendBye (wsV RX0 126 RX0 yX0_reaches wsX0_reaches) := goodIn_app (goodIn_of _ (by decide +kernel)) ggX0_sendBye_X0_reaches
set_option maxRecDepth 20000 in
theorem ggX0_sendBye_X0_hearBye : GoodIn wsX0_sendBye wsX0_hearBye := goodIn_r _ [24, 7, 11, 8, 10, 25, 26, 27, 28, 29, 9, 30, 31, 32, 5, 33, 34, 35, 36, 37, 38, 39, 40, 41, 42, 43, 44, 45, 46, 47, 48, 49, 50, 51, 52, 53, 54, 55, 56, 57, 58] (by decide +kernel) (by decide +kernel)
set_option maxRecDepth 20000 in
theorem gX0_sendBye_X0_hearBye : GoodIn wsX0_sendBye (wsV RX0 129 RX0 yX0_hearBye wsX0_hearBye) := goodIn_app (goodIn_of _ (by decide +kernel)) ggX0_sendBye_X0_hearBye
theorem dX0_sendBye_0 : decode cX0_sendBye 0 = .ok (.aload_n 0, 1) := by decide +kernel
theorem dX0_sendBye_1 : decode cX0_sendBye 1 = .ok (.dup, 1) := by decide +kernel
theorem dX0_sendBye_2 : decode cX0_sendBye 2 = .ok (.getfield 30, 3) := by decide +kernel
theorem dX0_sendBye_5 : decode cX0_sendBye 5 = .ok (.iconst 1, 1) := by decide +kernel
theorem dX0_sendBye_6 : decode cX0_sendBye 6 = .ok (.iadd, 1) := by decide +kernel
theorem dX0_sendBye_7 : decode cX0_sendBye 7 = .ok (.putfield 30, 3) := by decide +kernel
theorem dX0_sendBye_10 : decode cX0_sendBye 10 = .ok (.aload_n 0, 1) := by decide +kernel
theorem dX0_sendBye_11 : decode cX0_sendBye 11 = .ok (.iload_n 1, 1) := by decide +kernel
theorem dX0_sendBye_12 : decode cX0_sendBye 12 = .ok (.invokevirtual 55, 3) := by decide +kernel
theorem dX0_sendBye_15 : decode cX0_sendBye 15 = .ok (.iconst 0, 1) := by decide +kernel
theorem dX0_sendBye_16 : decode cX0_sendBye 16 = .ok (.istore_n 2, 1) := by decide +kernel
theorem dX0_sendBye_17 : decode cX0_sendBye 17 = .ok (.iload_n 2, 1) := by decide +kernel
theorem dX0_sendBye_18 : decode cX0_sendBye 18 = .ok (.bipush 6, 2) := by decide +kernel
theorem dX0_sendBye_20 : decode cX0_sendBye 20 = .ok (.if_icmp .ge 24, 3) := by decide +kernel
theorem dX0_sendBye_23 : decode cX0_sendBye 23 = .ok (.aload_n 0, 1) := by decide +kernel
theorem dX0_sendBye_24 : decode cX0_sendBye 24 = .ok (.iload_n 1, 1) := by decide +kernel
theorem dX0_sendBye_25 : decode cX0_sendBye 25 = .ok (.iload_n 2, 1) := by decide +kernel
theorem dX0_sendBye_26 : decode cX0_sendBye 26 = .ok (.invokevirtual 126, 3) := by decide +kernel
theorem dX0_sendBye_29 : decode cX0_sendBye 29 = .ok (.ifCond .eq 9, 3) := by decide +kernel
theorem dX0_sendBye_32 : decode cX0_sendBye 32 = .ok (.aload_n 0, 1) := by decide +kernel
theorem dX0_sendBye_33 : decode cX0_sendBye 33 = .ok (.iload_n 2, 1) := by decide +kernel
theorem dX0_sendBye_34 : decode cX0_sendBye 34 = .ok (.iload_n 1, 1) := by decide +kernel
theorem dX0_sendBye_35 : decode cX0_sendBye 35 = .ok (.invokevirtual 129, 3) := by decide +kernel
theorem dX0_sendBye_38 : decode cX0_sendBye 38 = .ok (.iinc 2 1, 3) := by decide +kernel
theorem dX0_sendBye_41 : decode cX0_sendBye 41 = .ok (.goto (-24), 3) := by decide +kernel
theorem dX0_sendBye_44 : decode cX0_sendBye 44 = .ok (.return_, 1) := by decide +kernel
set_option maxRecDepth 20000 in
theorem ggX0_hearBye_X0_knows : GoodIn wsX0_hearBye wsX0_knows := goodIn_r _ [15, 3, 27, 28, 29, 30, 31, 32, 33, 34, 35, 36, 37, 38, 39, 40] (by decide +kernel) (by decide +kernel)
set_option maxRecDepth 20000 in
theorem gX0_hearBye_X0_knows : GoodIn wsX0_hearBye (wsV RX0 119 RX0 yX0_knows wsX0_knows) := goodIn_app (goodIn_of _ (by decide +kernel)) ggX0_hearBye_X0_knows
set_option maxRecDepth 20000 in
theorem ggX0_hearBye_X0_countOf : GoodIn wsX0_hearBye wsX0_countOf := goodIn_r _ [19, 3, 20, 21, 22, 23, 24, 25, 26, 27, 28, 29, 30, 31, 32, 33, 34, 35, 36, 37, 38, 39, 40] (by decide +kernel) (by decide +kernel)
set_option maxRecDepth 20000 in
theorem gX0_hearBye_X0_countOf : GoodIn wsX0_hearBye (wsV RX0 71 RX0 yX0_countOf wsX0_countOf) := goodIn_app (goodIn_of _ (by decide +kernel)) ggX0_hearBye_X0_countOf
theorem dX0_hearBye_0 : decode cX0_hearBye 0 = .ok (.aload_n 0, 1) := by decide +kernel
theorem dX0_hearBye_1 : decode cX0_hearBye 1 = .ok (.getfield 33, 3) := by decide +kernel
theorem dX0_hearBye_4 : decode cX0_hearBye 4 = .ok (.iload_n 1, 1) := by decide +kernel
theorem dX0_hearBye_5 : decode cX0_hearBye 5 = .ok (.iaload, 1) := by decide +kernel
theorem dX0_hearBye_6 : decode cX0_hearBye 6 = .ok (.iconst 2, 1) := by decide +kernel
theorem dX0_hearBye_7 : decode cX0_hearBye 7 = .ok (.if_icmp .ne 13, 3) := by decide +kernel
theorem dX0_hearBye_10 : decode cX0_hearBye 10 = .ok (.aload_n 0, 1) := by decide +kernel
theorem dX0_hearBye_11 : decode cX0_hearBye 11 = .ok (.getfield 46, 3) := by decide +kernel
theorem dX0_hearBye_14 : decode cX0_hearBye 14 = .ok (.iload_n 1, 1) := by decide +kernel
theorem dX0_hearBye_15 : decode cX0_hearBye 15 = .ok (.dup2, 1) := by decide +kernel
theorem dX0_hearBye_16 : decode cX0_hearBye 16 = .ok (.iaload, 1) := by decide +kernel
theorem dX0_hearBye_17 : decode cX0_hearBye 17 = .ok (.iconst 1, 1) := by decide +kernel
theorem dX0_hearBye_18 : decode cX0_hearBye 18 = .ok (.iadd, 1) := by decide +kernel
theorem dX0_hearBye_19 : decode cX0_hearBye 19 = .ok (.iastore, 1) := by decide +kernel
theorem dX0_hearBye_20 : decode cX0_hearBye 20 = .ok (.aload_n 0, 1) := by decide +kernel
theorem dX0_hearBye_21 : decode cX0_hearBye 21 = .ok (.iload_n 1, 1) := by decide +kernel
theorem dX0_hearBye_22 : decode cX0_hearBye 22 = .ok (.iload_n 2, 1) := by decide +kernel
theorem dX0_hearBye_23 : decode cX0_hearBye 23 = .ok (.invokevirtual 119, 3) := by decide +kernel
theorem dX0_hearBye_26 : decode cX0_hearBye 26 = .ok (.ifCond .ne 4, 3) := by decide +kernel
theorem dX0_hearBye_29 : decode cX0_hearBye 29 = .ok (.return_, 1) := by decide +kernel
theorem dX0_hearBye_30 : decode cX0_hearBye 30 = .ok (.aload_n 0, 1) := by decide +kernel
theorem dX0_hearBye_31 : decode cX0_hearBye 31 = .ok (.iload_n 1, 1) := by decide +kernel
theorem dX0_hearBye_32 : decode cX0_hearBye 32 = .ok (.invokevirtual 71, 3) := by decide +kernel
theorem dX0_hearBye_35 : decode cX0_hearBye 35 = .ok (.istore_n 3, 1) := by decide +kernel
theorem dX0_hearBye_36 : decode cX0_hearBye 36 = .ok (.iload_n 3, 1) := by decide +kernel
theorem dX0_hearBye_37 : decode cX0_hearBye 37 = .ok (.iconst 1, 1) := by decide +kernel
theorem dX0_hearBye_38 : decode cX0_hearBye 38 = .ok (.isub, 1) := by decide +kernel
theorem dX0_hearBye_39 : decode cX0_hearBye 39 = .ok (.istore 4, 2) := by decide +kernel
theorem dX0_hearBye_41 : decode cX0_hearBye 41 = .ok (.aload_n 0, 1) := by decide +kernel
theorem dX0_hearBye_42 : decode cX0_hearBye 42 = .ok (.getfield 37, 3) := by decide +kernel
theorem dX0_hearBye_45 : decode cX0_hearBye 45 = .ok (.iload_n 1, 1) := by decide +kernel
theorem dX0_hearBye_46 : decode cX0_hearBye 46 = .ok (.dup2, 1) := by decide +kernel
theorem dX0_hearBye_47 : decode cX0_hearBye 47 = .ok (.iaload, 1) := by decide +kernel
theorem dX0_hearBye_48 : decode cX0_hearBye 48 = .ok (.iconst 1, 1) := by decide +kernel
theorem dX0_hearBye_49 : decode cX0_hearBye 49 = .ok (.iload_n 2, 1) := by decide +kernel
theorem dX0_hearBye_50 : decode cX0_hearBye 50 = .ok (.ishl, 1) := by decide +kernel
theorem dX0_hearBye_51 : decode cX0_hearBye 51 = .ok (.iconst (-1), 1) := by decide +kernel
theorem dX0_hearBye_52 : decode cX0_hearBye 52 = .ok (.ixor, 1) := by decide +kernel
theorem dX0_hearBye_53 : decode cX0_hearBye 53 = .ok (.iand, 1) := by decide +kernel
theorem dX0_hearBye_54 : decode cX0_hearBye 54 = .ok (.iastore, 1) := by decide +kernel
theorem dX0_hearBye_55 : decode cX0_hearBye 55 = .ok (.aload_n 0, 1) := by decide +kernel
theorem dX0_hearBye_56 : decode cX0_hearBye 56 = .ok (.getfield 33, 3) := by decide +kernel
theorem dX0_hearBye_59 : decode cX0_hearBye 59 = .ok (.iload_n 1, 1) := by decide +kernel
theorem dX0_hearBye_60 : decode cX0_hearBye 60 = .ok (.iaload, 1) := by decide +kernel
theorem dX0_hearBye_61 : decode cX0_hearBye 61 = .ok (.iconst 1, 1) := by decide +kernel
theorem dX0_hearBye_62 : decode cX0_hearBye 62 = .ok (.if_icmp .ne 61, 3) := by decide +kernel
theorem dX0_hearBye_65 : decode cX0_hearBye 65 = .ok (.aload_n 0, 1) := by decide +kernel
theorem dX0_hearBye_66 : decode cX0_hearBye 66 = .ok (.getfield 43, 3) := by decide +kernel
theorem dX0_hearBye_69 : decode cX0_hearBye 69 = .ok (.iload_n 1, 1) := by decide +kernel
theorem dX0_hearBye_70 : decode cX0_hearBye 70 = .ok (.aload_n 0, 1) := by decide +kernel
theorem dX0_hearBye_71 : decode cX0_hearBye 71 = .ok (.getfield 21, 3) := by decide +kernel
theorem dX0_hearBye_74 : decode cX0_hearBye 74 = .ok (.iconst 0, 1) := by decide +kernel
theorem dX0_hearBye_75 : decode cX0_hearBye 75 = .ok (.aload_n 0, 1) := by decide +kernel
theorem dX0_hearBye_76 : decode cX0_hearBye 76 = .ok (.getfield 43, 3) := by decide +kernel
theorem dX0_hearBye_79 : decode cX0_hearBye 79 = .ok (.iload_n 1, 1) := by decide +kernel
theorem dX0_hearBye_80 : decode cX0_hearBye 80 = .ok (.iaload, 1) := by decide +kernel
theorem dX0_hearBye_81 : decode cX0_hearBye 81 = .ok (.aload_n 0, 1) := by decide +kernel
theorem dX0_hearBye_82 : decode cX0_hearBye 82 = .ok (.getfield 21, 3) := by decide +kernel
theorem dX0_hearBye_85 : decode cX0_hearBye 85 = .ok (.isub, 1) := by decide +kernel
theorem dX0_hearBye_86 : decode cX0_hearBye 86 = .ok (.invokestatic 77, 3) := by decide +kernel
theorem dX0_hearBye_89 : decode cX0_hearBye 89 = .ok (.iload 4, 2) := by decide +kernel
theorem dX0_hearBye_91 : decode cX0_hearBye 91 = .ok (.imul, 1) := by decide +kernel
theorem dX0_hearBye_92 : decode cX0_hearBye 92 = .ok (.iload_n 3, 1) := by decide +kernel
theorem dX0_hearBye_93 : decode cX0_hearBye 93 = .ok (.idiv, 1) := by decide +kernel
theorem dX0_hearBye_94 : decode cX0_hearBye 94 = .ok (.iadd, 1) := by decide +kernel
theorem dX0_hearBye_95 : decode cX0_hearBye 95 = .ok (.iastore, 1) := by decide +kernel
theorem dX0_hearBye_96 : decode cX0_hearBye 96 = .ok (.aload_n 0, 1) := by decide +kernel
theorem dX0_hearBye_97 : decode cX0_hearBye 97 = .ok (.getfield 40, 3) := by decide +kernel
theorem dX0_hearBye_100 : decode cX0_hearBye 100 = .ok (.iload_n 1, 1) := by decide +kernel
theorem dX0_hearBye_101 : decode cX0_hearBye 101 = .ok (.aload_n 0, 1) := by decide +kernel
theorem dX0_hearBye_102 : decode cX0_hearBye 102 = .ok (.getfield 21, 3) := by decide +kernel
theorem dX0_hearBye_105 : decode cX0_hearBye 105 = .ok (.aload_n 0, 1) := by decide +kernel
theorem dX0_hearBye_106 : decode cX0_hearBye 106 = .ok (.getfield 21, 3) := by decide +kernel
theorem dX0_hearBye_109 : decode cX0_hearBye 109 = .ok (.aload_n 0, 1) := by decide +kernel
theorem dX0_hearBye_110 : decode cX0_hearBye 110 = .ok (.getfield 40, 3) := by decide +kernel
theorem dX0_hearBye_113 : decode cX0_hearBye 113 = .ok (.iload_n 1, 1) := by decide +kernel
theorem dX0_hearBye_114 : decode cX0_hearBye 114 = .ok (.iaload, 1) := by decide +kernel
theorem dX0_hearBye_115 : decode cX0_hearBye 115 = .ok (.isub, 1) := by decide +kernel
theorem dX0_hearBye_116 : decode cX0_hearBye 116 = .ok (.iload 4, 2) := by decide +kernel
theorem dX0_hearBye_118 : decode cX0_hearBye 118 = .ok (.imul, 1) := by decide +kernel
theorem dX0_hearBye_119 : decode cX0_hearBye 119 = .ok (.iload_n 3, 1) := by decide +kernel
theorem dX0_hearBye_120 : decode cX0_hearBye 120 = .ok (.idiv, 1) := by decide +kernel
theorem dX0_hearBye_121 : decode cX0_hearBye 121 = .ok (.isub, 1) := by decide +kernel
theorem dX0_hearBye_122 : decode cX0_hearBye 122 = .ok (.iastore, 1) := by decide +kernel
theorem dX0_hearBye_123 : decode cX0_hearBye 123 = .ok (.return_, 1) := by decide +kernel
set_option maxRecDepth 20000 in
theorem ggX1_init_X0_init : GoodIn wsX1_init wsX0_init := goodIn_r _ [22, 23, 2, 3, 24, 25, 26, 27, 28, 29, 30, 13, 31, 32, 33, 34, 35, 36, 37, 38, 39, 40, 41, 42, 43, 44, 45, 46, 47, 48, 49, 50, 51] (by decide +kernel) (by decide +kernel)
set_option maxRecDepth 20000 in
theorem gX1_init_X0_init_n9 : GoodIn wsX1_init (wsX0_init) := ggX1_init_X0_init
theorem dX1_init_0 : decode cX1_init 0 = .ok (.aload_n 0, 1) := by decide +kernel
theorem dX1_init_1 : decode cX1_init 1 = .ok (.invokespecial 1, 3) := by decide +kernel
theorem dX1_init_4 : decode cX1_init 4 = .ok (.aload_n 0, 1) := by decide +kernel
theorem dX1_init_5 : decode cX1_init 5 = .ok (.new 7, 3) := by decide +kernel
theorem dX1_init_8 : decode cX1_init 8 = .ok (.dup, 1) := by decide +kernel
theorem dX1_init_9 : decode cX1_init 9 = .ok (.invokespecial 9, 3) := by decide +kernel
theorem dX1_init_12 : decode cX1_init 12 = .ok (.putfield 10, 3) := by decide +kernel
theorem dX1_init_15 : decode cX1_init 15 = .ok (.aload_n 0, 1) := by decide +kernel
theorem dX1_init_16 : decode cX1_init 16 = .ok (.new 7, 3) := by decide +kernel
theorem dX1_init_19 : decode cX1_init 19 = .ok (.dup, 1) := by decide +kernel
theorem dX1_init_20 : decode cX1_init 20 = .ok (.invokespecial 9, 3) := by decide +kernel
theorem dX1_init_23 : decode cX1_init 23 = .ok (.putfield 16, 3) := by decide +kernel
theorem dX1_init_26 : decode cX1_init 26 = .ok (.aload_n 0, 1) := by decide +kernel
theorem dX1_init_27 : decode cX1_init 27 = .ok (.bipush 14, 2) := by decide +kernel
theorem dX1_init_29 : decode cX1_init 29 = .ok (.anewarray 7, 3) := by decide +kernel
theorem dX1_init_32 : decode cX1_init 32 = .ok (.putfield 19, 3) := by decide +kernel
theorem dX1_init_35 : decode cX1_init 35 = .ok (.aload_n 0, 1) := by decide +kernel
theorem dX1_init_36 : decode cX1_init 36 = .ok (.iconst 0, 1) := by decide +kernel
theorem dX1_init_37 : decode cX1_init 37 = .ok (.putfield 23, 3) := by decide +kernel
theorem dX1_init_40 : decode cX1_init 40 = .ok (.aload_n 0, 1) := by decide +kernel
theorem dX1_init_41 : decode cX1_init 41 = .ok (.iconst 2, 1) := by decide +kernel
theorem dX1_init_42 : decode cX1_init 42 = .ok (.anewarray 7, 3) := by decide +kernel
theorem dX1_init_45 : decode cX1_init 45 = .ok (.putfield 27, 3) := by decide +kernel
theorem dX1_init_48 : decode cX1_init 48 = .ok (.aload_n 0, 1) := by decide +kernel
theorem dX1_init_49 : decode cX1_init 49 = .ok (.iconst 0, 1) := by decide +kernel
theorem dX1_init_50 : decode cX1_init 50 = .ok (.putfield 30, 3) := by decide +kernel
theorem dX1_init_53 : decode cX1_init 53 = .ok (.aload_n 0, 1) := by decide +kernel
theorem dX1_init_54 : decode cX1_init 54 = .ok (.bipush 60, 2) := by decide +kernel
theorem dX1_init_56 : decode cX1_init 56 = .ok (.newarray .int, 2) := by decide +kernel
theorem dX1_init_58 : decode cX1_init 58 = .ok (.putfield 33, 3) := by decide +kernel
theorem dX1_init_61 : decode cX1_init 61 = .ok (.aload_n 0, 1) := by decide +kernel
theorem dX1_init_62 : decode cX1_init 62 = .ok (.iconst 0, 1) := by decide +kernel
theorem dX1_init_63 : decode cX1_init 63 = .ok (.putfield 37, 3) := by decide +kernel
theorem dX1_init_66 : decode cX1_init 66 = .ok (.aload_n 0, 1) := by decide +kernel
theorem dX1_init_67 : decode cX1_init 67 = .ok (.bipush 6, 2) := by decide +kernel
theorem dX1_init_69 : decode cX1_init 69 = .ok (.newarray .int, 2) := by decide +kernel
theorem dX1_init_71 : decode cX1_init 71 = .ok (.putfield 40, 3) := by decide +kernel
theorem dX1_init_74 : decode cX1_init 74 = .ok (.aload_n 0, 1) := by decide +kernel
theorem dX1_init_75 : decode cX1_init 75 = .ok (.bipush 6, 2) := by decide +kernel
theorem dX1_init_77 : decode cX1_init 77 = .ok (.newarray .int, 2) := by decide +kernel
theorem dX1_init_79 : decode cX1_init 79 = .ok (.putfield 43, 3) := by decide +kernel
theorem dX1_init_82 : decode cX1_init 82 = .ok (.aload_n 0, 1) := by decide +kernel
theorem dX1_init_83 : decode cX1_init 83 = .ok (.iconst 0, 1) := by decide +kernel
theorem dX1_init_84 : decode cX1_init 84 = .ok (.putfield 46, 3) := by decide +kernel
theorem dX1_init_87 : decode cX1_init 87 = .ok (.aload_n 0, 1) := by decide +kernel
theorem dX1_init_88 : decode cX1_init 88 = .ok (.lconst 0, 1) := by decide +kernel
theorem dX1_init_89 : decode cX1_init 89 = .ok (.putfield 49, 3) := by decide +kernel
theorem dX1_init_92 : decode cX1_init 92 = .ok (.aload_n 0, 1) := by decide +kernel
theorem dX1_init_93 : decode cX1_init 93 = .ok (.bipush 64, 2) := by decide +kernel
theorem dX1_init_95 : decode cX1_init 95 = .ok (.newarray .int, 2) := by decide +kernel
theorem dX1_init_97 : decode cX1_init 97 = .ok (.putfield 53, 3) := by decide +kernel
theorem dX1_init_100 : decode cX1_init 100 = .ok (.iconst 0, 1) := by decide +kernel
theorem dX1_init_101 : decode cX1_init 101 = .ok (.istore_n 1, 1) := by decide +kernel
theorem dX1_init_102 : decode cX1_init 102 = .ok (.iload_n 1, 1) := by decide +kernel
theorem dX1_init_103 : decode cX1_init 103 = .ok (.bipush 14, 2) := by decide +kernel
theorem dX1_init_105 : decode cX1_init 105 = .ok (.if_icmp .ge 22, 3) := by decide +kernel
theorem dX1_init_108 : decode cX1_init 108 = .ok (.aload_n 0, 1) := by decide +kernel
theorem dX1_init_109 : decode cX1_init 109 = .ok (.getfield 19, 3) := by decide +kernel
theorem dX1_init_112 : decode cX1_init 112 = .ok (.iload_n 1, 1) := by decide +kernel
theorem dX1_init_113 : decode cX1_init 113 = .ok (.new 7, 3) := by decide +kernel
theorem dX1_init_116 : decode cX1_init 116 = .ok (.dup, 1) := by decide +kernel
theorem dX1_init_117 : decode cX1_init 117 = .ok (.invokespecial 9, 3) := by decide +kernel
theorem dX1_init_120 : decode cX1_init 120 = .ok (.aastore, 1) := by decide +kernel
theorem dX1_init_121 : decode cX1_init 121 = .ok (.iinc 1 1, 3) := by decide +kernel
theorem dX1_init_124 : decode cX1_init 124 = .ok (.goto (-22), 3) := by decide +kernel
theorem dX1_init_127 : decode cX1_init 127 = .ok (.iconst 0, 1) := by decide +kernel
theorem dX1_init_128 : decode cX1_init 128 = .ok (.istore_n 1, 1) := by decide +kernel
theorem dX1_init_129 : decode cX1_init 129 = .ok (.iload_n 1, 1) := by decide +kernel
theorem dX1_init_130 : decode cX1_init 130 = .ok (.iconst 2, 1) := by decide +kernel
theorem dX1_init_131 : decode cX1_init 131 = .ok (.if_icmp .ge 22, 3) := by decide +kernel
theorem dX1_init_134 : decode cX1_init 134 = .ok (.aload_n 0, 1) := by decide +kernel
theorem dX1_init_135 : decode cX1_init 135 = .ok (.getfield 27, 3) := by decide +kernel
theorem dX1_init_138 : decode cX1_init 138 = .ok (.iload_n 1, 1) := by decide +kernel
theorem dX1_init_139 : decode cX1_init 139 = .ok (.new 7, 3) := by decide +kernel
theorem dX1_init_142 : decode cX1_init 142 = .ok (.dup, 1) := by decide +kernel
theorem dX1_init_143 : decode cX1_init 143 = .ok (.invokespecial 9, 3) := by decide +kernel
theorem dX1_init_146 : decode cX1_init 146 = .ok (.aastore, 1) := by decide +kernel
theorem dX1_init_147 : decode cX1_init 147 = .ok (.iinc 1 1, 3) := by decide +kernel
theorem dX1_init_150 : decode cX1_init 150 = .ok (.goto (-21), 3) := by decide +kernel
theorem dX1_init_153 : decode cX1_init 153 = .ok (.return_, 1) := by decide +kernel
theorem dX1_write_0 : decode cX1_write 0 = .ok (.iload_n 1, 1) := by decide +kernel
theorem dX1_write_1 : decode cX1_write 1 = .ok (.ifCond .lt 10, 3) := by decide +kernel
theorem dX1_write_4 : decode cX1_write 4 = .ok (.iload_n 1, 1) := by decide +kernel
theorem dX1_write_5 : decode cX1_write 5 = .ok (.sipush 255, 3) := by decide +kernel
theorem dX1_write_8 : decode cX1_write 8 = .ok (.if_icmp .le 6, 3) := by decide +kernel
theorem dX1_write_11 : decode cX1_write 11 = .ok (.bipush (-2), 2) := by decide +kernel
theorem dX1_write_13 : decode cX1_write 13 = .ok (.ireturn, 1) := by decide +kernel
theorem dX1_write_14 : decode cX1_write 14 = .ok (.aload_n 0, 1) := by decide +kernel
theorem dX1_write_15 : decode cX1_write 15 = .ok (.getfield 37, 3) := by decide +kernel
theorem dX1_write_18 : decode cX1_write 18 = .ok (.bipush 60, 2) := by decide +kernel
theorem dX1_write_20 : decode cX1_write 20 = .ok (.if_icmp .lt 6, 3) := by decide +kernel
theorem dX1_write_23 : decode cX1_write 23 = .ok (.bipush (-4), 2) := by decide +kernel
theorem dX1_write_25 : decode cX1_write 25 = .ok (.ireturn, 1) := by decide +kernel
theorem dX1_write_26 : decode cX1_write 26 = .ok (.aload_n 0, 1) := by decide +kernel
theorem dX1_write_27 : decode cX1_write 27 = .ok (.getfield 33, 3) := by decide +kernel
theorem dX1_write_30 : decode cX1_write 30 = .ok (.aload_n 0, 1) := by decide +kernel
theorem dX1_write_31 : decode cX1_write 31 = .ok (.getfield 37, 3) := by decide +kernel
theorem dX1_write_34 : decode cX1_write 34 = .ok (.iload_n 1, 1) := by decide +kernel
theorem dX1_write_35 : decode cX1_write 35 = .ok (.iastore, 1) := by decide +kernel
theorem dX1_write_36 : decode cX1_write 36 = .ok (.aload_n 0, 1) := by decide +kernel
theorem dX1_write_37 : decode cX1_write 37 = .ok (.dup, 1) := by decide +kernel
theorem dX1_write_38 : decode cX1_write 38 = .ok (.getfield 37, 3) := by decide +kernel
theorem dX1_write_41 : decode cX1_write 41 = .ok (.iconst 1, 1) := by decide +kernel
theorem dX1_write_42 : decode cX1_write 42 = .ok (.iadd, 1) := by decide +kernel
theorem dX1_write_43 : decode cX1_write 43 = .ok (.putfield 37, 3) := by decide +kernel
theorem dX1_write_46 : decode cX1_write 46 = .ok (.aload_n 0, 1) := by decide +kernel
theorem dX1_write_47 : decode cX1_write 47 = .ok (.getfield 37, 3) := by decide +kernel
theorem dX1_write_50 : decode cX1_write 50 = .ok (.ireturn, 1) := by decide +kernel
theorem dX1_wipe_0 : decode cX1_wipe 0 = .ok (.aload_n 0, 1) := by decide +kernel
theorem dX1_wipe_1 : decode cX1_wipe 1 = .ok (.getfield 37, 3) := by decide +kernel
theorem dX1_wipe_4 : decode cX1_wipe 4 = .ok (.istore_n 1, 1) := by decide +kernel
theorem dX1_wipe_5 : decode cX1_wipe 5 = .ok (.aload_n 0, 1) := by decide +kernel
theorem dX1_wipe_6 : decode cX1_wipe 6 = .ok (.iconst 0, 1) := by decide +kernel
theorem dX1_wipe_7 : decode cX1_wipe 7 = .ok (.putfield 37, 3) := by decide +kernel
theorem dX1_wipe_10 : decode cX1_wipe 10 = .ok (.iload_n 1, 1) := by decide +kernel
theorem dX1_wipe_11 : decode cX1_wipe 11 = .ok (.ireturn, 1) := by decide +kernel
set_option maxRecDepth 20000 in
theorem ggX1_fault_X1_readText : GoodIn wsX1_fault wsX1_readText := goodIn_r _ [5, 6, 7, 8, 9, 10, 11, 4, 12, 13, 14, 15, 16, 17, 18, 19, 20, 21, 22, 23, 24, 25, 26, 27, 28, 29, 30, 31, 32, 33, 34, 35, 36, 37, 38, 39, 40, 41, 42, 43, 44, 45, 46, 47, 48, 49, 50, 51, 52, 53, 54, 55, 56, 57, 58, 59, 60, 61, 62, 63, 64, 65, 66, 67, 68, 69, 70, 71, 72, 73, 74, 75, 76, 77, 78, 79, 80, 81, 82, 83, 84, 85, 86, 87, 88, 89, 90, 91, 92, 93, 94, 95, 96, 97, 98, 99, 100, 101, 102, 103, 104, 105, 106, 107, 108, 109, 110, 111, 112, 113, 114, 115, 116, 117, 118, 119, 120, 121, 122, 123, 124, 125, 126, 127, 128, 129, 130, 131, 132, 133, 134, 135, 136, 137, 138, 139, 140, 141, 142, 143, 144, 145, 146, 147, 148, 149, 150, 151, 152, 153, 154, 155] (by decide +kernel) (by decide +kernel)
set_option maxRecDepth 20000 in
theorem gX1_fault_X1_readText : GoodIn wsX1_fault (wsV RX1 56 RX1 yX1_readText wsX1_readText) := goodIn_app (goodIn_of _ (by decide +kernel)) ggX1_fault_X1_readText
theorem dX1_fault_0 : decode cX1_fault 0 = .ok (.aload_n 0, 1) := by decide +kernel
theorem dX1_fault_1 : decode cX1_fault 1 = .ok (.invokevirtual 56, 3) := by decide +kernel
theorem dX1_fault_4 : decode cX1_fault 4 = .ok (.ireturn, 1) := by decide +kernel
set_option maxRecDepth 20000 in
theorem ggX1_meeting_X1_readText : GoodIn wsX1_meeting wsX1_readText := goodIn_r _ [10, 11, 12, 2, 13, 14, 15, 9, 16, 17, 18, 19, 20, 21, 22, 23, 24, 25, 26, 27, 28, 29, 30, 31, 32, 33, 34, 35, 36, 37, 38, 39, 40, 41, 42, 43, 44, 45, 46, 47, 48, 49, 50, 51, 52, 53, 54, 55, 56, 57, 58, 59, 60, 61, 62, 63, 64, 65, 66, 67, 68, 69, 70, 71, 72, 73, 74, 75, 76, 77, 78, 79, 80, 81, 82, 83, 84, 85, 86, 87, 88, 89, 90, 91, 92, 93, 94, 95, 96, 97, 98, 99, 100, 101, 102, 103, 104, 105, 106, 107, 108, 109, 110, 111, 112, 113, 114, 115, 116, 117, 118, 119, 120, 121, 122, 123, 124, 125, 126, 127, 128, 129, 130, 131, 132, 141, 142, 143, 144, 145, 146, 147, 148, 149, 150, 151, 152, 153, 154, 155, 156, 157, 158, 159, 160, 161, 162, 163, 164, 165, 166, 167] (by decide +kernel) (by decide +kernel)
set_option maxRecDepth 20000 in
theorem gX1_meeting_X1_readText : GoodIn wsX1_meeting (wsV RX1 56 RX1 yX1_readText wsX1_readText) := goodIn_app (goodIn_of _ (by decide +kernel)) ggX1_meeting_X1_readText
set_option maxRecDepth 20000 in
theorem ggX1_meeting_X0_takeFrom : GoodIn wsX1_meeting wsX0_takeFrom := goodIn_r _ [136, 68, 66, 67, 29, 56, 30, 31, 37, 137, 138, 139, 140, 38, 39, 40, 41, 32, 120, 154, 155, 156, 157, 158, 159, 160, 161, 162, 163, 164, 165, 166, 167] (by decide +kernel) (by decide +kernel)
set_option maxRecDepth 20000 in
theorem gX1_meeting_X0_takeFrom : GoodIn wsX1_meeting (wsV RX1 60 RX0 yX0_takeFrom wsX0_takeFrom) := goodIn_app (goodIn_of _ (by decide +kernel)) ggX1_meeting_X0_takeFrom
theorem dX1_meeting_0 : decode cX1_meeting 0 = .ok (.aload_n 0, 1) := by decide +kernel
theorem dX1_meeting_1 : decode cX1_meeting 1 = .ok (.invokevirtual 56, 3) := by decide +kernel
theorem dX1_meeting_4 : decode cX1_meeting 4 = .ok (.bipush (-9), 2) := by decide +kernel
theorem dX1_meeting_6 : decode cX1_meeting 6 = .ok (.if_icmp .eq 6, 3) := by decide +kernel
theorem dX1_meeting_9 : decode cX1_meeting 9 = .ok (.bipush (-3), 2) := by decide +kernel
theorem dX1_meeting_11 : decode cX1_meeting 11 = .ok (.ireturn, 1) := by decide +kernel
theorem dX1_meeting_12 : decode cX1_meeting 12 = .ok (.aload_n 0, 1) := by decide +kernel
theorem dX1_meeting_13 : decode cX1_meeting 13 = .ok (.getfield 10, 3) := by decide +kernel
theorem dX1_meeting_16 : decode cX1_meeting 16 = .ok (.aload_n 0, 1) := by decide +kernel
theorem dX1_meeting_17 : decode cX1_meeting 17 = .ok (.getfield 16, 3) := by decide +kernel
theorem dX1_meeting_20 : decode cX1_meeting 20 = .ok (.invokevirtual 60, 3) := by decide +kernel
theorem dX1_meeting_23 : decode cX1_meeting 23 = .ok (.aload_n 0, 1) := by decide +kernel
theorem dX1_meeting_24 : decode cX1_meeting 24 = .ok (.iconst 0, 1) := by decide +kernel
theorem dX1_meeting_25 : decode cX1_meeting 25 = .ok (.putfield 23, 3) := by decide +kernel
theorem dX1_meeting_28 : decode cX1_meeting 28 = .ok (.aload_n 0, 1) := by decide +kernel
theorem dX1_meeting_29 : decode cX1_meeting 29 = .ok (.iconst 0, 1) := by decide +kernel
theorem dX1_meeting_30 : decode cX1_meeting 30 = .ok (.putfield 30, 3) := by decide +kernel
theorem dX1_meeting_33 : decode cX1_meeting 33 = .ok (.aload_n 0, 1) := by decide +kernel
theorem dX1_meeting_34 : decode cX1_meeting 34 = .ok (.getfield 10, 3) := by decide +kernel
theorem dX1_meeting_37 : decode cX1_meeting 37 = .ok (.getfield 64, 3) := by decide +kernel
theorem dX1_meeting_40 : decode cX1_meeting 40 = .ok (.ireturn, 1) := by decide +kernel
set_option maxRecDepth 20000 in
theorem ggX1_about_X0_bitsOf : GoodIn wsX1_about wsX0_bitsOf := goodIn_r _ [16, 17, 131, 132, 133, 134, 135, 136, 137, 138, 139, 140, 141, 142, 143, 144] (by decide +kernel) (by decide +kernel)
set_option maxRecDepth 20000 in
theorem gX1_about_X0_bitsOf : GoodIn wsX1_about (wsV RX1 85 RX0 yX0_bitsOf wsX0_bitsOf) := goodIn_app (goodIn_of _ (by decide +kernel)) ggX1_about_X0_bitsOf
set_option maxRecDepth 20000 in
theorem ggX1_about_X1_restAt : GoodIn wsX1_about wsX1_restAt := goodIn_r _ [22, 23, 1, 24, 25, 26, 15, 27, 28, 29, 30, 31, 32, 33, 34, 17, 35, 36, 37, 38, 39, 40, 41, 42, 43, 44, 45, 46, 47, 48, 49, 13, 14, 16, 50, 51, 52, 53, 54, 55, 56, 57, 58, 59, 60, 61, 62, 63, 64, 65, 66, 67, 68, 69, 70, 71, 72, 73, 74, 75, 76, 77, 78, 79, 80, 81, 82, 83, 84, 85, 86, 87, 88, 89, 90, 91, 92, 93, 94, 95, 96, 97, 98, 99, 100, 101, 102, 103, 104, 105, 106, 107, 108, 109, 110, 111, 112, 113, 114, 115, 116, 117, 118, 119, 120, 121, 122, 123, 124, 125, 126, 127, 128, 129, 130, 131, 132, 133, 134, 135, 136, 137, 138, 139, 140, 141, 142, 143, 144] (by decide +kernel) (by decide +kernel)
set_option maxRecDepth 20000 in
theorem gX1_about_X1_restAt : GoodIn wsX1_about (wsV RX1 89 RX1 yX1_restAt wsX1_restAt) := goodIn_app (goodIn_of _ (by decide +kernel)) ggX1_about_X1_restAt
theorem dX1_about_0 : decode cX1_about 0 = .ok (.iload_n 1, 1) := by decide +kernel
theorem dX1_about_1 : decode cX1_about 1 = .ok (.tableswitch 161 0 12 #[67, 75, 83, 91, 99, 107, 115, 123, 132, 141, 146, 151, 156], 67) := by decide +kernel
theorem dX1_about_68 : decode cX1_about 68 = .ok (.aload_n 0, 1) := by decide +kernel
theorem dX1_about_69 : decode cX1_about 69 = .ok (.getfield 10, 3) := by decide +kernel
theorem dX1_about_72 : decode cX1_about 72 = .ok (.getfield 67, 3) := by decide +kernel
theorem dX1_about_75 : decode cX1_about 75 = .ok (.ireturn, 1) := by decide +kernel
theorem dX1_about_76 : decode cX1_about 76 = .ok (.aload_n 0, 1) := by decide +kernel
theorem dX1_about_77 : decode cX1_about 77 = .ok (.getfield 10, 3) := by decide +kernel
theorem dX1_about_80 : decode cX1_about 80 = .ok (.getfield 70, 3) := by decide +kernel
theorem dX1_about_83 : decode cX1_about 83 = .ok (.ireturn, 1) := by decide +kernel
theorem dX1_about_84 : decode cX1_about 84 = .ok (.aload_n 0, 1) := by decide +kernel
theorem dX1_about_85 : decode cX1_about 85 = .ok (.getfield 10, 3) := by decide +kernel
theorem dX1_about_88 : decode cX1_about 88 = .ok (.getfield 73, 3) := by decide +kernel
theorem dX1_about_91 : decode cX1_about 91 = .ok (.ireturn, 1) := by decide +kernel
theorem dX1_about_92 : decode cX1_about 92 = .ok (.aload_n 0, 1) := by decide +kernel
theorem dX1_about_93 : decode cX1_about 93 = .ok (.getfield 10, 3) := by decide +kernel
theorem dX1_about_96 : decode cX1_about 96 = .ok (.getfield 64, 3) := by decide +kernel
theorem dX1_about_99 : decode cX1_about 99 = .ok (.ireturn, 1) := by decide +kernel
theorem dX1_about_100 : decode cX1_about 100 = .ok (.aload_n 0, 1) := by decide +kernel
theorem dX1_about_101 : decode cX1_about 101 = .ok (.getfield 10, 3) := by decide +kernel
theorem dX1_about_104 : decode cX1_about 104 = .ok (.getfield 76, 3) := by decide +kernel
theorem dX1_about_107 : decode cX1_about 107 = .ok (.ireturn, 1) := by decide +kernel
theorem dX1_about_108 : decode cX1_about 108 = .ok (.aload_n 0, 1) := by decide +kernel
theorem dX1_about_109 : decode cX1_about 109 = .ok (.getfield 10, 3) := by decide +kernel
theorem dX1_about_112 : decode cX1_about 112 = .ok (.getfield 79, 3) := by decide +kernel
theorem dX1_about_115 : decode cX1_about 115 = .ok (.ireturn, 1) := by decide +kernel
theorem dX1_about_116 : decode cX1_about 116 = .ok (.aload_n 0, 1) := by decide +kernel
theorem dX1_about_117 : decode cX1_about 117 = .ok (.getfield 10, 3) := by decide +kernel
theorem dX1_about_120 : decode cX1_about 120 = .ok (.getfield 82, 3) := by decide +kernel
theorem dX1_about_123 : decode cX1_about 123 = .ok (.ireturn, 1) := by decide +kernel
theorem dX1_about_124 : decode cX1_about 124 = .ok (.aload_n 0, 1) := by decide +kernel
theorem dX1_about_125 : decode cX1_about 125 = .ok (.getfield 10, 3) := by decide +kernel
theorem dX1_about_128 : decode cX1_about 128 = .ok (.iconst 1, 1) := by decide +kernel
theorem dX1_about_129 : decode cX1_about 129 = .ok (.invokevirtual 85, 3) := by decide +kernel
theorem dX1_about_132 : decode cX1_about 132 = .ok (.ireturn, 1) := by decide +kernel
theorem dX1_about_133 : decode cX1_about 133 = .ok (.aload_n 0, 1) := by decide +kernel
theorem dX1_about_134 : decode cX1_about 134 = .ok (.getfield 10, 3) := by decide +kernel
theorem dX1_about_137 : decode cX1_about 137 = .ok (.iconst 2, 1) := by decide +kernel
theorem dX1_about_138 : decode cX1_about 138 = .ok (.invokevirtual 85, 3) := by decide +kernel
theorem dX1_about_141 : decode cX1_about 141 = .ok (.ireturn, 1) := by decide +kernel
theorem dX1_about_142 : decode cX1_about 142 = .ok (.aload_n 0, 1) := by decide +kernel
theorem dX1_about_143 : decode cX1_about 143 = .ok (.invokevirtual 89, 3) := by decide +kernel
theorem dX1_about_146 : decode cX1_about 146 = .ok (.ireturn, 1) := by decide +kernel
theorem dX1_about_147 : decode cX1_about 147 = .ok (.aload_n 0, 1) := by decide +kernel
theorem dX1_about_148 : decode cX1_about 148 = .ok (.getfield 23, 3) := by decide +kernel
theorem dX1_about_151 : decode cX1_about 151 = .ok (.ireturn, 1) := by decide +kernel
theorem dX1_about_152 : decode cX1_about 152 = .ok (.aload_n 0, 1) := by decide +kernel
theorem dX1_about_153 : decode cX1_about 153 = .ok (.getfield 46, 3) := by decide +kernel
theorem dX1_about_156 : decode cX1_about 156 = .ok (.ireturn, 1) := by decide +kernel
theorem dX1_about_157 : decode cX1_about 157 = .ok (.aload_n 0, 1) := by decide +kernel
theorem dX1_about_158 : decode cX1_about 158 = .ok (.getfield 37, 3) := by decide +kernel
theorem dX1_about_161 : decode cX1_about 161 = .ok (.ireturn, 1) := by decide +kernel
theorem dX1_about_162 : decode cX1_about 162 = .ok (.bipush (-2), 2) := by decide +kernel
theorem dX1_about_164 : decode cX1_about 164 = .ok (.ireturn, 1) := by decide +kernel
set_option maxRecDepth 20000 in
theorem ggX1_member_X1_isMember : GoodIn wsX1_member wsX1_isMember := goodIn_r _ [10] (by decide +kernel) (by decide +kernel)
set_option maxRecDepth 20000 in
theorem gX1_member_X1_isMember : GoodIn wsX1_member (va_wsS RX1 92 yX1_isMember wsX1_isMember) := goodIn_app (goodIn_of _ (by decide +kernel)) ggX1_member_X1_isMember
set_option maxRecDepth 20000 in
theorem ggX1_member_X0_countTold : GoodIn wsX1_member wsX0_countTold := goodIn_r _ [15, 16, 17, 18, 19, 14, 20, 21, 22, 23, 24, 25, 26, 27, 28, 42, 43, 44, 45, 46, 47, 48, 49, 50, 51, 52, 53, 54, 55] (by decide +kernel) (by decide +kernel)
set_option maxRecDepth 20000 in
theorem gX1_member_X0_countTold : GoodIn wsX1_member (wsV RX1 102 RX0 yX0_countTold wsX0_countTold) := goodIn_app (goodIn_of _ (by decide +kernel)) ggX1_member_X0_countTold
theorem dX1_member_0 : decode cX1_member 0 = .ok (.iload_n 1, 1) := by decide +kernel
theorem dX1_member_1 : decode cX1_member 1 = .ok (.invokestatic 92, 3) := by decide +kernel
theorem dX1_member_4 : decode cX1_member 4 = .ok (.ifCond .ne 5, 3) := by decide +kernel
theorem dX1_member_7 : decode cX1_member 7 = .ok (.iconst (-1), 1) := by decide +kernel
theorem dX1_member_8 : decode cX1_member 8 = .ok (.ireturn, 1) := by decide +kernel
theorem dX1_member_9 : decode cX1_member 9 = .ok (.iload_n 2, 1) := by decide +kernel
theorem dX1_member_10 : decode cX1_member 10 = .ok (.tableswitch 97 0 5 #[38, 48, 58, 67, 77, 87], 38) := by decide +kernel
theorem dX1_member_48 : decode cX1_member 48 = .ok (.aload_n 0, 1) := by decide +kernel
theorem dX1_member_49 : decode cX1_member 49 = .ok (.getfield 10, 3) := by decide +kernel
theorem dX1_member_52 : decode cX1_member 52 = .ok (.getfield 96, 3) := by decide +kernel
theorem dX1_member_55 : decode cX1_member 55 = .ok (.iload_n 1, 1) := by decide +kernel
theorem dX1_member_56 : decode cX1_member 56 = .ok (.iaload, 1) := by decide +kernel
theorem dX1_member_57 : decode cX1_member 57 = .ok (.ireturn, 1) := by decide +kernel
theorem dX1_member_58 : decode cX1_member 58 = .ok (.aload_n 0, 1) := by decide +kernel
theorem dX1_member_59 : decode cX1_member 59 = .ok (.getfield 10, 3) := by decide +kernel
theorem dX1_member_62 : decode cX1_member 62 = .ok (.getfield 99, 3) := by decide +kernel
theorem dX1_member_65 : decode cX1_member 65 = .ok (.iload_n 1, 1) := by decide +kernel
theorem dX1_member_66 : decode cX1_member 66 = .ok (.iaload, 1) := by decide +kernel
theorem dX1_member_67 : decode cX1_member 67 = .ok (.ireturn, 1) := by decide +kernel
theorem dX1_member_68 : decode cX1_member 68 = .ok (.aload_n 0, 1) := by decide +kernel
theorem dX1_member_69 : decode cX1_member 69 = .ok (.getfield 10, 3) := by decide +kernel
theorem dX1_member_72 : decode cX1_member 72 = .ok (.iload_n 1, 1) := by decide +kernel
theorem dX1_member_73 : decode cX1_member 73 = .ok (.invokevirtual 102, 3) := by decide +kernel
theorem dX1_member_76 : decode cX1_member 76 = .ok (.ireturn, 1) := by decide +kernel
theorem dX1_member_77 : decode cX1_member 77 = .ok (.aload_n 0, 1) := by decide +kernel
theorem dX1_member_78 : decode cX1_member 78 = .ok (.getfield 10, 3) := by decide +kernel
theorem dX1_member_81 : decode cX1_member 81 = .ok (.getfield 105, 3) := by decide +kernel
theorem dX1_member_84 : decode cX1_member 84 = .ok (.iload_n 1, 1) := by decide +kernel
theorem dX1_member_85 : decode cX1_member 85 = .ok (.iaload, 1) := by decide +kernel
theorem dX1_member_86 : decode cX1_member 86 = .ok (.ireturn, 1) := by decide +kernel
theorem dX1_member_87 : decode cX1_member 87 = .ok (.aload_n 0, 1) := by decide +kernel
theorem dX1_member_88 : decode cX1_member 88 = .ok (.getfield 10, 3) := by decide +kernel
theorem dX1_member_91 : decode cX1_member 91 = .ok (.getfield 108, 3) := by decide +kernel
theorem dX1_member_94 : decode cX1_member 94 = .ok (.iload_n 1, 1) := by decide +kernel
theorem dX1_member_95 : decode cX1_member 95 = .ok (.iaload, 1) := by decide +kernel
theorem dX1_member_96 : decode cX1_member 96 = .ok (.ireturn, 1) := by decide +kernel
theorem dX1_member_97 : decode cX1_member 97 = .ok (.aload_n 0, 1) := by decide +kernel
theorem dX1_member_98 : decode cX1_member 98 = .ok (.getfield 10, 3) := by decide +kernel
theorem dX1_member_101 : decode cX1_member 101 = .ok (.getfield 111, 3) := by decide +kernel
theorem dX1_member_104 : decode cX1_member 104 = .ok (.iload_n 1, 1) := by decide +kernel
theorem dX1_member_105 : decode cX1_member 105 = .ok (.iaload, 1) := by decide +kernel
theorem dX1_member_106 : decode cX1_member 106 = .ok (.ireturn, 1) := by decide +kernel
theorem dX1_member_107 : decode cX1_member 107 = .ok (.bipush (-2), 2) := by decide +kernel
theorem dX1_member_109 : decode cX1_member 109 = .ok (.ireturn, 1) := by decide +kernel
set_option maxRecDepth 20000 in
theorem ggX1_heard_X1_isMember : GoodIn wsX1_heard wsX1_isMember := goodIn_r _ [6] (by decide +kernel) (by decide +kernel)
set_option maxRecDepth 20000 in
theorem gX1_heard_X1_isMember : GoodIn wsX1_heard (va_wsS RX1 92 yX1_isMember wsX1_isMember) := goodIn_app (goodIn_of _ (by decide +kernel)) ggX1_heard_X1_isMember
set_option maxRecDepth 20000 in
theorem ggX1_heard_X0_knows : GoodIn wsX1_heard wsX0_knows := goodIn_r _ [11, 12, 26, 27, 28, 29, 30, 31, 32, 33, 34, 35, 36, 37, 38, 39] (by decide +kernel) (by decide +kernel)
set_option maxRecDepth 20000 in
theorem gX1_heard_X0_knows : GoodIn wsX1_heard (wsV RX1 114 RX0 yX0_knows wsX0_knows) := goodIn_app (goodIn_of _ (by decide +kernel)) ggX1_heard_X0_knows
theorem dX1_heard_0 : decode cX1_heard 0 = .ok (.iload_n 1, 1) := by decide +kernel
theorem dX1_heard_1 : decode cX1_heard 1 = .ok (.invokestatic 92, 3) := by decide +kernel
theorem dX1_heard_4 : decode cX1_heard 4 = .ok (.ifCond .eq 10, 3) := by decide +kernel
theorem dX1_heard_7 : decode cX1_heard 7 = .ok (.iload_n 2, 1) := by decide +kernel
theorem dX1_heard_8 : decode cX1_heard 8 = .ok (.invokestatic 92, 3) := by decide +kernel
theorem dX1_heard_11 : decode cX1_heard 11 = .ok (.ifCond .ne 5, 3) := by decide +kernel
theorem dX1_heard_14 : decode cX1_heard 14 = .ok (.iconst (-1), 1) := by decide +kernel
theorem dX1_heard_15 : decode cX1_heard 15 = .ok (.ireturn, 1) := by decide +kernel
theorem dX1_heard_16 : decode cX1_heard 16 = .ok (.aload_n 0, 1) := by decide +kernel
theorem dX1_heard_17 : decode cX1_heard 17 = .ok (.getfield 10, 3) := by decide +kernel
theorem dX1_heard_20 : decode cX1_heard 20 = .ok (.iload_n 1, 1) := by decide +kernel
theorem dX1_heard_21 : decode cX1_heard 21 = .ok (.iload_n 2, 1) := by decide +kernel
theorem dX1_heard_22 : decode cX1_heard 22 = .ok (.invokevirtual 114, 3) := by decide +kernel
theorem dX1_heard_25 : decode cX1_heard 25 = .ok (.ifCond .eq 20, 3) := by decide +kernel
theorem dX1_heard_28 : decode cX1_heard 28 = .ok (.aload_n 0, 1) := by decide +kernel
theorem dX1_heard_29 : decode cX1_heard 29 = .ok (.getfield 10, 3) := by decide +kernel
theorem dX1_heard_32 : decode cX1_heard 32 = .ok (.getfield 118, 3) := by decide +kernel
theorem dX1_heard_35 : decode cX1_heard 35 = .ok (.iload_n 1, 1) := by decide +kernel
theorem dX1_heard_36 : decode cX1_heard 36 = .ok (.bipush 6, 2) := by decide +kernel
theorem dX1_heard_38 : decode cX1_heard 38 = .ok (.imul, 1) := by decide +kernel
theorem dX1_heard_39 : decode cX1_heard 39 = .ok (.iload_n 2, 1) := by decide +kernel
theorem dX1_heard_40 : decode cX1_heard 40 = .ok (.iadd, 1) := by decide +kernel
theorem dX1_heard_41 : decode cX1_heard 41 = .ok (.iaload, 1) := by decide +kernel
theorem dX1_heard_42 : decode cX1_heard 42 = .ok (.goto 5, 3) := by decide +kernel
theorem dX1_heard_45 : decode cX1_heard 45 = .ok (.bipush (-9), 2) := by decide +kernel
theorem dX1_heard_47 : decode cX1_heard 47 = .ok (.ireturn, 1) := by decide +kernel
set_option maxRecDepth 20000 in
theorem ggX1_way_X1_isMember : GoodIn wsX1_way wsX1_isMember := goodIn_r _ [5] (by decide +kernel) (by decide +kernel)
set_option maxRecDepth 20000 in
theorem gX1_way_X1_isMember : GoodIn wsX1_way (va_wsS RX1 92 yX1_isMember wsX1_isMember) := goodIn_app (goodIn_of _ (by decide +kernel)) ggX1_way_X1_isMember
set_option maxRecDepth 20000 in
theorem ggX1_way_X0_isOpen : GoodIn wsX1_way wsX0_isOpen := goodIn_r _ [10, 11, 25, 26, 27, 28, 29, 30, 31, 32, 33, 34, 35, 36, 37, 38] (by decide +kernel) (by decide +kernel)
set_option maxRecDepth 20000 in
theorem gX1_way_X0_isOpen : GoodIn wsX1_way (wsV RX1 121 RX0 yX0_isOpen wsX0_isOpen) := goodIn_app (goodIn_of _ (by decide +kernel)) ggX1_way_X0_isOpen
theorem dX1_way_0 : decode cX1_way 0 = .ok (.iload_n 1, 1) := by decide +kernel
theorem dX1_way_1 : decode cX1_way 1 = .ok (.invokestatic 92, 3) := by decide +kernel
theorem dX1_way_4 : decode cX1_way 4 = .ok (.ifCond .eq 10, 3) := by decide +kernel
theorem dX1_way_7 : decode cX1_way 7 = .ok (.iload_n 2, 1) := by decide +kernel
theorem dX1_way_8 : decode cX1_way 8 = .ok (.invokestatic 92, 3) := by decide +kernel
theorem dX1_way_11 : decode cX1_way 11 = .ok (.ifCond .ne 5, 3) := by decide +kernel
theorem dX1_way_14 : decode cX1_way 14 = .ok (.iconst (-1), 1) := by decide +kernel
theorem dX1_way_15 : decode cX1_way 15 = .ok (.ireturn, 1) := by decide +kernel
theorem dX1_way_16 : decode cX1_way 16 = .ok (.iload_n 1, 1) := by decide +kernel
theorem dX1_way_17 : decode cX1_way 17 = .ok (.iload_n 2, 1) := by decide +kernel
theorem dX1_way_18 : decode cX1_way 18 = .ok (.if_icmp .ne 6, 3) := by decide +kernel
theorem dX1_way_21 : decode cX1_way 21 = .ok (.bipush (-2), 2) := by decide +kernel
theorem dX1_way_23 : decode cX1_way 23 = .ok (.ireturn, 1) := by decide +kernel
theorem dX1_way_24 : decode cX1_way 24 = .ok (.aload_n 0, 1) := by decide +kernel
theorem dX1_way_25 : decode cX1_way 25 = .ok (.getfield 10, 3) := by decide +kernel
theorem dX1_way_28 : decode cX1_way 28 = .ok (.iload_n 1, 1) := by decide +kernel
theorem dX1_way_29 : decode cX1_way 29 = .ok (.iload_n 2, 1) := by decide +kernel
theorem dX1_way_30 : decode cX1_way 30 = .ok (.invokevirtual 121, 3) := by decide +kernel
theorem dX1_way_33 : decode cX1_way 33 = .ok (.ifCond .eq 7, 3) := by decide +kernel
theorem dX1_way_36 : decode cX1_way 36 = .ok (.iconst 1, 1) := by decide +kernel
theorem dX1_way_37 : decode cX1_way 37 = .ok (.goto 4, 3) := by decide +kernel
theorem dX1_way_40 : decode cX1_way 40 = .ok (.iconst 0, 1) := by decide +kernel
theorem dX1_way_41 : decode cX1_way 41 = .ok (.ireturn, 1) := by decide +kernel
set_option maxRecDepth 20000 in
theorem ggX1_join_X1_isMember : GoodIn wsX1_join wsX1_isMember := goodIn_r _ [7] (by decide +kernel) (by decide +kernel)
set_option maxRecDepth 20000 in
theorem gX1_join_X1_isMember : GoodIn wsX1_join (va_wsS RX1 92 yX1_isMember wsX1_isMember) := goodIn_app (goodIn_of _ (by decide +kernel)) ggX1_join_X1_isMember
set_option maxRecDepth 20000 in
theorem ggX1_join_X1_remember : GoodIn wsX1_join wsX1_remember := goodIn_r _ [11, 12, 13, 1, 14, 15, 16, 17, 18, 19, 20, 21, 22, 23, 24, 25, 26, 27, 28, 29, 30, 31, 32, 33, 34, 35, 36, 58, 59, 60, 61, 62, 63, 64, 65, 66, 67, 68, 69, 70, 71, 72, 73, 74, 75, 76, 77, 78, 79, 80, 81, 82, 83, 84] (by decide +kernel) (by decide +kernel)
set_option maxRecDepth 20000 in
theorem gX1_join_X1_remember : GoodIn wsX1_join (wsV RX1 124 RX1 yX1_remember wsX1_remember) := goodIn_app (goodIn_of _ (by decide +kernel)) ggX1_join_X1_remember
set_option maxRecDepth 20000 in
theorem ggX1_join_X0_enter : GoodIn wsX1_join wsX0_enter := goodIn_r _ [40, 26, 5, 6, 7, 41, 42, 43, 17, 44, 32, 22, 33, 45, 46, 47, 48, 23, 49, 50, 51, 52, 53, 54, 55, 56, 57, 20, 21, 19, 71, 72, 73, 74, 75, 76, 77, 78, 79, 80, 81, 82, 83, 84] (by decide +kernel) (by decide +kernel)
set_option maxRecDepth 20000 in
theorem gX1_join_X0_enter : GoodIn wsX1_join (wsV RX1 127 RX0 yX0_enter wsX0_enter) := goodIn_app (goodIn_of _ (by decide +kernel)) ggX1_join_X0_enter
theorem dX1_join_0 : decode cX1_join 0 = .ok (.iload_n 1, 1) := by decide +kernel
theorem dX1_join_1 : decode cX1_join 1 = .ok (.invokestatic 92, 3) := by decide +kernel
theorem dX1_join_4 : decode cX1_join 4 = .ok (.ifCond .ne 5, 3) := by decide +kernel
theorem dX1_join_7 : decode cX1_join 7 = .ok (.iconst (-1), 1) := by decide +kernel
theorem dX1_join_8 : decode cX1_join 8 = .ok (.ireturn, 1) := by decide +kernel
theorem dX1_join_9 : decode cX1_join 9 = .ok (.aload_n 0, 1) := by decide +kernel
theorem dX1_join_10 : decode cX1_join 10 = .ok (.getfield 10, 3) := by decide +kernel
theorem dX1_join_13 : decode cX1_join 13 = .ok (.getfield 96, 3) := by decide +kernel
theorem dX1_join_16 : decode cX1_join 16 = .ok (.iload_n 1, 1) := by decide +kernel
theorem dX1_join_17 : decode cX1_join 17 = .ok (.iaload, 1) := by decide +kernel
theorem dX1_join_18 : decode cX1_join 18 = .ok (.ifCond .eq 6, 3) := by decide +kernel
theorem dX1_join_21 : decode cX1_join 21 = .ok (.bipush (-3), 2) := by decide +kernel
theorem dX1_join_23 : decode cX1_join 23 = .ok (.ireturn, 1) := by decide +kernel
theorem dX1_join_24 : decode cX1_join 24 = .ok (.aload_n 0, 1) := by decide +kernel
theorem dX1_join_25 : decode cX1_join 25 = .ok (.invokevirtual 124, 3) := by decide +kernel
theorem dX1_join_28 : decode cX1_join 28 = .ok (.aload_n 0, 1) := by decide +kernel
theorem dX1_join_29 : decode cX1_join 29 = .ok (.getfield 10, 3) := by decide +kernel
theorem dX1_join_32 : decode cX1_join 32 = .ok (.iload_n 1, 1) := by decide +kernel
theorem dX1_join_33 : decode cX1_join 33 = .ok (.invokevirtual 127, 3) := by decide +kernel
theorem dX1_join_36 : decode cX1_join 36 = .ok (.pop, 1) := by decide +kernel
theorem dX1_join_37 : decode cX1_join 37 = .ok (.aload_n 0, 1) := by decide +kernel
theorem dX1_join_38 : decode cX1_join 38 = .ok (.getfield 10, 3) := by decide +kernel
theorem dX1_join_41 : decode cX1_join 41 = .ok (.getfield 108, 3) := by decide +kernel
theorem dX1_join_44 : decode cX1_join 44 = .ok (.iload_n 1, 1) := by decide +kernel
theorem dX1_join_45 : decode cX1_join 45 = .ok (.iaload, 1) := by decide +kernel
theorem dX1_join_46 : decode cX1_join 46 = .ok (.ireturn, 1) := by decide +kernel
set_option maxRecDepth 20000 in
theorem ggX1_leave_X1_isMember : GoodIn wsX1_leave wsX1_isMember := goodIn_r _ [7] (by decide +kernel) (by decide +kernel)
set_option maxRecDepth 20000 in
theorem gX1_leave_X1_isMember : GoodIn wsX1_leave (va_wsS RX1 92 yX1_isMember wsX1_isMember) := goodIn_app (goodIn_of _ (by decide +kernel)) ggX1_leave_X1_isMember
set_option maxRecDepth 20000 in
theorem ggX1_leave_X1_remember : GoodIn wsX1_leave wsX1_remember := goodIn_r _ [11, 12, 13, 1, 14, 15, 16, 17, 18, 19, 20, 21, 22, 23, 24, 25, 26, 27, 28, 29, 30, 31, 32, 33, 34, 35, 36, 93, 94, 95, 96, 97, 98, 99, 100, 101, 102, 103, 104, 105, 106, 107, 108, 109, 110, 111, 112, 113, 114, 115, 116, 117, 118, 119] (by decide +kernel) (by decide +kernel)
set_option maxRecDepth 20000 in
theorem gX1_leave_X1_remember : GoodIn wsX1_leave (wsV RX1 124 RX1 yX1_remember wsX1_remember) := goodIn_app (goodIn_of _ (by decide +kernel)) ggX1_leave_X1_remember
set_option maxRecDepth 20000 in
theorem ggX1_leave_X0_depart : GoodIn wsX1_leave wsX0_depart := goodIn_r _ [40, 26, 34, 5, 6, 7, 41, 42, 43, 17, 44, 31, 45, 46, 47, 48, 49, 50, 51, 52, 53, 54, 55, 25, 56, 57, 58, 59, 32, 33, 60, 61, 62, 63, 64, 65, 66, 67, 35, 68, 69, 70, 71, 22, 72, 73, 74, 75, 76, 77, 78, 79, 80, 81, 82, 83, 84, 85, 86, 87, 23, 88, 89, 90, 91, 92, 20, 21, 19, 106, 107, 108, 109, 110, 111, 112, 113, 114, 115, 116, 117, 118, 119] (by decide +kernel) (by decide +kernel)
set_option maxRecDepth 20000 in
theorem gX1_leave_X0_depart : GoodIn wsX1_leave (wsV RX1 130 RX0 yX0_depart wsX0_depart) := goodIn_app (goodIn_of _ (by decide +kernel)) ggX1_leave_X0_depart
theorem dX1_leave_0 : decode cX1_leave 0 = .ok (.iload_n 1, 1) := by decide +kernel
theorem dX1_leave_1 : decode cX1_leave 1 = .ok (.invokestatic 92, 3) := by decide +kernel
theorem dX1_leave_4 : decode cX1_leave 4 = .ok (.ifCond .ne 5, 3) := by decide +kernel
theorem dX1_leave_7 : decode cX1_leave 7 = .ok (.iconst (-1), 1) := by decide +kernel
theorem dX1_leave_8 : decode cX1_leave 8 = .ok (.ireturn, 1) := by decide +kernel
theorem dX1_leave_9 : decode cX1_leave 9 = .ok (.aload_n 0, 1) := by decide +kernel
theorem dX1_leave_10 : decode cX1_leave 10 = .ok (.getfield 10, 3) := by decide +kernel
theorem dX1_leave_13 : decode cX1_leave 13 = .ok (.getfield 96, 3) := by decide +kernel
theorem dX1_leave_16 : decode cX1_leave 16 = .ok (.iload_n 1, 1) := by decide +kernel
theorem dX1_leave_17 : decode cX1_leave 17 = .ok (.iaload, 1) := by decide +kernel
theorem dX1_leave_18 : decode cX1_leave 18 = .ok (.iconst 1, 1) := by decide +kernel
theorem dX1_leave_19 : decode cX1_leave 19 = .ok (.if_icmp .eq 6, 3) := by decide +kernel
theorem dX1_leave_22 : decode cX1_leave 22 = .ok (.bipush (-3), 2) := by decide +kernel
theorem dX1_leave_24 : decode cX1_leave 24 = .ok (.ireturn, 1) := by decide +kernel
theorem dX1_leave_25 : decode cX1_leave 25 = .ok (.aload_n 0, 1) := by decide +kernel
theorem dX1_leave_26 : decode cX1_leave 26 = .ok (.invokevirtual 124, 3) := by decide +kernel
theorem dX1_leave_29 : decode cX1_leave 29 = .ok (.aload_n 0, 1) := by decide +kernel
theorem dX1_leave_30 : decode cX1_leave 30 = .ok (.getfield 10, 3) := by decide +kernel
theorem dX1_leave_33 : decode cX1_leave 33 = .ok (.iload_n 1, 1) := by decide +kernel
theorem dX1_leave_34 : decode cX1_leave 34 = .ok (.invokevirtual 130, 3) := by decide +kernel
theorem dX1_leave_37 : decode cX1_leave 37 = .ok (.pop, 1) := by decide +kernel
theorem dX1_leave_38 : decode cX1_leave 38 = .ok (.aload_n 0, 1) := by decide +kernel
theorem dX1_leave_39 : decode cX1_leave 39 = .ok (.getfield 10, 3) := by decide +kernel
theorem dX1_leave_42 : decode cX1_leave 42 = .ok (.getfield 108, 3) := by decide +kernel
theorem dX1_leave_45 : decode cX1_leave 45 = .ok (.iload_n 1, 1) := by decide +kernel
theorem dX1_leave_46 : decode cX1_leave 46 = .ok (.iaload, 1) := by decide +kernel
theorem dX1_leave_47 : decode cX1_leave 47 = .ok (.ireturn, 1) := by decide +kernel
set_option maxRecDepth 20000 in
theorem ggX1_pass_X1_remember : GoodIn wsX1_pass wsX1_remember := goodIn_r _ [6, 7, 8, 1, 9, 10, 11, 12, 13, 14, 15, 16, 17, 18, 19, 20, 21, 22, 23, 24, 25, 26, 27, 28, 29, 30, 31, 100, 101, 102, 103, 104, 105, 106, 107, 108, 109, 110, 111, 112, 113, 114, 115, 116, 117, 118, 119, 120, 121, 122, 123, 124, 125, 126] (by decide +kernel) (by decide +kernel)
set_option maxRecDepth 20000 in
theorem gX1_pass_X1_remember : GoodIn wsX1_pass (wsV RX1 124 RX1 yX1_remember wsX1_remember) := goodIn_app (goodIn_of _ (by decide +kernel)) ggX1_pass_X1_remember
set_option maxRecDepth 20000 in
theorem ggX1_pass_X0_run : GoodIn wsX1_pass wsX0_run := goodIn_r _ [35, 17, 21, 28, 26, 36, 37, 38, 12, 39, 19, 20, 40, 41, 42, 43, 29, 27, 44, 45, 46, 47, 48, 49, 50, 51, 52, 53, 54, 55, 56, 57, 58, 18, 59, 60, 61, 62, 63, 64, 65, 66, 67, 15, 16, 14, 68, 69, 70, 71, 72, 73, 74, 75, 76, 77, 78, 79, 80, 81, 82, 83, 30, 84, 85, 86, 87, 88, 89, 90, 91, 92, 93, 94, 95, 31, 96, 97, 98, 99, 113, 114, 115, 116, 117, 118, 119, 120, 121, 122, 123, 124, 125, 126] (by decide +kernel) (by decide +kernel)
set_option maxRecDepth 20000 in
theorem gX1_pass_X0_run : GoodIn wsX1_pass (wsV RX1 133 RX0 yX0_run wsX0_run) := goodIn_app (goodIn_of _ (by decide +kernel)) ggX1_pass_X0_run
theorem dX1_pass_0 : decode cX1_pass 0 = .ok (.iload_n 1, 1) := by decide +kernel
theorem dX1_pass_1 : decode cX1_pass 1 = .ok (.iconst 1, 1) := by decide +kernel
theorem dX1_pass_2 : decode cX1_pass 2 = .ok (.if_icmp .lt 9, 3) := by decide +kernel
theorem dX1_pass_5 : decode cX1_pass 5 = .ok (.iload_n 1, 1) := by decide +kernel
theorem dX1_pass_6 : decode cX1_pass 6 = .ok (.bipush 30, 2) := by decide +kernel
theorem dX1_pass_8 : decode cX1_pass 8 = .ok (.if_icmp .le 6, 3) := by decide +kernel
theorem dX1_pass_11 : decode cX1_pass 11 = .ok (.bipush (-2), 2) := by decide +kernel
theorem dX1_pass_13 : decode cX1_pass 13 = .ok (.ireturn, 1) := by decide +kernel
theorem dX1_pass_14 : decode cX1_pass 14 = .ok (.aload_n 0, 1) := by decide +kernel
theorem dX1_pass_15 : decode cX1_pass 15 = .ok (.invokevirtual 124, 3) := by decide +kernel
theorem dX1_pass_18 : decode cX1_pass 18 = .ok (.aload_n 0, 1) := by decide +kernel
theorem dX1_pass_19 : decode cX1_pass 19 = .ok (.getfield 10, 3) := by decide +kernel
theorem dX1_pass_22 : decode cX1_pass 22 = .ok (.iload_n 1, 1) := by decide +kernel
theorem dX1_pass_23 : decode cX1_pass 23 = .ok (.invokevirtual 133, 3) := by decide +kernel
theorem dX1_pass_26 : decode cX1_pass 26 = .ok (.ireturn, 1) := by decide +kernel
set_option maxRecDepth 20000 in
theorem ggX1_turn_X1_isMember : GoodIn wsX1_turn wsX1_isMember := goodIn_r _ [5] (by decide +kernel) (by decide +kernel)
set_option maxRecDepth 20000 in
theorem gX1_turn_X1_isMember : GoodIn wsX1_turn (va_wsS RX1 92 yX1_isMember wsX1_isMember) := goodIn_app (goodIn_of _ (by decide +kernel)) ggX1_turn_X1_isMember
set_option maxRecDepth 20000 in
theorem ggX1_turn_X1_remember : GoodIn wsX1_turn wsX1_remember := goodIn_r _ [9, 10, 11, 1, 12, 13, 14, 15, 16, 17, 18, 19, 20, 21, 22, 23, 24, 25, 26, 27, 28, 29, 30, 31, 32, 33, 34, 43, 44, 45, 46, 47, 48, 49, 50, 51, 52, 53, 54, 55, 56, 57, 58, 59, 60, 61, 62, 63, 64, 65, 66, 67, 68, 69] (by decide +kernel) (by decide +kernel)
set_option maxRecDepth 20000 in
theorem gX1_turn_X1_remember : GoodIn wsX1_turn (wsV RX1 124 RX1 yX1_remember wsX1_remember) := goodIn_app (goodIn_of _ (by decide +kernel)) ggX1_turn_X1_remember
set_option maxRecDepth 20000 in
theorem ggX1_turn_X0_turnWay : GoodIn wsX1_turn wsX0_turnWay := goodIn_r _ [38, 33, 56, 57, 58, 59, 60, 61, 62, 63, 64, 65, 66, 67, 68, 69] (by decide +kernel) (by decide +kernel)
set_option maxRecDepth 20000 in
theorem gX1_turn_X0_turnWay : GoodIn wsX1_turn (wsV RX1 136 RX0 yX0_turnWay wsX0_turnWay) := goodIn_app (goodIn_of _ (by decide +kernel)) ggX1_turn_X0_turnWay
set_option maxRecDepth 20000 in
theorem ggX1_turn_X0_isOpen : GoodIn wsX1_turn wsX0_isOpen := goodIn_r _ [42, 33, 56, 57, 58, 59, 60, 61, 62, 63, 64, 65, 66, 67, 68, 69] (by decide +kernel) (by decide +kernel)
set_option maxRecDepth 20000 in
theorem gX1_turn_X0_isOpen : GoodIn wsX1_turn (wsV RX1 121 RX0 yX0_isOpen wsX0_isOpen) := goodIn_app (goodIn_of _ (by decide +kernel)) ggX1_turn_X0_isOpen
theorem dX1_turn_0 : decode cX1_turn 0 = .ok (.iload_n 1, 1) := by decide +kernel
theorem dX1_turn_1 : decode cX1_turn 1 = .ok (.invokestatic 92, 3) := by decide +kernel
theorem dX1_turn_4 : decode cX1_turn 4 = .ok (.ifCond .eq 10, 3) := by decide +kernel
theorem dX1_turn_7 : decode cX1_turn 7 = .ok (.iload_n 2, 1) := by decide +kernel
theorem dX1_turn_8 : decode cX1_turn 8 = .ok (.invokestatic 92, 3) := by decide +kernel
theorem dX1_turn_11 : decode cX1_turn 11 = .ok (.ifCond .ne 5, 3) := by decide +kernel
theorem dX1_turn_14 : decode cX1_turn 14 = .ok (.iconst (-1), 1) := by decide +kernel
theorem dX1_turn_15 : decode cX1_turn 15 = .ok (.ireturn, 1) := by decide +kernel
theorem dX1_turn_16 : decode cX1_turn 16 = .ok (.iload_n 1, 1) := by decide +kernel
theorem dX1_turn_17 : decode cX1_turn 17 = .ok (.iload_n 2, 1) := by decide +kernel
theorem dX1_turn_18 : decode cX1_turn 18 = .ok (.if_icmp .ne 6, 3) := by decide +kernel
theorem dX1_turn_21 : decode cX1_turn 21 = .ok (.bipush (-2), 2) := by decide +kernel
theorem dX1_turn_23 : decode cX1_turn 23 = .ok (.ireturn, 1) := by decide +kernel
theorem dX1_turn_24 : decode cX1_turn 24 = .ok (.aload_n 0, 1) := by decide +kernel
theorem dX1_turn_25 : decode cX1_turn 25 = .ok (.invokevirtual 124, 3) := by decide +kernel
theorem dX1_turn_28 : decode cX1_turn 28 = .ok (.aload_n 0, 1) := by decide +kernel
theorem dX1_turn_29 : decode cX1_turn 29 = .ok (.getfield 10, 3) := by decide +kernel
theorem dX1_turn_32 : decode cX1_turn 32 = .ok (.iload_n 1, 1) := by decide +kernel
theorem dX1_turn_33 : decode cX1_turn 33 = .ok (.iload_n 2, 1) := by decide +kernel
theorem dX1_turn_34 : decode cX1_turn 34 = .ok (.invokevirtual 136, 3) := by decide +kernel
theorem dX1_turn_37 : decode cX1_turn 37 = .ok (.pop, 1) := by decide +kernel
theorem dX1_turn_38 : decode cX1_turn 38 = .ok (.aload_n 0, 1) := by decide +kernel
theorem dX1_turn_39 : decode cX1_turn 39 = .ok (.getfield 10, 3) := by decide +kernel
theorem dX1_turn_42 : decode cX1_turn 42 = .ok (.iload_n 1, 1) := by decide +kernel
theorem dX1_turn_43 : decode cX1_turn 43 = .ok (.iload_n 2, 1) := by decide +kernel
theorem dX1_turn_44 : decode cX1_turn 44 = .ok (.invokevirtual 121, 3) := by decide +kernel
theorem dX1_turn_47 : decode cX1_turn 47 = .ok (.ifCond .eq 7, 3) := by decide +kernel
theorem dX1_turn_50 : decode cX1_turn 50 = .ok (.iconst 1, 1) := by decide +kernel
theorem dX1_turn_51 : decode cX1_turn 51 = .ok (.goto 4, 3) := by decide +kernel
theorem dX1_turn_54 : decode cX1_turn 54 = .ok (.iconst 0, 1) := by decide +kernel
theorem dX1_turn_55 : decode cX1_turn 55 = .ok (.ireturn, 1) := by decide +kernel
set_option maxRecDepth 20000 in
theorem ggX1_set_X1_remember : GoodIn wsX1_set wsX1_remember := goodIn_r _ [6, 7, 8, 1, 9, 10, 11, 12, 13, 14, 15, 16, 17, 18, 19, 20, 21, 22, 23, 24, 25, 26, 27, 28, 29, 30, 31, 36, 37, 38, 39, 40, 41, 42, 43, 44, 45, 46, 47, 48, 49, 50, 51, 52, 53, 54, 55, 56, 57, 58, 59, 60, 61, 62] (by decide +kernel) (by decide +kernel)
set_option maxRecDepth 20000 in
theorem gX1_set_X1_remember : GoodIn wsX1_set (wsV RX1 124 RX1 yX1_remember wsX1_remember) := goodIn_app (goodIn_of _ (by decide +kernel)) ggX1_set_X1_remember
set_option maxRecDepth 20000 in
theorem ggX1_set_X0_tellAnew : GoodIn wsX1_set wsX0_tellAnew := goodIn_r _ [35, 14, 15, 16, 49, 50, 51, 52, 53, 54, 55, 56, 57, 58, 59, 60, 61, 62] (by decide +kernel) (by decide +kernel)
set_option maxRecDepth 20000 in
theorem gX1_set_X0_tellAnew : GoodIn wsX1_set (wsV RX1 139 RX0 yX0_tellAnew wsX0_tellAnew) := goodIn_app (goodIn_of _ (by decide +kernel)) ggX1_set_X0_tellAnew
theorem dX1_set_0 : decode cX1_set 0 = .ok (.iload_n 1, 1) := by decide +kernel
theorem dX1_set_1 : decode cX1_set 1 = .ok (.ifCond .lt 19, 3) := by decide +kernel
theorem dX1_set_4 : decode cX1_set 4 = .ok (.iload_n 1, 1) := by decide +kernel
theorem dX1_set_5 : decode cX1_set 5 = .ok (.iconst 2, 1) := by decide +kernel
theorem dX1_set_6 : decode cX1_set 6 = .ok (.if_icmp .gt 14, 3) := by decide +kernel
theorem dX1_set_9 : decode cX1_set 9 = .ok (.iload_n 2, 1) := by decide +kernel
theorem dX1_set_10 : decode cX1_set 10 = .ok (.iconst 1, 1) := by decide +kernel
theorem dX1_set_11 : decode cX1_set 11 = .ok (.if_icmp .lt 9, 3) := by decide +kernel
theorem dX1_set_14 : decode cX1_set 14 = .ok (.iload_n 2, 1) := by decide +kernel
theorem dX1_set_15 : decode cX1_set 15 = .ok (.bipush 9, 2) := by decide +kernel
theorem dX1_set_17 : decode cX1_set 17 = .ok (.if_icmp .le 6, 3) := by decide +kernel
theorem dX1_set_20 : decode cX1_set 20 = .ok (.bipush (-2), 2) := by decide +kernel
theorem dX1_set_22 : decode cX1_set 22 = .ok (.ireturn, 1) := by decide +kernel
theorem dX1_set_23 : decode cX1_set 23 = .ok (.aload_n 0, 1) := by decide +kernel
theorem dX1_set_24 : decode cX1_set 24 = .ok (.invokevirtual 124, 3) := by decide +kernel
theorem dX1_set_27 : decode cX1_set 27 = .ok (.aload_n 0, 1) := by decide +kernel
theorem dX1_set_28 : decode cX1_set 28 = .ok (.getfield 10, 3) := by decide +kernel
theorem dX1_set_31 : decode cX1_set 31 = .ok (.iload_n 1, 1) := by decide +kernel
theorem dX1_set_32 : decode cX1_set 32 = .ok (.iload_n 2, 1) := by decide +kernel
theorem dX1_set_33 : decode cX1_set 33 = .ok (.invokevirtual 139, 3) := by decide +kernel
theorem dX1_set_36 : decode cX1_set 36 = .ok (.ireturn, 1) := by decide +kernel
set_option maxRecDepth 20000 in
theorem ggX1_undo_X0_takeFrom : GoodIn wsX1_undo wsX0_takeFrom := goodIn_r _ [8, 9, 10, 11, 12, 13, 14, 15, 16, 17, 18, 19, 20, 21, 22, 23, 24, 25, 26, 40, 41, 42, 43, 44, 45, 46, 47, 48, 49, 50, 51, 52, 53] (by decide +kernel) (by decide +kernel)
set_option maxRecDepth 20000 in
theorem gX1_undo_X0_takeFrom : GoodIn wsX1_undo (wsV RX1 60 RX0 yX0_takeFrom wsX0_takeFrom) := goodIn_app (goodIn_of _ (by decide +kernel)) ggX1_undo_X0_takeFrom
theorem dX1_undo_0 : decode cX1_undo 0 = .ok (.aload_n 0, 1) := by decide +kernel
theorem dX1_undo_1 : decode cX1_undo 1 = .ok (.getfield 23, 3) := by decide +kernel
theorem dX1_undo_4 : decode cX1_undo 4 = .ok (.iconst 1, 1) := by decide +kernel
theorem dX1_undo_5 : decode cX1_undo 5 = .ok (.if_icmp .lt 12, 3) := by decide +kernel
theorem dX1_undo_8 : decode cX1_undo 8 = .ok (.aload_n 0, 1) := by decide +kernel
theorem dX1_undo_9 : decode cX1_undo 9 = .ok (.getfield 23, 3) := by decide +kernel
theorem dX1_undo_12 : decode cX1_undo 12 = .ok (.bipush 14, 2) := by decide +kernel
theorem dX1_undo_14 : decode cX1_undo 14 = .ok (.if_icmp .le 6, 3) := by decide +kernel
theorem dX1_undo_17 : decode cX1_undo 17 = .ok (.bipush (-3), 2) := by decide +kernel
theorem dX1_undo_19 : decode cX1_undo 19 = .ok (.ireturn, 1) := by decide +kernel
theorem dX1_undo_20 : decode cX1_undo 20 = .ok (.aload_n 0, 1) := by decide +kernel
theorem dX1_undo_21 : decode cX1_undo 21 = .ok (.dup, 1) := by decide +kernel
theorem dX1_undo_22 : decode cX1_undo 22 = .ok (.getfield 23, 3) := by decide +kernel
theorem dX1_undo_25 : decode cX1_undo 25 = .ok (.iconst 1, 1) := by decide +kernel
theorem dX1_undo_26 : decode cX1_undo 26 = .ok (.isub, 1) := by decide +kernel
theorem dX1_undo_27 : decode cX1_undo 27 = .ok (.putfield 23, 3) := by decide +kernel
theorem dX1_undo_30 : decode cX1_undo 30 = .ok (.aload_n 0, 1) := by decide +kernel
theorem dX1_undo_31 : decode cX1_undo 31 = .ok (.getfield 10, 3) := by decide +kernel
theorem dX1_undo_34 : decode cX1_undo 34 = .ok (.aload_n 0, 1) := by decide +kernel
theorem dX1_undo_35 : decode cX1_undo 35 = .ok (.getfield 19, 3) := by decide +kernel
theorem dX1_undo_38 : decode cX1_undo 38 = .ok (.aload_n 0, 1) := by decide +kernel
theorem dX1_undo_39 : decode cX1_undo 39 = .ok (.getfield 23, 3) := by decide +kernel
theorem dX1_undo_42 : decode cX1_undo 42 = .ok (.aaload, 1) := by decide +kernel
theorem dX1_undo_43 : decode cX1_undo 43 = .ok (.invokevirtual 60, 3) := by decide +kernel
theorem dX1_undo_46 : decode cX1_undo 46 = .ok (.aload_n 0, 1) := by decide +kernel
theorem dX1_undo_47 : decode cX1_undo 47 = .ok (.getfield 23, 3) := by decide +kernel
theorem dX1_undo_50 : decode cX1_undo 50 = .ok (.ireturn, 1) := by decide +kernel
set_option maxRecDepth 20000 in
theorem ggX1_ahead_X0_takeFrom : GoodIn wsX1_ahead wsX0_takeFrom := goodIn_r _ [10, 11, 12, 13, 14, 15, 16, 17, 18, 19, 20, 21, 22, 23, 24, 25, 26, 27, 28, 114, 115, 116, 117, 118, 119, 120, 121, 122, 123, 124, 125, 126, 127] (by decide +kernel) (by decide +kernel)
set_option maxRecDepth 20000 in
theorem gX1_ahead_X0_takeFrom : GoodIn wsX1_ahead (wsV RX1 60 RX0 yX0_takeFrom wsX0_takeFrom) := goodIn_app (goodIn_of _ (by decide +kernel)) ggX1_ahead_X0_takeFrom
set_option maxRecDepth 20000 in
theorem ggX1_ahead_X0_run : GoodIn wsX1_ahead wsX0_run := goodIn_r _ [32, 14, 18, 25, 23, 33, 34, 35, 9, 36, 16, 17, 37, 38, 39, 40, 26, 24, 41, 42, 43, 44, 45, 46, 47, 48, 49, 50, 51, 52, 53, 54, 55, 15, 56, 57, 58, 59, 60, 61, 62, 63, 64, 12, 13, 11, 65, 66, 67, 68, 69, 70, 71, 72, 73, 74, 75, 76, 77, 78, 79, 80, 27, 81, 82, 83, 84, 85, 86, 87, 88, 89, 90, 91, 92, 28, 93, 94, 95, 96, 114, 115, 116, 117, 118, 119, 120, 121, 122, 123, 124, 125, 126, 127] (by decide +kernel) (by decide +kernel)
set_option maxRecDepth 20000 in
theorem gX1_ahead_X0_run : GoodIn wsX1_ahead (wsV RX1 133 RX0 yX0_run wsX0_run) := goodIn_app (goodIn_of _ (by decide +kernel)) ggX1_ahead_X0_run
set_option maxRecDepth 20000 in
theorem ggX1_ahead_X0_bitsOf : GoodIn wsX1_ahead wsX0_bitsOf := goodIn_r _ [100, 18, 114, 115, 116, 117, 118, 119, 120, 121, 122, 123, 124, 125, 126, 127] (by decide +kernel) (by decide +kernel)
set_option maxRecDepth 20000 in
theorem gX1_ahead_X0_bitsOf : GoodIn wsX1_ahead (wsV RX1 85 RX0 yX0_bitsOf wsX0_bitsOf) := goodIn_app (goodIn_of _ (by decide +kernel)) ggX1_ahead_X0_bitsOf
theorem dX1_ahead_0 : decode cX1_ahead 0 = .ok (.iload_n 1, 1) := by decide +kernel
theorem dX1_ahead_1 : decode cX1_ahead 1 = .ok (.ifCond .lt 18, 3) := by decide +kernel
theorem dX1_ahead_4 : decode cX1_ahead 4 = .ok (.iload_n 1, 1) := by decide +kernel
theorem dX1_ahead_5 : decode cX1_ahead 5 = .ok (.bipush 99, 2) := by decide +kernel
theorem dX1_ahead_7 : decode cX1_ahead 7 = .ok (.if_icmp .gt 12, 3) := by decide +kernel
theorem dX1_ahead_10 : decode cX1_ahead 10 = .ok (.iload_n 2, 1) := by decide +kernel
theorem dX1_ahead_11 : decode cX1_ahead 11 = .ok (.ifCond .lt 8, 3) := by decide +kernel
theorem dX1_ahead_14 : decode cX1_ahead 14 = .ok (.iload_n 2, 1) := by decide +kernel
theorem dX1_ahead_15 : decode cX1_ahead 15 = .ok (.iconst 3, 1) := by decide +kernel
theorem dX1_ahead_16 : decode cX1_ahead 16 = .ok (.if_icmp .le 6, 3) := by decide +kernel
theorem dX1_ahead_19 : decode cX1_ahead 19 = .ok (.bipush (-2), 2) := by decide +kernel
theorem dX1_ahead_21 : decode cX1_ahead 21 = .ok (.ireturn, 1) := by decide +kernel
theorem dX1_ahead_22 : decode cX1_ahead 22 = .ok (.aload_n 0, 1) := by decide +kernel
theorem dX1_ahead_23 : decode cX1_ahead 23 = .ok (.getfield 16, 3) := by decide +kernel
theorem dX1_ahead_26 : decode cX1_ahead 26 = .ok (.aload_n 0, 1) := by decide +kernel
theorem dX1_ahead_27 : decode cX1_ahead 27 = .ok (.getfield 10, 3) := by decide +kernel
theorem dX1_ahead_30 : decode cX1_ahead 30 = .ok (.invokevirtual 60, 3) := by decide +kernel
theorem dX1_ahead_33 : decode cX1_ahead 33 = .ok (.aload_n 0, 1) := by decide +kernel
theorem dX1_ahead_34 : decode cX1_ahead 34 = .ok (.getfield 16, 3) := by decide +kernel
theorem dX1_ahead_37 : decode cX1_ahead 37 = .ok (.iload_n 1, 1) := by decide +kernel
theorem dX1_ahead_38 : decode cX1_ahead 38 = .ok (.invokevirtual 133, 3) := by decide +kernel
theorem dX1_ahead_41 : decode cX1_ahead 41 = .ok (.pop, 1) := by decide +kernel
theorem dX1_ahead_42 : decode cX1_ahead 42 = .ok (.iload_n 2, 1) := by decide +kernel
theorem dX1_ahead_43 : decode cX1_ahead 43 = .ok (.tableswitch 50 0 2 #[25, 33, 41], 25) := by decide +kernel
theorem dX1_ahead_68 : decode cX1_ahead 68 = .ok (.aload_n 0, 1) := by decide +kernel
theorem dX1_ahead_69 : decode cX1_ahead 69 = .ok (.getfield 16, 3) := by decide +kernel
theorem dX1_ahead_72 : decode cX1_ahead 72 = .ok (.getfield 79, 3) := by decide +kernel
theorem dX1_ahead_75 : decode cX1_ahead 75 = .ok (.ireturn, 1) := by decide +kernel
theorem dX1_ahead_76 : decode cX1_ahead 76 = .ok (.aload_n 0, 1) := by decide +kernel
theorem dX1_ahead_77 : decode cX1_ahead 77 = .ok (.getfield 16, 3) := by decide +kernel
theorem dX1_ahead_80 : decode cX1_ahead 80 = .ok (.getfield 82, 3) := by decide +kernel
theorem dX1_ahead_83 : decode cX1_ahead 83 = .ok (.ireturn, 1) := by decide +kernel
theorem dX1_ahead_84 : decode cX1_ahead 84 = .ok (.aload_n 0, 1) := by decide +kernel
theorem dX1_ahead_85 : decode cX1_ahead 85 = .ok (.getfield 16, 3) := by decide +kernel
theorem dX1_ahead_88 : decode cX1_ahead 88 = .ok (.iconst 1, 1) := by decide +kernel
theorem dX1_ahead_89 : decode cX1_ahead 89 = .ok (.invokevirtual 85, 3) := by decide +kernel
theorem dX1_ahead_92 : decode cX1_ahead 92 = .ok (.ireturn, 1) := by decide +kernel
theorem dX1_ahead_93 : decode cX1_ahead 93 = .ok (.aload_n 0, 1) := by decide +kernel
theorem dX1_ahead_94 : decode cX1_ahead 94 = .ok (.getfield 16, 3) := by decide +kernel
theorem dX1_ahead_97 : decode cX1_ahead 97 = .ok (.getfield 76, 3) := by decide +kernel
theorem dX1_ahead_100 : decode cX1_ahead 100 = .ok (.ireturn, 1) := by decide +kernel
set_option maxRecDepth 20000 in
theorem ggX1_crowd_X0_takeFrom : GoodIn wsX1_crowd wsX0_takeFrom := goodIn_r _ [11, 12, 13, 14, 15, 16, 17, 18, 19, 20, 21, 22, 23, 24, 25, 26, 27, 28, 29, 108, 109, 110, 111, 112, 113, 114, 115, 116, 117, 118, 119, 120, 121] (by decide +kernel) (by decide +kernel)
set_option maxRecDepth 20000 in
theorem gX1_crowd_X0_takeFrom : GoodIn wsX1_crowd (wsV RX1 60 RX0 yX0_takeFrom wsX0_takeFrom) := goodIn_app (goodIn_of _ (by decide +kernel)) ggX1_crowd_X0_takeFrom
set_option maxRecDepth 20000 in
theorem ggX1_crowd_X0_run : GoodIn wsX1_crowd wsX0_run := goodIn_r _ [33, 15, 19, 26, 24, 34, 35, 36, 10, 37, 17, 18, 38, 39, 40, 41, 27, 25, 42, 43, 44, 45, 46, 47, 48, 49, 50, 51, 52, 53, 54, 55, 56, 16, 57, 58, 4, 5, 6, 59, 60, 61, 62, 13, 14, 12, 63, 64, 65, 66, 67, 68, 69, 70, 71, 72, 73, 74, 75, 76, 77, 78, 28, 79, 80, 81, 82, 83, 84, 85, 86, 87, 88, 89, 90, 29, 91, 92, 93, 94, 108, 109, 110, 111, 112, 113, 114, 115, 116, 117, 118, 119, 120, 121] (by decide +kernel) (by decide +kernel)
set_option maxRecDepth 20000 in
theorem gX1_crowd_X0_run : GoodIn wsX1_crowd (wsV RX1 133 RX0 yX0_run wsX0_run) := goodIn_app (goodIn_of _ (by decide +kernel)) ggX1_crowd_X0_run
theorem dX1_crowd_0 : decode cX1_crowd 0 = .ok (.iload_n 1, 1) := by decide +kernel
theorem dX1_crowd_1 : decode cX1_crowd 1 = .ok (.iconst 1, 1) := by decide +kernel
theorem dX1_crowd_2 : decode cX1_crowd 2 = .ok (.if_icmp .lt 9, 3) := by decide +kernel
theorem dX1_crowd_5 : decode cX1_crowd 5 = .ok (.iload_n 1, 1) := by decide +kernel
theorem dX1_crowd_6 : decode cX1_crowd 6 = .ok (.bipush 99, 2) := by decide +kernel
theorem dX1_crowd_8 : decode cX1_crowd 8 = .ok (.if_icmp .le 6, 3) := by decide +kernel
theorem dX1_crowd_11 : decode cX1_crowd 11 = .ok (.bipush (-2), 2) := by decide +kernel
theorem dX1_crowd_13 : decode cX1_crowd 13 = .ok (.ireturn, 1) := by decide +kernel
theorem dX1_crowd_14 : decode cX1_crowd 14 = .ok (.aload_n 0, 1) := by decide +kernel
theorem dX1_crowd_15 : decode cX1_crowd 15 = .ok (.getfield 16, 3) := by decide +kernel
theorem dX1_crowd_18 : decode cX1_crowd 18 = .ok (.aload_n 0, 1) := by decide +kernel
theorem dX1_crowd_19 : decode cX1_crowd 19 = .ok (.getfield 10, 3) := by decide +kernel
theorem dX1_crowd_22 : decode cX1_crowd 22 = .ok (.invokevirtual 60, 3) := by decide +kernel
theorem dX1_crowd_25 : decode cX1_crowd 25 = .ok (.iconst 0, 1) := by decide +kernel
theorem dX1_crowd_26 : decode cX1_crowd 26 = .ok (.istore_n 2, 1) := by decide +kernel
theorem dX1_crowd_27 : decode cX1_crowd 27 = .ok (.iconst 0, 1) := by decide +kernel
theorem dX1_crowd_28 : decode cX1_crowd 28 = .ok (.istore_n 3, 1) := by decide +kernel
theorem dX1_crowd_29 : decode cX1_crowd 29 = .ok (.iload_n 3, 1) := by decide +kernel
theorem dX1_crowd_30 : decode cX1_crowd 30 = .ok (.iload_n 1, 1) := by decide +kernel
theorem dX1_crowd_31 : decode cX1_crowd 31 = .ok (.if_icmp .ge 22, 3) := by decide +kernel
theorem dX1_crowd_34 : decode cX1_crowd 34 = .ok (.iload_n 2, 1) := by decide +kernel
theorem dX1_crowd_35 : decode cX1_crowd 35 = .ok (.aload_n 0, 1) := by decide +kernel
theorem dX1_crowd_36 : decode cX1_crowd 36 = .ok (.getfield 16, 3) := by decide +kernel
theorem dX1_crowd_39 : decode cX1_crowd 39 = .ok (.iconst 1, 1) := by decide +kernel
theorem dX1_crowd_40 : decode cX1_crowd 40 = .ok (.invokevirtual 133, 3) := by decide +kernel
theorem dX1_crowd_43 : decode cX1_crowd 43 = .ok (.invokestatic 143, 3) := by decide +kernel
theorem dX1_crowd_46 : decode cX1_crowd 46 = .ok (.istore_n 2, 1) := by decide +kernel
theorem dX1_crowd_47 : decode cX1_crowd 47 = .ok (.iinc 3 1, 3) := by decide +kernel
theorem dX1_crowd_50 : decode cX1_crowd 50 = .ok (.goto (-21), 3) := by decide +kernel
theorem dX1_crowd_53 : decode cX1_crowd 53 = .ok (.iload_n 2, 1) := by decide +kernel
theorem dX1_crowd_54 : decode cX1_crowd 54 = .ok (.ireturn, 1) := by decide +kernel
set_option maxRecDepth 20000 in
theorem ggX1_jitter_X1_tenTo : GoodIn wsX1_jitter wsX1_tenTo := goodIn_r _ [8, 9] (by decide +kernel) (by decide +kernel)
set_option maxRecDepth 20000 in
theorem gX1_jitter_X1_tenTo : GoodIn wsX1_jitter (va_wsS RX1 148 yX1_tenTo wsX1_tenTo) := goodIn_app (goodIn_of _ (by decide +kernel)) ggX1_jitter_X1_tenTo
set_option maxRecDepth 20000 in
theorem ggX1_jitter_X1_part : GoodIn wsX1_jitter wsX1_part := goodIn_r _ [12, 5, 6, 7, 8, 9] (by decide +kernel) (by decide +kernel)
set_option maxRecDepth 20000 in
theorem gX1_jitter_X1_part : GoodIn wsX1_jitter (va_wsS RX1 152 yX1_part wsX1_part) := goodIn_app (goodIn_of _ (by decide +kernel)) ggX1_jitter_X1_part
theorem dX1_jitter_0 : decode cX1_jitter 0 = .ok (.iload_n 1, 1) := by decide +kernel
theorem dX1_jitter_1 : decode cX1_jitter 1 = .ok (.iconst 1, 1) := by decide +kernel
theorem dX1_jitter_2 : decode cX1_jitter 2 = .ok (.if_icmp .lt 26, 3) := by decide +kernel
theorem dX1_jitter_5 : decode cX1_jitter 5 = .ok (.iload_n 1, 1) := by decide +kernel
theorem dX1_jitter_6 : decode cX1_jitter 6 = .ok (.bipush 6, 2) := by decide +kernel
theorem dX1_jitter_8 : decode cX1_jitter 8 = .ok (.if_icmp .gt 20, 3) := by decide +kernel
theorem dX1_jitter_11 : decode cX1_jitter 11 = .ok (.lload_n 2, 1) := by decide +kernel
theorem dX1_jitter_12 : decode cX1_jitter 12 = .ok (.lconst 0, 1) := by decide +kernel
theorem dX1_jitter_13 : decode cX1_jitter 13 = .ok (.lcmp, 1) := by decide +kernel
theorem dX1_jitter_14 : decode cX1_jitter 14 = .ok (.ifCond .lt 14, 3) := by decide +kernel
theorem dX1_jitter_17 : decode cX1_jitter 17 = .ok (.lload_n 2, 1) := by decide +kernel
theorem dX1_jitter_18 : decode cX1_jitter 18 = .ok (.iconst 2, 1) := by decide +kernel
theorem dX1_jitter_19 : decode cX1_jitter 19 = .ok (.iload_n 1, 1) := by decide +kernel
theorem dX1_jitter_20 : decode cX1_jitter 20 = .ok (.imul, 1) := by decide +kernel
theorem dX1_jitter_21 : decode cX1_jitter 21 = .ok (.invokestatic 148, 3) := by decide +kernel
theorem dX1_jitter_24 : decode cX1_jitter 24 = .ok (.lcmp, 1) := by decide +kernel
theorem dX1_jitter_25 : decode cX1_jitter 25 = .ok (.ifCond .lt 6, 3) := by decide +kernel
theorem dX1_jitter_28 : decode cX1_jitter 28 = .ok (.bipush (-2), 2) := by decide +kernel
theorem dX1_jitter_30 : decode cX1_jitter 30 = .ok (.ireturn, 1) := by decide +kernel
theorem dX1_jitter_31 : decode cX1_jitter 31 = .ok (.iconst 0, 1) := by decide +kernel
theorem dX1_jitter_32 : decode cX1_jitter 32 = .ok (.istore 4, 2) := by decide +kernel
theorem dX1_jitter_34 : decode cX1_jitter 34 = .ok (.iconst 1, 1) := by decide +kernel
theorem dX1_jitter_35 : decode cX1_jitter 35 = .ok (.istore 5, 2) := by decide +kernel
theorem dX1_jitter_37 : decode cX1_jitter 37 = .ok (.iload 5, 2) := by decide +kernel
theorem dX1_jitter_39 : decode cX1_jitter 39 = .ok (.iload_n 1, 1) := by decide +kernel
theorem dX1_jitter_40 : decode cX1_jitter 40 = .ok (.if_icmp .ge 51, 3) := by decide +kernel
theorem dX1_jitter_43 : decode cX1_jitter 43 = .ok (.lload_n 2, 1) := by decide +kernel
theorem dX1_jitter_44 : decode cX1_jitter 44 = .ok (.iload_n 1, 1) := by decide +kernel
theorem dX1_jitter_45 : decode cX1_jitter 45 = .ok (.iconst 1, 1) := by decide +kernel
theorem dX1_jitter_46 : decode cX1_jitter 46 = .ok (.isub, 1) := by decide +kernel
theorem dX1_jitter_47 : decode cX1_jitter 47 = .ok (.iload 5, 2) := by decide +kernel
theorem dX1_jitter_49 : decode cX1_jitter 49 = .ok (.isub, 1) := by decide +kernel
theorem dX1_jitter_50 : decode cX1_jitter 50 = .ok (.iconst 2, 1) := by decide +kernel
theorem dX1_jitter_51 : decode cX1_jitter 51 = .ok (.invokestatic 152, 3) := by decide +kernel
theorem dX1_jitter_54 : decode cX1_jitter 54 = .ok (.lload_n 2, 1) := by decide +kernel
theorem dX1_jitter_55 : decode cX1_jitter 55 = .ok (.iload_n 1, 1) := by decide +kernel
theorem dX1_jitter_56 : decode cX1_jitter 56 = .ok (.iload 5, 2) := by decide +kernel
theorem dX1_jitter_58 : decode cX1_jitter 58 = .ok (.isub, 1) := by decide +kernel
theorem dX1_jitter_59 : decode cX1_jitter 59 = .ok (.iconst 2, 1) := by decide +kernel
theorem dX1_jitter_60 : decode cX1_jitter 60 = .ok (.invokestatic 152, 3) := by decide +kernel
theorem dX1_jitter_63 : decode cX1_jitter 63 = .ok (.isub, 1) := by decide +kernel
theorem dX1_jitter_64 : decode cX1_jitter 64 = .ok (.invokestatic 156, 3) := by decide +kernel
theorem dX1_jitter_67 : decode cX1_jitter 67 = .ok (.istore 6, 2) := by decide +kernel
theorem dX1_jitter_69 : decode cX1_jitter 69 = .ok (.iload 4, 2) := by decide +kernel
theorem dX1_jitter_71 : decode cX1_jitter 71 = .ok (.iload 6, 2) := by decide +kernel
theorem dX1_jitter_73 : decode cX1_jitter 73 = .ok (.iload 4, 2) := by decide +kernel
theorem dX1_jitter_75 : decode cX1_jitter 75 = .ok (.bipush 8, 2) := by decide +kernel
theorem dX1_jitter_77 : decode cX1_jitter 77 = .ok (.iadd, 1) := by decide +kernel
theorem dX1_jitter_78 : decode cX1_jitter 78 = .ok (.bipush 16, 2) := by decide +kernel
theorem dX1_jitter_80 : decode cX1_jitter 80 = .ok (.idiv, 1) := by decide +kernel
theorem dX1_jitter_81 : decode cX1_jitter 81 = .ok (.isub, 1) := by decide +kernel
theorem dX1_jitter_82 : decode cX1_jitter 82 = .ok (.iadd, 1) := by decide +kernel
theorem dX1_jitter_83 : decode cX1_jitter 83 = .ok (.istore 4, 2) := by decide +kernel
theorem dX1_jitter_85 : decode cX1_jitter 85 = .ok (.iinc 5 1, 3) := by decide +kernel
theorem dX1_jitter_88 : decode cX1_jitter 88 = .ok (.goto (-51), 3) := by decide +kernel
theorem dX1_jitter_91 : decode cX1_jitter 91 = .ok (.iload 4, 2) := by decide +kernel
theorem dX1_jitter_93 : decode cX1_jitter 93 = .ok (.ireturn, 1) := by decide +kernel
set_option maxRecDepth 20000 in
theorem ggX1_round_X1_isTime : GoodIn wsX1_round wsX1_isTime := goodIn_r _ [4] (by decide +kernel) (by decide +kernel)
set_option maxRecDepth 20000 in
theorem gX1_round_X1_isTime : GoodIn wsX1_round (va_wsS RX1 159 yX1_isTime wsX1_isTime) := goodIn_app (goodIn_of _ (by decide +kernel)) ggX1_round_X1_isTime
theorem dX1_round_0 : decode cX1_round 0 = .ok (.iload_n 1, 1) := by decide +kernel
theorem dX1_round_1 : decode cX1_round 1 = .ok (.invokestatic 159, 3) := by decide +kernel
theorem dX1_round_4 : decode cX1_round 4 = .ok (.ifCond .eq 17, 3) := by decide +kernel
theorem dX1_round_7 : decode cX1_round 7 = .ok (.iload_n 2, 1) := by decide +kernel
theorem dX1_round_8 : decode cX1_round 8 = .ok (.invokestatic 159, 3) := by decide +kernel
theorem dX1_round_11 : decode cX1_round 11 = .ok (.ifCond .eq 10, 3) := by decide +kernel
theorem dX1_round_14 : decode cX1_round 14 = .ok (.iload_n 3, 1) := by decide +kernel
theorem dX1_round_15 : decode cX1_round 15 = .ok (.invokestatic 159, 3) := by decide +kernel
theorem dX1_round_18 : decode cX1_round 18 = .ok (.ifCond .ne 6, 3) := by decide +kernel
theorem dX1_round_21 : decode cX1_round 21 = .ok (.bipush (-2), 2) := by decide +kernel
theorem dX1_round_23 : decode cX1_round 23 = .ok (.ireturn, 1) := by decide +kernel
theorem dX1_round_24 : decode cX1_round 24 = .ok (.iload_n 1, 1) := by decide +kernel
theorem dX1_round_25 : decode cX1_round 25 = .ok (.iload_n 2, 1) := by decide +kernel
theorem dX1_round_26 : decode cX1_round 26 = .ok (.isub, 1) := by decide +kernel
theorem dX1_round_27 : decode cX1_round 27 = .ok (.iload_n 3, 1) := by decide +kernel
theorem dX1_round_28 : decode cX1_round 28 = .ok (.isub, 1) := by decide +kernel
theorem dX1_round_29 : decode cX1_round 29 = .ok (.istore 4, 2) := by decide +kernel
theorem dX1_round_31 : decode cX1_round 31 = .ok (.iload 4, 2) := by decide +kernel
theorem dX1_round_33 : decode cX1_round 33 = .ok (.ifCond .ge 8, 3) := by decide +kernel
theorem dX1_round_36 : decode cX1_round 36 = .ok (.bipush (-3), 2) := by decide +kernel
theorem dX1_round_38 : decode cX1_round 38 = .ok (.goto 5, 3) := by decide +kernel
theorem dX1_round_41 : decode cX1_round 41 = .ok (.iload 4, 2) := by decide +kernel
theorem dX1_round_43 : decode cX1_round 43 = .ok (.ireturn, 1) := by decide +kernel
set_option maxRecDepth 20000 in
theorem ggX1_judge_X1_tenTo : GoodIn wsX1_judge wsX1_tenTo := goodIn_r _ [6, 7] (by decide +kernel) (by decide +kernel)
set_option maxRecDepth 20000 in
theorem gX1_judge_X1_tenTo : GoodIn wsX1_judge (va_wsS RX1 148 yX1_tenTo wsX1_tenTo) := goodIn_app (goodIn_of _ (by decide +kernel)) ggX1_judge_X1_tenTo
set_option maxRecDepth 20000 in
theorem ggX1_judge_X0_takeFrom : GoodIn wsX1_judge wsX0_takeFrom := goodIn_r _ [12, 13, 14, 15, 16, 17, 18, 19, 20, 21, 22, 23, 24, 25, 26, 27, 28, 29, 30, 144, 145, 146, 147, 148, 149, 150, 151, 152, 153, 154, 155, 156, 157] (by decide +kernel) (by decide +kernel)
set_option maxRecDepth 20000 in
theorem gX1_judge_X0_takeFrom : GoodIn wsX1_judge (wsV RX1 60 RX0 yX0_takeFrom wsX0_takeFrom) := goodIn_app (goodIn_of _ (by decide +kernel)) ggX1_judge_X0_takeFrom
set_option maxRecDepth 20000 in
theorem ggX1_judge_X1_part : GoodIn wsX1_judge wsX1_part := goodIn_r _ [33, 3, 4, 5, 6, 7] (by decide +kernel) (by decide +kernel)
set_option maxRecDepth 20000 in
theorem gX1_judge_X1_part : GoodIn wsX1_judge (va_wsS RX1 152 yX1_part wsX1_part) := goodIn_app (goodIn_of _ (by decide +kernel)) ggX1_judge_X1_part
set_option maxRecDepth 20000 in
theorem ggX1_judge_X1_canBe : GoodIn wsX1_judge wsX1_canBe := goodIn_r _ [37, 1, 38, 39, 40, 41, 11, 42, 20, 43, 5, 44, 45, 46, 47, 48, 26, 16, 27, 49, 50, 51, 52, 17, 53, 54, 55, 56, 57, 58, 59, 60, 61, 14, 15, 13, 62, 63, 64, 65, 28, 66, 67, 68, 69, 25, 70, 71, 72, 73, 74, 75, 76, 77, 78, 79, 80, 19, 81, 82, 83, 84, 85, 86, 87, 88, 89, 90, 91, 92, 29, 93, 94, 95, 96, 97, 98, 99, 100, 101, 102, 103, 104, 105, 106, 107, 108, 18, 109, 110, 111, 112, 113, 114, 115, 116, 30, 117, 118, 119, 120, 121, 122, 123, 124, 125, 126, 127, 128, 129, 130, 131, 132, 133, 134, 135, 136, 137, 138, 139, 140, 141, 142, 143, 144, 145, 146, 147, 148, 149, 150, 151, 152, 153, 154, 155, 156, 157] (by decide +kernel) (by decide +kernel)
set_option maxRecDepth 20000 in
theorem gX1_judge_X1_canBe : GoodIn wsX1_judge (wsV RX1 162 RX1 yX1_canBe wsX1_canBe) := goodIn_app (goodIn_of _ (by decide +kernel)) ggX1_judge_X1_canBe
theorem dX1_judge_0 : decode cX1_judge 0 = .ok (.iload_n 1, 1) := by decide +kernel
theorem dX1_judge_1 : decode cX1_judge 1 = .ok (.iconst 1, 1) := by decide +kernel
theorem dX1_judge_2 : decode cX1_judge 2 = .ok (.if_icmp .lt 25, 3) := by decide +kernel
theorem dX1_judge_5 : decode cX1_judge 5 = .ok (.iload_n 1, 1) := by decide +kernel
theorem dX1_judge_6 : decode cX1_judge 6 = .ok (.iconst 4, 1) := by decide +kernel
theorem dX1_judge_7 : decode cX1_judge 7 = .ok (.if_icmp .gt 20, 3) := by decide +kernel
theorem dX1_judge_10 : decode cX1_judge 10 = .ok (.lload_n 2, 1) := by decide +kernel
theorem dX1_judge_11 : decode cX1_judge 11 = .ok (.lconst 0, 1) := by decide +kernel
theorem dX1_judge_12 : decode cX1_judge 12 = .ok (.lcmp, 1) := by decide +kernel
theorem dX1_judge_13 : decode cX1_judge 13 = .ok (.ifCond .lt 14, 3) := by decide +kernel
theorem dX1_judge_16 : decode cX1_judge 16 = .ok (.lload_n 2, 1) := by decide +kernel
theorem dX1_judge_17 : decode cX1_judge 17 = .ok (.iconst 3, 1) := by decide +kernel
theorem dX1_judge_18 : decode cX1_judge 18 = .ok (.iload_n 1, 1) := by decide +kernel
theorem dX1_judge_19 : decode cX1_judge 19 = .ok (.imul, 1) := by decide +kernel
theorem dX1_judge_20 : decode cX1_judge 20 = .ok (.invokestatic 148, 3) := by decide +kernel
theorem dX1_judge_23 : decode cX1_judge 23 = .ok (.lcmp, 1) := by decide +kernel
theorem dX1_judge_24 : decode cX1_judge 24 = .ok (.ifCond .lt 6, 3) := by decide +kernel
theorem dX1_judge_27 : decode cX1_judge 27 = .ok (.bipush (-2), 2) := by decide +kernel
theorem dX1_judge_29 : decode cX1_judge 29 = .ok (.ireturn, 1) := by decide +kernel
theorem dX1_judge_30 : decode cX1_judge 30 = .ok (.aload_n 0, 1) := by decide +kernel
theorem dX1_judge_31 : decode cX1_judge 31 = .ok (.getfield 16, 3) := by decide +kernel
theorem dX1_judge_34 : decode cX1_judge 34 = .ok (.aload_n 0, 1) := by decide +kernel
theorem dX1_judge_35 : decode cX1_judge 35 = .ok (.getfield 10, 3) := by decide +kernel
theorem dX1_judge_38 : decode cX1_judge 38 = .ok (.invokevirtual 60, 3) := by decide +kernel
theorem dX1_judge_41 : decode cX1_judge 41 = .ok (.iconst 0, 1) := by decide +kernel
theorem dX1_judge_42 : decode cX1_judge 42 = .ok (.istore 4, 2) := by decide +kernel
theorem dX1_judge_44 : decode cX1_judge 44 = .ok (.iload 4, 2) := by decide +kernel
theorem dX1_judge_46 : decode cX1_judge 46 = .ok (.iload_n 1, 1) := by decide +kernel
theorem dX1_judge_47 : decode cX1_judge 47 = .ok (.if_icmp .ge 30, 3) := by decide +kernel
theorem dX1_judge_50 : decode cX1_judge 50 = .ok (.aload_n 0, 1) := by decide +kernel
theorem dX1_judge_51 : decode cX1_judge 51 = .ok (.lload_n 2, 1) := by decide +kernel
theorem dX1_judge_52 : decode cX1_judge 52 = .ok (.iload_n 1, 1) := by decide +kernel
theorem dX1_judge_53 : decode cX1_judge 53 = .ok (.iconst 1, 1) := by decide +kernel
theorem dX1_judge_54 : decode cX1_judge 54 = .ok (.isub, 1) := by decide +kernel
theorem dX1_judge_55 : decode cX1_judge 55 = .ok (.iload 4, 2) := by decide +kernel
theorem dX1_judge_57 : decode cX1_judge 57 = .ok (.isub, 1) := by decide +kernel
theorem dX1_judge_58 : decode cX1_judge 58 = .ok (.iconst 3, 1) := by decide +kernel
theorem dX1_judge_59 : decode cX1_judge 59 = .ok (.invokestatic 152, 3) := by decide +kernel
theorem dX1_judge_62 : decode cX1_judge 62 = .ok (.invokevirtual 162, 3) := by decide +kernel
theorem dX1_judge_65 : decode cX1_judge 65 = .ok (.ifCond .ne 6, 3) := by decide +kernel
theorem dX1_judge_68 : decode cX1_judge 68 = .ok (.iload 4, 2) := by decide +kernel
theorem dX1_judge_70 : decode cX1_judge 70 = .ok (.ireturn, 1) := by decide +kernel
theorem dX1_judge_71 : decode cX1_judge 71 = .ok (.iinc 4 1, 3) := by decide +kernel
theorem dX1_judge_74 : decode cX1_judge 74 = .ok (.goto (-30), 3) := by decide +kernel
theorem dX1_judge_77 : decode cX1_judge 77 = .ok (.bipush (-9), 2) := by decide +kernel
theorem dX1_judge_79 : decode cX1_judge 79 = .ok (.ireturn, 1) := by decide +kernel
theorem dX1_see_0 : decode cX1_see 0 = .ok (.iload_n 1, 1) := by decide +kernel
theorem dX1_see_1 : decode cX1_see 1 = .ok (.ifCond .lt 19, 3) := by decide +kernel
theorem dX1_see_4 : decode cX1_see 4 = .ok (.iload_n 1, 1) := by decide +kernel
theorem dX1_see_5 : decode cX1_see 5 = .ok (.bipush 60, 2) := by decide +kernel
theorem dX1_see_7 : decode cX1_see 7 = .ok (.if_icmp .gt 13, 3) := by decide +kernel
theorem dX1_see_10 : decode cX1_see 10 = .ok (.iload_n 2, 1) := by decide +kernel
theorem dX1_see_11 : decode cX1_see 11 = .ok (.ifCond .lt 9, 3) := by decide +kernel
theorem dX1_see_14 : decode cX1_see 14 = .ok (.iload_n 2, 1) := by decide +kernel
theorem dX1_see_15 : decode cX1_see 15 = .ok (.bipush 99, 2) := by decide +kernel
theorem dX1_see_17 : decode cX1_see 17 = .ok (.if_icmp .le 6, 3) := by decide +kernel
theorem dX1_see_20 : decode cX1_see 20 = .ok (.bipush (-2), 2) := by decide +kernel
theorem dX1_see_22 : decode cX1_see 22 = .ok (.ireturn, 1) := by decide +kernel
theorem dX1_see_23 : decode cX1_see 23 = .ok (.aload_n 0, 1) := by decide +kernel
theorem dX1_see_24 : decode cX1_see 24 = .ok (.getfield 46, 3) := by decide +kernel
theorem dX1_see_27 : decode cX1_see 27 = .ok (.bipush 6, 2) := by decide +kernel
theorem dX1_see_29 : decode cX1_see 29 = .ok (.if_icmp .lt 6, 3) := by decide +kernel
theorem dX1_see_32 : decode cX1_see 32 = .ok (.bipush (-4), 2) := by decide +kernel
theorem dX1_see_34 : decode cX1_see 34 = .ok (.ireturn, 1) := by decide +kernel
theorem dX1_see_35 : decode cX1_see 35 = .ok (.aload_n 0, 1) := by decide +kernel
theorem dX1_see_36 : decode cX1_see 36 = .ok (.getfield 40, 3) := by decide +kernel
theorem dX1_see_39 : decode cX1_see 39 = .ok (.aload_n 0, 1) := by decide +kernel
theorem dX1_see_40 : decode cX1_see 40 = .ok (.getfield 46, 3) := by decide +kernel
theorem dX1_see_43 : decode cX1_see 43 = .ok (.iload_n 1, 1) := by decide +kernel
theorem dX1_see_44 : decode cX1_see 44 = .ok (.iastore, 1) := by decide +kernel
theorem dX1_see_45 : decode cX1_see 45 = .ok (.aload_n 0, 1) := by decide +kernel
theorem dX1_see_46 : decode cX1_see 46 = .ok (.getfield 43, 3) := by decide +kernel
theorem dX1_see_49 : decode cX1_see 49 = .ok (.aload_n 0, 1) := by decide +kernel
theorem dX1_see_50 : decode cX1_see 50 = .ok (.getfield 46, 3) := by decide +kernel
theorem dX1_see_53 : decode cX1_see 53 = .ok (.iload_n 2, 1) := by decide +kernel
theorem dX1_see_54 : decode cX1_see 54 = .ok (.iastore, 1) := by decide +kernel
theorem dX1_see_55 : decode cX1_see 55 = .ok (.aload_n 0, 1) := by decide +kernel
theorem dX1_see_56 : decode cX1_see 56 = .ok (.dup, 1) := by decide +kernel
theorem dX1_see_57 : decode cX1_see 57 = .ok (.getfield 46, 3) := by decide +kernel
theorem dX1_see_60 : decode cX1_see 60 = .ok (.iconst 1, 1) := by decide +kernel
theorem dX1_see_61 : decode cX1_see 61 = .ok (.iadd, 1) := by decide +kernel
theorem dX1_see_62 : decode cX1_see 62 = .ok (.putfield 46, 3) := by decide +kernel
theorem dX1_see_65 : decode cX1_see 65 = .ok (.aload_n 0, 1) := by decide +kernel
theorem dX1_see_66 : decode cX1_see 66 = .ok (.getfield 46, 3) := by decide +kernel
theorem dX1_see_69 : decode cX1_see 69 = .ok (.ireturn, 1) := by decide +kernel
theorem dX1_unsee_0 : decode cX1_unsee 0 = .ok (.aload_n 0, 1) := by decide +kernel
theorem dX1_unsee_1 : decode cX1_unsee 1 = .ok (.getfield 46, 3) := by decide +kernel
theorem dX1_unsee_4 : decode cX1_unsee 4 = .ok (.istore_n 1, 1) := by decide +kernel
theorem dX1_unsee_5 : decode cX1_unsee 5 = .ok (.aload_n 0, 1) := by decide +kernel
theorem dX1_unsee_6 : decode cX1_unsee 6 = .ok (.iconst 0, 1) := by decide +kernel
theorem dX1_unsee_7 : decode cX1_unsee 7 = .ok (.putfield 46, 3) := by decide +kernel
theorem dX1_unsee_10 : decode cX1_unsee 10 = .ok (.iload_n 1, 1) := by decide +kernel
theorem dX1_unsee_11 : decode cX1_unsee 11 = .ok (.ireturn, 1) := by decide +kernel
set_option maxRecDepth 20000 in
theorem ggX1_which_X1_fitsSeen : GoodIn wsX1_which wsX1_fitsSeen := goodIn_r _ [5, 6, 7, 8, 9, 10, 11, 12, 13, 14, 15, 16, 17, 18, 19, 20, 21, 22, 23, 24, 25, 26, 27, 28, 29, 30, 31, 32, 33, 34, 35, 36, 37, 38, 39, 40, 41, 42, 43, 44, 45, 46, 47, 48, 49, 50, 51, 52, 53, 54, 55, 56, 57, 58, 59, 60, 61, 62, 63, 64, 65, 66, 67, 68, 69, 70, 71, 72, 73, 74, 75, 76, 77, 78, 79, 80, 81, 82, 83, 84, 85, 86, 87, 88, 89, 90, 91, 92, 93, 94, 95, 96, 97, 98, 99, 100, 101, 102, 103, 104, 105, 106, 107, 108, 109, 110, 111, 112, 113, 114, 115, 116, 117, 118, 119, 120, 121, 122, 123, 124, 125, 126, 127, 128, 129] (by decide +kernel) (by decide +kernel)
set_option maxRecDepth 20000 in
theorem gX1_which_X1_fitsSeen : GoodIn wsX1_which (wsV RX1 165 RX1 yX1_fitsSeen wsX1_fitsSeen) := goodIn_app (goodIn_of _ (by decide +kernel)) ggX1_which_X1_fitsSeen
theorem dX1_which_0 : decode cX1_which 0 = .ok (.iconst 0, 1) := by decide +kernel
theorem dX1_which_1 : decode cX1_which 1 = .ok (.istore_n 1, 1) := by decide +kernel
theorem dX1_which_2 : decode cX1_which 2 = .ok (.iconst 1, 1) := by decide +kernel
theorem dX1_which_3 : decode cX1_which 3 = .ok (.istore_n 2, 1) := by decide +kernel
theorem dX1_which_4 : decode cX1_which 4 = .ok (.iload_n 2, 1) := by decide +kernel
theorem dX1_which_5 : decode cX1_which 5 = .ok (.bipush 9, 2) := by decide +kernel
theorem dX1_which_7 : decode cX1_which 7 = .ok (.if_icmp .gt 23, 3) := by decide +kernel
theorem dX1_which_10 : decode cX1_which 10 = .ok (.aload_n 0, 1) := by decide +kernel
theorem dX1_which_11 : decode cX1_which 11 = .ok (.iload_n 2, 1) := by decide +kernel
theorem dX1_which_12 : decode cX1_which 12 = .ok (.invokevirtual 165, 3) := by decide +kernel
theorem dX1_which_15 : decode cX1_which 15 = .ok (.ifCond .eq 9, 3) := by decide +kernel
theorem dX1_which_18 : decode cX1_which 18 = .ok (.iload_n 1, 1) := by decide +kernel
theorem dX1_which_19 : decode cX1_which 19 = .ok (.iconst 1, 1) := by decide +kernel
theorem dX1_which_20 : decode cX1_which 20 = .ok (.iload_n 2, 1) := by decide +kernel
theorem dX1_which_21 : decode cX1_which 21 = .ok (.ishl, 1) := by decide +kernel
theorem dX1_which_22 : decode cX1_which 22 = .ok (.ior, 1) := by decide +kernel
theorem dX1_which_23 : decode cX1_which 23 = .ok (.istore_n 1, 1) := by decide +kernel
theorem dX1_which_24 : decode cX1_which 24 = .ok (.iinc 2 1, 3) := by decide +kernel
theorem dX1_which_27 : decode cX1_which 27 = .ok (.goto (-23), 3) := by decide +kernel
theorem dX1_which_30 : decode cX1_which 30 = .ok (.iload_n 1, 1) := by decide +kernel
theorem dX1_which_31 : decode cX1_which 31 = .ok (.ireturn, 1) := by decide +kernel
set_option maxRecDepth 20000 in
theorem ggX1_share_X1_isMember : GoodIn wsX1_share wsX1_isMember := goodIn_r _ [6] (by decide +kernel) (by decide +kernel)
set_option maxRecDepth 20000 in
theorem gX1_share_X1_isMember : GoodIn wsX1_share (va_wsS RX1 92 yX1_isMember wsX1_isMember) := goodIn_app (goodIn_of _ (by decide +kernel)) ggX1_share_X1_isMember
set_option maxRecDepth 20000 in
theorem ggX1_share_X1_runSubsets : GoodIn wsX1_share wsX1_runSubsets := goodIn_r _ [10, 11, 1, 12, 13, 14, 15, 16, 17, 18, 19, 20, 21, 22, 23, 24, 25, 26, 27, 28, 29, 30, 31, 32, 33, 34, 35, 36, 37, 38, 39, 40, 41, 42, 43, 44, 45, 46, 47, 48, 49, 50, 51, 52, 53, 54, 55, 56, 57, 58, 59, 60, 61, 62, 63, 64, 65, 66, 67, 68, 69, 70, 71, 72, 73, 74, 75, 76, 77, 78, 79, 80, 81, 82, 83, 84, 85, 86, 87, 88, 89, 90, 91, 92, 93, 94, 95, 96, 97, 98, 99, 100, 101, 102, 103, 104, 105, 106, 107, 108, 109, 110, 111, 123, 124, 125, 126, 127, 128, 129, 130, 131, 132, 133, 134, 135, 136, 137, 138, 139, 140, 141, 142, 143, 144, 145, 146, 147, 148, 149] (by decide +kernel) (by decide +kernel)
set_option maxRecDepth 20000 in
theorem gX1_share_X1_runSubsets : GoodIn wsX1_share (wsV RX1 168 RX1 yX1_runSubsets wsX1_runSubsets) := goodIn_app (goodIn_of _ (by decide +kernel)) ggX1_share_X1_runSubsets
set_option maxRecDepth 20000 in
theorem ggX1_share_J6_bitCount_0f7a4 : GoodIn wsX1_share wsJ6_bitCount_0f7a4 := goodIn_r _ [67, 68, 69, 70] (by decide +kernel) (by decide +kernel)
set_option maxRecDepth 20000 in
theorem gX1_share_J6_bitCount_0f7a4 : GoodIn wsX1_share (va_wsS RX1 175 yJ6_bitCount_0f7a4 wsJ6_bitCount_0f7a4) := goodIn_app (goodIn_of _ (by decide +kernel)) ggX1_share_J6_bitCount_0f7a4
set_option maxRecDepth 20000 in
theorem ggX1_share_X1_fraction : GoodIn wsX1_share wsX1_fraction := goodIn_r _ [115, 116, 117, 78, 118, 119, 120, 5, 121, 122, 77, 79] (by decide +kernel) (by decide +kernel)
set_option maxRecDepth 20000 in
theorem gX1_share_X1_fraction : GoodIn wsX1_share (va_wsS RX1 180 yX1_fraction wsX1_fraction) := goodIn_app (goodIn_of _ (by decide +kernel)) ggX1_share_X1_fraction
theorem dX1_share_0 : decode cX1_share 0 = .ok (.iload_n 1, 1) := by decide +kernel
theorem dX1_share_1 : decode cX1_share 1 = .ok (.invokestatic 92, 3) := by decide +kernel
theorem dX1_share_4 : decode cX1_share 4 = .ok (.ifCond .ne 5, 3) := by decide +kernel
theorem dX1_share_7 : decode cX1_share 7 = .ok (.iconst (-1), 1) := by decide +kernel
theorem dX1_share_8 : decode cX1_share 8 = .ok (.ireturn, 1) := by decide +kernel
theorem dX1_share_9 : decode cX1_share 9 = .ok (.aload_n 0, 1) := by decide +kernel
theorem dX1_share_10 : decode cX1_share 10 = .ok (.bipush 30, 2) := by decide +kernel
theorem dX1_share_12 : decode cX1_share 12 = .ok (.invokevirtual 168, 3) := by decide +kernel
theorem dX1_share_15 : decode cX1_share 15 = .ok (.iconst 0, 1) := by decide +kernel
theorem dX1_share_16 : decode cX1_share 16 = .ok (.istore_n 3, 1) := by decide +kernel
theorem dX1_share_17 : decode cX1_share 17 = .ok (.iconst 0, 1) := by decide +kernel
theorem dX1_share_18 : decode cX1_share 18 = .ok (.istore 4, 2) := by decide +kernel
theorem dX1_share_20 : decode cX1_share 20 = .ok (.iload 4, 2) := by decide +kernel
theorem dX1_share_22 : decode cX1_share 22 = .ok (.bipush 64, 2) := by decide +kernel
theorem dX1_share_24 : decode cX1_share 24 = .ok (.if_icmp .ge 54, 3) := by decide +kernel
theorem dX1_share_27 : decode cX1_share 27 = .ok (.iload 4, 2) := by decide +kernel
theorem dX1_share_29 : decode cX1_share 29 = .ok (.iload_n 1, 1) := by decide +kernel
theorem dX1_share_30 : decode cX1_share 30 = .ok (.ishr, 1) := by decide +kernel
theorem dX1_share_31 : decode cX1_share 31 = .ok (.iconst 1, 1) := by decide +kernel
theorem dX1_share_32 : decode cX1_share 32 = .ok (.iand, 1) := by decide +kernel
theorem dX1_share_33 : decode cX1_share 33 = .ok (.ifCond .ne 39, 3) := by decide +kernel
theorem dX1_share_36 : decode cX1_share 36 = .ok (.aload_n 0, 1) := by decide +kernel
theorem dX1_share_37 : decode cX1_share 37 = .ok (.getfield 53, 3) := by decide +kernel
theorem dX1_share_40 : decode cX1_share 40 = .ok (.iload 4, 2) := by decide +kernel
theorem dX1_share_42 : decode cX1_share 42 = .ok (.iconst 1, 1) := by decide +kernel
theorem dX1_share_43 : decode cX1_share 43 = .ok (.iload_n 1, 1) := by decide +kernel
theorem dX1_share_44 : decode cX1_share 44 = .ok (.ishl, 1) := by decide +kernel
theorem dX1_share_45 : decode cX1_share 45 = .ok (.ior, 1) := by decide +kernel
theorem dX1_share_46 : decode cX1_share 46 = .ok (.iaload, 1) := by decide +kernel
theorem dX1_share_47 : decode cX1_share 47 = .ok (.aload_n 0, 1) := by decide +kernel
theorem dX1_share_48 : decode cX1_share 48 = .ok (.getfield 53, 3) := by decide +kernel
theorem dX1_share_51 : decode cX1_share 51 = .ok (.iload 4, 2) := by decide +kernel
theorem dX1_share_53 : decode cX1_share 53 = .ok (.iaload, 1) := by decide +kernel
theorem dX1_share_54 : decode cX1_share 54 = .ok (.isub, 1) := by decide +kernel
theorem dX1_share_55 : decode cX1_share 55 = .ok (.istore 5, 2) := by decide +kernel
theorem dX1_share_57 : decode cX1_share 57 = .ok (.iload_n 3, 1) := by decide +kernel
theorem dX1_share_58 : decode cX1_share 58 = .ok (.iload 5, 2) := by decide +kernel
theorem dX1_share_60 : decode cX1_share 60 = .ok (.getstatic 172, 3) := by decide +kernel
theorem dX1_share_63 : decode cX1_share 63 = .ok (.iload 4, 2) := by decide +kernel
theorem dX1_share_65 : decode cX1_share 65 = .ok (.invokestatic 175, 3) := by decide +kernel
theorem dX1_share_68 : decode cX1_share 68 = .ok (.iaload, 1) := by decide +kernel
theorem dX1_share_69 : decode cX1_share 69 = .ok (.imul, 1) := by decide +kernel
theorem dX1_share_70 : decode cX1_share 70 = .ok (.iadd, 1) := by decide +kernel
theorem dX1_share_71 : decode cX1_share 71 = .ok (.istore_n 3, 1) := by decide +kernel
theorem dX1_share_72 : decode cX1_share 72 = .ok (.iinc 4 1, 3) := by decide +kernel
theorem dX1_share_75 : decode cX1_share 75 = .ok (.goto (-55), 3) := by decide +kernel
theorem dX1_share_78 : decode cX1_share 78 = .ok (.iload_n 3, 1) := by decide +kernel
theorem dX1_share_79 : decode cX1_share 79 = .ok (.sipush 720, 3) := by decide +kernel
theorem dX1_share_82 : decode cX1_share 82 = .ok (.iload_n 2, 1) := by decide +kernel
theorem dX1_share_83 : decode cX1_share 83 = .ok (.invokestatic 180, 3) := by decide +kernel
theorem dX1_share_86 : decode cX1_share 86 = .ok (.ireturn, 1) := by decide +kernel
set_option maxRecDepth 20000 in
theorem ggX1_chance_X1_runSubsets : GoodIn wsX1_chance wsX1_runSubsets := goodIn_r _ [7, 8, 1, 9, 10, 11, 12, 13, 14, 15, 16, 17, 18, 19, 20, 21, 22, 23, 24, 25, 26, 27, 28, 29, 30, 31, 32, 33, 34, 35, 36, 37, 38, 39, 40, 41, 42, 43, 44, 45, 46, 47, 48, 49, 50, 51, 52, 53, 54, 55, 56, 57, 58, 59, 60, 61, 62, 63, 64, 65, 66, 67, 68, 69, 70, 71, 72, 73, 74, 75, 76, 77, 78, 79, 80, 81, 82, 83, 84, 85, 86, 87, 88, 89, 90, 91, 92, 93, 94, 95, 96, 97, 98, 99, 100, 101, 102, 103, 104, 105, 106, 107, 108, 122, 123, 124, 125, 126, 127, 128, 129, 130, 131, 132, 133, 134, 135, 136, 137, 138, 139, 140, 141, 142, 143, 144, 145, 146, 147, 148] (by decide +kernel) (by decide +kernel)
set_option maxRecDepth 20000 in
theorem gX1_chance_X1_runSubsets : GoodIn wsX1_chance (wsV RX1 168 RX1 yX1_runSubsets wsX1_runSubsets) := goodIn_app (goodIn_of _ (by decide +kernel)) ggX1_chance_X1_runSubsets
set_option maxRecDepth 20000 in
theorem ggX1_chance_X1_likelihood : GoodIn wsX1_chance wsX1_likelihood := goodIn_r _ [111] (by decide +kernel) (by decide +kernel)
set_option maxRecDepth 20000 in
theorem gX1_chance_X1_likelihood : GoodIn wsX1_chance (va_wsS RX1 184 yX1_likelihood wsX1_likelihood) := goodIn_app (goodIn_of _ (by decide +kernel)) ggX1_chance_X1_likelihood
set_option maxRecDepth 20000 in
theorem ggX1_chance_X1_fraction : GoodIn wsX1_chance wsX1_fraction := goodIn_r _ [114, 115, 116, 75, 117, 118, 119, 6, 120, 121, 74, 76] (by decide +kernel) (by decide +kernel)
set_option maxRecDepth 20000 in
theorem gX1_chance_X1_fraction : GoodIn wsX1_chance (va_wsS RX1 180 yX1_fraction wsX1_fraction) := goodIn_app (goodIn_of _ (by decide +kernel)) ggX1_chance_X1_fraction
theorem dX1_chance_0 : decode cX1_chance 0 = .ok (.iload_n 1, 1) := by decide +kernel
theorem dX1_chance_1 : decode cX1_chance 1 = .ok (.ifCond .lt 19, 3) := by decide +kernel
theorem dX1_chance_4 : decode cX1_chance 4 = .ok (.iload_n 1, 1) := by decide +kernel
theorem dX1_chance_5 : decode cX1_chance 5 = .ok (.bipush 99, 2) := by decide +kernel
theorem dX1_chance_7 : decode cX1_chance 7 = .ok (.if_icmp .gt 13, 3) := by decide +kernel
theorem dX1_chance_10 : decode cX1_chance 10 = .ok (.iload_n 2, 1) := by decide +kernel
theorem dX1_chance_11 : decode cX1_chance 11 = .ok (.ifCond .lt 9, 3) := by decide +kernel
theorem dX1_chance_14 : decode cX1_chance 14 = .ok (.iload_n 2, 1) := by decide +kernel
theorem dX1_chance_15 : decode cX1_chance 15 = .ok (.bipush 10, 2) := by decide +kernel
theorem dX1_chance_17 : decode cX1_chance 17 = .ok (.if_icmp .le 6, 3) := by decide +kernel
theorem dX1_chance_20 : decode cX1_chance 20 = .ok (.bipush (-2), 2) := by decide +kernel
theorem dX1_chance_22 : decode cX1_chance 22 = .ok (.ireturn, 1) := by decide +kernel
theorem dX1_chance_23 : decode cX1_chance 23 = .ok (.aload_n 0, 1) := by decide +kernel
theorem dX1_chance_24 : decode cX1_chance 24 = .ok (.bipush 20, 2) := by decide +kernel
theorem dX1_chance_26 : decode cX1_chance 26 = .ok (.invokevirtual 168, 3) := by decide +kernel
theorem dX1_chance_29 : decode cX1_chance 29 = .ok (.iconst 0, 1) := by decide +kernel
theorem dX1_chance_30 : decode cX1_chance 30 = .ok (.istore 4, 2) := by decide +kernel
theorem dX1_chance_32 : decode cX1_chance 32 = .ok (.iconst 0, 1) := by decide +kernel
theorem dX1_chance_33 : decode cX1_chance 33 = .ok (.istore 5, 2) := by decide +kernel
theorem dX1_chance_35 : decode cX1_chance 35 = .ok (.iload 5, 2) := by decide +kernel
theorem dX1_chance_37 : decode cX1_chance 37 = .ok (.bipush 64, 2) := by decide +kernel
theorem dX1_chance_39 : decode cX1_chance 39 = .ok (.if_icmp .ge 31, 3) := by decide +kernel
theorem dX1_chance_42 : decode cX1_chance 42 = .ok (.aload_n 0, 1) := by decide +kernel
theorem dX1_chance_43 : decode cX1_chance 43 = .ok (.getfield 53, 3) := by decide +kernel
theorem dX1_chance_46 : decode cX1_chance 46 = .ok (.iload 5, 2) := by decide +kernel
theorem dX1_chance_48 : decode cX1_chance 48 = .ok (.iaload, 1) := by decide +kernel
theorem dX1_chance_49 : decode cX1_chance 49 = .ok (.iload_n 1, 1) := by decide +kernel
theorem dX1_chance_50 : decode cX1_chance 50 = .ok (.if_icmp .lt 14, 3) := by decide +kernel
theorem dX1_chance_53 : decode cX1_chance 53 = .ok (.iload 4, 2) := by decide +kernel
theorem dX1_chance_55 : decode cX1_chance 55 = .ok (.iload 5, 2) := by decide +kernel
theorem dX1_chance_57 : decode cX1_chance 57 = .ok (.iload_n 2, 1) := by decide +kernel
theorem dX1_chance_58 : decode cX1_chance 58 = .ok (.invokestatic 184, 3) := by decide +kernel
theorem dX1_chance_61 : decode cX1_chance 61 = .ok (.iadd, 1) := by decide +kernel
theorem dX1_chance_62 : decode cX1_chance 62 = .ok (.istore 4, 2) := by decide +kernel
theorem dX1_chance_64 : decode cX1_chance 64 = .ok (.iinc 5 1, 3) := by decide +kernel
theorem dX1_chance_67 : decode cX1_chance 67 = .ok (.goto (-32), 3) := by decide +kernel
theorem dX1_chance_70 : decode cX1_chance 70 = .ok (.iload 4, 2) := by decide +kernel
theorem dX1_chance_72 : decode cX1_chance 72 = .ok (.ldc 187, 2) := by decide +kernel
theorem dX1_chance_74 : decode cX1_chance 74 = .ok (.iload_n 3, 1) := by decide +kernel
theorem dX1_chance_75 : decode cX1_chance 75 = .ok (.invokestatic 180, 3) := by decide +kernel
theorem dX1_chance_78 : decode cX1_chance 78 = .ok (.ireturn, 1) := by decide +kernel
theorem dX1_seed_0 : decode cX1_seed 0 = .ok (.aload_n 0, 1) := by decide +kernel
theorem dX1_seed_1 : decode cX1_seed 1 = .ok (.getfield 49, 3) := by decide +kernel
theorem dX1_seed_4 : decode cX1_seed 4 = .ok (.lstore_n 3, 1) := by decide +kernel
theorem dX1_seed_5 : decode cX1_seed 5 = .ok (.aload_n 0, 1) := by decide +kernel
theorem dX1_seed_6 : decode cX1_seed 6 = .ok (.lload_n 1, 1) := by decide +kernel
theorem dX1_seed_7 : decode cX1_seed 7 = .ok (.putfield 49, 3) := by decide +kernel
theorem dX1_seed_10 : decode cX1_seed 10 = .ok (.lload_n 3, 1) := by decide +kernel
theorem dX1_seed_11 : decode cX1_seed 11 = .ok (.lreturn, 1) := by decide +kernel
set_option maxRecDepth 20000 in
theorem ggX1_drawn_X0_takeFrom : GoodIn wsX1_drawn wsX0_takeFrom := goodIn_r _ [10, 11, 12, 13, 14, 15, 16, 17, 18, 19, 20, 21, 22, 23, 24, 25, 26, 27, 28, 130, 131, 132, 133, 134, 135, 136, 137, 138, 139, 140, 141, 142, 143] (by decide +kernel) (by decide +kernel)
set_option maxRecDepth 20000 in
theorem gX1_drawn_X0_takeFrom : GoodIn wsX1_drawn (wsV RX1 60 RX0 yX0_takeFrom wsX0_takeFrom) := goodIn_app (goodIn_of _ (by decide +kernel)) ggX1_drawn_X0_takeFrom
set_option maxRecDepth 20000 in
theorem ggX1_drawn_X0_sent : GoodIn wsX1_drawn wsX0_sent := goodIn_r _ [32, 16, 17, 130, 131, 132, 133, 134, 135, 136, 137, 138, 139, 140, 141, 142, 143] (by decide +kernel) (by decide +kernel)
set_option maxRecDepth 20000 in
theorem gX1_drawn_X0_sent : GoodIn wsX1_drawn (wsV RX1 188 RX0 yX0_sent wsX0_sent) := goodIn_app (goodIn_of _ (by decide +kernel)) ggX1_drawn_X0_sent
set_option maxRecDepth 20000 in
theorem ggX1_drawn_X0_enterOrDepart : GoodIn wsX1_drawn wsX0_enterOrDepart := goodIn_r _ [36, 37, 38, 39, 9, 40, 18, 41, 42, 43, 44, 45, 46, 47, 24, 14, 25, 48, 49, 50, 51, 15, 52, 53, 54, 55, 56, 57, 58, 59, 60, 12, 13, 11, 61, 62, 63, 64, 26, 65, 66, 67, 68, 23, 69, 70, 71, 72, 73, 74, 75, 76, 77, 78, 79, 17, 80, 81, 82, 83, 84, 85, 86, 87, 88, 89, 90, 91, 27, 92, 93, 94, 95, 96, 97, 98, 99, 130, 131, 132, 133, 134, 135, 136, 137, 138, 139, 140, 141, 142, 143] (by decide +kernel) (by decide +kernel)
set_option maxRecDepth 20000 in
theorem gX1_drawn_X0_enterOrDepart : GoodIn wsX1_drawn (wsV RX1 195 RX0 yX0_enterOrDepart wsX0_enterOrDepart) := goodIn_app (goodIn_of _ (by decide +kernel)) ggX1_drawn_X0_enterOrDepart
set_option maxRecDepth 20000 in
theorem ggX1_drawn_X0_run : GoodIn wsX1_drawn wsX0_run := goodIn_r _ [103, 14, 18, 25, 23, 104, 30, 31, 9, 32, 16, 17, 105, 106, 107, 108, 26, 24, 65, 66, 67, 68, 69, 70, 71, 72, 73, 74, 75, 48, 49, 50, 51, 15, 52, 53, 54, 55, 56, 57, 58, 59, 60, 12, 13, 11, 76, 77, 78, 79, 80, 81, 82, 83, 84, 85, 86, 87, 88, 89, 90, 91, 27, 92, 93, 94, 95, 96, 97, 98, 99, 109, 110, 111, 112, 28, 113, 114, 115, 116, 130, 131, 132, 133, 134, 135, 136, 137, 138, 139, 140, 141, 142, 143] (by decide +kernel) (by decide +kernel)
set_option maxRecDepth 20000 in
theorem gX1_drawn_X0_run : GoodIn wsX1_drawn (wsV RX1 133 RX0 yX0_run wsX0_run) := goodIn_app (goodIn_of _ (by decide +kernel)) ggX1_drawn_X0_run
theorem dX1_drawn_0 : decode cX1_drawn 0 = .ok (.iload_n 1, 1) := by decide +kernel
theorem dX1_drawn_1 : decode cX1_drawn 1 = .ok (.iconst 1, 1) := by decide +kernel
theorem dX1_drawn_2 : decode cX1_drawn 2 = .ok (.if_icmp .lt 9, 3) := by decide +kernel
theorem dX1_drawn_5 : decode cX1_drawn 5 = .ok (.iload_n 1, 1) := by decide +kernel
theorem dX1_drawn_6 : decode cX1_drawn 6 = .ok (.bipush 40, 2) := by decide +kernel
theorem dX1_drawn_8 : decode cX1_drawn 8 = .ok (.if_icmp .le 6, 3) := by decide +kernel
theorem dX1_drawn_11 : decode cX1_drawn 11 = .ok (.bipush (-2), 2) := by decide +kernel
theorem dX1_drawn_13 : decode cX1_drawn 13 = .ok (.ireturn, 1) := by decide +kernel
theorem dX1_drawn_14 : decode cX1_drawn 14 = .ok (.aload_n 0, 1) := by decide +kernel
theorem dX1_drawn_15 : decode cX1_drawn 15 = .ok (.getfield 16, 3) := by decide +kernel
theorem dX1_drawn_18 : decode cX1_drawn 18 = .ok (.aload_n 0, 1) := by decide +kernel
theorem dX1_drawn_19 : decode cX1_drawn 19 = .ok (.getfield 10, 3) := by decide +kernel
theorem dX1_drawn_22 : decode cX1_drawn 22 = .ok (.invokevirtual 60, 3) := by decide +kernel
theorem dX1_drawn_25 : decode cX1_drawn 25 = .ok (.aload_n 0, 1) := by decide +kernel
theorem dX1_drawn_26 : decode cX1_drawn 26 = .ok (.getfield 16, 3) := by decide +kernel
theorem dX1_drawn_29 : decode cX1_drawn 29 = .ok (.invokevirtual 188, 3) := by decide +kernel
theorem dX1_drawn_32 : decode cX1_drawn 32 = .ok (.istore_n 2, 1) := by decide +kernel
theorem dX1_drawn_33 : decode cX1_drawn 33 = .ok (.iconst 0, 1) := by decide +kernel
theorem dX1_drawn_34 : decode cX1_drawn 34 = .ok (.istore_n 3, 1) := by decide +kernel
theorem dX1_drawn_35 : decode cX1_drawn 35 = .ok (.iload_n 3, 1) := by decide +kernel
theorem dX1_drawn_36 : decode cX1_drawn 36 = .ok (.iload_n 1, 1) := by decide +kernel
theorem dX1_drawn_37 : decode cX1_drawn 37 = .ok (.if_icmp .ge 67, 3) := by decide +kernel
theorem dX1_drawn_40 : decode cX1_drawn 40 = .ok (.aload_n 0, 1) := by decide +kernel
theorem dX1_drawn_41 : decode cX1_drawn 41 = .ok (.aload_n 0, 1) := by decide +kernel
theorem dX1_drawn_42 : decode cX1_drawn 42 = .ok (.getfield 49, 3) := by decide +kernel
theorem dX1_drawn_45 : decode cX1_drawn 45 = .ok (.ldc2_w 191, 3) := by decide +kernel
theorem dX1_drawn_48 : decode cX1_drawn 48 = .ok (.lmul, 1) := by decide +kernel
theorem dX1_drawn_49 : decode cX1_drawn 49 = .ok (.ldc2_w 193, 3) := by decide +kernel
theorem dX1_drawn_52 : decode cX1_drawn 52 = .ok (.ladd, 1) := by decide +kernel
theorem dX1_drawn_53 : decode cX1_drawn 53 = .ok (.putfield 49, 3) := by decide +kernel
theorem dX1_drawn_56 : decode cX1_drawn 56 = .ok (.aload_n 0, 1) := by decide +kernel
theorem dX1_drawn_57 : decode cX1_drawn 57 = .ok (.getfield 49, 3) := by decide +kernel
theorem dX1_drawn_60 : decode cX1_drawn 60 = .ok (.bipush 33, 2) := by decide +kernel
theorem dX1_drawn_62 : decode cX1_drawn 62 = .ok (.lushr, 1) := by decide +kernel
theorem dX1_drawn_63 : decode cX1_drawn 63 = .ok (.l2i, 1) := by decide +kernel
theorem dX1_drawn_64 : decode cX1_drawn 64 = .ok (.istore 4, 2) := by decide +kernel
theorem dX1_drawn_66 : decode cX1_drawn 66 = .ok (.iload 4, 2) := by decide +kernel
theorem dX1_drawn_68 : decode cX1_drawn 68 = .ok (.bipush 8, 2) := by decide +kernel
theorem dX1_drawn_70 : decode cX1_drawn 70 = .ok (.irem, 1) := by decide +kernel
theorem dX1_drawn_71 : decode cX1_drawn 71 = .ok (.ifCond .ne 18, 3) := by decide +kernel
theorem dX1_drawn_74 : decode cX1_drawn 74 = .ok (.aload_n 0, 1) := by decide +kernel
theorem dX1_drawn_75 : decode cX1_drawn 75 = .ok (.getfield 16, 3) := by decide +kernel
theorem dX1_drawn_78 : decode cX1_drawn 78 = .ok (.iload 4, 2) := by decide +kernel
theorem dX1_drawn_80 : decode cX1_drawn 80 = .ok (.bipush 8, 2) := by decide +kernel
theorem dX1_drawn_82 : decode cX1_drawn 82 = .ok (.idiv, 1) := by decide +kernel
theorem dX1_drawn_83 : decode cX1_drawn 83 = .ok (.bipush 6, 2) := by decide +kernel
theorem dX1_drawn_85 : decode cX1_drawn 85 = .ok (.irem, 1) := by decide +kernel
theorem dX1_drawn_86 : decode cX1_drawn 86 = .ok (.invokevirtual 195, 3) := by decide +kernel
theorem dX1_drawn_89 : decode cX1_drawn 89 = .ok (.aload_n 0, 1) := by decide +kernel
theorem dX1_drawn_90 : decode cX1_drawn 90 = .ok (.getfield 16, 3) := by decide +kernel
theorem dX1_drawn_93 : decode cX1_drawn 93 = .ok (.iconst 1, 1) := by decide +kernel
theorem dX1_drawn_94 : decode cX1_drawn 94 = .ok (.invokevirtual 133, 3) := by decide +kernel
theorem dX1_drawn_97 : decode cX1_drawn 97 = .ok (.pop, 1) := by decide +kernel
theorem dX1_drawn_98 : decode cX1_drawn 98 = .ok (.iinc 3 1, 3) := by decide +kernel
theorem dX1_drawn_101 : decode cX1_drawn 101 = .ok (.goto (-66), 3) := by decide +kernel
theorem dX1_drawn_104 : decode cX1_drawn 104 = .ok (.aload_n 0, 1) := by decide +kernel
theorem dX1_drawn_105 : decode cX1_drawn 105 = .ok (.getfield 16, 3) := by decide +kernel
theorem dX1_drawn_108 : decode cX1_drawn 108 = .ok (.invokevirtual 188, 3) := by decide +kernel
theorem dX1_drawn_111 : decode cX1_drawn 111 = .ok (.iload_n 2, 1) := by decide +kernel
theorem dX1_drawn_112 : decode cX1_drawn 112 = .ok (.isub, 1) := by decide +kernel
theorem dX1_drawn_113 : decode cX1_drawn 113 = .ok (.ireturn, 1) := by decide +kernel
set_option maxRecDepth 20000 in
theorem ggX1_keep_X0_takeFrom : GoodIn wsX1_keep wsX0_takeFrom := goodIn_r _ [9, 10, 11, 12, 13, 14, 15, 16, 17, 18, 19, 20, 21, 22, 23, 24, 25, 26, 27, 41, 42, 43, 44, 45, 46, 47, 48, 49, 50, 51, 52, 53, 54] (by decide +kernel) (by decide +kernel)
set_option maxRecDepth 20000 in
theorem gX1_keep_X0_takeFrom : GoodIn wsX1_keep (wsV RX1 60 RX0 yX0_takeFrom wsX0_takeFrom) := goodIn_app (goodIn_of _ (by decide +kernel)) ggX1_keep_X0_takeFrom
theorem dX1_keep_0 : decode cX1_keep 0 = .ok (.iload_n 1, 1) := by decide +kernel
theorem dX1_keep_1 : decode cX1_keep 1 = .ok (.ifCond .lt 8, 3) := by decide +kernel
theorem dX1_keep_4 : decode cX1_keep 4 = .ok (.iload_n 1, 1) := by decide +kernel
theorem dX1_keep_5 : decode cX1_keep 5 = .ok (.iconst 2, 1) := by decide +kernel
theorem dX1_keep_6 : decode cX1_keep 6 = .ok (.if_icmp .lt 5, 3) := by decide +kernel
theorem dX1_keep_9 : decode cX1_keep 9 = .ok (.iconst (-1), 1) := by decide +kernel
theorem dX1_keep_10 : decode cX1_keep 10 = .ok (.ireturn, 1) := by decide +kernel
theorem dX1_keep_11 : decode cX1_keep 11 = .ok (.aload_n 0, 1) := by decide +kernel
theorem dX1_keep_12 : decode cX1_keep 12 = .ok (.getfield 27, 3) := by decide +kernel
theorem dX1_keep_15 : decode cX1_keep 15 = .ok (.iload_n 1, 1) := by decide +kernel
theorem dX1_keep_16 : decode cX1_keep 16 = .ok (.aaload, 1) := by decide +kernel
theorem dX1_keep_17 : decode cX1_keep 17 = .ok (.aload_n 0, 1) := by decide +kernel
theorem dX1_keep_18 : decode cX1_keep 18 = .ok (.getfield 10, 3) := by decide +kernel
theorem dX1_keep_21 : decode cX1_keep 21 = .ok (.invokevirtual 60, 3) := by decide +kernel
theorem dX1_keep_24 : decode cX1_keep 24 = .ok (.aload_n 0, 1) := by decide +kernel
theorem dX1_keep_25 : decode cX1_keep 25 = .ok (.dup, 1) := by decide +kernel
theorem dX1_keep_26 : decode cX1_keep 26 = .ok (.getfield 30, 3) := by decide +kernel
theorem dX1_keep_29 : decode cX1_keep 29 = .ok (.iconst 1, 1) := by decide +kernel
theorem dX1_keep_30 : decode cX1_keep 30 = .ok (.iload_n 1, 1) := by decide +kernel
theorem dX1_keep_31 : decode cX1_keep 31 = .ok (.ishl, 1) := by decide +kernel
theorem dX1_keep_32 : decode cX1_keep 32 = .ok (.ior, 1) := by decide +kernel
theorem dX1_keep_33 : decode cX1_keep 33 = .ok (.putfield 30, 3) := by decide +kernel
theorem dX1_keep_36 : decode cX1_keep 36 = .ok (.aload_n 0, 1) := by decide +kernel
theorem dX1_keep_37 : decode cX1_keep 37 = .ok (.getfield 10, 3) := by decide +kernel
theorem dX1_keep_40 : decode cX1_keep 40 = .ok (.getfield 64, 3) := by decide +kernel
theorem dX1_keep_43 : decode cX1_keep 43 = .ok (.ireturn, 1) := by decide +kernel
set_option maxRecDepth 20000 in
theorem ggX1_again_X0_takeFrom : GoodIn wsX1_again wsX0_takeFrom := goodIn_r _ [10, 11, 12, 13, 14, 15, 16, 17, 18, 19, 20, 21, 22, 23, 24, 25, 26, 27, 28, 42, 43, 44, 45, 46, 47, 48, 49, 50, 51, 52, 53, 54, 55] (by decide +kernel) (by decide +kernel)
set_option maxRecDepth 20000 in
theorem gX1_again_X0_takeFrom : GoodIn wsX1_again (wsV RX1 60 RX0 yX0_takeFrom wsX0_takeFrom) := goodIn_app (goodIn_of _ (by decide +kernel)) ggX1_again_X0_takeFrom
theorem dX1_again_0 : decode cX1_again 0 = .ok (.iload_n 1, 1) := by decide +kernel
theorem dX1_again_1 : decode cX1_again 1 = .ok (.ifCond .lt 8, 3) := by decide +kernel
theorem dX1_again_4 : decode cX1_again 4 = .ok (.iload_n 1, 1) := by decide +kernel
theorem dX1_again_5 : decode cX1_again 5 = .ok (.iconst 2, 1) := by decide +kernel
theorem dX1_again_6 : decode cX1_again 6 = .ok (.if_icmp .lt 5, 3) := by decide +kernel
theorem dX1_again_9 : decode cX1_again 9 = .ok (.iconst (-1), 1) := by decide +kernel
theorem dX1_again_10 : decode cX1_again 10 = .ok (.ireturn, 1) := by decide +kernel
theorem dX1_again_11 : decode cX1_again 11 = .ok (.aload_n 0, 1) := by decide +kernel
theorem dX1_again_12 : decode cX1_again 12 = .ok (.getfield 30, 3) := by decide +kernel
theorem dX1_again_15 : decode cX1_again 15 = .ok (.iload_n 1, 1) := by decide +kernel
theorem dX1_again_16 : decode cX1_again 16 = .ok (.ishr, 1) := by decide +kernel
theorem dX1_again_17 : decode cX1_again 17 = .ok (.iconst 1, 1) := by decide +kernel
theorem dX1_again_18 : decode cX1_again 18 = .ok (.iand, 1) := by decide +kernel
theorem dX1_again_19 : decode cX1_again 19 = .ok (.ifCond .ne 6, 3) := by decide +kernel
theorem dX1_again_22 : decode cX1_again 22 = .ok (.bipush (-3), 2) := by decide +kernel
theorem dX1_again_24 : decode cX1_again 24 = .ok (.ireturn, 1) := by decide +kernel
theorem dX1_again_25 : decode cX1_again 25 = .ok (.aload_n 0, 1) := by decide +kernel
theorem dX1_again_26 : decode cX1_again 26 = .ok (.getfield 10, 3) := by decide +kernel
theorem dX1_again_29 : decode cX1_again 29 = .ok (.aload_n 0, 1) := by decide +kernel
theorem dX1_again_30 : decode cX1_again 30 = .ok (.getfield 27, 3) := by decide +kernel
theorem dX1_again_33 : decode cX1_again 33 = .ok (.iload_n 1, 1) := by decide +kernel
theorem dX1_again_34 : decode cX1_again 34 = .ok (.aaload, 1) := by decide +kernel
theorem dX1_again_35 : decode cX1_again 35 = .ok (.invokevirtual 60, 3) := by decide +kernel
theorem dX1_again_38 : decode cX1_again 38 = .ok (.aload_n 0, 1) := by decide +kernel
theorem dX1_again_39 : decode cX1_again 39 = .ok (.iconst 0, 1) := by decide +kernel
theorem dX1_again_40 : decode cX1_again 40 = .ok (.putfield 23, 3) := by decide +kernel
theorem dX1_again_43 : decode cX1_again 43 = .ok (.aload_n 0, 1) := by decide +kernel
theorem dX1_again_44 : decode cX1_again 44 = .ok (.getfield 10, 3) := by decide +kernel
theorem dX1_again_47 : decode cX1_again 47 = .ok (.getfield 64, 3) := by decide +kernel
theorem dX1_again_50 : decode cX1_again 50 = .ok (.ireturn, 1) := by decide +kernel
theorem dX1_isMember_0 : decode cX1_isMember 0 = .ok (.iload_n 0, 1) := by decide +kernel
theorem dX1_isMember_1 : decode cX1_isMember 1 = .ok (.ifCond .lt 13, 3) := by decide +kernel
theorem dX1_isMember_4 : decode cX1_isMember 4 = .ok (.iload_n 0, 1) := by decide +kernel
theorem dX1_isMember_5 : decode cX1_isMember 5 = .ok (.bipush 6, 2) := by decide +kernel
theorem dX1_isMember_7 : decode cX1_isMember 7 = .ok (.if_icmp .ge 7, 3) := by decide +kernel
theorem dX1_isMember_10 : decode cX1_isMember 10 = .ok (.iconst 1, 1) := by decide +kernel
theorem dX1_isMember_11 : decode cX1_isMember 11 = .ok (.goto 4, 3) := by decide +kernel
theorem dX1_isMember_14 : decode cX1_isMember 14 = .ok (.iconst 0, 1) := by decide +kernel
theorem dX1_isMember_15 : decode cX1_isMember 15 = .ok (.ireturn, 1) := by decide +kernel
theorem dX1_isTime_0 : decode cX1_isTime 0 = .ok (.iload_n 0, 1) := by decide +kernel
theorem dX1_isTime_1 : decode cX1_isTime 1 = .ok (.ifCond .lt 14, 3) := by decide +kernel
theorem dX1_isTime_4 : decode cX1_isTime 4 = .ok (.iload_n 0, 1) := by decide +kernel
theorem dX1_isTime_5 : decode cX1_isTime 5 = .ok (.sipush 9999, 3) := by decide +kernel
theorem dX1_isTime_8 : decode cX1_isTime 8 = .ok (.if_icmp .gt 7, 3) := by decide +kernel
theorem dX1_isTime_11 : decode cX1_isTime 11 = .ok (.iconst 1, 1) := by decide +kernel
theorem dX1_isTime_12 : decode cX1_isTime 12 = .ok (.goto 4, 3) := by decide +kernel
theorem dX1_isTime_15 : decode cX1_isTime 15 = .ok (.iconst 0, 1) := by decide +kernel
theorem dX1_isTime_16 : decode cX1_isTime 16 = .ok (.ireturn, 1) := by decide +kernel
theorem dX1_isFigure_0 : decode cX1_isFigure 0 = .ok (.iload_n 0, 1) := by decide +kernel
theorem dX1_isFigure_1 : decode cX1_isFigure 1 = .ok (.bipush 48, 2) := by decide +kernel
theorem dX1_isFigure_3 : decode cX1_isFigure 3 = .ok (.iload_n 1, 1) := by decide +kernel
theorem dX1_isFigure_4 : decode cX1_isFigure 4 = .ok (.iadd, 1) := by decide +kernel
theorem dX1_isFigure_5 : decode cX1_isFigure 5 = .ok (.if_icmp .lt 13, 3) := by decide +kernel
theorem dX1_isFigure_8 : decode cX1_isFigure 8 = .ok (.iload_n 0, 1) := by decide +kernel
theorem dX1_isFigure_9 : decode cX1_isFigure 9 = .ok (.bipush 57, 2) := by decide +kernel
theorem dX1_isFigure_11 : decode cX1_isFigure 11 = .ok (.if_icmp .gt 7, 3) := by decide +kernel
theorem dX1_isFigure_14 : decode cX1_isFigure 14 = .ok (.iconst 1, 1) := by decide +kernel
theorem dX1_isFigure_15 : decode cX1_isFigure 15 = .ok (.goto 4, 3) := by decide +kernel
theorem dX1_isFigure_18 : decode cX1_isFigure 18 = .ok (.iconst 0, 1) := by decide +kernel
theorem dX1_isFigure_19 : decode cX1_isFigure 19 = .ok (.ireturn, 1) := by decide +kernel
theorem dX1_tenTo_0 : decode cX1_tenTo 0 = .ok (.lconst 1, 1) := by decide +kernel
theorem dX1_tenTo_1 : decode cX1_tenTo 1 = .ok (.lstore_n 1, 1) := by decide +kernel
theorem dX1_tenTo_2 : decode cX1_tenTo 2 = .ok (.iconst 0, 1) := by decide +kernel
theorem dX1_tenTo_3 : decode cX1_tenTo 3 = .ok (.istore_n 3, 1) := by decide +kernel
theorem dX1_tenTo_4 : decode cX1_tenTo 4 = .ok (.iload_n 3, 1) := by decide +kernel
theorem dX1_tenTo_5 : decode cX1_tenTo 5 = .ok (.iload_n 0, 1) := by decide +kernel
theorem dX1_tenTo_6 : decode cX1_tenTo 6 = .ok (.if_icmp .ge 15, 3) := by decide +kernel
theorem dX1_tenTo_9 : decode cX1_tenTo 9 = .ok (.lload_n 1, 1) := by decide +kernel
theorem dX1_tenTo_10 : decode cX1_tenTo 10 = .ok (.ldc2_w 198, 3) := by decide +kernel
theorem dX1_tenTo_13 : decode cX1_tenTo 13 = .ok (.lmul, 1) := by decide +kernel
theorem dX1_tenTo_14 : decode cX1_tenTo 14 = .ok (.lstore_n 1, 1) := by decide +kernel
theorem dX1_tenTo_15 : decode cX1_tenTo 15 = .ok (.iinc 3 1, 3) := by decide +kernel
theorem dX1_tenTo_18 : decode cX1_tenTo 18 = .ok (.goto (-14), 3) := by decide +kernel
theorem dX1_tenTo_21 : decode cX1_tenTo 21 = .ok (.lload_n 1, 1) := by decide +kernel
theorem dX1_tenTo_22 : decode cX1_tenTo 22 = .ok (.lreturn, 1) := by decide +kernel
set_option maxRecDepth 20000 in
theorem ggX1_part_X1_tenTo : GoodIn wsX1_part wsX1_tenTo := goodIn_r _ [4, 5] (by decide +kernel) (by decide +kernel)
set_option maxRecDepth 20000 in
theorem gX1_part_X1_tenTo : GoodIn wsX1_part (va_wsS RX1 148 yX1_tenTo wsX1_tenTo) := goodIn_app (goodIn_of _ (by decide +kernel)) ggX1_part_X1_tenTo
theorem dX1_part_0 : decode cX1_part 0 = .ok (.lload_n 0, 1) := by decide +kernel
theorem dX1_part_1 : decode cX1_part 1 = .ok (.iload_n 2, 1) := by decide +kernel
theorem dX1_part_2 : decode cX1_part 2 = .ok (.iload_n 3, 1) := by decide +kernel
theorem dX1_part_3 : decode cX1_part 3 = .ok (.imul, 1) := by decide +kernel
theorem dX1_part_4 : decode cX1_part 4 = .ok (.invokestatic 148, 3) := by decide +kernel
theorem dX1_part_7 : decode cX1_part 7 = .ok (.ldiv, 1) := by decide +kernel
theorem dX1_part_8 : decode cX1_part 8 = .ok (.iload_n 3, 1) := by decide +kernel
theorem dX1_part_9 : decode cX1_part 9 = .ok (.invokestatic 148, 3) := by decide +kernel
theorem dX1_part_12 : decode cX1_part 12 = .ok (.lrem, 1) := by decide +kernel
theorem dX1_part_13 : decode cX1_part 13 = .ok (.l2i, 1) := by decide +kernel
theorem dX1_part_14 : decode cX1_part 14 = .ok (.ireturn, 1) := by decide +kernel
theorem dX1_greatestDivisor_0 : decode cX1_greatestDivisor 0 = .ok (.iload_n 0, 1) := by decide +kernel
theorem dX1_greatestDivisor_1 : decode cX1_greatestDivisor 1 = .ok (.istore_n 2, 1) := by decide +kernel
theorem dX1_greatestDivisor_2 : decode cX1_greatestDivisor 2 = .ok (.iload_n 1, 1) := by decide +kernel
theorem dX1_greatestDivisor_3 : decode cX1_greatestDivisor 3 = .ok (.istore_n 3, 1) := by decide +kernel
theorem dX1_greatestDivisor_4 : decode cX1_greatestDivisor 4 = .ok (.iconst 0, 1) := by decide +kernel
theorem dX1_greatestDivisor_5 : decode cX1_greatestDivisor 5 = .ok (.istore 4, 2) := by decide +kernel
theorem dX1_greatestDivisor_7 : decode cX1_greatestDivisor 7 = .ok (.iload 4, 2) := by decide +kernel
theorem dX1_greatestDivisor_9 : decode cX1_greatestDivisor 9 = .ok (.bipush 64, 2) := by decide +kernel
theorem dX1_greatestDivisor_11 : decode cX1_greatestDivisor 11 = .ok (.if_icmp .ge 23, 3) := by decide +kernel
theorem dX1_greatestDivisor_14 : decode cX1_greatestDivisor 14 = .ok (.iload_n 3, 1) := by decide +kernel
theorem dX1_greatestDivisor_15 : decode cX1_greatestDivisor 15 = .ok (.ifCond .eq 19, 3) := by decide +kernel
theorem dX1_greatestDivisor_18 : decode cX1_greatestDivisor 18 = .ok (.iload_n 2, 1) := by decide +kernel
theorem dX1_greatestDivisor_19 : decode cX1_greatestDivisor 19 = .ok (.iload_n 3, 1) := by decide +kernel
theorem dX1_greatestDivisor_20 : decode cX1_greatestDivisor 20 = .ok (.irem, 1) := by decide +kernel
theorem dX1_greatestDivisor_21 : decode cX1_greatestDivisor 21 = .ok (.istore 5, 2) := by decide +kernel
theorem dX1_greatestDivisor_23 : decode cX1_greatestDivisor 23 = .ok (.iload_n 3, 1) := by decide +kernel
theorem dX1_greatestDivisor_24 : decode cX1_greatestDivisor 24 = .ok (.istore_n 2, 1) := by decide +kernel
theorem dX1_greatestDivisor_25 : decode cX1_greatestDivisor 25 = .ok (.iload 5, 2) := by decide +kernel
theorem dX1_greatestDivisor_27 : decode cX1_greatestDivisor 27 = .ok (.istore_n 3, 1) := by decide +kernel
theorem dX1_greatestDivisor_28 : decode cX1_greatestDivisor 28 = .ok (.iinc 4 1, 3) := by decide +kernel
theorem dX1_greatestDivisor_31 : decode cX1_greatestDivisor 31 = .ok (.goto (-24), 3) := by decide +kernel
theorem dX1_greatestDivisor_34 : decode cX1_greatestDivisor 34 = .ok (.iconst 1, 1) := by decide +kernel
theorem dX1_greatestDivisor_35 : decode cX1_greatestDivisor 35 = .ok (.iload_n 2, 1) := by decide +kernel
theorem dX1_greatestDivisor_36 : decode cX1_greatestDivisor 36 = .ok (.invokestatic 143, 3) := by decide +kernel
theorem dX1_greatestDivisor_39 : decode cX1_greatestDivisor 39 = .ok (.ireturn, 1) := by decide +kernel
set_option maxRecDepth 20000 in
theorem ggX1_fraction_X1_greatestDivisor : GoodIn wsX1_fraction wsX1_greatestDivisor := goodIn_r _ [8, 9, 10, 3, 11] (by decide +kernel) (by decide +kernel)
set_option maxRecDepth 20000 in
theorem gX1_fraction_X1_greatestDivisor : GoodIn wsX1_fraction (va_wsS RX1 200 yX1_greatestDivisor wsX1_greatestDivisor) := goodIn_app (goodIn_of _ (by decide +kernel)) ggX1_fraction_X1_greatestDivisor
theorem dX1_fraction_0 : decode cX1_fraction 0 = .ok (.iload_n 0, 1) := by decide +kernel
theorem dX1_fraction_1 : decode cX1_fraction 1 = .ok (.invokestatic 156, 3) := by decide +kernel
theorem dX1_fraction_4 : decode cX1_fraction 4 = .ok (.iload_n 1, 1) := by decide +kernel
theorem dX1_fraction_5 : decode cX1_fraction 5 = .ok (.invokestatic 200, 3) := by decide +kernel
theorem dX1_fraction_8 : decode cX1_fraction 8 = .ok (.istore_n 3, 1) := by decide +kernel
theorem dX1_fraction_9 : decode cX1_fraction 9 = .ok (.iload_n 2, 1) := by decide +kernel
theorem dX1_fraction_10 : decode cX1_fraction 10 = .ok (.ifCond .eq 9, 3) := by decide +kernel
theorem dX1_fraction_13 : decode cX1_fraction 13 = .ok (.iload_n 0, 1) := by decide +kernel
theorem dX1_fraction_14 : decode cX1_fraction 14 = .ok (.iload_n 3, 1) := by decide +kernel
theorem dX1_fraction_15 : decode cX1_fraction 15 = .ok (.idiv, 1) := by decide +kernel
theorem dX1_fraction_16 : decode cX1_fraction 16 = .ok (.goto 6, 3) := by decide +kernel
theorem dX1_fraction_19 : decode cX1_fraction 19 = .ok (.iload_n 1, 1) := by decide +kernel
theorem dX1_fraction_20 : decode cX1_fraction 20 = .ok (.iload_n 3, 1) := by decide +kernel
theorem dX1_fraction_21 : decode cX1_fraction 21 = .ok (.idiv, 1) := by decide +kernel
theorem dX1_fraction_22 : decode cX1_fraction 22 = .ok (.ireturn, 1) := by decide +kernel
theorem dX1_likelihood_0 : decode cX1_likelihood 0 = .ok (.iconst 1, 1) := by decide +kernel
theorem dX1_likelihood_1 : decode cX1_likelihood 1 = .ok (.istore_n 2, 1) := by decide +kernel
theorem dX1_likelihood_2 : decode cX1_likelihood 2 = .ok (.iconst 0, 1) := by decide +kernel
theorem dX1_likelihood_3 : decode cX1_likelihood 3 = .ok (.istore_n 3, 1) := by decide +kernel
theorem dX1_likelihood_4 : decode cX1_likelihood 4 = .ok (.iload_n 3, 1) := by decide +kernel
theorem dX1_likelihood_5 : decode cX1_likelihood 5 = .ok (.bipush 6, 2) := by decide +kernel
theorem dX1_likelihood_7 : decode cX1_likelihood 7 = .ok (.if_icmp .ge 28, 3) := by decide +kernel
theorem dX1_likelihood_10 : decode cX1_likelihood 10 = .ok (.iload_n 2, 1) := by decide +kernel
theorem dX1_likelihood_11 : decode cX1_likelihood 11 = .ok (.iload_n 0, 1) := by decide +kernel
theorem dX1_likelihood_12 : decode cX1_likelihood 12 = .ok (.iload_n 3, 1) := by decide +kernel
theorem dX1_likelihood_13 : decode cX1_likelihood 13 = .ok (.ishr, 1) := by decide +kernel
theorem dX1_likelihood_14 : decode cX1_likelihood 14 = .ok (.iconst 1, 1) := by decide +kernel
theorem dX1_likelihood_15 : decode cX1_likelihood 15 = .ok (.iand, 1) := by decide +kernel
theorem dX1_likelihood_16 : decode cX1_likelihood 16 = .ok (.ifCond .ne 7, 3) := by decide +kernel
theorem dX1_likelihood_19 : decode cX1_likelihood 19 = .ok (.iload_n 1, 1) := by decide +kernel
theorem dX1_likelihood_20 : decode cX1_likelihood 20 = .ok (.goto 7, 3) := by decide +kernel
theorem dX1_likelihood_23 : decode cX1_likelihood 23 = .ok (.bipush 10, 2) := by decide +kernel
theorem dX1_likelihood_25 : decode cX1_likelihood 25 = .ok (.iload_n 1, 1) := by decide +kernel
theorem dX1_likelihood_26 : decode cX1_likelihood 26 = .ok (.isub, 1) := by decide +kernel
theorem dX1_likelihood_27 : decode cX1_likelihood 27 = .ok (.imul, 1) := by decide +kernel
theorem dX1_likelihood_28 : decode cX1_likelihood 28 = .ok (.istore_n 2, 1) := by decide +kernel
theorem dX1_likelihood_29 : decode cX1_likelihood 29 = .ok (.iinc 3 1, 3) := by decide +kernel
theorem dX1_likelihood_32 : decode cX1_likelihood 32 = .ok (.goto (-28), 3) := by decide +kernel
theorem dX1_likelihood_35 : decode cX1_likelihood 35 = .ok (.iload_n 2, 1) := by decide +kernel
theorem dX1_likelihood_36 : decode cX1_likelihood 36 = .ok (.ireturn, 1) := by decide +kernel
set_option maxRecDepth 20000 in
theorem ggX1_remember_X0_takeFrom : GoodIn wsX1_remember wsX0_takeFrom := goodIn_r _ [8, 9, 10, 11, 12, 13, 14, 15, 16, 17, 18, 19, 20, 21, 22, 23, 24, 25, 26, 40, 41, 42, 43, 44, 45, 46, 47, 48, 49, 50, 51, 52, 53] (by decide +kernel) (by decide +kernel)
set_option maxRecDepth 20000 in
theorem gX1_remember_X0_takeFrom : GoodIn wsX1_remember (wsV RX1 60 RX0 yX0_takeFrom wsX0_takeFrom) := goodIn_app (goodIn_of _ (by decide +kernel)) ggX1_remember_X0_takeFrom
theorem dX1_remember_0 : decode cX1_remember 0 = .ok (.aload_n 0, 1) := by decide +kernel
theorem dX1_remember_1 : decode cX1_remember 1 = .ok (.getfield 23, 3) := by decide +kernel
theorem dX1_remember_4 : decode cX1_remember 4 = .ok (.bipush 14, 2) := by decide +kernel
theorem dX1_remember_6 : decode cX1_remember 6 = .ok (.if_icmp .lt 52, 3) := by decide +kernel
theorem dX1_remember_9 : decode cX1_remember 9 = .ok (.aload_n 0, 1) := by decide +kernel
theorem dX1_remember_10 : decode cX1_remember 10 = .ok (.getfield 19, 3) := by decide +kernel
theorem dX1_remember_13 : decode cX1_remember 13 = .ok (.iconst 0, 1) := by decide +kernel
theorem dX1_remember_14 : decode cX1_remember 14 = .ok (.aaload, 1) := by decide +kernel
theorem dX1_remember_15 : decode cX1_remember 15 = .ok (.astore_n 1, 1) := by decide +kernel
theorem dX1_remember_16 : decode cX1_remember 16 = .ok (.iconst 1, 1) := by decide +kernel
theorem dX1_remember_17 : decode cX1_remember 17 = .ok (.istore_n 2, 1) := by decide +kernel
theorem dX1_remember_18 : decode cX1_remember 18 = .ok (.iload_n 2, 1) := by decide +kernel
theorem dX1_remember_19 : decode cX1_remember 19 = .ok (.bipush 14, 2) := by decide +kernel
theorem dX1_remember_21 : decode cX1_remember 21 = .ok (.if_icmp .ge 23, 3) := by decide +kernel
theorem dX1_remember_24 : decode cX1_remember 24 = .ok (.aload_n 0, 1) := by decide +kernel
theorem dX1_remember_25 : decode cX1_remember 25 = .ok (.getfield 19, 3) := by decide +kernel
theorem dX1_remember_28 : decode cX1_remember 28 = .ok (.iload_n 2, 1) := by decide +kernel
theorem dX1_remember_29 : decode cX1_remember 29 = .ok (.iconst 1, 1) := by decide +kernel
theorem dX1_remember_30 : decode cX1_remember 30 = .ok (.isub, 1) := by decide +kernel
theorem dX1_remember_31 : decode cX1_remember 31 = .ok (.aload_n 0, 1) := by decide +kernel
theorem dX1_remember_32 : decode cX1_remember 32 = .ok (.getfield 19, 3) := by decide +kernel
theorem dX1_remember_35 : decode cX1_remember 35 = .ok (.iload_n 2, 1) := by decide +kernel
theorem dX1_remember_36 : decode cX1_remember 36 = .ok (.aaload, 1) := by decide +kernel
theorem dX1_remember_37 : decode cX1_remember 37 = .ok (.aastore, 1) := by decide +kernel
theorem dX1_remember_38 : decode cX1_remember 38 = .ok (.iinc 2 1, 3) := by decide +kernel
theorem dX1_remember_41 : decode cX1_remember 41 = .ok (.goto (-23), 3) := by decide +kernel
theorem dX1_remember_44 : decode cX1_remember 44 = .ok (.aload_n 0, 1) := by decide +kernel
theorem dX1_remember_45 : decode cX1_remember 45 = .ok (.getfield 19, 3) := by decide +kernel
theorem dX1_remember_48 : decode cX1_remember 48 = .ok (.bipush 13, 2) := by decide +kernel
theorem dX1_remember_50 : decode cX1_remember 50 = .ok (.aload_n 1, 1) := by decide +kernel
theorem dX1_remember_51 : decode cX1_remember 51 = .ok (.aastore, 1) := by decide +kernel
theorem dX1_remember_52 : decode cX1_remember 52 = .ok (.aload_n 0, 1) := by decide +kernel
theorem dX1_remember_53 : decode cX1_remember 53 = .ok (.bipush 13, 2) := by decide +kernel
theorem dX1_remember_55 : decode cX1_remember 55 = .ok (.putfield 23, 3) := by decide +kernel
theorem dX1_remember_58 : decode cX1_remember 58 = .ok (.aload_n 0, 1) := by decide +kernel
theorem dX1_remember_59 : decode cX1_remember 59 = .ok (.getfield 19, 3) := by decide +kernel
theorem dX1_remember_62 : decode cX1_remember 62 = .ok (.aload_n 0, 1) := by decide +kernel
theorem dX1_remember_63 : decode cX1_remember 63 = .ok (.getfield 23, 3) := by decide +kernel
theorem dX1_remember_66 : decode cX1_remember 66 = .ok (.aaload, 1) := by decide +kernel
theorem dX1_remember_67 : decode cX1_remember 67 = .ok (.aload_n 0, 1) := by decide +kernel
theorem dX1_remember_68 : decode cX1_remember 68 = .ok (.getfield 10, 3) := by decide +kernel
theorem dX1_remember_71 : decode cX1_remember 71 = .ok (.invokevirtual 60, 3) := by decide +kernel
theorem dX1_remember_74 : decode cX1_remember 74 = .ok (.aload_n 0, 1) := by decide +kernel
theorem dX1_remember_75 : decode cX1_remember 75 = .ok (.dup, 1) := by decide +kernel
theorem dX1_remember_76 : decode cX1_remember 76 = .ok (.getfield 23, 3) := by decide +kernel
theorem dX1_remember_79 : decode cX1_remember 79 = .ok (.iconst 1, 1) := by decide +kernel
theorem dX1_remember_80 : decode cX1_remember 80 = .ok (.iadd, 1) := by decide +kernel
theorem dX1_remember_81 : decode cX1_remember 81 = .ok (.putfield 23, 3) := by decide +kernel
theorem dX1_remember_84 : decode cX1_remember 84 = .ok (.return_, 1) := by decide +kernel
set_option maxRecDepth 20000 in
theorem ggX1_readText_X1_readHead : GoodIn wsX1_readText wsX1_readHead := goodIn_r _ [8, 1, 2, 3, 9, 10, 11, 12, 13, 14, 7, 15, 16, 17, 18, 19, 20, 21, 22, 23, 24, 25, 26, 27, 28, 29, 30, 31, 32, 33, 125, 126, 127, 128, 129, 130, 131, 132, 133, 134, 135, 136, 137, 138, 139, 140, 141, 142, 143, 144, 145, 146, 147, 148, 149, 150, 151] (by decide +kernel) (by decide +kernel)
set_option maxRecDepth 20000 in
theorem gX1_readText_X1_readHead : GoodIn wsX1_readText (wsV RX1 203 RX1 yX1_readHead wsX1_readHead) := goodIn_app (goodIn_of _ (by decide +kernel)) ggX1_readText_X1_readHead
set_option maxRecDepth 20000 in
theorem ggX1_readText_X0_enter : GoodIn wsX1_readText wsX0_enter := goodIn_r _ [37, 29, 38, 7, 39, 40, 41, 42, 19, 43, 31, 21, 32, 44, 45, 46, 47, 48, 49, 50, 51, 52, 53, 54, 55, 56, 57, 58, 59, 60, 138, 139, 140, 141, 142, 143, 144, 145, 146, 147, 148, 149, 150, 151] (by decide +kernel) (by decide +kernel)
set_option maxRecDepth 20000 in
theorem gX1_readText_X0_enter : GoodIn wsX1_readText (wsV RX1 127 RX0 yX0_enter wsX0_enter) := goodIn_app (goodIn_of _ (by decide +kernel)) ggX1_readText_X0_enter
set_option maxRecDepth 20000 in
theorem ggX1_readText_X0_depart : GoodIn wsX1_readText wsX0_depart := goodIn_r _ [64, 29, 33, 38, 7, 39, 65, 66, 67, 19, 68, 30, 69, 70, 71, 72, 73, 74, 75, 76, 77, 78, 79, 23, 25, 26, 27, 28, 31, 32, 80, 81, 82, 83, 84, 85, 86, 87, 24, 88, 89, 90, 91, 21, 50, 51, 52, 53, 92, 93, 94, 95, 40, 41, 42, 43, 44, 45, 46, 47, 48, 49, 54, 55, 56, 57, 58, 59, 60, 138, 139, 140, 141, 142, 143, 144, 145, 146, 147, 148, 149, 150, 151] (by decide +kernel) (by decide +kernel)
set_option maxRecDepth 20000 in
theorem gX1_readText_X0_depart : GoodIn wsX1_readText (wsV RX1 130 RX0 yX0_depart wsX0_depart) := goodIn_app (goodIn_of _ (by decide +kernel)) ggX1_readText_X0_depart
set_option maxRecDepth 20000 in
theorem ggX1_readText_X1_isFigure : GoodIn wsX1_readText wsX1_isFigure := goodIn_r _ [15] (by decide +kernel) (by decide +kernel)
set_option maxRecDepth 20000 in
theorem gX1_readText_X1_isFigure : GoodIn wsX1_readText (va_wsS RX1 206 yX1_isFigure wsX1_isFigure) := goodIn_app (goodIn_of _ (by decide +kernel)) ggX1_readText_X1_isFigure
set_option maxRecDepth 20000 in
theorem ggX1_readText_X0_run : GoodIn wsX1_readText wsX0_run := goodIn_r _ [99, 21, 29, 32, 30, 100, 101, 102, 19, 103, 22, 23, 104, 105, 106, 107, 33, 31, 65, 66, 67, 68, 69, 70, 71, 72, 73, 74, 75, 44, 45, 46, 47, 48, 49, 50, 51, 52, 53, 54, 55, 56, 57, 58, 59, 60, 76, 77, 78, 79, 25, 26, 27, 28, 80, 81, 82, 83, 84, 85, 86, 87, 24, 88, 89, 90, 91, 92, 93, 94, 95, 108, 109, 110, 111, 112, 113, 114, 115, 116, 138, 139, 140, 141, 142, 143, 144, 145, 146, 147, 148, 149, 150, 151] (by decide +kernel) (by decide +kernel)
set_option maxRecDepth 20000 in
theorem gX1_readText_X0_run : GoodIn wsX1_readText (wsV RX1 133 RX0 yX0_run wsX0_run) := goodIn_app (goodIn_of _ (by decide +kernel)) ggX1_readText_X0_run
set_option maxRecDepth 20000 in
theorem ggX1_readText_X1_canBegin : GoodIn wsX1_readText wsX1_canBegin := goodIn_r _ [120, 3, 121, 122, 123, 19, 124, 29, 125, 126, 127, 128, 129, 130, 131, 132, 133, 134, 135, 136, 137, 138, 139, 140, 141, 142, 143, 144, 145, 146, 147, 148, 149, 150, 151] (by decide +kernel) (by decide +kernel)
set_option maxRecDepth 20000 in
theorem gX1_readText_X1_canBegin : GoodIn wsX1_readText (wsV RX1 209 RX1 yX1_canBegin wsX1_canBegin) := goodIn_app (goodIn_of _ (by decide +kernel)) ggX1_readText_X1_canBegin
theorem dX1_readText_0 : decode cX1_readText 0 = .ok (.aload_n 0, 1) := by decide +kernel
theorem dX1_readText_1 : decode cX1_readText 1 = .ok (.invokevirtual 203, 3) := by decide +kernel
theorem dX1_readText_4 : decode cX1_readText 4 = .ok (.istore_n 1, 1) := by decide +kernel
theorem dX1_readText_5 : decode cX1_readText 5 = .ok (.iload_n 1, 1) := by decide +kernel
theorem dX1_readText_6 : decode cX1_readText 6 = .ok (.bipush (-9), 2) := by decide +kernel
theorem dX1_readText_8 : decode cX1_readText 8 = .ok (.if_icmp .eq 5, 3) := by decide +kernel
theorem dX1_readText_11 : decode cX1_readText 11 = .ok (.iload_n 1, 1) := by decide +kernel
theorem dX1_readText_12 : decode cX1_readText 12 = .ok (.ireturn, 1) := by decide +kernel
theorem dX1_readText_13 : decode cX1_readText 13 = .ok (.iconst 0, 1) := by decide +kernel
theorem dX1_readText_14 : decode cX1_readText 14 = .ok (.istore_n 2, 1) := by decide +kernel
theorem dX1_readText_15 : decode cX1_readText 15 = .ok (.bipush 7, 2) := by decide +kernel
theorem dX1_readText_17 : decode cX1_readText 17 = .ok (.istore_n 3, 1) := by decide +kernel
theorem dX1_readText_18 : decode cX1_readText 18 = .ok (.iload_n 3, 1) := by decide +kernel
theorem dX1_readText_19 : decode cX1_readText 19 = .ok (.aload_n 0, 1) := by decide +kernel
theorem dX1_readText_20 : decode cX1_readText 20 = .ok (.getfield 37, 3) := by decide +kernel
theorem dX1_readText_23 : decode cX1_readText 23 = .ok (.if_icmp .ge 111, 3) := by decide +kernel
theorem dX1_readText_26 : decode cX1_readText 26 = .ok (.aload_n 0, 1) := by decide +kernel
theorem dX1_readText_27 : decode cX1_readText 27 = .ok (.getfield 33, 3) := by decide +kernel
theorem dX1_readText_30 : decode cX1_readText 30 = .ok (.iload_n 3, 1) := by decide +kernel
theorem dX1_readText_31 : decode cX1_readText 31 = .ok (.iaload, 1) := by decide +kernel
theorem dX1_readText_32 : decode cX1_readText 32 = .ok (.istore 4, 2) := by decide +kernel
theorem dX1_readText_34 : decode cX1_readText 34 = .ok (.iload_n 2, 1) := by decide +kernel
theorem dX1_readText_35 : decode cX1_readText 35 = .ok (.ifCond .eq 51, 3) := by decide +kernel
theorem dX1_readText_38 : decode cX1_readText 38 = .ok (.iload 4, 2) := by decide +kernel
theorem dX1_readText_40 : decode cX1_readText 40 = .ok (.bipush 48, 2) := by decide +kernel
theorem dX1_readText_42 : decode cX1_readText 42 = .ok (.isub, 1) := by decide +kernel
theorem dX1_readText_43 : decode cX1_readText 43 = .ok (.istore 5, 2) := by decide +kernel
theorem dX1_readText_45 : decode cX1_readText 45 = .ok (.iload_n 2, 1) := by decide +kernel
theorem dX1_readText_46 : decode cX1_readText 46 = .ok (.bipush 106, 2) := by decide +kernel
theorem dX1_readText_48 : decode cX1_readText 48 = .ok (.if_icmp .ne 15, 3) := by decide +kernel
theorem dX1_readText_51 : decode cX1_readText 51 = .ok (.aload_n 0, 1) := by decide +kernel
theorem dX1_readText_52 : decode cX1_readText 52 = .ok (.getfield 16, 3) := by decide +kernel
theorem dX1_readText_55 : decode cX1_readText 55 = .ok (.iload 5, 2) := by decide +kernel
theorem dX1_readText_57 : decode cX1_readText 57 = .ok (.invokevirtual 127, 3) := by decide +kernel
theorem dX1_readText_60 : decode cX1_readText 60 = .ok (.goto 12, 3) := by decide +kernel
theorem dX1_readText_63 : decode cX1_readText 63 = .ok (.aload_n 0, 1) := by decide +kernel
theorem dX1_readText_64 : decode cX1_readText 64 = .ok (.getfield 16, 3) := by decide +kernel
theorem dX1_readText_67 : decode cX1_readText 67 = .ok (.iload 5, 2) := by decide +kernel
theorem dX1_readText_69 : decode cX1_readText 69 = .ok (.invokevirtual 130, 3) := by decide +kernel
theorem dX1_readText_72 : decode cX1_readText 72 = .ok (.istore 6, 2) := by decide +kernel
theorem dX1_readText_74 : decode cX1_readText 74 = .ok (.iload 6, 2) := by decide +kernel
theorem dX1_readText_76 : decode cX1_readText 76 = .ok (.ifCond .ne 5, 3) := by decide +kernel
theorem dX1_readText_79 : decode cX1_readText 79 = .ok (.iload_n 3, 1) := by decide +kernel
theorem dX1_readText_80 : decode cX1_readText 80 = .ok (.ireturn, 1) := by decide +kernel
theorem dX1_readText_81 : decode cX1_readText 81 = .ok (.iconst 0, 1) := by decide +kernel
theorem dX1_readText_82 : decode cX1_readText 82 = .ok (.istore_n 2, 1) := by decide +kernel
theorem dX1_readText_83 : decode cX1_readText 83 = .ok (.goto 45, 3) := by decide +kernel
theorem dX1_readText_86 : decode cX1_readText 86 = .ok (.iload 4, 2) := by decide +kernel
theorem dX1_readText_88 : decode cX1_readText 88 = .ok (.iconst 1, 1) := by decide +kernel
theorem dX1_readText_89 : decode cX1_readText 89 = .ok (.invokestatic 206, 3) := by decide +kernel
theorem dX1_readText_92 : decode cX1_readText 92 = .ok (.ifCond .eq 19, 3) := by decide +kernel
theorem dX1_readText_95 : decode cX1_readText 95 = .ok (.aload_n 0, 1) := by decide +kernel
theorem dX1_readText_96 : decode cX1_readText 96 = .ok (.getfield 16, 3) := by decide +kernel
theorem dX1_readText_99 : decode cX1_readText 99 = .ok (.iload 4, 2) := by decide +kernel
theorem dX1_readText_101 : decode cX1_readText 101 = .ok (.bipush 48, 2) := by decide +kernel
theorem dX1_readText_103 : decode cX1_readText 103 = .ok (.isub, 1) := by decide +kernel
theorem dX1_readText_104 : decode cX1_readText 104 = .ok (.invokevirtual 133, 3) := by decide +kernel
theorem dX1_readText_107 : decode cX1_readText 107 = .ok (.pop, 1) := by decide +kernel
theorem dX1_readText_108 : decode cX1_readText 108 = .ok (.goto 20, 3) := by decide +kernel
theorem dX1_readText_111 : decode cX1_readText 111 = .ok (.aload_n 0, 1) := by decide +kernel
theorem dX1_readText_112 : decode cX1_readText 112 = .ok (.iload 4, 2) := by decide +kernel
theorem dX1_readText_114 : decode cX1_readText 114 = .ok (.invokevirtual 209, 3) := by decide +kernel
theorem dX1_readText_117 : decode cX1_readText 117 = .ok (.ifCond .eq 9, 3) := by decide +kernel
theorem dX1_readText_120 : decode cX1_readText 120 = .ok (.iload 4, 2) := by decide +kernel
theorem dX1_readText_122 : decode cX1_readText 122 = .ok (.istore_n 2, 1) := by decide +kernel
theorem dX1_readText_123 : decode cX1_readText 123 = .ok (.goto 5, 3) := by decide +kernel
theorem dX1_readText_126 : decode cX1_readText 126 = .ok (.iload_n 3, 1) := by decide +kernel
theorem dX1_readText_127 : decode cX1_readText 127 = .ok (.ireturn, 1) := by decide +kernel
theorem dX1_readText_128 : decode cX1_readText 128 = .ok (.iinc 3 1, 3) := by decide +kernel
theorem dX1_readText_131 : decode cX1_readText 131 = .ok (.goto (-113), 3) := by decide +kernel
theorem dX1_readText_134 : decode cX1_readText 134 = .ok (.iload_n 2, 1) := by decide +kernel
theorem dX1_readText_135 : decode cX1_readText 135 = .ok (.ifCond .ne 8, 3) := by decide +kernel
theorem dX1_readText_138 : decode cX1_readText 138 = .ok (.bipush (-9), 2) := by decide +kernel
theorem dX1_readText_140 : decode cX1_readText 140 = .ok (.goto 7, 3) := by decide +kernel
theorem dX1_readText_143 : decode cX1_readText 143 = .ok (.aload_n 0, 1) := by decide +kernel
theorem dX1_readText_144 : decode cX1_readText 144 = .ok (.getfield 37, 3) := by decide +kernel
theorem dX1_readText_147 : decode cX1_readText 147 = .ok (.ireturn, 1) := by decide +kernel
set_option maxRecDepth 20000 in
theorem ggX1_readHead_X1_isFigure : GoodIn wsX1_readHead wsX1_isFigure := goodIn_r _ [11] (by decide +kernel) (by decide +kernel)
set_option maxRecDepth 20000 in
theorem gX1_readHead_X1_isFigure : GoodIn wsX1_readHead (va_wsS RX1 206 yX1_isFigure wsX1_isFigure) := goodIn_app (goodIn_of _ (by decide +kernel)) ggX1_readHead_X1_isFigure
set_option maxRecDepth 20000 in
theorem ggX1_readHead_X0_restart : GoodIn wsX1_readHead wsX0_restart := goodIn_r _ [16, 17, 18, 19, 20, 21, 22, 23, 15, 24, 25, 26, 27, 28, 29, 43, 44, 45, 46, 47, 48, 49, 50, 51, 52, 53, 54, 55, 56] (by decide +kernel) (by decide +kernel)
set_option maxRecDepth 20000 in
theorem gX1_readHead_X0_restart : GoodIn wsX1_readHead (wsV RX1 212 RX0 yX0_restart wsX0_restart) := goodIn_app (goodIn_of _ (by decide +kernel)) ggX1_readHead_X0_restart
theorem dX1_readHead_0 : decode cX1_readHead 0 = .ok (.iconst 0, 1) := by decide +kernel
theorem dX1_readHead_1 : decode cX1_readHead 1 = .ok (.istore_n 1, 1) := by decide +kernel
theorem dX1_readHead_2 : decode cX1_readHead 2 = .ok (.iload_n 1, 1) := by decide +kernel
theorem dX1_readHead_3 : decode cX1_readHead 3 = .ok (.bipush 7, 2) := by decide +kernel
theorem dX1_readHead_5 : decode cX1_readHead 5 = .ok (.if_icmp .ge 71, 3) := by decide +kernel
theorem dX1_readHead_8 : decode cX1_readHead 8 = .ok (.iload_n 1, 1) := by decide +kernel
theorem dX1_readHead_9 : decode cX1_readHead 9 = .ok (.aload_n 0, 1) := by decide +kernel
theorem dX1_readHead_10 : decode cX1_readHead 10 = .ok (.getfield 37, 3) := by decide +kernel
theorem dX1_readHead_13 : decode cX1_readHead 13 = .ok (.if_icmp .lt 8, 3) := by decide +kernel
theorem dX1_readHead_16 : decode cX1_readHead 16 = .ok (.aload_n 0, 1) := by decide +kernel
theorem dX1_readHead_17 : decode cX1_readHead 17 = .ok (.getfield 37, 3) := by decide +kernel
theorem dX1_readHead_20 : decode cX1_readHead 20 = .ok (.ireturn, 1) := by decide +kernel
theorem dX1_readHead_21 : decode cX1_readHead 21 = .ok (.iload_n 1, 1) := by decide +kernel
theorem dX1_readHead_22 : decode cX1_readHead 22 = .ok (.ifCond .ne 22, 3) := by decide +kernel
theorem dX1_readHead_25 : decode cX1_readHead 25 = .ok (.aload_n 0, 1) := by decide +kernel
theorem dX1_readHead_26 : decode cX1_readHead 26 = .ok (.getfield 33, 3) := by decide +kernel
theorem dX1_readHead_29 : decode cX1_readHead 29 = .ok (.iconst 0, 1) := by decide +kernel
theorem dX1_readHead_30 : decode cX1_readHead 30 = .ok (.iaload, 1) := by decide +kernel
theorem dX1_readHead_31 : decode cX1_readHead 31 = .ok (.bipush 77, 2) := by decide +kernel
theorem dX1_readHead_33 : decode cX1_readHead 33 = .ok (.if_icmp .ne 7, 3) := by decide +kernel
theorem dX1_readHead_36 : decode cX1_readHead 36 = .ok (.iconst 1, 1) := by decide +kernel
theorem dX1_readHead_37 : decode cX1_readHead 37 = .ok (.goto 26, 3) := by decide +kernel
theorem dX1_readHead_40 : decode cX1_readHead 40 = .ok (.iconst 0, 1) := by decide +kernel
theorem dX1_readHead_41 : decode cX1_readHead 41 = .ok (.goto 22, 3) := by decide +kernel
theorem dX1_readHead_44 : decode cX1_readHead 44 = .ok (.aload_n 0, 1) := by decide +kernel
theorem dX1_readHead_45 : decode cX1_readHead 45 = .ok (.getfield 33, 3) := by decide +kernel
theorem dX1_readHead_48 : decode cX1_readHead 48 = .ok (.iload_n 1, 1) := by decide +kernel
theorem dX1_readHead_49 : decode cX1_readHead 49 = .ok (.iaload, 1) := by decide +kernel
theorem dX1_readHead_50 : decode cX1_readHead 50 = .ok (.iload_n 1, 1) := by decide +kernel
theorem dX1_readHead_51 : decode cX1_readHead 51 = .ok (.iconst 4, 1) := by decide +kernel
theorem dX1_readHead_52 : decode cX1_readHead 52 = .ok (.if_icmp .ge 7, 3) := by decide +kernel
theorem dX1_readHead_55 : decode cX1_readHead 55 = .ok (.iconst 1, 1) := by decide +kernel
theorem dX1_readHead_56 : decode cX1_readHead 56 = .ok (.goto 4, 3) := by decide +kernel
theorem dX1_readHead_59 : decode cX1_readHead 59 = .ok (.iconst 0, 1) := by decide +kernel
theorem dX1_readHead_60 : decode cX1_readHead 60 = .ok (.invokestatic 206, 3) := by decide +kernel
theorem dX1_readHead_63 : decode cX1_readHead 63 = .ok (.istore_n 2, 1) := by decide +kernel
theorem dX1_readHead_64 : decode cX1_readHead 64 = .ok (.iload_n 2, 1) := by decide +kernel
theorem dX1_readHead_65 : decode cX1_readHead 65 = .ok (.ifCond .ne 5, 3) := by decide +kernel
theorem dX1_readHead_68 : decode cX1_readHead 68 = .ok (.iload_n 1, 1) := by decide +kernel
theorem dX1_readHead_69 : decode cX1_readHead 69 = .ok (.ireturn, 1) := by decide +kernel
theorem dX1_readHead_70 : decode cX1_readHead 70 = .ok (.iinc 1 1, 3) := by decide +kernel
theorem dX1_readHead_73 : decode cX1_readHead 73 = .ok (.goto (-71), 3) := by decide +kernel
theorem dX1_readHead_76 : decode cX1_readHead 76 = .ok (.aload_n 0, 1) := by decide +kernel
theorem dX1_readHead_77 : decode cX1_readHead 77 = .ok (.getfield 16, 3) := by decide +kernel
theorem dX1_readHead_80 : decode cX1_readHead 80 = .ok (.invokevirtual 212, 3) := by decide +kernel
theorem dX1_readHead_83 : decode cX1_readHead 83 = .ok (.aload_n 0, 1) := by decide +kernel
theorem dX1_readHead_84 : decode cX1_readHead 84 = .ok (.getfield 16, 3) := by decide +kernel
theorem dX1_readHead_87 : decode cX1_readHead 87 = .ok (.aload_n 0, 1) := by decide +kernel
theorem dX1_readHead_88 : decode cX1_readHead 88 = .ok (.getfield 33, 3) := by decide +kernel
theorem dX1_readHead_91 : decode cX1_readHead 91 = .ok (.iconst 1, 1) := by decide +kernel
theorem dX1_readHead_92 : decode cX1_readHead 92 = .ok (.iaload, 1) := by decide +kernel
theorem dX1_readHead_93 : decode cX1_readHead 93 = .ok (.bipush 48, 2) := by decide +kernel
theorem dX1_readHead_95 : decode cX1_readHead 95 = .ok (.isub, 1) := by decide +kernel
theorem dX1_readHead_96 : decode cX1_readHead 96 = .ok (.putfield 67, 3) := by decide +kernel
theorem dX1_readHead_99 : decode cX1_readHead 99 = .ok (.aload_n 0, 1) := by decide +kernel
theorem dX1_readHead_100 : decode cX1_readHead 100 = .ok (.getfield 16, 3) := by decide +kernel
theorem dX1_readHead_103 : decode cX1_readHead 103 = .ok (.aload_n 0, 1) := by decide +kernel
theorem dX1_readHead_104 : decode cX1_readHead 104 = .ok (.getfield 33, 3) := by decide +kernel
theorem dX1_readHead_107 : decode cX1_readHead 107 = .ok (.iconst 2, 1) := by decide +kernel
theorem dX1_readHead_108 : decode cX1_readHead 108 = .ok (.iaload, 1) := by decide +kernel
theorem dX1_readHead_109 : decode cX1_readHead 109 = .ok (.bipush 48, 2) := by decide +kernel
theorem dX1_readHead_111 : decode cX1_readHead 111 = .ok (.isub, 1) := by decide +kernel
theorem dX1_readHead_112 : decode cX1_readHead 112 = .ok (.putfield 70, 3) := by decide +kernel
theorem dX1_readHead_115 : decode cX1_readHead 115 = .ok (.aload_n 0, 1) := by decide +kernel
theorem dX1_readHead_116 : decode cX1_readHead 116 = .ok (.getfield 16, 3) := by decide +kernel
theorem dX1_readHead_119 : decode cX1_readHead 119 = .ok (.aload_n 0, 1) := by decide +kernel
theorem dX1_readHead_120 : decode cX1_readHead 120 = .ok (.getfield 33, 3) := by decide +kernel
theorem dX1_readHead_123 : decode cX1_readHead 123 = .ok (.iconst 3, 1) := by decide +kernel
theorem dX1_readHead_124 : decode cX1_readHead 124 = .ok (.iaload, 1) := by decide +kernel
theorem dX1_readHead_125 : decode cX1_readHead 125 = .ok (.bipush 48, 2) := by decide +kernel
theorem dX1_readHead_127 : decode cX1_readHead 127 = .ok (.isub, 1) := by decide +kernel
theorem dX1_readHead_128 : decode cX1_readHead 128 = .ok (.putfield 73, 3) := by decide +kernel
theorem dX1_readHead_131 : decode cX1_readHead 131 = .ok (.aload_n 0, 1) := by decide +kernel
theorem dX1_readHead_132 : decode cX1_readHead 132 = .ok (.getfield 16, 3) := by decide +kernel
theorem dX1_readHead_135 : decode cX1_readHead 135 = .ok (.aload_n 0, 1) := by decide +kernel
theorem dX1_readHead_136 : decode cX1_readHead 136 = .ok (.getfield 33, 3) := by decide +kernel
theorem dX1_readHead_139 : decode cX1_readHead 139 = .ok (.iconst 4, 1) := by decide +kernel
theorem dX1_readHead_140 : decode cX1_readHead 140 = .ok (.iaload, 1) := by decide +kernel
theorem dX1_readHead_141 : decode cX1_readHead 141 = .ok (.bipush 48, 2) := by decide +kernel
theorem dX1_readHead_143 : decode cX1_readHead 143 = .ok (.isub, 1) := by decide +kernel
theorem dX1_readHead_144 : decode cX1_readHead 144 = .ok (.bipush 100, 2) := by decide +kernel
theorem dX1_readHead_146 : decode cX1_readHead 146 = .ok (.imul, 1) := by decide +kernel
theorem dX1_readHead_147 : decode cX1_readHead 147 = .ok (.aload_n 0, 1) := by decide +kernel
theorem dX1_readHead_148 : decode cX1_readHead 148 = .ok (.getfield 33, 3) := by decide +kernel
theorem dX1_readHead_151 : decode cX1_readHead 151 = .ok (.iconst 5, 1) := by decide +kernel
theorem dX1_readHead_152 : decode cX1_readHead 152 = .ok (.iaload, 1) := by decide +kernel
theorem dX1_readHead_153 : decode cX1_readHead 153 = .ok (.bipush 48, 2) := by decide +kernel
theorem dX1_readHead_155 : decode cX1_readHead 155 = .ok (.isub, 1) := by decide +kernel
theorem dX1_readHead_156 : decode cX1_readHead 156 = .ok (.bipush 10, 2) := by decide +kernel
theorem dX1_readHead_158 : decode cX1_readHead 158 = .ok (.imul, 1) := by decide +kernel
theorem dX1_readHead_159 : decode cX1_readHead 159 = .ok (.iadd, 1) := by decide +kernel
theorem dX1_readHead_160 : decode cX1_readHead 160 = .ok (.aload_n 0, 1) := by decide +kernel
theorem dX1_readHead_161 : decode cX1_readHead 161 = .ok (.getfield 33, 3) := by decide +kernel
theorem dX1_readHead_164 : decode cX1_readHead 164 = .ok (.bipush 6, 2) := by decide +kernel
theorem dX1_readHead_166 : decode cX1_readHead 166 = .ok (.iaload, 1) := by decide +kernel
theorem dX1_readHead_167 : decode cX1_readHead 167 = .ok (.bipush 48, 2) := by decide +kernel
theorem dX1_readHead_169 : decode cX1_readHead 169 = .ok (.isub, 1) := by decide +kernel
theorem dX1_readHead_170 : decode cX1_readHead 170 = .ok (.iadd, 1) := by decide +kernel
theorem dX1_readHead_171 : decode cX1_readHead 171 = .ok (.putfield 76, 3) := by decide +kernel
theorem dX1_readHead_174 : decode cX1_readHead 174 = .ok (.bipush (-9), 2) := by decide +kernel
theorem dX1_readHead_176 : decode cX1_readHead 176 = .ok (.ireturn, 1) := by decide +kernel
set_option maxRecDepth 20000 in
theorem ggX1_canBegin_X0_bitsOf : GoodIn wsX1_canBegin wsX0_bitsOf := goodIn_r _ [6, 7, 21, 22, 23, 24, 25, 26, 27, 28, 29, 30, 31, 32, 33, 34] (by decide +kernel) (by decide +kernel)
set_option maxRecDepth 20000 in
theorem gX1_canBegin_X0_bitsOf : GoodIn wsX1_canBegin (wsV RX1 85 RX0 yX0_bitsOf wsX0_bitsOf) := goodIn_app (goodIn_of _ (by decide +kernel)) ggX1_canBegin_X0_bitsOf
theorem dX1_canBegin_0 : decode cX1_canBegin 0 = .ok (.iload_n 1, 1) := by decide +kernel
theorem dX1_canBegin_1 : decode cX1_canBegin 1 = .ok (.bipush 106, 2) := by decide +kernel
theorem dX1_canBegin_3 : decode cX1_canBegin 3 = .ok (.if_icmp .ne 14, 3) := by decide +kernel
theorem dX1_canBegin_6 : decode cX1_canBegin 6 = .ok (.aload_n 0, 1) := by decide +kernel
theorem dX1_canBegin_7 : decode cX1_canBegin 7 = .ok (.getfield 16, 3) := by decide +kernel
theorem dX1_canBegin_10 : decode cX1_canBegin 10 = .ok (.iconst 0, 1) := by decide +kernel
theorem dX1_canBegin_11 : decode cX1_canBegin 11 = .ok (.invokevirtual 85, 3) := by decide +kernel
theorem dX1_canBegin_14 : decode cX1_canBegin 14 = .ok (.ifCond .ne 20, 3) := by decide +kernel
theorem dX1_canBegin_17 : decode cX1_canBegin 17 = .ok (.iload_n 1, 1) := by decide +kernel
theorem dX1_canBegin_18 : decode cX1_canBegin 18 = .ok (.bipush 108, 2) := by decide +kernel
theorem dX1_canBegin_20 : decode cX1_canBegin 20 = .ok (.if_icmp .ne 18, 3) := by decide +kernel
theorem dX1_canBegin_23 : decode cX1_canBegin 23 = .ok (.aload_n 0, 1) := by decide +kernel
theorem dX1_canBegin_24 : decode cX1_canBegin 24 = .ok (.getfield 16, 3) := by decide +kernel
theorem dX1_canBegin_27 : decode cX1_canBegin 27 = .ok (.iconst 1, 1) := by decide +kernel
theorem dX1_canBegin_28 : decode cX1_canBegin 28 = .ok (.invokevirtual 85, 3) := by decide +kernel
theorem dX1_canBegin_31 : decode cX1_canBegin 31 = .ok (.ifCond .eq 7, 3) := by decide +kernel
theorem dX1_canBegin_34 : decode cX1_canBegin 34 = .ok (.iconst 1, 1) := by decide +kernel
theorem dX1_canBegin_35 : decode cX1_canBegin 35 = .ok (.goto 4, 3) := by decide +kernel
theorem dX1_canBegin_38 : decode cX1_canBegin 38 = .ok (.iconst 0, 1) := by decide +kernel
theorem dX1_canBegin_39 : decode cX1_canBegin 39 = .ok (.ireturn, 1) := by decide +kernel
set_option maxRecDepth 20000 in
theorem ggX1_restAt_X0_takeFrom : GoodIn wsX1_restAt wsX0_takeFrom := goodIn_r _ [7, 8, 9, 10, 11, 12, 13, 14, 15, 16, 17, 18, 19, 20, 21, 22, 23, 24, 25, 115, 116, 117, 118, 119, 120, 121, 122, 123, 124, 125, 126, 127, 128] (by decide +kernel) (by decide +kernel)
set_option maxRecDepth 20000 in
theorem gX1_restAt_X0_takeFrom : GoodIn wsX1_restAt (wsV RX1 60 RX0 yX0_takeFrom wsX0_takeFrom) := goodIn_app (goodIn_of _ (by decide +kernel)) ggX1_restAt_X0_takeFrom
set_option maxRecDepth 20000 in
theorem ggX1_restAt_X0_isAtRest : GoodIn wsX1_restAt wsX0_isAtRest := goodIn_r _ [29, 15, 20, 30, 31, 32, 6, 33, 115, 116, 117, 118, 119, 120, 121, 122, 123, 124, 125, 126, 127, 128] (by decide +kernel) (by decide +kernel)
set_option maxRecDepth 20000 in
theorem gX1_restAt_X0_isAtRest : GoodIn wsX1_restAt (wsV RX1 215 RX0 yX0_isAtRest wsX0_isAtRest) := goodIn_app (goodIn_of _ (by decide +kernel)) ggX1_restAt_X0_isAtRest
set_option maxRecDepth 20000 in
theorem ggX1_restAt_X0_run : GoodIn wsX1_restAt wsX0_run := goodIn_r _ [37, 11, 15, 22, 20, 38, 39, 40, 6, 41, 13, 14, 42, 43, 44, 45, 23, 21, 46, 47, 48, 49, 50, 51, 52, 53, 54, 55, 56, 57, 58, 59, 60, 12, 61, 62, 63, 64, 65, 66, 67, 68, 69, 9, 10, 8, 70, 71, 72, 73, 74, 75, 76, 77, 78, 79, 80, 81, 82, 83, 84, 85, 24, 86, 87, 88, 89, 90, 91, 92, 93, 94, 95, 96, 97, 25, 98, 99, 100, 101, 115, 116, 117, 118, 119, 120, 121, 122, 123, 124, 125, 126, 127, 128] (by decide +kernel) (by decide +kernel)
set_option maxRecDepth 20000 in
theorem gX1_restAt_X0_run : GoodIn wsX1_restAt (wsV RX1 133 RX0 yX0_run wsX0_run) := goodIn_app (goodIn_of _ (by decide +kernel)) ggX1_restAt_X0_run
theorem dX1_restAt_0 : decode cX1_restAt 0 = .ok (.aload_n 0, 1) := by decide +kernel
theorem dX1_restAt_1 : decode cX1_restAt 1 = .ok (.getfield 16, 3) := by decide +kernel
theorem dX1_restAt_4 : decode cX1_restAt 4 = .ok (.aload_n 0, 1) := by decide +kernel
theorem dX1_restAt_5 : decode cX1_restAt 5 = .ok (.getfield 10, 3) := by decide +kernel
theorem dX1_restAt_8 : decode cX1_restAt 8 = .ok (.invokevirtual 60, 3) := by decide +kernel
theorem dX1_restAt_11 : decode cX1_restAt 11 = .ok (.iconst 0, 1) := by decide +kernel
theorem dX1_restAt_12 : decode cX1_restAt 12 = .ok (.istore_n 1, 1) := by decide +kernel
theorem dX1_restAt_13 : decode cX1_restAt 13 = .ok (.iload_n 1, 1) := by decide +kernel
theorem dX1_restAt_14 : decode cX1_restAt 14 = .ok (.bipush 99, 2) := by decide +kernel
theorem dX1_restAt_16 : decode cX1_restAt 16 = .ok (.if_icmp .gt 30, 3) := by decide +kernel
theorem dX1_restAt_19 : decode cX1_restAt 19 = .ok (.aload_n 0, 1) := by decide +kernel
theorem dX1_restAt_20 : decode cX1_restAt 20 = .ok (.getfield 16, 3) := by decide +kernel
theorem dX1_restAt_23 : decode cX1_restAt 23 = .ok (.invokevirtual 215, 3) := by decide +kernel
theorem dX1_restAt_26 : decode cX1_restAt 26 = .ok (.ifCond .eq 5, 3) := by decide +kernel
theorem dX1_restAt_29 : decode cX1_restAt 29 = .ok (.iload_n 1, 1) := by decide +kernel
theorem dX1_restAt_30 : decode cX1_restAt 30 = .ok (.ireturn, 1) := by decide +kernel
theorem dX1_restAt_31 : decode cX1_restAt 31 = .ok (.aload_n 0, 1) := by decide +kernel
theorem dX1_restAt_32 : decode cX1_restAt 32 = .ok (.getfield 16, 3) := by decide +kernel
theorem dX1_restAt_35 : decode cX1_restAt 35 = .ok (.iconst 1, 1) := by decide +kernel
theorem dX1_restAt_36 : decode cX1_restAt 36 = .ok (.invokevirtual 133, 3) := by decide +kernel
theorem dX1_restAt_39 : decode cX1_restAt 39 = .ok (.pop, 1) := by decide +kernel
theorem dX1_restAt_40 : decode cX1_restAt 40 = .ok (.iinc 1 1, 3) := by decide +kernel
theorem dX1_restAt_43 : decode cX1_restAt 43 = .ok (.goto (-30), 3) := by decide +kernel
theorem dX1_restAt_46 : decode cX1_restAt 46 = .ok (.bipush (-9), 2) := by decide +kernel
theorem dX1_restAt_48 : decode cX1_restAt 48 = .ok (.ireturn, 1) := by decide +kernel
set_option maxRecDepth 20000 in
theorem ggX1_canBe_X0_enter : GoodIn wsX1_canBe wsX0_enter := goodIn_r _ [7, 8, 9, 10, 11, 12, 13, 14, 6, 15, 16, 17, 18, 19, 20, 21, 22, 23, 24, 25, 26, 27, 28, 29, 30, 31, 32, 33, 34, 35, 124, 125, 126, 127, 128, 129, 130, 131, 132, 133, 134, 135, 136, 137] (by decide +kernel) (by decide +kernel)
set_option maxRecDepth 20000 in
theorem gX1_canBe_X0_enter : GoodIn wsX1_canBe (wsV RX1 127 RX0 yX0_enter wsX0_enter) := goodIn_app (goodIn_of _ (by decide +kernel)) ggX1_canBe_X0_enter
set_option maxRecDepth 20000 in
theorem ggX1_canBe_X0_depart : GoodIn wsX1_canBe wsX0_depart := goodIn_r _ [39, 8, 40, 9, 10, 11, 41, 42, 43, 6, 44, 45, 46, 47, 48, 49, 50, 51, 52, 53, 54, 55, 56, 57, 58, 59, 60, 61, 16, 18, 62, 63, 64, 65, 66, 67, 68, 69, 70, 71, 72, 73, 74, 17, 25, 26, 27, 28, 75, 76, 77, 78, 12, 13, 14, 15, 19, 20, 21, 22, 23, 24, 29, 30, 31, 32, 33, 34, 35, 124, 125, 126, 127, 128, 129, 130, 131, 132, 133, 134, 135, 136, 137] (by decide +kernel) (by decide +kernel)
set_option maxRecDepth 20000 in
theorem gX1_canBe_X0_depart : GoodIn wsX1_canBe (wsV RX1 130 RX0 yX0_depart wsX0_depart) := goodIn_app (goodIn_of _ (by decide +kernel)) ggX1_canBe_X0_depart
set_option maxRecDepth 20000 in
theorem ggX1_canBe_X0_run : GoodIn wsX1_canBe wsX0_run := goodIn_r _ [82, 17, 8, 18, 45, 83, 84, 85, 6, 86, 87, 57, 88, 89, 90, 91, 40, 16, 41, 42, 43, 44, 46, 47, 48, 49, 50, 51, 52, 19, 20, 21, 22, 23, 24, 25, 26, 27, 28, 29, 30, 31, 32, 33, 34, 35, 53, 54, 55, 56, 58, 59, 60, 61, 62, 63, 64, 65, 66, 67, 68, 69, 70, 71, 72, 73, 74, 75, 76, 77, 78, 92, 93, 94, 95, 96, 97, 98, 99, 100, 124, 125, 126, 127, 128, 129, 130, 131, 132, 133, 134, 135, 136, 137] (by decide +kernel) (by decide +kernel)
set_option maxRecDepth 20000 in
theorem gX1_canBe_X0_run : GoodIn wsX1_canBe (wsV RX1 133 RX0 yX0_run wsX0_run) := goodIn_app (goodIn_of _ (by decide +kernel)) ggX1_canBe_X0_run
set_option maxRecDepth 20000 in
theorem ggX1_canBe_X1_isMember : GoodIn wsX1_canBe wsX1_isMember := goodIn_r _ [11] (by decide +kernel) (by decide +kernel)
set_option maxRecDepth 20000 in
theorem gX1_canBe_X1_isMember : GoodIn wsX1_canBe (va_wsS RX1 92 yX1_isMember wsX1_isMember) := goodIn_app (goodIn_of _ (by decide +kernel)) ggX1_canBe_X1_isMember
set_option maxRecDepth 20000 in
theorem ggX1_canBe_X0_knows : GoodIn wsX1_canBe wsX0_knows := goodIn_r _ [78, 45, 124, 125, 126, 127, 128, 129, 130, 131, 132, 133, 134, 135, 136, 137] (by decide +kernel) (by decide +kernel)
set_option maxRecDepth 20000 in
theorem gX1_canBe_X0_knows : GoodIn wsX1_canBe (wsV RX1 114 RX0 yX0_knows wsX0_knows) := goodIn_app (goodIn_of _ (by decide +kernel)) ggX1_canBe_X0_knows
set_option maxRecDepth 20000 in
theorem ggX1_canBe_X0_countTold : GoodIn wsX1_canBe wsX0_countTold := goodIn_r _ [106, 8, 41, 42, 43, 6, 44, 45, 46, 47, 48, 49, 50, 51, 52, 124, 125, 126, 127, 128, 129, 130, 131, 132, 133, 134, 135, 136, 137] (by decide +kernel) (by decide +kernel)
set_option maxRecDepth 20000 in
theorem gX1_canBe_X0_countTold : GoodIn wsX1_canBe (wsV RX1 102 RX0 yX0_countTold wsX0_countTold) := goodIn_app (goodIn_of _ (by decide +kernel)) ggX1_canBe_X0_countTold
set_option maxRecDepth 20000 in
theorem ggX1_canBe_X0_turnWay : GoodIn wsX1_canBe wsX0_turnWay := goodIn_r _ [110, 70, 124, 125, 126, 127, 128, 129, 130, 131, 132, 133, 134, 135, 136, 137] (by decide +kernel) (by decide +kernel)
set_option maxRecDepth 20000 in
theorem gX1_canBe_X0_turnWay : GoodIn wsX1_canBe (wsV RX1 136 RX0 yX0_turnWay wsX0_turnWay) := goodIn_app (goodIn_of _ (by decide +kernel)) ggX1_canBe_X0_turnWay
theorem dX1_canBe_0 : decode cX1_canBe 0 = .ok (.iload_n 1, 1) := by decide +kernel
theorem dX1_canBe_1 : decode cX1_canBe 1 = .ok (.bipush 10, 2) := by decide +kernel
theorem dX1_canBe_3 : decode cX1_canBe 3 = .ok (.idiv, 1) := by decide +kernel
theorem dX1_canBe_4 : decode cX1_canBe 4 = .ok (.bipush 10, 2) := by decide +kernel
theorem dX1_canBe_6 : decode cX1_canBe 6 = .ok (.irem, 1) := by decide +kernel
theorem dX1_canBe_7 : decode cX1_canBe 7 = .ok (.istore_n 2, 1) := by decide +kernel
theorem dX1_canBe_8 : decode cX1_canBe 8 = .ok (.iload_n 1, 1) := by decide +kernel
theorem dX1_canBe_9 : decode cX1_canBe 9 = .ok (.bipush 10, 2) := by decide +kernel
theorem dX1_canBe_11 : decode cX1_canBe 11 = .ok (.irem, 1) := by decide +kernel
theorem dX1_canBe_12 : decode cX1_canBe 12 = .ok (.istore_n 3, 1) := by decide +kernel
theorem dX1_canBe_13 : decode cX1_canBe 13 = .ok (.iload_n 1, 1) := by decide +kernel
theorem dX1_canBe_14 : decode cX1_canBe 14 = .ok (.bipush 100, 2) := by decide +kernel
theorem dX1_canBe_16 : decode cX1_canBe 16 = .ok (.irem, 1) := by decide +kernel
theorem dX1_canBe_17 : decode cX1_canBe 17 = .ok (.istore 4, 2) := by decide +kernel
theorem dX1_canBe_19 : decode cX1_canBe 19 = .ok (.iload_n 1, 1) := by decide +kernel
theorem dX1_canBe_20 : decode cX1_canBe 20 = .ok (.bipush 100, 2) := by decide +kernel
theorem dX1_canBe_22 : decode cX1_canBe 22 = .ok (.idiv, 1) := by decide +kernel
theorem dX1_canBe_23 : decode cX1_canBe 23 = .ok (.tableswitch 229 1 7 #[41, 62, 83, 114, 140, 172, 197], 41) := by decide +kernel
theorem dX1_canBe_64 : decode cX1_canBe 64 = .ok (.iload_n 2, 1) := by decide +kernel
theorem dX1_canBe_65 : decode cX1_canBe 65 = .ok (.ifCond .ne 18, 3) := by decide +kernel
theorem dX1_canBe_68 : decode cX1_canBe 68 = .ok (.aload_n 0, 1) := by decide +kernel
theorem dX1_canBe_69 : decode cX1_canBe 69 = .ok (.getfield 16, 3) := by decide +kernel
theorem dX1_canBe_72 : decode cX1_canBe 72 = .ok (.iload_n 3, 1) := by decide +kernel
theorem dX1_canBe_73 : decode cX1_canBe 73 = .ok (.invokevirtual 127, 3) := by decide +kernel
theorem dX1_canBe_76 : decode cX1_canBe 76 = .ok (.ifCond .eq 7, 3) := by decide +kernel
theorem dX1_canBe_79 : decode cX1_canBe 79 = .ok (.iconst 1, 1) := by decide +kernel
theorem dX1_canBe_80 : decode cX1_canBe 80 = .ok (.goto 4, 3) := by decide +kernel
theorem dX1_canBe_83 : decode cX1_canBe 83 = .ok (.iconst 0, 1) := by decide +kernel
theorem dX1_canBe_84 : decode cX1_canBe 84 = .ok (.ireturn, 1) := by decide +kernel
theorem dX1_canBe_85 : decode cX1_canBe 85 = .ok (.iload_n 2, 1) := by decide +kernel
theorem dX1_canBe_86 : decode cX1_canBe 86 = .ok (.ifCond .ne 18, 3) := by decide +kernel
theorem dX1_canBe_89 : decode cX1_canBe 89 = .ok (.aload_n 0, 1) := by decide +kernel
theorem dX1_canBe_90 : decode cX1_canBe 90 = .ok (.getfield 16, 3) := by decide +kernel
theorem dX1_canBe_93 : decode cX1_canBe 93 = .ok (.iload_n 3, 1) := by decide +kernel
theorem dX1_canBe_94 : decode cX1_canBe 94 = .ok (.invokevirtual 130, 3) := by decide +kernel
theorem dX1_canBe_97 : decode cX1_canBe 97 = .ok (.ifCond .eq 7, 3) := by decide +kernel
theorem dX1_canBe_100 : decode cX1_canBe 100 = .ok (.iconst 1, 1) := by decide +kernel
theorem dX1_canBe_101 : decode cX1_canBe 101 = .ok (.goto 4, 3) := by decide +kernel
theorem dX1_canBe_104 : decode cX1_canBe 104 = .ok (.iconst 0, 1) := by decide +kernel
theorem dX1_canBe_105 : decode cX1_canBe 105 = .ok (.ireturn, 1) := by decide +kernel
theorem dX1_canBe_106 : decode cX1_canBe 106 = .ok (.iload 4, 2) := by decide +kernel
theorem dX1_canBe_108 : decode cX1_canBe 108 = .ok (.iconst 1, 1) := by decide +kernel
theorem dX1_canBe_109 : decode cX1_canBe 109 = .ok (.if_icmp .lt 26, 3) := by decide +kernel
theorem dX1_canBe_112 : decode cX1_canBe 112 = .ok (.iload 4, 2) := by decide +kernel
theorem dX1_canBe_114 : decode cX1_canBe 114 = .ok (.bipush 30, 2) := by decide +kernel
theorem dX1_canBe_116 : decode cX1_canBe 116 = .ok (.if_icmp .gt 19, 3) := by decide +kernel
theorem dX1_canBe_119 : decode cX1_canBe 119 = .ok (.aload_n 0, 1) := by decide +kernel
theorem dX1_canBe_120 : decode cX1_canBe 120 = .ok (.getfield 16, 3) := by decide +kernel
theorem dX1_canBe_123 : decode cX1_canBe 123 = .ok (.iload 4, 2) := by decide +kernel
theorem dX1_canBe_125 : decode cX1_canBe 125 = .ok (.invokevirtual 133, 3) := by decide +kernel
theorem dX1_canBe_128 : decode cX1_canBe 128 = .ok (.ifCond .lt 7, 3) := by decide +kernel
theorem dX1_canBe_131 : decode cX1_canBe 131 = .ok (.iconst 1, 1) := by decide +kernel
theorem dX1_canBe_132 : decode cX1_canBe 132 = .ok (.goto 4, 3) := by decide +kernel
theorem dX1_canBe_135 : decode cX1_canBe 135 = .ok (.iconst 0, 1) := by decide +kernel
theorem dX1_canBe_136 : decode cX1_canBe 136 = .ok (.ireturn, 1) := by decide +kernel
theorem dX1_canBe_137 : decode cX1_canBe 137 = .ok (.iload_n 2, 1) := by decide +kernel
theorem dX1_canBe_138 : decode cX1_canBe 138 = .ok (.invokestatic 92, 3) := by decide +kernel
theorem dX1_canBe_141 : decode cX1_canBe 141 = .ok (.ifCond .eq 20, 3) := by decide +kernel
theorem dX1_canBe_144 : decode cX1_canBe 144 = .ok (.aload_n 0, 1) := by decide +kernel
theorem dX1_canBe_145 : decode cX1_canBe 145 = .ok (.getfield 16, 3) := by decide +kernel
theorem dX1_canBe_148 : decode cX1_canBe 148 = .ok (.getfield 96, 3) := by decide +kernel
theorem dX1_canBe_151 : decode cX1_canBe 151 = .ok (.iload_n 2, 1) := by decide +kernel
theorem dX1_canBe_152 : decode cX1_canBe 152 = .ok (.iaload, 1) := by decide +kernel
theorem dX1_canBe_153 : decode cX1_canBe 153 = .ok (.iload_n 3, 1) := by decide +kernel
theorem dX1_canBe_154 : decode cX1_canBe 154 = .ok (.if_icmp .ne 7, 3) := by decide +kernel
theorem dX1_canBe_157 : decode cX1_canBe 157 = .ok (.iconst 1, 1) := by decide +kernel
theorem dX1_canBe_158 : decode cX1_canBe 158 = .ok (.goto 4, 3) := by decide +kernel
theorem dX1_canBe_161 : decode cX1_canBe 161 = .ok (.iconst 0, 1) := by decide +kernel
theorem dX1_canBe_162 : decode cX1_canBe 162 = .ok (.ireturn, 1) := by decide +kernel
theorem dX1_canBe_163 : decode cX1_canBe 163 = .ok (.iload_n 2, 1) := by decide +kernel
theorem dX1_canBe_164 : decode cX1_canBe 164 = .ok (.invokestatic 92, 3) := by decide +kernel
theorem dX1_canBe_167 : decode cX1_canBe 167 = .ok (.ifCond .eq 26, 3) := by decide +kernel
theorem dX1_canBe_170 : decode cX1_canBe 170 = .ok (.iload_n 3, 1) := by decide +kernel
theorem dX1_canBe_171 : decode cX1_canBe 171 = .ok (.invokestatic 92, 3) := by decide +kernel
theorem dX1_canBe_174 : decode cX1_canBe 174 = .ok (.ifCond .eq 19, 3) := by decide +kernel
theorem dX1_canBe_177 : decode cX1_canBe 177 = .ok (.aload_n 0, 1) := by decide +kernel
theorem dX1_canBe_178 : decode cX1_canBe 178 = .ok (.getfield 16, 3) := by decide +kernel
theorem dX1_canBe_181 : decode cX1_canBe 181 = .ok (.iload_n 2, 1) := by decide +kernel
theorem dX1_canBe_182 : decode cX1_canBe 182 = .ok (.iload_n 3, 1) := by decide +kernel
theorem dX1_canBe_183 : decode cX1_canBe 183 = .ok (.invokevirtual 114, 3) := by decide +kernel
theorem dX1_canBe_186 : decode cX1_canBe 186 = .ok (.ifCond .eq 7, 3) := by decide +kernel
theorem dX1_canBe_189 : decode cX1_canBe 189 = .ok (.iconst 1, 1) := by decide +kernel
theorem dX1_canBe_190 : decode cX1_canBe 190 = .ok (.goto 4, 3) := by decide +kernel
theorem dX1_canBe_193 : decode cX1_canBe 193 = .ok (.iconst 0, 1) := by decide +kernel
theorem dX1_canBe_194 : decode cX1_canBe 194 = .ok (.ireturn, 1) := by decide +kernel
theorem dX1_canBe_195 : decode cX1_canBe 195 = .ok (.iload_n 2, 1) := by decide +kernel
theorem dX1_canBe_196 : decode cX1_canBe 196 = .ok (.invokestatic 92, 3) := by decide +kernel
theorem dX1_canBe_199 : decode cX1_canBe 199 = .ok (.ifCond .eq 19, 3) := by decide +kernel
theorem dX1_canBe_202 : decode cX1_canBe 202 = .ok (.aload_n 0, 1) := by decide +kernel
theorem dX1_canBe_203 : decode cX1_canBe 203 = .ok (.getfield 16, 3) := by decide +kernel
theorem dX1_canBe_206 : decode cX1_canBe 206 = .ok (.iload_n 2, 1) := by decide +kernel
theorem dX1_canBe_207 : decode cX1_canBe 207 = .ok (.invokevirtual 102, 3) := by decide +kernel
theorem dX1_canBe_210 : decode cX1_canBe 210 = .ok (.iload_n 3, 1) := by decide +kernel
theorem dX1_canBe_211 : decode cX1_canBe 211 = .ok (.if_icmp .ne 7, 3) := by decide +kernel
theorem dX1_canBe_214 : decode cX1_canBe 214 = .ok (.iconst 1, 1) := by decide +kernel
theorem dX1_canBe_215 : decode cX1_canBe 215 = .ok (.goto 4, 3) := by decide +kernel
theorem dX1_canBe_218 : decode cX1_canBe 218 = .ok (.iconst 0, 1) := by decide +kernel
theorem dX1_canBe_219 : decode cX1_canBe 219 = .ok (.ireturn, 1) := by decide +kernel
theorem dX1_canBe_220 : decode cX1_canBe 220 = .ok (.iload_n 2, 1) := by decide +kernel
theorem dX1_canBe_221 : decode cX1_canBe 221 = .ok (.invokestatic 92, 3) := by decide +kernel
theorem dX1_canBe_224 : decode cX1_canBe 224 = .ok (.ifCond .eq 26, 3) := by decide +kernel
theorem dX1_canBe_227 : decode cX1_canBe 227 = .ok (.iload_n 3, 1) := by decide +kernel
theorem dX1_canBe_228 : decode cX1_canBe 228 = .ok (.invokestatic 92, 3) := by decide +kernel
theorem dX1_canBe_231 : decode cX1_canBe 231 = .ok (.ifCond .eq 19, 3) := by decide +kernel
theorem dX1_canBe_234 : decode cX1_canBe 234 = .ok (.aload_n 0, 1) := by decide +kernel
theorem dX1_canBe_235 : decode cX1_canBe 235 = .ok (.getfield 16, 3) := by decide +kernel
theorem dX1_canBe_238 : decode cX1_canBe 238 = .ok (.iload_n 2, 1) := by decide +kernel
theorem dX1_canBe_239 : decode cX1_canBe 239 = .ok (.iload_n 3, 1) := by decide +kernel
theorem dX1_canBe_240 : decode cX1_canBe 240 = .ok (.invokevirtual 136, 3) := by decide +kernel
theorem dX1_canBe_243 : decode cX1_canBe 243 = .ok (.ifCond .eq 7, 3) := by decide +kernel
theorem dX1_canBe_246 : decode cX1_canBe 246 = .ok (.iconst 1, 1) := by decide +kernel
theorem dX1_canBe_247 : decode cX1_canBe 247 = .ok (.goto 4, 3) := by decide +kernel
theorem dX1_canBe_250 : decode cX1_canBe 250 = .ok (.iconst 0, 1) := by decide +kernel
theorem dX1_canBe_251 : decode cX1_canBe 251 = .ok (.ireturn, 1) := by decide +kernel
theorem dX1_canBe_252 : decode cX1_canBe 252 = .ok (.iconst 0, 1) := by decide +kernel
theorem dX1_canBe_253 : decode cX1_canBe 253 = .ok (.ireturn, 1) := by decide +kernel
set_option maxRecDepth 20000 in
theorem ggX1_fitsSeen_X0_takeFrom : GoodIn wsX1_fitsSeen wsX0_takeFrom := goodIn_r _ [11, 12, 13, 14, 15, 16, 17, 18, 19, 20, 21, 22, 23, 24, 25, 26, 27, 28, 29, 111, 112, 113, 114, 115, 116, 117, 118, 119, 120, 121, 122, 123, 124] (by decide +kernel) (by decide +kernel)
set_option maxRecDepth 20000 in
theorem gX1_fitsSeen_X0_takeFrom : GoodIn wsX1_fitsSeen (wsV RX1 60 RX0 yX0_takeFrom wsX0_takeFrom) := goodIn_app (goodIn_of _ (by decide +kernel)) ggX1_fitsSeen_X0_takeFrom
set_option maxRecDepth 20000 in
theorem ggX1_fitsSeen_X0_run : GoodIn wsX1_fitsSeen wsX0_run := goodIn_r _ [33, 15, 19, 26, 24, 34, 35, 36, 10, 37, 17, 18, 38, 39, 40, 41, 27, 25, 42, 43, 44, 45, 46, 47, 48, 49, 50, 51, 52, 53, 54, 55, 56, 16, 57, 58, 59, 60, 61, 62, 63, 64, 65, 13, 14, 12, 66, 67, 68, 69, 70, 71, 72, 73, 74, 75, 76, 77, 78, 79, 80, 81, 28, 82, 83, 84, 85, 86, 87, 88, 89, 90, 91, 92, 93, 29, 94, 95, 96, 97, 111, 112, 113, 114, 115, 116, 117, 118, 119, 120, 121, 122, 123, 124] (by decide +kernel) (by decide +kernel)
set_option maxRecDepth 20000 in
theorem gX1_fitsSeen_X0_run : GoodIn wsX1_fitsSeen (wsV RX1 133 RX0 yX0_run wsX0_run) := goodIn_app (goodIn_of _ (by decide +kernel)) ggX1_fitsSeen_X0_run
theorem dX1_fitsSeen_0 : decode cX1_fitsSeen 0 = .ok (.aload_n 0, 1) := by decide +kernel
theorem dX1_fitsSeen_1 : decode cX1_fitsSeen 1 = .ok (.getfield 16, 3) := by decide +kernel
theorem dX1_fitsSeen_4 : decode cX1_fitsSeen 4 = .ok (.aload_n 0, 1) := by decide +kernel
theorem dX1_fitsSeen_5 : decode cX1_fitsSeen 5 = .ok (.getfield 10, 3) := by decide +kernel
theorem dX1_fitsSeen_8 : decode cX1_fitsSeen 8 = .ok (.invokevirtual 60, 3) := by decide +kernel
theorem dX1_fitsSeen_11 : decode cX1_fitsSeen 11 = .ok (.aload_n 0, 1) := by decide +kernel
theorem dX1_fitsSeen_12 : decode cX1_fitsSeen 12 = .ok (.getfield 16, 3) := by decide +kernel
theorem dX1_fitsSeen_15 : decode cX1_fitsSeen 15 = .ok (.iload_n 1, 1) := by decide +kernel
theorem dX1_fitsSeen_16 : decode cX1_fitsSeen 16 = .ok (.putfield 70, 3) := by decide +kernel
theorem dX1_fitsSeen_19 : decode cX1_fitsSeen 19 = .ok (.iconst 0, 1) := by decide +kernel
theorem dX1_fitsSeen_20 : decode cX1_fitsSeen 20 = .ok (.istore_n 2, 1) := by decide +kernel
theorem dX1_fitsSeen_21 : decode cX1_fitsSeen 21 = .ok (.iconst 0, 1) := by decide +kernel
theorem dX1_fitsSeen_22 : decode cX1_fitsSeen 22 = .ok (.istore_n 3, 1) := by decide +kernel
theorem dX1_fitsSeen_23 : decode cX1_fitsSeen 23 = .ok (.iload_n 3, 1) := by decide +kernel
theorem dX1_fitsSeen_24 : decode cX1_fitsSeen 24 = .ok (.bipush 60, 2) := by decide +kernel
theorem dX1_fitsSeen_26 : decode cX1_fitsSeen 26 = .ok (.if_icmp .gt 69, 3) := by decide +kernel
theorem dX1_fitsSeen_29 : decode cX1_fitsSeen 29 = .ok (.iconst 0, 1) := by decide +kernel
theorem dX1_fitsSeen_30 : decode cX1_fitsSeen 30 = .ok (.istore 4, 2) := by decide +kernel
theorem dX1_fitsSeen_32 : decode cX1_fitsSeen 32 = .ok (.iload 4, 2) := by decide +kernel
theorem dX1_fitsSeen_34 : decode cX1_fitsSeen 34 = .ok (.aload_n 0, 1) := by decide +kernel
theorem dX1_fitsSeen_35 : decode cX1_fitsSeen 35 = .ok (.getfield 46, 3) := by decide +kernel
theorem dX1_fitsSeen_38 : decode cX1_fitsSeen 38 = .ok (.if_icmp .ge 40, 3) := by decide +kernel
theorem dX1_fitsSeen_41 : decode cX1_fitsSeen 41 = .ok (.iload 4, 2) := by decide +kernel
theorem dX1_fitsSeen_43 : decode cX1_fitsSeen 43 = .ok (.bipush 6, 2) := by decide +kernel
theorem dX1_fitsSeen_45 : decode cX1_fitsSeen 45 = .ok (.if_icmp .ge 33, 3) := by decide +kernel
theorem dX1_fitsSeen_48 : decode cX1_fitsSeen 48 = .ok (.aload_n 0, 1) := by decide +kernel
theorem dX1_fitsSeen_49 : decode cX1_fitsSeen 49 = .ok (.getfield 40, 3) := by decide +kernel
theorem dX1_fitsSeen_52 : decode cX1_fitsSeen 52 = .ok (.iload 4, 2) := by decide +kernel
theorem dX1_fitsSeen_54 : decode cX1_fitsSeen 54 = .ok (.iaload, 1) := by decide +kernel
theorem dX1_fitsSeen_55 : decode cX1_fitsSeen 55 = .ok (.iload_n 3, 1) := by decide +kernel
theorem dX1_fitsSeen_56 : decode cX1_fitsSeen 56 = .ok (.if_icmp .ne 16, 3) := by decide +kernel
theorem dX1_fitsSeen_59 : decode cX1_fitsSeen 59 = .ok (.aload_n 0, 1) := by decide +kernel
theorem dX1_fitsSeen_60 : decode cX1_fitsSeen 60 = .ok (.getfield 43, 3) := by decide +kernel
theorem dX1_fitsSeen_63 : decode cX1_fitsSeen 63 = .ok (.iload 4, 2) := by decide +kernel
theorem dX1_fitsSeen_65 : decode cX1_fitsSeen 65 = .ok (.iaload, 1) := by decide +kernel
theorem dX1_fitsSeen_66 : decode cX1_fitsSeen 66 = .ok (.iload_n 2, 1) := by decide +kernel
theorem dX1_fitsSeen_67 : decode cX1_fitsSeen 67 = .ok (.if_icmp .eq 5, 3) := by decide +kernel
theorem dX1_fitsSeen_70 : decode cX1_fitsSeen 70 = .ok (.iconst 0, 1) := by decide +kernel
theorem dX1_fitsSeen_71 : decode cX1_fitsSeen 71 = .ok (.ireturn, 1) := by decide +kernel
theorem dX1_fitsSeen_72 : decode cX1_fitsSeen 72 = .ok (.iinc 4 1, 3) := by decide +kernel
theorem dX1_fitsSeen_75 : decode cX1_fitsSeen 75 = .ok (.goto (-43), 3) := by decide +kernel
theorem dX1_fitsSeen_78 : decode cX1_fitsSeen 78 = .ok (.iload_n 2, 1) := by decide +kernel
theorem dX1_fitsSeen_79 : decode cX1_fitsSeen 79 = .ok (.aload_n 0, 1) := by decide +kernel
theorem dX1_fitsSeen_80 : decode cX1_fitsSeen 80 = .ok (.getfield 16, 3) := by decide +kernel
theorem dX1_fitsSeen_83 : decode cX1_fitsSeen 83 = .ok (.iconst 1, 1) := by decide +kernel
theorem dX1_fitsSeen_84 : decode cX1_fitsSeen 84 = .ok (.invokevirtual 133, 3) := by decide +kernel
theorem dX1_fitsSeen_87 : decode cX1_fitsSeen 87 = .ok (.iadd, 1) := by decide +kernel
theorem dX1_fitsSeen_88 : decode cX1_fitsSeen 88 = .ok (.istore_n 2, 1) := by decide +kernel
theorem dX1_fitsSeen_89 : decode cX1_fitsSeen 89 = .ok (.iinc 3 1, 3) := by decide +kernel
theorem dX1_fitsSeen_92 : decode cX1_fitsSeen 92 = .ok (.goto (-69), 3) := by decide +kernel
theorem dX1_fitsSeen_95 : decode cX1_fitsSeen 95 = .ok (.iconst 1, 1) := by decide +kernel
theorem dX1_fitsSeen_96 : decode cX1_fitsSeen 96 = .ok (.ireturn, 1) := by decide +kernel
set_option maxRecDepth 20000 in
theorem ggX1_runSubsets_X0_feltBits : GoodIn wsX1_runSubsets wsX0_feltBits := goodIn_r _ [8, 9, 10, 116, 117, 118, 119, 120, 121, 122, 123, 124, 125, 126, 127, 128, 129] (by decide +kernel) (by decide +kernel)
set_option maxRecDepth 20000 in
theorem gX1_runSubsets_X0_feltBits : GoodIn wsX1_runSubsets (wsV RX1 219 RX0 yX0_feltBits wsX0_feltBits) := goodIn_app (goodIn_of _ (by decide +kernel)) ggX1_runSubsets_X0_feltBits
set_option maxRecDepth 20000 in
theorem ggX1_runSubsets_X0_takeFrom : GoodIn wsX1_runSubsets wsX0_takeFrom := goodIn_r _ [14, 15, 16, 17, 18, 19, 20, 21, 10, 22, 23, 24, 25, 9, 26, 27, 28, 29, 30, 116, 117, 118, 119, 120, 121, 122, 123, 124, 125, 126, 127, 128, 129] (by decide +kernel) (by decide +kernel)
set_option maxRecDepth 20000 in
theorem gX1_runSubsets_X0_takeFrom : GoodIn wsX1_runSubsets (wsV RX1 60 RX0 yX0_takeFrom wsX0_takeFrom) := goodIn_app (goodIn_of _ (by decide +kernel)) ggX1_runSubsets_X0_takeFrom
set_option maxRecDepth 20000 in
theorem ggX1_runSubsets_X0_leaveOnly : GoodIn wsX1_runSubsets wsX0_leaveOnly := goodIn_r _ [34, 9, 35, 36, 37, 7, 38, 10, 26, 27, 28, 116, 117, 118, 119, 120, 121, 122, 123, 124, 125, 126, 127, 128, 129] (by decide +kernel) (by decide +kernel)
set_option maxRecDepth 20000 in
theorem gX1_runSubsets_X0_leaveOnly : GoodIn wsX1_runSubsets (wsV RX1 222 RX0 yX0_leaveOnly wsX0_leaveOnly) := goodIn_app (goodIn_of _ (by decide +kernel)) ggX1_runSubsets_X0_leaveOnly
set_option maxRecDepth 20000 in
theorem ggX1_runSubsets_X0_run : GoodIn wsX1_runSubsets wsX0_run := goodIn_r _ [42, 18, 10, 27, 9, 43, 44, 45, 7, 46, 20, 21, 47, 48, 49, 50, 28, 26, 51, 52, 53, 54, 55, 56, 57, 58, 59, 60, 61, 62, 63, 64, 65, 19, 66, 67, 68, 69, 70, 71, 72, 73, 74, 16, 17, 15, 75, 76, 77, 78, 35, 36, 37, 38, 79, 80, 81, 82, 83, 84, 85, 86, 29, 87, 88, 89, 90, 91, 92, 93, 94, 95, 96, 97, 98, 30, 99, 100, 101, 102, 116, 117, 118, 119, 120, 121, 122, 123, 124, 125, 126, 127, 128, 129] (by decide +kernel) (by decide +kernel)
set_option maxRecDepth 20000 in
theorem gX1_runSubsets_X0_run : GoodIn wsX1_runSubsets (wsV RX1 133 RX0 yX0_run wsX0_run) := goodIn_app (goodIn_of _ (by decide +kernel)) ggX1_runSubsets_X0_run
theorem dX1_runSubsets_0 : decode cX1_runSubsets 0 = .ok (.aload_n 0, 1) := by decide +kernel
theorem dX1_runSubsets_1 : decode cX1_runSubsets 1 = .ok (.getfield 10, 3) := by decide +kernel
theorem dX1_runSubsets_4 : decode cX1_runSubsets 4 = .ok (.invokevirtual 219, 3) := by decide +kernel
theorem dX1_runSubsets_7 : decode cX1_runSubsets 7 = .ok (.istore_n 2, 1) := by decide +kernel
theorem dX1_runSubsets_8 : decode cX1_runSubsets 8 = .ok (.iconst 0, 1) := by decide +kernel
theorem dX1_runSubsets_9 : decode cX1_runSubsets 9 = .ok (.istore_n 3, 1) := by decide +kernel
theorem dX1_runSubsets_10 : decode cX1_runSubsets 10 = .ok (.iload_n 3, 1) := by decide +kernel
theorem dX1_runSubsets_11 : decode cX1_runSubsets 11 = .ok (.bipush 64, 2) := by decide +kernel
theorem dX1_runSubsets_13 : decode cX1_runSubsets 13 = .ok (.if_icmp .ge 69, 3) := by decide +kernel
theorem dX1_runSubsets_16 : decode cX1_runSubsets 16 = .ok (.iload_n 3, 1) := by decide +kernel
theorem dX1_runSubsets_17 : decode cX1_runSubsets 17 = .ok (.iload_n 2, 1) := by decide +kernel
theorem dX1_runSubsets_18 : decode cX1_runSubsets 18 = .ok (.iand, 1) := by decide +kernel
theorem dX1_runSubsets_19 : decode cX1_runSubsets 19 = .ok (.istore 4, 2) := by decide +kernel
theorem dX1_runSubsets_21 : decode cX1_runSubsets 21 = .ok (.iload 4, 2) := by decide +kernel
theorem dX1_runSubsets_23 : decode cX1_runSubsets 23 = .ok (.iload_n 3, 1) := by decide +kernel
theorem dX1_runSubsets_24 : decode cX1_runSubsets 24 = .ok (.if_icmp .eq 19, 3) := by decide +kernel
theorem dX1_runSubsets_27 : decode cX1_runSubsets 27 = .ok (.aload_n 0, 1) := by decide +kernel
theorem dX1_runSubsets_28 : decode cX1_runSubsets 28 = .ok (.getfield 53, 3) := by decide +kernel
theorem dX1_runSubsets_31 : decode cX1_runSubsets 31 = .ok (.iload_n 3, 1) := by decide +kernel
theorem dX1_runSubsets_32 : decode cX1_runSubsets 32 = .ok (.aload_n 0, 1) := by decide +kernel
theorem dX1_runSubsets_33 : decode cX1_runSubsets 33 = .ok (.getfield 53, 3) := by decide +kernel
theorem dX1_runSubsets_36 : decode cX1_runSubsets 36 = .ok (.iload 4, 2) := by decide +kernel
theorem dX1_runSubsets_38 : decode cX1_runSubsets 38 = .ok (.iaload, 1) := by decide +kernel
theorem dX1_runSubsets_39 : decode cX1_runSubsets 39 = .ok (.iastore, 1) := by decide +kernel
theorem dX1_runSubsets_40 : decode cX1_runSubsets 40 = .ok (.goto 36, 3) := by decide +kernel
theorem dX1_runSubsets_43 : decode cX1_runSubsets 43 = .ok (.aload_n 0, 1) := by decide +kernel
theorem dX1_runSubsets_44 : decode cX1_runSubsets 44 = .ok (.getfield 16, 3) := by decide +kernel
theorem dX1_runSubsets_47 : decode cX1_runSubsets 47 = .ok (.aload_n 0, 1) := by decide +kernel
theorem dX1_runSubsets_48 : decode cX1_runSubsets 48 = .ok (.getfield 10, 3) := by decide +kernel
theorem dX1_runSubsets_51 : decode cX1_runSubsets 51 = .ok (.invokevirtual 60, 3) := by decide +kernel
theorem dX1_runSubsets_54 : decode cX1_runSubsets 54 = .ok (.aload_n 0, 1) := by decide +kernel
theorem dX1_runSubsets_55 : decode cX1_runSubsets 55 = .ok (.getfield 16, 3) := by decide +kernel
theorem dX1_runSubsets_58 : decode cX1_runSubsets 58 = .ok (.iload_n 3, 1) := by decide +kernel
theorem dX1_runSubsets_59 : decode cX1_runSubsets 59 = .ok (.invokevirtual 222, 3) := by decide +kernel
theorem dX1_runSubsets_62 : decode cX1_runSubsets 62 = .ok (.aload_n 0, 1) := by decide +kernel
theorem dX1_runSubsets_63 : decode cX1_runSubsets 63 = .ok (.getfield 53, 3) := by decide +kernel
theorem dX1_runSubsets_66 : decode cX1_runSubsets 66 = .ok (.iload_n 3, 1) := by decide +kernel
theorem dX1_runSubsets_67 : decode cX1_runSubsets 67 = .ok (.aload_n 0, 1) := by decide +kernel
theorem dX1_runSubsets_68 : decode cX1_runSubsets 68 = .ok (.getfield 16, 3) := by decide +kernel
theorem dX1_runSubsets_71 : decode cX1_runSubsets 71 = .ok (.iload_n 1, 1) := by decide +kernel
theorem dX1_runSubsets_72 : decode cX1_runSubsets 72 = .ok (.invokevirtual 133, 3) := by decide +kernel
theorem dX1_runSubsets_75 : decode cX1_runSubsets 75 = .ok (.iastore, 1) := by decide +kernel
theorem dX1_runSubsets_76 : decode cX1_runSubsets 76 = .ok (.iinc 3 1, 3) := by decide +kernel
theorem dX1_runSubsets_79 : decode cX1_runSubsets 79 = .ok (.goto (-69), 3) := by decide +kernel
theorem dX1_runSubsets_82 : decode cX1_runSubsets 82 = .ok (.return_, 1) := by decide +kernel
set_option maxRecDepth 20000 in
theorem ggX2_init_X2_clear : GoodIn wsX2_init wsX2_clear := goodIn_r _ [19] (by decide +kernel) (by decide +kernel)
set_option maxRecDepth 20000 in
theorem gX2_init_X2_clear : GoodIn wsX2_init (va_wsS RX2 41 yX2_clear wsX2_clear) := goodIn_app (goodIn_of _ (by decide +kernel)) ggX2_init_X2_clear
theorem dX2_init_0 : decode cX2_init 0 = .ok (.aload_n 0, 1) := by decide +kernel
theorem dX2_init_1 : decode cX2_init 1 = .ok (.invokespecial 1, 3) := by decide +kernel
theorem dX2_init_4 : decode cX2_init 4 = .ok (.aload_n 0, 1) := by decide +kernel
theorem dX2_init_5 : decode cX2_init 5 = .ok (.bipush 60, 2) := by decide +kernel
theorem dX2_init_7 : decode cX2_init 7 = .ok (.newarray .int, 2) := by decide +kernel
theorem dX2_init_9 : decode cX2_init 9 = .ok (.putfield 7, 3) := by decide +kernel
theorem dX2_init_12 : decode cX2_init 12 = .ok (.aload_n 0, 1) := by decide +kernel
theorem dX2_init_13 : decode cX2_init 13 = .ok (.bipush 79, 2) := by decide +kernel
theorem dX2_init_15 : decode cX2_init 15 = .ok (.newarray .int, 2) := by decide +kernel
theorem dX2_init_17 : decode cX2_init 17 = .ok (.putfield 13, 3) := by decide +kernel
theorem dX2_init_20 : decode cX2_init 20 = .ok (.aload_n 0, 1) := by decide +kernel
theorem dX2_init_21 : decode cX2_init 21 = .ok (.bipush 79, 2) := by decide +kernel
theorem dX2_init_23 : decode cX2_init 23 = .ok (.newarray .int, 2) := by decide +kernel
theorem dX2_init_25 : decode cX2_init 25 = .ok (.putfield 16, 3) := by decide +kernel
theorem dX2_init_28 : decode cX2_init 28 = .ok (.aload_n 0, 1) := by decide +kernel
theorem dX2_init_29 : decode cX2_init 29 = .ok (.sipush 1106, 3) := by decide +kernel
theorem dX2_init_32 : decode cX2_init 32 = .ok (.newarray .int, 2) := by decide +kernel
theorem dX2_init_34 : decode cX2_init 34 = .ok (.putfield 19, 3) := by decide +kernel
theorem dX2_init_37 : decode cX2_init 37 = .ok (.aload_n 0, 1) := by decide +kernel
theorem dX2_init_38 : decode cX2_init 38 = .ok (.sipush 158, 3) := by decide +kernel
theorem dX2_init_41 : decode cX2_init 41 = .ok (.newarray .int, 2) := by decide +kernel
theorem dX2_init_43 : decode cX2_init 43 = .ok (.putfield 22, 3) := by decide +kernel
theorem dX2_init_46 : decode cX2_init 46 = .ok (.aload_n 0, 1) := by decide +kernel
theorem dX2_init_47 : decode cX2_init 47 = .ok (.iconst 2, 1) := by decide +kernel
theorem dX2_init_48 : decode cX2_init 48 = .ok (.newarray .boolean, 2) := by decide +kernel
theorem dX2_init_50 : decode cX2_init 50 = .ok (.putfield 25, 3) := by decide +kernel
theorem dX2_init_53 : decode cX2_init 53 = .ok (.aload_n 0, 1) := by decide +kernel
theorem dX2_init_54 : decode cX2_init 54 = .ok (.bipush 6, 2) := by decide +kernel
theorem dX2_init_56 : decode cX2_init 56 = .ok (.newarray .int, 2) := by decide +kernel
theorem dX2_init_58 : decode cX2_init 58 = .ok (.putfield 29, 3) := by decide +kernel
theorem dX2_init_61 : decode cX2_init 61 = .ok (.aload_n 0, 1) := by decide +kernel
theorem dX2_init_62 : decode cX2_init 62 = .ok (.bipush 6, 2) := by decide +kernel
theorem dX2_init_64 : decode cX2_init 64 = .ok (.newarray .int, 2) := by decide +kernel
theorem dX2_init_66 : decode cX2_init 66 = .ok (.putfield 32, 3) := by decide +kernel
theorem dX2_init_69 : decode cX2_init 69 = .ok (.aload_n 0, 1) := by decide +kernel
theorem dX2_init_70 : decode cX2_init 70 = .ok (.bipush 64, 2) := by decide +kernel
theorem dX2_init_72 : decode cX2_init 72 = .ok (.newarray .int, 2) := by decide +kernel
theorem dX2_init_74 : decode cX2_init 74 = .ok (.putfield 35, 3) := by decide +kernel
theorem dX2_init_77 : decode cX2_init 77 = .ok (.aload_n 0, 1) := by decide +kernel
theorem dX2_init_78 : decode cX2_init 78 = .ok (.bipush 79, 2) := by decide +kernel
theorem dX2_init_80 : decode cX2_init 80 = .ok (.newarray .int, 2) := by decide +kernel
theorem dX2_init_82 : decode cX2_init 82 = .ok (.putfield 38, 3) := by decide +kernel
theorem dX2_init_85 : decode cX2_init 85 = .ok (.aload_n 0, 1) := by decide +kernel
theorem dX2_init_86 : decode cX2_init 86 = .ok (.getfield 13, 3) := by decide +kernel
theorem dX2_init_89 : decode cX2_init 89 = .ok (.invokestatic 41, 3) := by decide +kernel
theorem dX2_init_92 : decode cX2_init 92 = .ok (.return_, 1) := by decide +kernel
theorem dX2_copy_0 : decode cX2_copy 0 = .ok (.iconst 0, 1) := by decide +kernel
theorem dX2_copy_1 : decode cX2_copy 1 = .ok (.istore_n 2, 1) := by decide +kernel
theorem dX2_copy_2 : decode cX2_copy 2 = .ok (.iload_n 2, 1) := by decide +kernel
theorem dX2_copy_3 : decode cX2_copy 3 = .ok (.bipush 79, 2) := by decide +kernel
theorem dX2_copy_5 : decode cX2_copy 5 = .ok (.if_icmp .ge 15, 3) := by decide +kernel
theorem dX2_copy_8 : decode cX2_copy 8 = .ok (.aload_n 1, 1) := by decide +kernel
theorem dX2_copy_9 : decode cX2_copy 9 = .ok (.iload_n 2, 1) := by decide +kernel
theorem dX2_copy_10 : decode cX2_copy 10 = .ok (.aload_n 0, 1) := by decide +kernel
theorem dX2_copy_11 : decode cX2_copy 11 = .ok (.iload_n 2, 1) := by decide +kernel
theorem dX2_copy_12 : decode cX2_copy 12 = .ok (.iaload, 1) := by decide +kernel
theorem dX2_copy_13 : decode cX2_copy 13 = .ok (.iastore, 1) := by decide +kernel
theorem dX2_copy_14 : decode cX2_copy 14 = .ok (.iinc 2 1, 3) := by decide +kernel
theorem dX2_copy_17 : decode cX2_copy 17 = .ok (.goto (-15), 3) := by decide +kernel
theorem dX2_copy_20 : decode cX2_copy 20 = .ok (.return_, 1) := by decide +kernel
theorem dX2_clear_0 : decode cX2_clear 0 = .ok (.iconst 0, 1) := by decide +kernel
theorem dX2_clear_1 : decode cX2_clear 1 = .ok (.istore_n 1, 1) := by decide +kernel
theorem dX2_clear_2 : decode cX2_clear 2 = .ok (.iload_n 1, 1) := by decide +kernel
theorem dX2_clear_3 : decode cX2_clear 3 = .ok (.bipush 79, 2) := by decide +kernel
theorem dX2_clear_5 : decode cX2_clear 5 = .ok (.if_icmp .ge 13, 3) := by decide +kernel
theorem dX2_clear_8 : decode cX2_clear 8 = .ok (.aload_n 0, 1) := by decide +kernel
theorem dX2_clear_9 : decode cX2_clear 9 = .ok (.iload_n 1, 1) := by decide +kernel
theorem dX2_clear_10 : decode cX2_clear 10 = .ok (.iconst 0, 1) := by decide +kernel
theorem dX2_clear_11 : decode cX2_clear 11 = .ok (.iastore, 1) := by decide +kernel
theorem dX2_clear_12 : decode cX2_clear 12 = .ok (.iinc 1 1, 3) := by decide +kernel
theorem dX2_clear_15 : decode cX2_clear 15 = .ok (.goto (-13), 3) := by decide +kernel
theorem dX2_clear_18 : decode cX2_clear 18 = .ok (.aload_n 0, 1) := by decide +kernel
theorem dX2_clear_19 : decode cX2_clear 19 = .ok (.bipush 66, 2) := by decide +kernel
theorem dX2_clear_21 : decode cX2_clear 21 = .ok (.iconst 1, 1) := by decide +kernel
theorem dX2_clear_22 : decode cX2_clear 22 = .ok (.iastore, 1) := by decide +kernel
theorem dX2_clear_23 : decode cX2_clear 23 = .ok (.aload_n 0, 1) := by decide +kernel
theorem dX2_clear_24 : decode cX2_clear 24 = .ok (.bipush 67, 2) := by decide +kernel
theorem dX2_clear_26 : decode cX2_clear 26 = .ok (.iconst 1, 1) := by decide +kernel
theorem dX2_clear_27 : decode cX2_clear 27 = .ok (.iastore, 1) := by decide +kernel
theorem dX2_clear_28 : decode cX2_clear 28 = .ok (.aload_n 0, 1) := by decide +kernel
theorem dX2_clear_29 : decode cX2_clear 29 = .ok (.bipush 68, 2) := by decide +kernel
theorem dX2_clear_31 : decode cX2_clear 31 = .ok (.iconst 1, 1) := by decide +kernel
theorem dX2_clear_32 : decode cX2_clear 32 = .ok (.iastore, 1) := by decide +kernel
theorem dX2_clear_33 : decode cX2_clear 33 = .ok (.return_, 1) := by decide +kernel
theorem dX2_in_0 : decode cX2_in 0 = .ok (.lload_n 0, 1) := by decide +kernel
theorem dX2_in_1 : decode cX2_in 1 = .ok (.lload_n 2, 1) := by decide +kernel
theorem dX2_in_2 : decode cX2_in 2 = .ok (.lcmp, 1) := by decide +kernel
theorem dX2_in_3 : decode cX2_in 3 = .ok (.ifCond .lt 14, 3) := by decide +kernel
theorem dX2_in_6 : decode cX2_in 6 = .ok (.lload_n 0, 1) := by decide +kernel
theorem dX2_in_7 : decode cX2_in 7 = .ok (.lload 4, 2) := by decide +kernel
theorem dX2_in_9 : decode cX2_in 9 = .ok (.lcmp, 1) := by decide +kernel
theorem dX2_in_10 : decode cX2_in 10 = .ok (.ifCond .gt 7, 3) := by decide +kernel
theorem dX2_in_13 : decode cX2_in 13 = .ok (.iconst 1, 1) := by decide +kernel
theorem dX2_in_14 : decode cX2_in 14 = .ok (.goto 4, 3) := by decide +kernel
theorem dX2_in_17 : decode cX2_in 17 = .ok (.iconst 0, 1) := by decide +kernel
theorem dX2_in_18 : decode cX2_in 18 = .ok (.ireturn, 1) := by decide +kernel
theorem dX2_has_0 : decode cX2_has 0 = .ok (.iload_n 0, 1) := by decide +kernel
theorem dX2_has_1 : decode cX2_has 1 = .ok (.iload_n 1, 1) := by decide +kernel
theorem dX2_has_2 : decode cX2_has 2 = .ok (.ishr, 1) := by decide +kernel
theorem dX2_has_3 : decode cX2_has 3 = .ok (.iconst 1, 1) := by decide +kernel
theorem dX2_has_4 : decode cX2_has 4 = .ok (.iand, 1) := by decide +kernel
theorem dX2_has_5 : decode cX2_has 5 = .ok (.iconst 1, 1) := by decide +kernel
theorem dX2_has_6 : decode cX2_has 6 = .ok (.if_icmp .ne 7, 3) := by decide +kernel
theorem dX2_has_9 : decode cX2_has 9 = .ok (.iconst 1, 1) := by decide +kernel
theorem dX2_has_10 : decode cX2_has 10 = .ok (.goto 4, 3) := by decide +kernel
theorem dX2_has_13 : decode cX2_has 13 = .ok (.iconst 0, 1) := by decide +kernel
theorem dX2_has_14 : decode cX2_has 14 = .ok (.ireturn, 1) := by decide +kernel
theorem dX2_ones_0 : decode cX2_ones 0 = .ok (.iconst 0, 1) := by decide +kernel
theorem dX2_ones_1 : decode cX2_ones 1 = .ok (.istore_n 1, 1) := by decide +kernel
theorem dX2_ones_2 : decode cX2_ones 2 = .ok (.iconst 0, 1) := by decide +kernel
theorem dX2_ones_3 : decode cX2_ones 3 = .ok (.istore_n 2, 1) := by decide +kernel
theorem dX2_ones_4 : decode cX2_ones 4 = .ok (.iload_n 2, 1) := by decide +kernel
theorem dX2_ones_5 : decode cX2_ones 5 = .ok (.bipush 6, 2) := by decide +kernel
theorem dX2_ones_7 : decode cX2_ones 7 = .ok (.if_icmp .ge 17, 3) := by decide +kernel
theorem dX2_ones_10 : decode cX2_ones 10 = .ok (.iload_n 1, 1) := by decide +kernel
theorem dX2_ones_11 : decode cX2_ones 11 = .ok (.iload_n 0, 1) := by decide +kernel
theorem dX2_ones_12 : decode cX2_ones 12 = .ok (.iload_n 2, 1) := by decide +kernel
theorem dX2_ones_13 : decode cX2_ones 13 = .ok (.ishr, 1) := by decide +kernel
theorem dX2_ones_14 : decode cX2_ones 14 = .ok (.iconst 1, 1) := by decide +kernel
theorem dX2_ones_15 : decode cX2_ones 15 = .ok (.iand, 1) := by decide +kernel
theorem dX2_ones_16 : decode cX2_ones 16 = .ok (.iadd, 1) := by decide +kernel
theorem dX2_ones_17 : decode cX2_ones 17 = .ok (.istore_n 1, 1) := by decide +kernel
theorem dX2_ones_18 : decode cX2_ones 18 = .ok (.iinc 2 1, 3) := by decide +kernel
theorem dX2_ones_21 : decode cX2_ones 21 = .ok (.goto (-17), 3) := by decide +kernel
theorem dX2_ones_24 : decode cX2_ones 24 = .ok (.iload_n 1, 1) := by decide +kernel
theorem dX2_ones_25 : decode cX2_ones 25 = .ok (.ireturn, 1) := by decide +kernel
theorem dX2_power_0 : decode cX2_power 0 = .ok (.iconst 1, 1) := by decide +kernel
theorem dX2_power_1 : decode cX2_power 1 = .ok (.istore_n 2, 1) := by decide +kernel
theorem dX2_power_2 : decode cX2_power 2 = .ok (.iconst 0, 1) := by decide +kernel
theorem dX2_power_3 : decode cX2_power 3 = .ok (.istore_n 3, 1) := by decide +kernel
theorem dX2_power_4 : decode cX2_power 4 = .ok (.iload_n 3, 1) := by decide +kernel
theorem dX2_power_5 : decode cX2_power 5 = .ok (.iload_n 1, 1) := by decide +kernel
theorem dX2_power_6 : decode cX2_power 6 = .ok (.if_icmp .ge 13, 3) := by decide +kernel
theorem dX2_power_9 : decode cX2_power 9 = .ok (.iload_n 2, 1) := by decide +kernel
theorem dX2_power_10 : decode cX2_power 10 = .ok (.iload_n 0, 1) := by decide +kernel
theorem dX2_power_11 : decode cX2_power 11 = .ok (.imul, 1) := by decide +kernel
theorem dX2_power_12 : decode cX2_power 12 = .ok (.istore_n 2, 1) := by decide +kernel
theorem dX2_power_13 : decode cX2_power 13 = .ok (.iinc 3 1, 3) := by decide +kernel
theorem dX2_power_16 : decode cX2_power 16 = .ok (.goto (-12), 3) := by decide +kernel
theorem dX2_power_19 : decode cX2_power 19 = .ok (.iload_n 2, 1) := by decide +kernel
theorem dX2_power_20 : decode cX2_power 20 = .ok (.ireturn, 1) := by decide +kernel
theorem dX2_factorial_0 : decode cX2_factorial 0 = .ok (.iconst 1, 1) := by decide +kernel
theorem dX2_factorial_1 : decode cX2_factorial 1 = .ok (.istore_n 1, 1) := by decide +kernel
theorem dX2_factorial_2 : decode cX2_factorial 2 = .ok (.iconst 2, 1) := by decide +kernel
theorem dX2_factorial_3 : decode cX2_factorial 3 = .ok (.istore_n 2, 1) := by decide +kernel
theorem dX2_factorial_4 : decode cX2_factorial 4 = .ok (.iload_n 2, 1) := by decide +kernel
theorem dX2_factorial_5 : decode cX2_factorial 5 = .ok (.iload_n 0, 1) := by decide +kernel
theorem dX2_factorial_6 : decode cX2_factorial 6 = .ok (.if_icmp .gt 13, 3) := by decide +kernel
theorem dX2_factorial_9 : decode cX2_factorial 9 = .ok (.iload_n 1, 1) := by decide +kernel
theorem dX2_factorial_10 : decode cX2_factorial 10 = .ok (.iload_n 2, 1) := by decide +kernel
theorem dX2_factorial_11 : decode cX2_factorial 11 = .ok (.imul, 1) := by decide +kernel
theorem dX2_factorial_12 : decode cX2_factorial 12 = .ok (.istore_n 1, 1) := by decide +kernel
theorem dX2_factorial_13 : decode cX2_factorial 13 = .ok (.iinc 2 1, 3) := by decide +kernel
theorem dX2_factorial_16 : decode cX2_factorial 16 = .ok (.goto (-12), 3) := by decide +kernel
theorem dX2_factorial_19 : decode cX2_factorial 19 = .ok (.iload_n 1, 1) := by decide +kernel
theorem dX2_factorial_20 : decode cX2_factorial 20 = .ok (.ireturn, 1) := by decide +kernel
theorem dX2_fraction_0 : decode cX2_fraction 0 = .ok (.iload_n 0, 1) := by decide +kernel
theorem dX2_fraction_1 : decode cX2_fraction 1 = .ok (.ifCond .ge 8, 3) := by decide +kernel
theorem dX2_fraction_4 : decode cX2_fraction 4 = .ok (.iload_n 0, 1) := by decide +kernel
theorem dX2_fraction_5 : decode cX2_fraction 5 = .ok (.ineg, 1) := by decide +kernel
theorem dX2_fraction_6 : decode cX2_fraction 6 = .ok (.goto 4, 3) := by decide +kernel
theorem dX2_fraction_9 : decode cX2_fraction 9 = .ok (.iload_n 0, 1) := by decide +kernel
theorem dX2_fraction_10 : decode cX2_fraction 10 = .ok (.istore_n 3, 1) := by decide +kernel
theorem dX2_fraction_11 : decode cX2_fraction 11 = .ok (.iload_n 1, 1) := by decide +kernel
theorem dX2_fraction_12 : decode cX2_fraction 12 = .ok (.istore 4, 2) := by decide +kernel
theorem dX2_fraction_14 : decode cX2_fraction 14 = .ok (.iload 4, 2) := by decide +kernel
theorem dX2_fraction_16 : decode cX2_fraction 16 = .ok (.ifCond .eq 19, 3) := by decide +kernel
theorem dX2_fraction_19 : decode cX2_fraction 19 = .ok (.iload_n 3, 1) := by decide +kernel
theorem dX2_fraction_20 : decode cX2_fraction 20 = .ok (.iload 4, 2) := by decide +kernel
theorem dX2_fraction_22 : decode cX2_fraction 22 = .ok (.irem, 1) := by decide +kernel
theorem dX2_fraction_23 : decode cX2_fraction 23 = .ok (.istore 5, 2) := by decide +kernel
theorem dX2_fraction_25 : decode cX2_fraction 25 = .ok (.iload 4, 2) := by decide +kernel
theorem dX2_fraction_27 : decode cX2_fraction 27 = .ok (.istore_n 3, 1) := by decide +kernel
theorem dX2_fraction_28 : decode cX2_fraction 28 = .ok (.iload 5, 2) := by decide +kernel
theorem dX2_fraction_30 : decode cX2_fraction 30 = .ok (.istore 4, 2) := by decide +kernel
theorem dX2_fraction_32 : decode cX2_fraction 32 = .ok (.goto (-18), 3) := by decide +kernel
theorem dX2_fraction_35 : decode cX2_fraction 35 = .ok (.iload_n 2, 1) := by decide +kernel
theorem dX2_fraction_36 : decode cX2_fraction 36 = .ok (.ifCond .eq 9, 3) := by decide +kernel
theorem dX2_fraction_39 : decode cX2_fraction 39 = .ok (.iload_n 0, 1) := by decide +kernel
theorem dX2_fraction_40 : decode cX2_fraction 40 = .ok (.iload_n 3, 1) := by decide +kernel
theorem dX2_fraction_41 : decode cX2_fraction 41 = .ok (.idiv, 1) := by decide +kernel
theorem dX2_fraction_42 : decode cX2_fraction 42 = .ok (.goto 6, 3) := by decide +kernel
theorem dX2_fraction_45 : decode cX2_fraction 45 = .ok (.iload_n 1, 1) := by decide +kernel
theorem dX2_fraction_46 : decode cX2_fraction 46 = .ok (.iload_n 3, 1) := by decide +kernel
theorem dX2_fraction_47 : decode cX2_fraction 47 = .ok (.idiv, 1) := by decide +kernel
theorem dX2_fraction_48 : decode cX2_fraction 48 = .ok (.ireturn, 1) := by decide +kernel
set_option maxRecDepth 20000 in
theorem ggX2_isMember_X2_in : GoodIn wsX2_isMember wsX2_in := goodIn_r _ [5] (by decide +kernel) (by decide +kernel)
set_option maxRecDepth 20000 in
theorem gX2_isMember_X2_in : GoodIn wsX2_isMember (va_wsS RX2 47 yX2_in wsX2_in) := goodIn_app (goodIn_of _ (by decide +kernel)) ggX2_isMember_X2_in
theorem dX2_isMember_0 : decode cX2_isMember 0 = .ok (.iload_n 0, 1) := by decide +kernel
theorem dX2_isMember_1 : decode cX2_isMember 1 = .ok (.i2l, 1) := by decide +kernel
theorem dX2_isMember_2 : decode cX2_isMember 2 = .ok (.lconst 0, 1) := by decide +kernel
theorem dX2_isMember_3 : decode cX2_isMember 3 = .ok (.ldc2_w 45, 3) := by decide +kernel
theorem dX2_isMember_6 : decode cX2_isMember 6 = .ok (.invokestatic 47, 3) := by decide +kernel
theorem dX2_isMember_9 : decode cX2_isMember 9 = .ok (.ireturn, 1) := by decide +kernel
set_option maxRecDepth 20000 in
theorem ggX2_countOf_X2_ones : GoodIn wsX2_countOf wsX2_ones := goodIn_r _ [4] (by decide +kernel) (by decide +kernel)
set_option maxRecDepth 20000 in
theorem gX2_countOf_X2_ones : GoodIn wsX2_countOf (va_wsS RX2 51 yX2_ones wsX2_ones) := goodIn_app (goodIn_of _ (by decide +kernel)) ggX2_countOf_X2_ones
theorem dX2_countOf_0 : decode cX2_countOf 0 = .ok (.aload_n 0, 1) := by decide +kernel
theorem dX2_countOf_1 : decode cX2_countOf 1 = .ok (.iload_n 1, 1) := by decide +kernel
theorem dX2_countOf_2 : decode cX2_countOf 2 = .ok (.iaload, 1) := by decide +kernel
theorem dX2_countOf_3 : decode cX2_countOf 3 = .ok (.ifCond .ne 7, 3) := by decide +kernel
theorem dX2_countOf_6 : decode cX2_countOf 6 = .ok (.iconst 0, 1) := by decide +kernel
theorem dX2_countOf_7 : decode cX2_countOf 7 = .ok (.goto 14, 3) := by decide +kernel
theorem dX2_countOf_10 : decode cX2_countOf 10 = .ok (.iconst 1, 1) := by decide +kernel
theorem dX2_countOf_11 : decode cX2_countOf 11 = .ok (.aload_n 0, 1) := by decide +kernel
theorem dX2_countOf_12 : decode cX2_countOf 12 = .ok (.bipush 6, 2) := by decide +kernel
theorem dX2_countOf_14 : decode cX2_countOf 14 = .ok (.iload_n 1, 1) := by decide +kernel
theorem dX2_countOf_15 : decode cX2_countOf 15 = .ok (.iadd, 1) := by decide +kernel
theorem dX2_countOf_16 : decode cX2_countOf 16 = .ok (.iaload, 1) := by decide +kernel
theorem dX2_countOf_17 : decode cX2_countOf 17 = .ok (.invokestatic 51, 3) := by decide +kernel
theorem dX2_countOf_20 : decode cX2_countOf 20 = .ok (.iadd, 1) := by decide +kernel
theorem dX2_countOf_21 : decode cX2_countOf 21 = .ok (.ireturn, 1) := by decide +kernel
theorem dX2_spanOf_0 : decode cX2_spanOf 0 = .ok (.iload_n 1, 1) := by decide +kernel
theorem dX2_spanOf_1 : decode cX2_spanOf 1 = .ok (.aload_n 0, 1) := by decide +kernel
theorem dX2_spanOf_2 : decode cX2_spanOf 2 = .ok (.bipush 66, 2) := by decide +kernel
theorem dX2_spanOf_4 : decode cX2_spanOf 4 = .ok (.iaload, 1) := by decide +kernel
theorem dX2_spanOf_5 : decode cX2_spanOf 5 = .ok (.imul, 1) := by decide +kernel
theorem dX2_spanOf_6 : decode cX2_spanOf 6 = .ok (.aload_n 0, 1) := by decide +kernel
theorem dX2_spanOf_7 : decode cX2_spanOf 7 = .ok (.bipush 67, 2) := by decide +kernel
theorem dX2_spanOf_9 : decode cX2_spanOf 9 = .ok (.iaload, 1) := by decide +kernel
theorem dX2_spanOf_10 : decode cX2_spanOf 10 = .ok (.iadd, 1) := by decide +kernel
theorem dX2_spanOf_11 : decode cX2_spanOf 11 = .ok (.iconst 1, 1) := by decide +kernel
theorem dX2_spanOf_12 : decode cX2_spanOf 12 = .ok (.isub, 1) := by decide +kernel
theorem dX2_spanOf_13 : decode cX2_spanOf 13 = .ok (.aload_n 0, 1) := by decide +kernel
theorem dX2_spanOf_14 : decode cX2_spanOf 14 = .ok (.bipush 67, 2) := by decide +kernel
theorem dX2_spanOf_16 : decode cX2_spanOf 16 = .ok (.iaload, 1) := by decide +kernel
theorem dX2_spanOf_17 : decode cX2_spanOf 17 = .ok (.idiv, 1) := by decide +kernel
theorem dX2_spanOf_18 : decode cX2_spanOf 18 = .ok (.istore_n 2, 1) := by decide +kernel
theorem dX2_spanOf_19 : decode cX2_spanOf 19 = .ok (.iload_n 2, 1) := by decide +kernel
theorem dX2_spanOf_20 : decode cX2_spanOf 20 = .ok (.aload_n 0, 1) := by decide +kernel
theorem dX2_spanOf_21 : decode cX2_spanOf 21 = .ok (.bipush 68, 2) := by decide +kernel
theorem dX2_spanOf_23 : decode cX2_spanOf 23 = .ok (.iaload, 1) := by decide +kernel
theorem dX2_spanOf_24 : decode cX2_spanOf 24 = .ok (.if_icmp .le 7, 3) := by decide +kernel
theorem dX2_spanOf_27 : decode cX2_spanOf 27 = .ok (.iload_n 2, 1) := by decide +kernel
theorem dX2_spanOf_28 : decode cX2_spanOf 28 = .ok (.goto 7, 3) := by decide +kernel
theorem dX2_spanOf_31 : decode cX2_spanOf 31 = .ok (.aload_n 0, 1) := by decide +kernel
theorem dX2_spanOf_32 : decode cX2_spanOf 32 = .ok (.bipush 68, 2) := by decide +kernel
theorem dX2_spanOf_34 : decode cX2_spanOf 34 = .ok (.iaload, 1) := by decide +kernel
theorem dX2_spanOf_35 : decode cX2_spanOf 35 = .ok (.ireturn, 1) := by decide +kernel
theorem dX2_draw_0 : decode cX2_draw 0 = .ok (.aload_n 0, 1) := by decide +kernel
theorem dX2_draw_1 : decode cX2_draw 1 = .ok (.bipush 69, 2) := by decide +kernel
theorem dX2_draw_3 : decode cX2_draw 3 = .ok (.sipush 25173, 3) := by decide +kernel
theorem dX2_draw_6 : decode cX2_draw 6 = .ok (.aload_n 0, 1) := by decide +kernel
theorem dX2_draw_7 : decode cX2_draw 7 = .ok (.bipush 69, 2) := by decide +kernel
theorem dX2_draw_9 : decode cX2_draw 9 = .ok (.iaload, 1) := by decide +kernel
theorem dX2_draw_10 : decode cX2_draw 10 = .ok (.imul, 1) := by decide +kernel
theorem dX2_draw_11 : decode cX2_draw 11 = .ok (.sipush 13849, 3) := by decide +kernel
theorem dX2_draw_14 : decode cX2_draw 14 = .ok (.iadd, 1) := by decide +kernel
theorem dX2_draw_15 : decode cX2_draw 15 = .ok (.ldc 55, 2) := by decide +kernel
theorem dX2_draw_17 : decode cX2_draw 17 = .ok (.irem, 1) := by decide +kernel
theorem dX2_draw_18 : decode cX2_draw 18 = .ok (.iastore, 1) := by decide +kernel
theorem dX2_draw_19 : decode cX2_draw 19 = .ok (.aload_n 0, 1) := by decide +kernel
theorem dX2_draw_20 : decode cX2_draw 20 = .ok (.bipush 69, 2) := by decide +kernel
theorem dX2_draw_22 : decode cX2_draw 22 = .ok (.iaload, 1) := by decide +kernel
theorem dX2_draw_23 : decode cX2_draw 23 = .ok (.bipush 16, 2) := by decide +kernel
theorem dX2_draw_25 : decode cX2_draw 25 = .ok (.idiv, 1) := by decide +kernel
theorem dX2_draw_26 : decode cX2_draw 26 = .ok (.iconst 5, 1) := by decide +kernel
theorem dX2_draw_27 : decode cX2_draw 27 = .ok (.irem, 1) := by decide +kernel
theorem dX2_draw_28 : decode cX2_draw 28 = .ok (.ireturn, 1) := by decide +kernel
set_option maxRecDepth 20000 in
theorem ggX2_waitOf_X2_spanOf : GoodIn wsX2_waitOf wsX2_spanOf := goodIn_r _ [4] (by decide +kernel) (by decide +kernel)
set_option maxRecDepth 20000 in
theorem gX2_waitOf_X2_spanOf : GoodIn wsX2_waitOf (va_wsS RX2 56 yX2_spanOf wsX2_spanOf) := goodIn_app (goodIn_of _ (by decide +kernel)) ggX2_waitOf_X2_spanOf
set_option maxRecDepth 20000 in
theorem ggX2_waitOf_X2_draw : GoodIn wsX2_waitOf wsX2_draw := goodIn_r _ [7, 8] (by decide +kernel) (by decide +kernel)
set_option maxRecDepth 20000 in
theorem gX2_waitOf_X2_draw : GoodIn wsX2_waitOf (va_wsS RX2 60 yX2_draw wsX2_draw) := goodIn_app (goodIn_of _ (by decide +kernel)) ggX2_waitOf_X2_draw
theorem dX2_waitOf_0 : decode cX2_waitOf 0 = .ok (.aload_n 0, 1) := by decide +kernel
theorem dX2_waitOf_1 : decode cX2_waitOf 1 = .ok (.iload_n 1, 1) := by decide +kernel
theorem dX2_waitOf_2 : decode cX2_waitOf 2 = .ok (.invokestatic 56, 3) := by decide +kernel
theorem dX2_waitOf_5 : decode cX2_waitOf 5 = .ok (.istore_n 2, 1) := by decide +kernel
theorem dX2_waitOf_6 : decode cX2_waitOf 6 = .ok (.iload_n 2, 1) := by decide +kernel
theorem dX2_waitOf_7 : decode cX2_waitOf 7 = .ok (.iconst 2, 1) := by decide +kernel
theorem dX2_waitOf_8 : decode cX2_waitOf 8 = .ok (.aload_n 0, 1) := by decide +kernel
theorem dX2_waitOf_9 : decode cX2_waitOf 9 = .ok (.invokestatic 60, 3) := by decide +kernel
theorem dX2_waitOf_12 : decode cX2_waitOf 12 = .ok (.iadd, 1) := by decide +kernel
theorem dX2_waitOf_13 : decode cX2_waitOf 13 = .ok (.imul, 1) := by decide +kernel
theorem dX2_waitOf_14 : decode cX2_waitOf 14 = .ok (.iconst 4, 1) := by decide +kernel
theorem dX2_waitOf_15 : decode cX2_waitOf 15 = .ok (.idiv, 1) := by decide +kernel
theorem dX2_waitOf_16 : decode cX2_waitOf 16 = .ok (.istore_n 3, 1) := by decide +kernel
theorem dX2_waitOf_17 : decode cX2_waitOf 17 = .ok (.iload_n 3, 1) := by decide +kernel
theorem dX2_waitOf_18 : decode cX2_waitOf 18 = .ok (.iconst 1, 1) := by decide +kernel
theorem dX2_waitOf_19 : decode cX2_waitOf 19 = .ok (.if_icmp .le 7, 3) := by decide +kernel
theorem dX2_waitOf_22 : decode cX2_waitOf 22 = .ok (.iload_n 3, 1) := by decide +kernel
theorem dX2_waitOf_23 : decode cX2_waitOf 23 = .ok (.goto 4, 3) := by decide +kernel
theorem dX2_waitOf_26 : decode cX2_waitOf 26 = .ok (.iconst 1, 1) := by decide +kernel
theorem dX2_waitOf_27 : decode cX2_waitOf 27 = .ok (.ireturn, 1) := by decide +kernel
theorem dX2_lettersOf_0 : decode cX2_lettersOf 0 = .ok (.aload_n 0, 1) := by decide +kernel
theorem dX2_lettersOf_1 : decode cX2_lettersOf 1 = .ok (.bipush 71, 2) := by decide +kernel
theorem dX2_lettersOf_3 : decode cX2_lettersOf 3 = .ok (.iaload, 1) := by decide +kernel
theorem dX2_lettersOf_4 : decode cX2_lettersOf 4 = .ok (.aload_n 0, 1) := by decide +kernel
theorem dX2_lettersOf_5 : decode cX2_lettersOf 5 = .ok (.bipush 72, 2) := by decide +kernel
theorem dX2_lettersOf_7 : decode cX2_lettersOf 7 = .ok (.iaload, 1) := by decide +kernel
theorem dX2_lettersOf_8 : decode cX2_lettersOf 8 = .ok (.iadd, 1) := by decide +kernel
theorem dX2_lettersOf_9 : decode cX2_lettersOf 9 = .ok (.ireturn, 1) := by decide +kernel
set_option maxRecDepth 20000 in
theorem ggX2_reaches_X2_has : GoodIn wsX2_reaches wsX2_has := goodIn_r _ [4] (by decide +kernel) (by decide +kernel)
set_option maxRecDepth 20000 in
theorem gX2_reaches_X2_has : GoodIn wsX2_reaches (va_wsS RX2 64 yX2_has wsX2_has) := goodIn_app (goodIn_of _ (by decide +kernel)) ggX2_reaches_X2_has
theorem dX2_reaches_0 : decode cX2_reaches 0 = .ok (.iload_n 2, 1) := by decide +kernel
theorem dX2_reaches_1 : decode cX2_reaches 1 = .ok (.iload_n 1, 1) := by decide +kernel
theorem dX2_reaches_2 : decode cX2_reaches 2 = .ok (.if_icmp .eq 26, 3) := by decide +kernel
theorem dX2_reaches_5 : decode cX2_reaches 5 = .ok (.aload_n 0, 1) := by decide +kernel
theorem dX2_reaches_6 : decode cX2_reaches 6 = .ok (.iload_n 2, 1) := by decide +kernel
theorem dX2_reaches_7 : decode cX2_reaches 7 = .ok (.iaload, 1) := by decide +kernel
theorem dX2_reaches_8 : decode cX2_reaches 8 = .ok (.ifCond .eq 20, 3) := by decide +kernel
theorem dX2_reaches_11 : decode cX2_reaches 11 = .ok (.aload_n 0, 1) := by decide +kernel
theorem dX2_reaches_12 : decode cX2_reaches 12 = .ok (.bipush 73, 2) := by decide +kernel
theorem dX2_reaches_14 : decode cX2_reaches 14 = .ok (.iload_n 1, 1) := by decide +kernel
theorem dX2_reaches_15 : decode cX2_reaches 15 = .ok (.iadd, 1) := by decide +kernel
theorem dX2_reaches_16 : decode cX2_reaches 16 = .ok (.iaload, 1) := by decide +kernel
theorem dX2_reaches_17 : decode cX2_reaches 17 = .ok (.iload_n 2, 1) := by decide +kernel
theorem dX2_reaches_18 : decode cX2_reaches 18 = .ok (.invokestatic 64, 3) := by decide +kernel
theorem dX2_reaches_21 : decode cX2_reaches 21 = .ok (.ifCond .ne 7, 3) := by decide +kernel
theorem dX2_reaches_24 : decode cX2_reaches 24 = .ok (.iconst 1, 1) := by decide +kernel
theorem dX2_reaches_25 : decode cX2_reaches 25 = .ok (.goto 4, 3) := by decide +kernel
theorem dX2_reaches_28 : decode cX2_reaches 28 = .ok (.iconst 0, 1) := by decide +kernel
theorem dX2_reaches_29 : decode cX2_reaches 29 = .ok (.ireturn, 1) := by decide +kernel
set_option maxRecDepth 20000 in
theorem ggX2_report_X2_reaches : GoodIn wsX2_report wsX2_reaches := goodIn_r _ [4, 5, 6, 3, 7] (by decide +kernel) (by decide +kernel)
set_option maxRecDepth 20000 in
theorem gX2_report_X2_reaches : GoodIn wsX2_report (va_wsS RX2 68 yX2_reaches wsX2_reaches) := goodIn_app (goodIn_of _ (by decide +kernel)) ggX2_report_X2_reaches
theorem dX2_report_0 : decode cX2_report 0 = .ok (.aload_n 0, 1) := by decide +kernel
theorem dX2_report_1 : decode cX2_report 1 = .ok (.bipush 71, 2) := by decide +kernel
theorem dX2_report_3 : decode cX2_report 3 = .ok (.dup2, 1) := by decide +kernel
theorem dX2_report_4 : decode cX2_report 4 = .ok (.iaload, 1) := by decide +kernel
theorem dX2_report_5 : decode cX2_report 5 = .ok (.iconst 1, 1) := by decide +kernel
theorem dX2_report_6 : decode cX2_report 6 = .ok (.iadd, 1) := by decide +kernel
theorem dX2_report_7 : decode cX2_report 7 = .ok (.iastore, 1) := by decide +kernel
theorem dX2_report_8 : decode cX2_report 8 = .ok (.iconst 0, 1) := by decide +kernel
theorem dX2_report_9 : decode cX2_report 9 = .ok (.istore_n 2, 1) := by decide +kernel
theorem dX2_report_10 : decode cX2_report 10 = .ok (.iload_n 2, 1) := by decide +kernel
theorem dX2_report_11 : decode cX2_report 11 = .ok (.bipush 6, 2) := by decide +kernel
theorem dX2_report_13 : decode cX2_report 13 = .ok (.if_icmp .ge 45, 3) := by decide +kernel
theorem dX2_report_16 : decode cX2_report 16 = .ok (.aload_n 0, 1) := by decide +kernel
theorem dX2_report_17 : decode cX2_report 17 = .ok (.iload_n 1, 1) := by decide +kernel
theorem dX2_report_18 : decode cX2_report 18 = .ok (.iload_n 2, 1) := by decide +kernel
theorem dX2_report_19 : decode cX2_report 19 = .ok (.invokestatic 68, 3) := by decide +kernel
theorem dX2_report_22 : decode cX2_report 22 = .ok (.ifCond .eq 30, 3) := by decide +kernel
theorem dX2_report_25 : decode cX2_report 25 = .ok (.aload_n 0, 1) := by decide +kernel
theorem dX2_report_26 : decode cX2_report 26 = .ok (.bipush 6, 2) := by decide +kernel
theorem dX2_report_28 : decode cX2_report 28 = .ok (.iload_n 2, 1) := by decide +kernel
theorem dX2_report_29 : decode cX2_report 29 = .ok (.iadd, 1) := by decide +kernel
theorem dX2_report_30 : decode cX2_report 30 = .ok (.dup2, 1) := by decide +kernel
theorem dX2_report_31 : decode cX2_report 31 = .ok (.iaload, 1) := by decide +kernel
theorem dX2_report_32 : decode cX2_report 32 = .ok (.iconst 1, 1) := by decide +kernel
theorem dX2_report_33 : decode cX2_report 33 = .ok (.iload_n 1, 1) := by decide +kernel
theorem dX2_report_34 : decode cX2_report 34 = .ok (.ishl, 1) := by decide +kernel
theorem dX2_report_35 : decode cX2_report 35 = .ok (.ior, 1) := by decide +kernel
theorem dX2_report_36 : decode cX2_report 36 = .ok (.iastore, 1) := by decide +kernel
theorem dX2_report_37 : decode cX2_report 37 = .ok (.aload_n 0, 1) := by decide +kernel
theorem dX2_report_38 : decode cX2_report 38 = .ok (.bipush 12, 2) := by decide +kernel
theorem dX2_report_40 : decode cX2_report 40 = .ok (.bipush 6, 2) := by decide +kernel
theorem dX2_report_42 : decode cX2_report 42 = .ok (.iload_n 2, 1) := by decide +kernel
theorem dX2_report_43 : decode cX2_report 43 = .ok (.imul, 1) := by decide +kernel
theorem dX2_report_44 : decode cX2_report 44 = .ok (.iadd, 1) := by decide +kernel
theorem dX2_report_45 : decode cX2_report 45 = .ok (.iload_n 1, 1) := by decide +kernel
theorem dX2_report_46 : decode cX2_report 46 = .ok (.iadd, 1) := by decide +kernel
theorem dX2_report_47 : decode cX2_report 47 = .ok (.aload_n 0, 1) := by decide +kernel
theorem dX2_report_48 : decode cX2_report 48 = .ok (.bipush 70, 2) := by decide +kernel
theorem dX2_report_50 : decode cX2_report 50 = .ok (.iaload, 1) := by decide +kernel
theorem dX2_report_51 : decode cX2_report 51 = .ok (.iastore, 1) := by decide +kernel
theorem dX2_report_52 : decode cX2_report 52 = .ok (.iinc 2 1, 3) := by decide +kernel
theorem dX2_report_55 : decode cX2_report 55 = .ok (.goto (-45), 3) := by decide +kernel
theorem dX2_report_58 : decode cX2_report 58 = .ok (.return_, 1) := by decide +kernel
theorem dX2_goAway_0 : decode cX2_goAway 0 = .ok (.aload_n 0, 1) := by decide +kernel
theorem dX2_goAway_1 : decode cX2_goAway 1 = .ok (.iload_n 1, 1) := by decide +kernel
theorem dX2_goAway_2 : decode cX2_goAway 2 = .ok (.iconst 0, 1) := by decide +kernel
theorem dX2_goAway_3 : decode cX2_goAway 3 = .ok (.iastore, 1) := by decide +kernel
theorem dX2_goAway_4 : decode cX2_goAway 4 = .ok (.aload_n 0, 1) := by decide +kernel
theorem dX2_goAway_5 : decode cX2_goAway 5 = .ok (.bipush 6, 2) := by decide +kernel
theorem dX2_goAway_7 : decode cX2_goAway 7 = .ok (.iload_n 1, 1) := by decide +kernel
theorem dX2_goAway_8 : decode cX2_goAway 8 = .ok (.iadd, 1) := by decide +kernel
theorem dX2_goAway_9 : decode cX2_goAway 9 = .ok (.iconst 0, 1) := by decide +kernel
theorem dX2_goAway_10 : decode cX2_goAway 10 = .ok (.iastore, 1) := by decide +kernel
theorem dX2_goAway_11 : decode cX2_goAway 11 = .ok (.aload_n 0, 1) := by decide +kernel
theorem dX2_goAway_12 : decode cX2_goAway 12 = .ok (.bipush 48, 2) := by decide +kernel
theorem dX2_goAway_14 : decode cX2_goAway 14 = .ok (.iload_n 1, 1) := by decide +kernel
theorem dX2_goAway_15 : decode cX2_goAway 15 = .ok (.iadd, 1) := by decide +kernel
theorem dX2_goAway_16 : decode cX2_goAway 16 = .ok (.iconst 0, 1) := by decide +kernel
theorem dX2_goAway_17 : decode cX2_goAway 17 = .ok (.iastore, 1) := by decide +kernel
theorem dX2_goAway_18 : decode cX2_goAway 18 = .ok (.aload_n 0, 1) := by decide +kernel
theorem dX2_goAway_19 : decode cX2_goAway 19 = .ok (.bipush 54, 2) := by decide +kernel
theorem dX2_goAway_21 : decode cX2_goAway 21 = .ok (.iload_n 1, 1) := by decide +kernel
theorem dX2_goAway_22 : decode cX2_goAway 22 = .ok (.iadd, 1) := by decide +kernel
theorem dX2_goAway_23 : decode cX2_goAway 23 = .ok (.iconst 0, 1) := by decide +kernel
theorem dX2_goAway_24 : decode cX2_goAway 24 = .ok (.iastore, 1) := by decide +kernel
theorem dX2_goAway_25 : decode cX2_goAway 25 = .ok (.aload_n 0, 1) := by decide +kernel
theorem dX2_goAway_26 : decode cX2_goAway 26 = .ok (.bipush 60, 2) := by decide +kernel
theorem dX2_goAway_28 : decode cX2_goAway 28 = .ok (.iload_n 1, 1) := by decide +kernel
theorem dX2_goAway_29 : decode cX2_goAway 29 = .ok (.iadd, 1) := by decide +kernel
theorem dX2_goAway_30 : decode cX2_goAway 30 = .ok (.iconst 0, 1) := by decide +kernel
theorem dX2_goAway_31 : decode cX2_goAway 31 = .ok (.iastore, 1) := by decide +kernel
theorem dX2_goAway_32 : decode cX2_goAway 32 = .ok (.return_, 1) := by decide +kernel
set_option maxRecDepth 20000 in
theorem ggX2_bye_X2_goAway : GoodIn wsX2_bye wsX2_goAway := goodIn_r _ [4] (by decide +kernel) (by decide +kernel)
set_option maxRecDepth 20000 in
theorem gX2_bye_X2_goAway : GoodIn wsX2_bye (va_wsS RX2 72 yX2_goAway wsX2_goAway) := goodIn_app (goodIn_of _ (by decide +kernel)) ggX2_bye_X2_goAway
set_option maxRecDepth 20000 in
theorem ggX2_bye_X2_reaches : GoodIn wsX2_bye wsX2_reaches := goodIn_r _ [7, 8, 9, 3, 10] (by decide +kernel) (by decide +kernel)
set_option maxRecDepth 20000 in
theorem gX2_bye_X2_reaches : GoodIn wsX2_bye (va_wsS RX2 68 yX2_reaches wsX2_reaches) := goodIn_app (goodIn_of _ (by decide +kernel)) ggX2_bye_X2_reaches
set_option maxRecDepth 20000 in
theorem ggX2_bye_X2_has : GoodIn wsX2_bye wsX2_has := goodIn_r _ [10] (by decide +kernel) (by decide +kernel)
set_option maxRecDepth 20000 in
theorem gX2_bye_X2_has : GoodIn wsX2_bye (va_wsS RX2 64 yX2_has wsX2_has) := goodIn_app (goodIn_of _ (by decide +kernel)) ggX2_bye_X2_has
set_option maxRecDepth 20000 in
theorem ggX2_bye_X2_countOf : GoodIn wsX2_bye wsX2_countOf := goodIn_r _ [13, 14, 15, 3, 16] (by decide +kernel) (by decide +kernel)
set_option maxRecDepth 20000 in
theorem gX2_bye_X2_countOf : GoodIn wsX2_bye (va_wsS RX2 76 yX2_countOf wsX2_countOf) := goodIn_app (goodIn_of _ (by decide +kernel)) ggX2_bye_X2_countOf
theorem dX2_bye_0 : decode cX2_bye 0 = .ok (.aload_n 0, 1) := by decide +kernel
theorem dX2_bye_1 : decode cX2_bye 1 = .ok (.bipush 72, 2) := by decide +kernel
theorem dX2_bye_3 : decode cX2_bye 3 = .ok (.dup2, 1) := by decide +kernel
theorem dX2_bye_4 : decode cX2_bye 4 = .ok (.iaload, 1) := by decide +kernel
theorem dX2_bye_5 : decode cX2_bye 5 = .ok (.iconst 1, 1) := by decide +kernel
theorem dX2_bye_6 : decode cX2_bye 6 = .ok (.iadd, 1) := by decide +kernel
theorem dX2_bye_7 : decode cX2_bye 7 = .ok (.iastore, 1) := by decide +kernel
theorem dX2_bye_8 : decode cX2_bye 8 = .ok (.aload_n 0, 1) := by decide +kernel
theorem dX2_bye_9 : decode cX2_bye 9 = .ok (.iload_n 1, 1) := by decide +kernel
theorem dX2_bye_10 : decode cX2_bye 10 = .ok (.invokestatic 72, 3) := by decide +kernel
theorem dX2_bye_13 : decode cX2_bye 13 = .ok (.iconst 0, 1) := by decide +kernel
theorem dX2_bye_14 : decode cX2_bye 14 = .ok (.istore_n 2, 1) := by decide +kernel
theorem dX2_bye_15 : decode cX2_bye 15 = .ok (.iload_n 2, 1) := by decide +kernel
theorem dX2_bye_16 : decode cX2_bye 16 = .ok (.bipush 6, 2) := by decide +kernel
theorem dX2_bye_18 : decode cX2_bye 18 = .ok (.if_icmp .ge 159, 3) := by decide +kernel
theorem dX2_bye_21 : decode cX2_bye 21 = .ok (.aload_n 0, 1) := by decide +kernel
theorem dX2_bye_22 : decode cX2_bye 22 = .ok (.iload_n 1, 1) := by decide +kernel
theorem dX2_bye_23 : decode cX2_bye 23 = .ok (.iload_n 2, 1) := by decide +kernel
theorem dX2_bye_24 : decode cX2_bye 24 = .ok (.invokestatic 68, 3) := by decide +kernel
theorem dX2_bye_27 : decode cX2_bye 27 = .ok (.ifCond .eq 144, 3) := by decide +kernel
theorem dX2_bye_30 : decode cX2_bye 30 = .ok (.aload_n 0, 1) := by decide +kernel
theorem dX2_bye_31 : decode cX2_bye 31 = .ok (.bipush 60, 2) := by decide +kernel
theorem dX2_bye_33 : decode cX2_bye 33 = .ok (.iload_n 2, 1) := by decide +kernel
theorem dX2_bye_34 : decode cX2_bye 34 = .ok (.iadd, 1) := by decide +kernel
theorem dX2_bye_35 : decode cX2_bye 35 = .ok (.dup2, 1) := by decide +kernel
theorem dX2_bye_36 : decode cX2_bye 36 = .ok (.iaload, 1) := by decide +kernel
theorem dX2_bye_37 : decode cX2_bye 37 = .ok (.aload_n 0, 1) := by decide +kernel
theorem dX2_bye_38 : decode cX2_bye 38 = .ok (.iload_n 2, 1) := by decide +kernel
theorem dX2_bye_39 : decode cX2_bye 39 = .ok (.iaload, 1) := by decide +kernel
theorem dX2_bye_40 : decode cX2_bye 40 = .ok (.iconst 2, 1) := by decide +kernel
theorem dX2_bye_41 : decode cX2_bye 41 = .ok (.if_icmp .ne 7, 3) := by decide +kernel
theorem dX2_bye_44 : decode cX2_bye 44 = .ok (.iconst 1, 1) := by decide +kernel
theorem dX2_bye_45 : decode cX2_bye 45 = .ok (.goto 4, 3) := by decide +kernel
theorem dX2_bye_48 : decode cX2_bye 48 = .ok (.iconst 0, 1) := by decide +kernel
theorem dX2_bye_49 : decode cX2_bye 49 = .ok (.iadd, 1) := by decide +kernel
theorem dX2_bye_50 : decode cX2_bye 50 = .ok (.iastore, 1) := by decide +kernel
theorem dX2_bye_51 : decode cX2_bye 51 = .ok (.aload_n 0, 1) := by decide +kernel
theorem dX2_bye_52 : decode cX2_bye 52 = .ok (.bipush 6, 2) := by decide +kernel
theorem dX2_bye_54 : decode cX2_bye 54 = .ok (.iload_n 2, 1) := by decide +kernel
theorem dX2_bye_55 : decode cX2_bye 55 = .ok (.iadd, 1) := by decide +kernel
theorem dX2_bye_56 : decode cX2_bye 56 = .ok (.iaload, 1) := by decide +kernel
theorem dX2_bye_57 : decode cX2_bye 57 = .ok (.iload_n 1, 1) := by decide +kernel
theorem dX2_bye_58 : decode cX2_bye 58 = .ok (.invokestatic 64, 3) := by decide +kernel
theorem dX2_bye_61 : decode cX2_bye 61 = .ok (.istore_n 3, 1) := by decide +kernel
theorem dX2_bye_62 : decode cX2_bye 62 = .ok (.aload_n 0, 1) := by decide +kernel
theorem dX2_bye_63 : decode cX2_bye 63 = .ok (.iload_n 2, 1) := by decide +kernel
theorem dX2_bye_64 : decode cX2_bye 64 = .ok (.invokestatic 76, 3) := by decide +kernel
theorem dX2_bye_67 : decode cX2_bye 67 = .ok (.istore 4, 2) := by decide +kernel
theorem dX2_bye_69 : decode cX2_bye 69 = .ok (.aload_n 0, 1) := by decide +kernel
theorem dX2_bye_70 : decode cX2_bye 70 = .ok (.bipush 6, 2) := by decide +kernel
theorem dX2_bye_72 : decode cX2_bye 72 = .ok (.iload_n 2, 1) := by decide +kernel
theorem dX2_bye_73 : decode cX2_bye 73 = .ok (.iadd, 1) := by decide +kernel
theorem dX2_bye_74 : decode cX2_bye 74 = .ok (.dup2, 1) := by decide +kernel
theorem dX2_bye_75 : decode cX2_bye 75 = .ok (.iaload, 1) := by decide +kernel
theorem dX2_bye_76 : decode cX2_bye 76 = .ok (.iconst 1, 1) := by decide +kernel
theorem dX2_bye_77 : decode cX2_bye 77 = .ok (.iload_n 1, 1) := by decide +kernel
theorem dX2_bye_78 : decode cX2_bye 78 = .ok (.ishl, 1) := by decide +kernel
theorem dX2_bye_79 : decode cX2_bye 79 = .ok (.iconst (-1), 1) := by decide +kernel
theorem dX2_bye_80 : decode cX2_bye 80 = .ok (.ixor, 1) := by decide +kernel
theorem dX2_bye_81 : decode cX2_bye 81 = .ok (.iand, 1) := by decide +kernel
theorem dX2_bye_82 : decode cX2_bye 82 = .ok (.iastore, 1) := by decide +kernel
theorem dX2_bye_83 : decode cX2_bye 83 = .ok (.iload_n 3, 1) := by decide +kernel
theorem dX2_bye_84 : decode cX2_bye 84 = .ok (.ifCond .eq 87, 3) := by decide +kernel
theorem dX2_bye_87 : decode cX2_bye 87 = .ok (.aload_n 0, 1) := by decide +kernel
theorem dX2_bye_88 : decode cX2_bye 88 = .ok (.iload_n 2, 1) := by decide +kernel
theorem dX2_bye_89 : decode cX2_bye 89 = .ok (.iaload, 1) := by decide +kernel
theorem dX2_bye_90 : decode cX2_bye 90 = .ok (.iconst 1, 1) := by decide +kernel
theorem dX2_bye_91 : decode cX2_bye 91 = .ok (.if_icmp .ne 80, 3) := by decide +kernel
theorem dX2_bye_94 : decode cX2_bye 94 = .ok (.aload_n 0, 1) := by decide +kernel
theorem dX2_bye_95 : decode cX2_bye 95 = .ok (.bipush 70, 2) := by decide +kernel
theorem dX2_bye_97 : decode cX2_bye 97 = .ok (.iaload, 1) := by decide +kernel
theorem dX2_bye_98 : decode cX2_bye 98 = .ok (.istore 5, 2) := by decide +kernel
theorem dX2_bye_100 : decode cX2_bye 100 = .ok (.aload_n 0, 1) := by decide +kernel
theorem dX2_bye_101 : decode cX2_bye 101 = .ok (.bipush 54, 2) := by decide +kernel
theorem dX2_bye_103 : decode cX2_bye 103 = .ok (.iload_n 2, 1) := by decide +kernel
theorem dX2_bye_104 : decode cX2_bye 104 = .ok (.iadd, 1) := by decide +kernel
theorem dX2_bye_105 : decode cX2_bye 105 = .ok (.iaload, 1) := by decide +kernel
theorem dX2_bye_106 : decode cX2_bye 106 = .ok (.iload 5, 2) := by decide +kernel
theorem dX2_bye_108 : decode cX2_bye 108 = .ok (.if_icmp .le 15, 3) := by decide +kernel
theorem dX2_bye_111 : decode cX2_bye 111 = .ok (.aload_n 0, 1) := by decide +kernel
theorem dX2_bye_112 : decode cX2_bye 112 = .ok (.bipush 54, 2) := by decide +kernel
theorem dX2_bye_114 : decode cX2_bye 114 = .ok (.iload_n 2, 1) := by decide +kernel
theorem dX2_bye_115 : decode cX2_bye 115 = .ok (.iadd, 1) := by decide +kernel
theorem dX2_bye_116 : decode cX2_bye 116 = .ok (.iaload, 1) := by decide +kernel
theorem dX2_bye_117 : decode cX2_bye 117 = .ok (.iload 5, 2) := by decide +kernel
theorem dX2_bye_119 : decode cX2_bye 119 = .ok (.isub, 1) := by decide +kernel
theorem dX2_bye_120 : decode cX2_bye 120 = .ok (.goto 4, 3) := by decide +kernel
theorem dX2_bye_123 : decode cX2_bye 123 = .ok (.iconst 0, 1) := by decide +kernel
theorem dX2_bye_124 : decode cX2_bye 124 = .ok (.istore 6, 2) := by decide +kernel
theorem dX2_bye_126 : decode cX2_bye 126 = .ok (.aload_n 0, 1) := by decide +kernel
theorem dX2_bye_127 : decode cX2_bye 127 = .ok (.bipush 54, 2) := by decide +kernel
theorem dX2_bye_129 : decode cX2_bye 129 = .ok (.iload_n 2, 1) := by decide +kernel
theorem dX2_bye_130 : decode cX2_bye 130 = .ok (.iadd, 1) := by decide +kernel
theorem dX2_bye_131 : decode cX2_bye 131 = .ok (.iload 5, 2) := by decide +kernel
theorem dX2_bye_133 : decode cX2_bye 133 = .ok (.iload 6, 2) := by decide +kernel
theorem dX2_bye_135 : decode cX2_bye 135 = .ok (.iload 4, 2) := by decide +kernel
theorem dX2_bye_137 : decode cX2_bye 137 = .ok (.iconst 1, 1) := by decide +kernel
theorem dX2_bye_138 : decode cX2_bye 138 = .ok (.isub, 1) := by decide +kernel
theorem dX2_bye_139 : decode cX2_bye 139 = .ok (.imul, 1) := by decide +kernel
theorem dX2_bye_140 : decode cX2_bye 140 = .ok (.iload 4, 2) := by decide +kernel
theorem dX2_bye_142 : decode cX2_bye 142 = .ok (.idiv, 1) := by decide +kernel
theorem dX2_bye_143 : decode cX2_bye 143 = .ok (.iadd, 1) := by decide +kernel
theorem dX2_bye_144 : decode cX2_bye 144 = .ok (.iastore, 1) := by decide +kernel
theorem dX2_bye_145 : decode cX2_bye 145 = .ok (.aload_n 0, 1) := by decide +kernel
theorem dX2_bye_146 : decode cX2_bye 146 = .ok (.bipush 48, 2) := by decide +kernel
theorem dX2_bye_148 : decode cX2_bye 148 = .ok (.iload_n 2, 1) := by decide +kernel
theorem dX2_bye_149 : decode cX2_bye 149 = .ok (.iadd, 1) := by decide +kernel
theorem dX2_bye_150 : decode cX2_bye 150 = .ok (.iload 5, 2) := by decide +kernel
theorem dX2_bye_152 : decode cX2_bye 152 = .ok (.iload 5, 2) := by decide +kernel
theorem dX2_bye_154 : decode cX2_bye 154 = .ok (.aload_n 0, 1) := by decide +kernel
theorem dX2_bye_155 : decode cX2_bye 155 = .ok (.bipush 48, 2) := by decide +kernel
theorem dX2_bye_157 : decode cX2_bye 157 = .ok (.iload_n 2, 1) := by decide +kernel
theorem dX2_bye_158 : decode cX2_bye 158 = .ok (.iadd, 1) := by decide +kernel
theorem dX2_bye_159 : decode cX2_bye 159 = .ok (.iaload, 1) := by decide +kernel
theorem dX2_bye_160 : decode cX2_bye 160 = .ok (.isub, 1) := by decide +kernel
theorem dX2_bye_161 : decode cX2_bye 161 = .ok (.iload 4, 2) := by decide +kernel
theorem dX2_bye_163 : decode cX2_bye 163 = .ok (.iconst 1, 1) := by decide +kernel
theorem dX2_bye_164 : decode cX2_bye 164 = .ok (.isub, 1) := by decide +kernel
theorem dX2_bye_165 : decode cX2_bye 165 = .ok (.imul, 1) := by decide +kernel
theorem dX2_bye_166 : decode cX2_bye 166 = .ok (.iload 4, 2) := by decide +kernel
theorem dX2_bye_168 : decode cX2_bye 168 = .ok (.idiv, 1) := by decide +kernel
theorem dX2_bye_169 : decode cX2_bye 169 = .ok (.isub, 1) := by decide +kernel
theorem dX2_bye_170 : decode cX2_bye 170 = .ok (.iastore, 1) := by decide +kernel
theorem dX2_bye_171 : decode cX2_bye 171 = .ok (.iinc 2 1, 3) := by decide +kernel
theorem dX2_bye_174 : decode cX2_bye 174 = .ok (.goto (-159), 3) := by decide +kernel
theorem dX2_bye_177 : decode cX2_bye 177 = .ok (.return_, 1) := by decide +kernel
set_option maxRecDepth 20000 in
theorem ggX2_joins_X2_waitOf : GoodIn wsX2_joins wsX2_waitOf := goodIn_r _ [4, 5, 6, 3, 7, 8, 9, 10, 11] (by decide +kernel) (by decide +kernel)
set_option maxRecDepth 20000 in
theorem gX2_joins_X2_waitOf : GoodIn wsX2_joins (va_wsS RX2 79 yX2_waitOf wsX2_waitOf) := goodIn_app (goodIn_of _ (by decide +kernel)) ggX2_joins_X2_waitOf
theorem dX2_joins_0 : decode cX2_joins 0 = .ok (.aload_n 0, 1) := by decide +kernel
theorem dX2_joins_1 : decode cX2_joins 1 = .ok (.iload_n 1, 1) := by decide +kernel
theorem dX2_joins_2 : decode cX2_joins 2 = .ok (.iconst 1, 1) := by decide +kernel
theorem dX2_joins_3 : decode cX2_joins 3 = .ok (.iastore, 1) := by decide +kernel
theorem dX2_joins_4 : decode cX2_joins 4 = .ok (.aload_n 0, 1) := by decide +kernel
theorem dX2_joins_5 : decode cX2_joins 5 = .ok (.bipush 6, 2) := by decide +kernel
theorem dX2_joins_7 : decode cX2_joins 7 = .ok (.iload_n 1, 1) := by decide +kernel
theorem dX2_joins_8 : decode cX2_joins 8 = .ok (.iadd, 1) := by decide +kernel
theorem dX2_joins_9 : decode cX2_joins 9 = .ok (.iconst 0, 1) := by decide +kernel
theorem dX2_joins_10 : decode cX2_joins 10 = .ok (.iastore, 1) := by decide +kernel
theorem dX2_joins_11 : decode cX2_joins 11 = .ok (.aload_n 0, 1) := by decide +kernel
theorem dX2_joins_12 : decode cX2_joins 12 = .ok (.bipush 60, 2) := by decide +kernel
theorem dX2_joins_14 : decode cX2_joins 14 = .ok (.iload_n 1, 1) := by decide +kernel
theorem dX2_joins_15 : decode cX2_joins 15 = .ok (.iadd, 1) := by decide +kernel
theorem dX2_joins_16 : decode cX2_joins 16 = .ok (.iconst 0, 1) := by decide +kernel
theorem dX2_joins_17 : decode cX2_joins 17 = .ok (.iastore, 1) := by decide +kernel
theorem dX2_joins_18 : decode cX2_joins 18 = .ok (.aload_n 0, 1) := by decide +kernel
theorem dX2_joins_19 : decode cX2_joins 19 = .ok (.bipush 48, 2) := by decide +kernel
theorem dX2_joins_21 : decode cX2_joins 21 = .ok (.iload_n 1, 1) := by decide +kernel
theorem dX2_joins_22 : decode cX2_joins 22 = .ok (.iadd, 1) := by decide +kernel
theorem dX2_joins_23 : decode cX2_joins 23 = .ok (.aload_n 0, 1) := by decide +kernel
theorem dX2_joins_24 : decode cX2_joins 24 = .ok (.bipush 70, 2) := by decide +kernel
theorem dX2_joins_26 : decode cX2_joins 26 = .ok (.iaload, 1) := by decide +kernel
theorem dX2_joins_27 : decode cX2_joins 27 = .ok (.iastore, 1) := by decide +kernel
theorem dX2_joins_28 : decode cX2_joins 28 = .ok (.aload_n 0, 1) := by decide +kernel
theorem dX2_joins_29 : decode cX2_joins 29 = .ok (.bipush 54, 2) := by decide +kernel
theorem dX2_joins_31 : decode cX2_joins 31 = .ok (.iload_n 1, 1) := by decide +kernel
theorem dX2_joins_32 : decode cX2_joins 32 = .ok (.iadd, 1) := by decide +kernel
theorem dX2_joins_33 : decode cX2_joins 33 = .ok (.aload_n 0, 1) := by decide +kernel
theorem dX2_joins_34 : decode cX2_joins 34 = .ok (.bipush 70, 2) := by decide +kernel
theorem dX2_joins_36 : decode cX2_joins 36 = .ok (.iaload, 1) := by decide +kernel
theorem dX2_joins_37 : decode cX2_joins 37 = .ok (.aload_n 0, 1) := by decide +kernel
theorem dX2_joins_38 : decode cX2_joins 38 = .ok (.iconst 1, 1) := by decide +kernel
theorem dX2_joins_39 : decode cX2_joins 39 = .ok (.invokestatic 79, 3) := by decide +kernel
theorem dX2_joins_42 : decode cX2_joins 42 = .ok (.iadd, 1) := by decide +kernel
theorem dX2_joins_43 : decode cX2_joins 43 = .ok (.iastore, 1) := by decide +kernel
theorem dX2_joins_44 : decode cX2_joins 44 = .ok (.return_, 1) := by decide +kernel
set_option maxRecDepth 20000 in
theorem ggX2_leaves_X2_countOf : GoodIn wsX2_leaves wsX2_countOf := goodIn_r _ [4, 5, 6, 3, 7] (by decide +kernel) (by decide +kernel)
set_option maxRecDepth 20000 in
theorem gX2_leaves_X2_countOf : GoodIn wsX2_leaves (va_wsS RX2 76 yX2_countOf wsX2_countOf) := goodIn_app (goodIn_of _ (by decide +kernel)) ggX2_leaves_X2_countOf
set_option maxRecDepth 20000 in
theorem ggX2_leaves_X2_bye : GoodIn wsX2_leaves wsX2_bye := goodIn_r _ [10, 11, 12, 3, 13, 14, 15, 16, 17, 18, 19, 1, 2, 4, 5, 6, 7] (by decide +kernel) (by decide +kernel)
set_option maxRecDepth 20000 in
theorem gX2_leaves_X2_bye : GoodIn wsX2_leaves (va_wsS RX2 82 yX2_bye wsX2_bye) := goodIn_app (goodIn_of _ (by decide +kernel)) ggX2_leaves_X2_bye
set_option maxRecDepth 20000 in
theorem ggX2_leaves_X2_waitOf : GoodIn wsX2_leaves wsX2_waitOf := goodIn_r _ [22, 23, 24, 3, 25, 26, 27, 28, 29] (by decide +kernel) (by decide +kernel)
set_option maxRecDepth 20000 in
theorem gX2_leaves_X2_waitOf : GoodIn wsX2_leaves (va_wsS RX2 79 yX2_waitOf wsX2_waitOf) := goodIn_app (goodIn_of _ (by decide +kernel)) ggX2_leaves_X2_waitOf
theorem dX2_leaves_0 : decode cX2_leaves 0 = .ok (.aload_n 0, 1) := by decide +kernel
theorem dX2_leaves_1 : decode cX2_leaves 1 = .ok (.iload_n 1, 1) := by decide +kernel
theorem dX2_leaves_2 : decode cX2_leaves 2 = .ok (.invokestatic 76, 3) := by decide +kernel
theorem dX2_leaves_5 : decode cX2_leaves 5 = .ok (.iconst 3, 1) := by decide +kernel
theorem dX2_leaves_6 : decode cX2_leaves 6 = .ok (.if_icmp .gt 9, 3) := by decide +kernel
theorem dX2_leaves_9 : decode cX2_leaves 9 = .ok (.aload_n 0, 1) := by decide +kernel
theorem dX2_leaves_10 : decode cX2_leaves 10 = .ok (.iload_n 1, 1) := by decide +kernel
theorem dX2_leaves_11 : decode cX2_leaves 11 = .ok (.invokestatic 82, 3) := by decide +kernel
theorem dX2_leaves_14 : decode cX2_leaves 14 = .ok (.return_, 1) := by decide +kernel
theorem dX2_leaves_15 : decode cX2_leaves 15 = .ok (.aload_n 0, 1) := by decide +kernel
theorem dX2_leaves_16 : decode cX2_leaves 16 = .ok (.iload_n 1, 1) := by decide +kernel
theorem dX2_leaves_17 : decode cX2_leaves 17 = .ok (.iconst 2, 1) := by decide +kernel
theorem dX2_leaves_18 : decode cX2_leaves 18 = .ok (.iastore, 1) := by decide +kernel
theorem dX2_leaves_19 : decode cX2_leaves 19 = .ok (.aload_n 0, 1) := by decide +kernel
theorem dX2_leaves_20 : decode cX2_leaves 20 = .ok (.bipush 60, 2) := by decide +kernel
theorem dX2_leaves_22 : decode cX2_leaves 22 = .ok (.iload_n 1, 1) := by decide +kernel
theorem dX2_leaves_23 : decode cX2_leaves 23 = .ok (.iadd, 1) := by decide +kernel
theorem dX2_leaves_24 : decode cX2_leaves 24 = .ok (.iconst 1, 1) := by decide +kernel
theorem dX2_leaves_25 : decode cX2_leaves 25 = .ok (.iastore, 1) := by decide +kernel
theorem dX2_leaves_26 : decode cX2_leaves 26 = .ok (.aload_n 0, 1) := by decide +kernel
theorem dX2_leaves_27 : decode cX2_leaves 27 = .ok (.bipush 48, 2) := by decide +kernel
theorem dX2_leaves_29 : decode cX2_leaves 29 = .ok (.iload_n 1, 1) := by decide +kernel
theorem dX2_leaves_30 : decode cX2_leaves 30 = .ok (.iadd, 1) := by decide +kernel
theorem dX2_leaves_31 : decode cX2_leaves 31 = .ok (.aload_n 0, 1) := by decide +kernel
theorem dX2_leaves_32 : decode cX2_leaves 32 = .ok (.bipush 70, 2) := by decide +kernel
theorem dX2_leaves_34 : decode cX2_leaves 34 = .ok (.iaload, 1) := by decide +kernel
theorem dX2_leaves_35 : decode cX2_leaves 35 = .ok (.iastore, 1) := by decide +kernel
theorem dX2_leaves_36 : decode cX2_leaves 36 = .ok (.aload_n 0, 1) := by decide +kernel
theorem dX2_leaves_37 : decode cX2_leaves 37 = .ok (.bipush 54, 2) := by decide +kernel
theorem dX2_leaves_39 : decode cX2_leaves 39 = .ok (.iload_n 1, 1) := by decide +kernel
theorem dX2_leaves_40 : decode cX2_leaves 40 = .ok (.iadd, 1) := by decide +kernel
theorem dX2_leaves_41 : decode cX2_leaves 41 = .ok (.aload_n 0, 1) := by decide +kernel
theorem dX2_leaves_42 : decode cX2_leaves 42 = .ok (.bipush 70, 2) := by decide +kernel
theorem dX2_leaves_44 : decode cX2_leaves 44 = .ok (.iaload, 1) := by decide +kernel
theorem dX2_leaves_45 : decode cX2_leaves 45 = .ok (.aload_n 0, 1) := by decide +kernel
theorem dX2_leaves_46 : decode cX2_leaves 46 = .ok (.iconst 1, 1) := by decide +kernel
theorem dX2_leaves_47 : decode cX2_leaves 47 = .ok (.invokestatic 79, 3) := by decide +kernel
theorem dX2_leaves_50 : decode cX2_leaves 50 = .ok (.iadd, 1) := by decide +kernel
theorem dX2_leaves_51 : decode cX2_leaves 51 = .ok (.iastore, 1) := by decide +kernel
theorem dX2_leaves_52 : decode cX2_leaves 52 = .ok (.return_, 1) := by decide +kernel
set_option maxRecDepth 20000 in
theorem ggX2_look_X2_countOf : GoodIn wsX2_look wsX2_countOf := goodIn_r _ [4, 5, 6, 3, 7] (by decide +kernel) (by decide +kernel)
set_option maxRecDepth 20000 in
theorem gX2_look_X2_countOf : GoodIn wsX2_look (va_wsS RX2 76 yX2_countOf wsX2_countOf) := goodIn_app (goodIn_of _ (by decide +kernel)) ggX2_look_X2_countOf
set_option maxRecDepth 20000 in
theorem ggX2_look_X2_waitOf : GoodIn wsX2_look wsX2_waitOf := goodIn_r _ [10, 11, 12, 3, 13, 14, 15, 16, 17] (by decide +kernel) (by decide +kernel)
set_option maxRecDepth 20000 in
theorem gX2_look_X2_waitOf : GoodIn wsX2_look (va_wsS RX2 79 yX2_waitOf wsX2_waitOf) := goodIn_app (goodIn_of _ (by decide +kernel)) ggX2_look_X2_waitOf
set_option maxRecDepth 20000 in
theorem ggX2_look_X2_report : GoodIn wsX2_look wsX2_report := goodIn_r _ [20, 21, 22, 3, 23, 24, 25, 26] (by decide +kernel) (by decide +kernel)
set_option maxRecDepth 20000 in
theorem gX2_look_X2_report : GoodIn wsX2_look (va_wsS RX2 85 yX2_report wsX2_report) := goodIn_app (goodIn_of _ (by decide +kernel)) ggX2_look_X2_report
set_option maxRecDepth 20000 in
theorem ggX2_look_X2_bye : GoodIn wsX2_look wsX2_bye := goodIn_r _ [29, 30, 31, 3, 32, 21, 22, 23, 24, 25, 26, 1, 2, 4, 5, 6, 7] (by decide +kernel) (by decide +kernel)
set_option maxRecDepth 20000 in
theorem gX2_look_X2_bye : GoodIn wsX2_look (va_wsS RX2 82 yX2_bye wsX2_bye) := goodIn_app (goodIn_of _ (by decide +kernel)) ggX2_look_X2_bye
theorem dX2_look_0 : decode cX2_look 0 = .ok (.aload_n 0, 1) := by decide +kernel
theorem dX2_look_1 : decode cX2_look 1 = .ok (.iload_n 1, 1) := by decide +kernel
theorem dX2_look_2 : decode cX2_look 2 = .ok (.iaload, 1) := by decide +kernel
theorem dX2_look_3 : decode cX2_look 3 = .ok (.iconst 1, 1) := by decide +kernel
theorem dX2_look_4 : decode cX2_look 4 = .ok (.if_icmp .ne 7, 3) := by decide +kernel
theorem dX2_look_7 : decode cX2_look 7 = .ok (.iconst 1, 1) := by decide +kernel
theorem dX2_look_8 : decode cX2_look 8 = .ok (.goto 4, 3) := by decide +kernel
theorem dX2_look_11 : decode cX2_look 11 = .ok (.iconst 0, 1) := by decide +kernel
theorem dX2_look_12 : decode cX2_look 12 = .ok (.istore_n 2, 1) := by decide +kernel
theorem dX2_look_13 : decode cX2_look 13 = .ok (.aload_n 0, 1) := by decide +kernel
theorem dX2_look_14 : decode cX2_look 14 = .ok (.iload_n 2, 1) := by decide +kernel
theorem dX2_look_15 : decode cX2_look 15 = .ok (.ifCond .eq 11, 3) := by decide +kernel
theorem dX2_look_18 : decode cX2_look 18 = .ok (.aload_n 0, 1) := by decide +kernel
theorem dX2_look_19 : decode cX2_look 19 = .ok (.iload_n 1, 1) := by decide +kernel
theorem dX2_look_20 : decode cX2_look 20 = .ok (.invokestatic 76, 3) := by decide +kernel
theorem dX2_look_23 : decode cX2_look 23 = .ok (.goto 9, 3) := by decide +kernel
theorem dX2_look_26 : decode cX2_look 26 = .ok (.aload_n 0, 1) := by decide +kernel
theorem dX2_look_27 : decode cX2_look 27 = .ok (.bipush 60, 2) := by decide +kernel
theorem dX2_look_29 : decode cX2_look 29 = .ok (.iload_n 1, 1) := by decide +kernel
theorem dX2_look_30 : decode cX2_look 30 = .ok (.iadd, 1) := by decide +kernel
theorem dX2_look_31 : decode cX2_look 31 = .ok (.iaload, 1) := by decide +kernel
theorem dX2_look_32 : decode cX2_look 32 = .ok (.invokestatic 79, 3) := by decide +kernel
theorem dX2_look_35 : decode cX2_look 35 = .ok (.istore_n 3, 1) := by decide +kernel
theorem dX2_look_36 : decode cX2_look 36 = .ok (.aload_n 0, 1) := by decide +kernel
theorem dX2_look_37 : decode cX2_look 37 = .ok (.bipush 48, 2) := by decide +kernel
theorem dX2_look_39 : decode cX2_look 39 = .ok (.iload_n 1, 1) := by decide +kernel
theorem dX2_look_40 : decode cX2_look 40 = .ok (.iadd, 1) := by decide +kernel
theorem dX2_look_41 : decode cX2_look 41 = .ok (.iaload, 1) := by decide +kernel
theorem dX2_look_42 : decode cX2_look 42 = .ok (.iload_n 3, 1) := by decide +kernel
theorem dX2_look_43 : decode cX2_look 43 = .ok (.iadd, 1) := by decide +kernel
theorem dX2_look_44 : decode cX2_look 44 = .ok (.aload_n 0, 1) := by decide +kernel
theorem dX2_look_45 : decode cX2_look 45 = .ok (.bipush 70, 2) := by decide +kernel
theorem dX2_look_47 : decode cX2_look 47 = .ok (.iaload, 1) := by decide +kernel
theorem dX2_look_48 : decode cX2_look 48 = .ok (.if_icmp .le 20, 3) := by decide +kernel
theorem dX2_look_51 : decode cX2_look 51 = .ok (.aload_n 0, 1) := by decide +kernel
theorem dX2_look_52 : decode cX2_look 52 = .ok (.bipush 54, 2) := by decide +kernel
theorem dX2_look_54 : decode cX2_look 54 = .ok (.iload_n 1, 1) := by decide +kernel
theorem dX2_look_55 : decode cX2_look 55 = .ok (.iadd, 1) := by decide +kernel
theorem dX2_look_56 : decode cX2_look 56 = .ok (.aload_n 0, 1) := by decide +kernel
theorem dX2_look_57 : decode cX2_look 57 = .ok (.bipush 48, 2) := by decide +kernel
theorem dX2_look_59 : decode cX2_look 59 = .ok (.iload_n 1, 1) := by decide +kernel
theorem dX2_look_60 : decode cX2_look 60 = .ok (.iadd, 1) := by decide +kernel
theorem dX2_look_61 : decode cX2_look 61 = .ok (.iaload, 1) := by decide +kernel
theorem dX2_look_62 : decode cX2_look 62 = .ok (.iload_n 3, 1) := by decide +kernel
theorem dX2_look_63 : decode cX2_look 63 = .ok (.iadd, 1) := by decide +kernel
theorem dX2_look_64 : decode cX2_look 64 = .ok (.iastore, 1) := by decide +kernel
theorem dX2_look_65 : decode cX2_look 65 = .ok (.goto 50, 3) := by decide +kernel
theorem dX2_look_68 : decode cX2_look 68 = .ok (.iload_n 2, 1) := by decide +kernel
theorem dX2_look_69 : decode cX2_look 69 = .ok (.ifCond .eq 41, 3) := by decide +kernel
theorem dX2_look_72 : decode cX2_look 72 = .ok (.aload_n 0, 1) := by decide +kernel
theorem dX2_look_73 : decode cX2_look 73 = .ok (.iload_n 1, 1) := by decide +kernel
theorem dX2_look_74 : decode cX2_look 74 = .ok (.invokestatic 85, 3) := by decide +kernel
theorem dX2_look_77 : decode cX2_look 77 = .ok (.aload_n 0, 1) := by decide +kernel
theorem dX2_look_78 : decode cX2_look 78 = .ok (.bipush 48, 2) := by decide +kernel
theorem dX2_look_80 : decode cX2_look 80 = .ok (.iload_n 1, 1) := by decide +kernel
theorem dX2_look_81 : decode cX2_look 81 = .ok (.iadd, 1) := by decide +kernel
theorem dX2_look_82 : decode cX2_look 82 = .ok (.aload_n 0, 1) := by decide +kernel
theorem dX2_look_83 : decode cX2_look 83 = .ok (.bipush 70, 2) := by decide +kernel
theorem dX2_look_85 : decode cX2_look 85 = .ok (.iaload, 1) := by decide +kernel
theorem dX2_look_86 : decode cX2_look 86 = .ok (.iastore, 1) := by decide +kernel
theorem dX2_look_87 : decode cX2_look 87 = .ok (.aload_n 0, 1) := by decide +kernel
theorem dX2_look_88 : decode cX2_look 88 = .ok (.bipush 54, 2) := by decide +kernel
theorem dX2_look_90 : decode cX2_look 90 = .ok (.iload_n 1, 1) := by decide +kernel
theorem dX2_look_91 : decode cX2_look 91 = .ok (.iadd, 1) := by decide +kernel
theorem dX2_look_92 : decode cX2_look 92 = .ok (.aload_n 0, 1) := by decide +kernel
theorem dX2_look_93 : decode cX2_look 93 = .ok (.bipush 70, 2) := by decide +kernel
theorem dX2_look_95 : decode cX2_look 95 = .ok (.iaload, 1) := by decide +kernel
theorem dX2_look_96 : decode cX2_look 96 = .ok (.aload_n 0, 1) := by decide +kernel
theorem dX2_look_97 : decode cX2_look 97 = .ok (.aload_n 0, 1) := by decide +kernel
theorem dX2_look_98 : decode cX2_look 98 = .ok (.iload_n 1, 1) := by decide +kernel
theorem dX2_look_99 : decode cX2_look 99 = .ok (.invokestatic 76, 3) := by decide +kernel
theorem dX2_look_102 : decode cX2_look 102 = .ok (.invokestatic 79, 3) := by decide +kernel
theorem dX2_look_105 : decode cX2_look 105 = .ok (.iadd, 1) := by decide +kernel
theorem dX2_look_106 : decode cX2_look 106 = .ok (.iastore, 1) := by decide +kernel
theorem dX2_look_107 : decode cX2_look 107 = .ok (.goto 8, 3) := by decide +kernel
theorem dX2_look_110 : decode cX2_look 110 = .ok (.aload_n 0, 1) := by decide +kernel
theorem dX2_look_111 : decode cX2_look 111 = .ok (.iload_n 1, 1) := by decide +kernel
theorem dX2_look_112 : decode cX2_look 112 = .ok (.invokestatic 82, 3) := by decide +kernel
theorem dX2_look_115 : decode cX2_look 115 = .ok (.return_, 1) := by decide +kernel
set_option maxRecDepth 20000 in
theorem ggX2_forget_X2_countOf : GoodIn wsX2_forget wsX2_countOf := goodIn_r _ [4, 5, 6, 3, 7] (by decide +kernel) (by decide +kernel)
set_option maxRecDepth 20000 in
theorem gX2_forget_X2_countOf : GoodIn wsX2_forget (va_wsS RX2 76 yX2_countOf wsX2_countOf) := goodIn_app (goodIn_of _ (by decide +kernel)) ggX2_forget_X2_countOf
set_option maxRecDepth 20000 in
theorem ggX2_forget_X2_spanOf : GoodIn wsX2_forget wsX2_spanOf := goodIn_r _ [10] (by decide +kernel) (by decide +kernel)
set_option maxRecDepth 20000 in
theorem gX2_forget_X2_spanOf : GoodIn wsX2_forget (va_wsS RX2 56 yX2_spanOf wsX2_spanOf) := goodIn_app (goodIn_of _ (by decide +kernel)) ggX2_forget_X2_spanOf
set_option maxRecDepth 20000 in
theorem ggX2_forget_X2_has : GoodIn wsX2_forget wsX2_has := goodIn_r _ [13] (by decide +kernel) (by decide +kernel)
set_option maxRecDepth 20000 in
theorem gX2_forget_X2_has : GoodIn wsX2_forget (va_wsS RX2 64 yX2_has wsX2_has) := goodIn_app (goodIn_of _ (by decide +kernel)) ggX2_forget_X2_has
theorem dX2_forget_0 : decode cX2_forget 0 = .ok (.iconst 5, 1) := by decide +kernel
theorem dX2_forget_1 : decode cX2_forget 1 = .ok (.aload_n 0, 1) := by decide +kernel
theorem dX2_forget_2 : decode cX2_forget 2 = .ok (.aload_n 0, 1) := by decide +kernel
theorem dX2_forget_3 : decode cX2_forget 3 = .ok (.iload_n 1, 1) := by decide +kernel
theorem dX2_forget_4 : decode cX2_forget 4 = .ok (.invokestatic 76, 3) := by decide +kernel
theorem dX2_forget_7 : decode cX2_forget 7 = .ok (.invokestatic 56, 3) := by decide +kernel
theorem dX2_forget_10 : decode cX2_forget 10 = .ok (.imul, 1) := by decide +kernel
theorem dX2_forget_11 : decode cX2_forget 11 = .ok (.istore_n 2, 1) := by decide +kernel
theorem dX2_forget_12 : decode cX2_forget 12 = .ok (.iconst 0, 1) := by decide +kernel
theorem dX2_forget_13 : decode cX2_forget 13 = .ok (.istore_n 3, 1) := by decide +kernel
theorem dX2_forget_14 : decode cX2_forget 14 = .ok (.iload_n 3, 1) := by decide +kernel
theorem dX2_forget_15 : decode cX2_forget 15 = .ok (.bipush 6, 2) := by decide +kernel
theorem dX2_forget_17 : decode cX2_forget 17 = .ok (.if_icmp .ge 72, 3) := by decide +kernel
theorem dX2_forget_20 : decode cX2_forget 20 = .ok (.aload_n 0, 1) := by decide +kernel
theorem dX2_forget_21 : decode cX2_forget 21 = .ok (.bipush 6, 2) := by decide +kernel
theorem dX2_forget_23 : decode cX2_forget 23 = .ok (.iload_n 1, 1) := by decide +kernel
theorem dX2_forget_24 : decode cX2_forget 24 = .ok (.iadd, 1) := by decide +kernel
theorem dX2_forget_25 : decode cX2_forget 25 = .ok (.iaload, 1) := by decide +kernel
theorem dX2_forget_26 : decode cX2_forget 26 = .ok (.iload_n 3, 1) := by decide +kernel
theorem dX2_forget_27 : decode cX2_forget 27 = .ok (.invokestatic 64, 3) := by decide +kernel
theorem dX2_forget_30 : decode cX2_forget 30 = .ok (.ifCond .eq 27, 3) := by decide +kernel
theorem dX2_forget_33 : decode cX2_forget 33 = .ok (.aload_n 0, 1) := by decide +kernel
theorem dX2_forget_34 : decode cX2_forget 34 = .ok (.bipush 70, 2) := by decide +kernel
theorem dX2_forget_36 : decode cX2_forget 36 = .ok (.iaload, 1) := by decide +kernel
theorem dX2_forget_37 : decode cX2_forget 37 = .ok (.aload_n 0, 1) := by decide +kernel
theorem dX2_forget_38 : decode cX2_forget 38 = .ok (.bipush 12, 2) := by decide +kernel
theorem dX2_forget_40 : decode cX2_forget 40 = .ok (.bipush 6, 2) := by decide +kernel
theorem dX2_forget_42 : decode cX2_forget 42 = .ok (.iload_n 1, 1) := by decide +kernel
theorem dX2_forget_43 : decode cX2_forget 43 = .ok (.imul, 1) := by decide +kernel
theorem dX2_forget_44 : decode cX2_forget 44 = .ok (.iadd, 1) := by decide +kernel
theorem dX2_forget_45 : decode cX2_forget 45 = .ok (.iload_n 3, 1) := by decide +kernel
theorem dX2_forget_46 : decode cX2_forget 46 = .ok (.iadd, 1) := by decide +kernel
theorem dX2_forget_47 : decode cX2_forget 47 = .ok (.iaload, 1) := by decide +kernel
theorem dX2_forget_48 : decode cX2_forget 48 = .ok (.isub, 1) := by decide +kernel
theorem dX2_forget_49 : decode cX2_forget 49 = .ok (.iload_n 2, 1) := by decide +kernel
theorem dX2_forget_50 : decode cX2_forget 50 = .ok (.if_icmp .le 7, 3) := by decide +kernel
theorem dX2_forget_53 : decode cX2_forget 53 = .ok (.iconst 1, 1) := by decide +kernel
theorem dX2_forget_54 : decode cX2_forget 54 = .ok (.goto 4, 3) := by decide +kernel
theorem dX2_forget_57 : decode cX2_forget 57 = .ok (.iconst 0, 1) := by decide +kernel
theorem dX2_forget_58 : decode cX2_forget 58 = .ok (.istore 4, 2) := by decide +kernel
theorem dX2_forget_60 : decode cX2_forget 60 = .ok (.aload_n 0, 1) := by decide +kernel
theorem dX2_forget_61 : decode cX2_forget 61 = .ok (.bipush 6, 2) := by decide +kernel
theorem dX2_forget_63 : decode cX2_forget 63 = .ok (.iload_n 1, 1) := by decide +kernel
theorem dX2_forget_64 : decode cX2_forget 64 = .ok (.iadd, 1) := by decide +kernel
theorem dX2_forget_65 : decode cX2_forget 65 = .ok (.dup2, 1) := by decide +kernel
theorem dX2_forget_66 : decode cX2_forget 66 = .ok (.iaload, 1) := by decide +kernel
theorem dX2_forget_67 : decode cX2_forget 67 = .ok (.iload 4, 2) := by decide +kernel
theorem dX2_forget_69 : decode cX2_forget 69 = .ok (.ifCond .eq 11, 3) := by decide +kernel
theorem dX2_forget_72 : decode cX2_forget 72 = .ok (.iconst 1, 1) := by decide +kernel
theorem dX2_forget_73 : decode cX2_forget 73 = .ok (.iload_n 3, 1) := by decide +kernel
theorem dX2_forget_74 : decode cX2_forget 74 = .ok (.ishl, 1) := by decide +kernel
theorem dX2_forget_75 : decode cX2_forget 75 = .ok (.iconst (-1), 1) := by decide +kernel
theorem dX2_forget_76 : decode cX2_forget 76 = .ok (.ixor, 1) := by decide +kernel
theorem dX2_forget_77 : decode cX2_forget 77 = .ok (.goto 4, 3) := by decide +kernel
theorem dX2_forget_80 : decode cX2_forget 80 = .ok (.iconst (-1), 1) := by decide +kernel
theorem dX2_forget_81 : decode cX2_forget 81 = .ok (.iand, 1) := by decide +kernel
theorem dX2_forget_82 : decode cX2_forget 82 = .ok (.iastore, 1) := by decide +kernel
theorem dX2_forget_83 : decode cX2_forget 83 = .ok (.iinc 3 1, 3) := by decide +kernel
theorem dX2_forget_86 : decode cX2_forget 86 = .ok (.goto (-72), 3) := by decide +kernel
theorem dX2_forget_89 : decode cX2_forget 89 = .ok (.return_, 1) := by decide +kernel
set_option maxRecDepth 20000 in
theorem ggX2_tick_X2_look : GoodIn wsX2_tick wsX2_look := goodIn_r _ [4, 5, 6, 3, 7, 8, 9, 10, 11, 12, 13, 14, 15, 16, 17, 18, 19, 20, 21, 22, 23, 24, 25, 26, 27, 28, 29, 30, 31, 32, 33, 34, 35] (by decide +kernel) (by decide +kernel)
set_option maxRecDepth 20000 in
theorem gX2_tick_X2_look : GoodIn wsX2_tick (va_wsS RX2 88 yX2_look wsX2_look) := goodIn_app (goodIn_of _ (by decide +kernel)) ggX2_tick_X2_look
set_option maxRecDepth 20000 in
theorem ggX2_tick_X2_forget : GoodIn wsX2_tick wsX2_forget := goodIn_r _ [38, 5, 6, 3, 7, 8, 9, 10, 14, 15, 16, 27, 28, 29] (by decide +kernel) (by decide +kernel)
set_option maxRecDepth 20000 in
theorem gX2_tick_X2_forget : GoodIn wsX2_tick (va_wsS RX2 91 yX2_forget wsX2_forget) := goodIn_app (goodIn_of _ (by decide +kernel)) ggX2_tick_X2_forget
theorem dX2_tick_0 : decode cX2_tick 0 = .ok (.aload_n 0, 1) := by decide +kernel
theorem dX2_tick_1 : decode cX2_tick 1 = .ok (.bipush 70, 2) := by decide +kernel
theorem dX2_tick_3 : decode cX2_tick 3 = .ok (.dup2, 1) := by decide +kernel
theorem dX2_tick_4 : decode cX2_tick 4 = .ok (.iaload, 1) := by decide +kernel
theorem dX2_tick_5 : decode cX2_tick 5 = .ok (.iconst 1, 1) := by decide +kernel
theorem dX2_tick_6 : decode cX2_tick 6 = .ok (.iadd, 1) := by decide +kernel
theorem dX2_tick_7 : decode cX2_tick 7 = .ok (.iastore, 1) := by decide +kernel
theorem dX2_tick_8 : decode cX2_tick 8 = .ok (.iconst 0, 1) := by decide +kernel
theorem dX2_tick_9 : decode cX2_tick 9 = .ok (.istore_n 1, 1) := by decide +kernel
theorem dX2_tick_10 : decode cX2_tick 10 = .ok (.iload_n 1, 1) := by decide +kernel
theorem dX2_tick_11 : decode cX2_tick 11 = .ok (.bipush 6, 2) := by decide +kernel
theorem dX2_tick_13 : decode cX2_tick 13 = .ok (.if_icmp .ge 33, 3) := by decide +kernel
theorem dX2_tick_16 : decode cX2_tick 16 = .ok (.aload_n 0, 1) := by decide +kernel
theorem dX2_tick_17 : decode cX2_tick 17 = .ok (.iload_n 1, 1) := by decide +kernel
theorem dX2_tick_18 : decode cX2_tick 18 = .ok (.iaload, 1) := by decide +kernel
theorem dX2_tick_19 : decode cX2_tick 19 = .ok (.ifCond .eq 21, 3) := by decide +kernel
theorem dX2_tick_22 : decode cX2_tick 22 = .ok (.aload_n 0, 1) := by decide +kernel
theorem dX2_tick_23 : decode cX2_tick 23 = .ok (.bipush 54, 2) := by decide +kernel
theorem dX2_tick_25 : decode cX2_tick 25 = .ok (.iload_n 1, 1) := by decide +kernel
theorem dX2_tick_26 : decode cX2_tick 26 = .ok (.iadd, 1) := by decide +kernel
theorem dX2_tick_27 : decode cX2_tick 27 = .ok (.iaload, 1) := by decide +kernel
theorem dX2_tick_28 : decode cX2_tick 28 = .ok (.aload_n 0, 1) := by decide +kernel
theorem dX2_tick_29 : decode cX2_tick 29 = .ok (.bipush 70, 2) := by decide +kernel
theorem dX2_tick_31 : decode cX2_tick 31 = .ok (.iaload, 1) := by decide +kernel
theorem dX2_tick_32 : decode cX2_tick 32 = .ok (.if_icmp .gt 8, 3) := by decide +kernel
theorem dX2_tick_35 : decode cX2_tick 35 = .ok (.aload_n 0, 1) := by decide +kernel
theorem dX2_tick_36 : decode cX2_tick 36 = .ok (.iload_n 1, 1) := by decide +kernel
theorem dX2_tick_37 : decode cX2_tick 37 = .ok (.invokestatic 88, 3) := by decide +kernel
theorem dX2_tick_40 : decode cX2_tick 40 = .ok (.iinc 1 1, 3) := by decide +kernel
theorem dX2_tick_43 : decode cX2_tick 43 = .ok (.goto (-33), 3) := by decide +kernel
theorem dX2_tick_46 : decode cX2_tick 46 = .ok (.iconst 0, 1) := by decide +kernel
theorem dX2_tick_47 : decode cX2_tick 47 = .ok (.istore_n 1, 1) := by decide +kernel
theorem dX2_tick_48 : decode cX2_tick 48 = .ok (.iload_n 1, 1) := by decide +kernel
theorem dX2_tick_49 : decode cX2_tick 49 = .ok (.bipush 6, 2) := by decide +kernel
theorem dX2_tick_51 : decode cX2_tick 51 = .ok (.if_icmp .ge 21, 3) := by decide +kernel
theorem dX2_tick_54 : decode cX2_tick 54 = .ok (.aload_n 0, 1) := by decide +kernel
theorem dX2_tick_55 : decode cX2_tick 55 = .ok (.iload_n 1, 1) := by decide +kernel
theorem dX2_tick_56 : decode cX2_tick 56 = .ok (.iaload, 1) := by decide +kernel
theorem dX2_tick_57 : decode cX2_tick 57 = .ok (.iconst 1, 1) := by decide +kernel
theorem dX2_tick_58 : decode cX2_tick 58 = .ok (.if_icmp .ne 8, 3) := by decide +kernel
theorem dX2_tick_61 : decode cX2_tick 61 = .ok (.aload_n 0, 1) := by decide +kernel
theorem dX2_tick_62 : decode cX2_tick 62 = .ok (.iload_n 1, 1) := by decide +kernel
theorem dX2_tick_63 : decode cX2_tick 63 = .ok (.invokestatic 91, 3) := by decide +kernel
theorem dX2_tick_66 : decode cX2_tick 66 = .ok (.iinc 1 1, 3) := by decide +kernel
theorem dX2_tick_69 : decode cX2_tick 69 = .ok (.goto (-21), 3) := by decide +kernel
theorem dX2_tick_72 : decode cX2_tick 72 = .ok (.return_, 1) := by decide +kernel
set_option maxRecDepth 20000 in
theorem ggX2_passOn_X2_lettersOf : GoodIn wsX2_passOn wsX2_lettersOf := goodIn_r _ [4] (by decide +kernel) (by decide +kernel)
set_option maxRecDepth 20000 in
theorem gX2_passOn_X2_lettersOf : GoodIn wsX2_passOn (va_wsS RX2 94 yX2_lettersOf wsX2_lettersOf) := goodIn_app (goodIn_of _ (by decide +kernel)) ggX2_passOn_X2_lettersOf
set_option maxRecDepth 20000 in
theorem ggX2_passOn_X2_tick : GoodIn wsX2_passOn wsX2_tick := goodIn_r _ [7, 8, 9, 3, 10, 11, 12, 13, 14, 15, 16, 17, 18, 19, 20, 21, 22, 23, 24, 25, 26, 27, 28, 29, 30, 31, 32, 33, 34, 35, 36, 37, 38, 39, 40, 41, 42, 43, 44] (by decide +kernel) (by decide +kernel)
set_option maxRecDepth 20000 in
theorem gX2_passOn_X2_tick : GoodIn wsX2_passOn (va_wsS RX2 97 yX2_tick wsX2_tick) := goodIn_app (goodIn_of _ (by decide +kernel)) ggX2_passOn_X2_tick
theorem dX2_passOn_0 : decode cX2_passOn 0 = .ok (.aload_n 0, 1) := by decide +kernel
theorem dX2_passOn_1 : decode cX2_passOn 1 = .ok (.invokestatic 94, 3) := by decide +kernel
theorem dX2_passOn_4 : decode cX2_passOn 4 = .ok (.istore_n 2, 1) := by decide +kernel
theorem dX2_passOn_5 : decode cX2_passOn 5 = .ok (.iconst 0, 1) := by decide +kernel
theorem dX2_passOn_6 : decode cX2_passOn 6 = .ok (.istore_n 3, 1) := by decide +kernel
theorem dX2_passOn_7 : decode cX2_passOn 7 = .ok (.iload_n 3, 1) := by decide +kernel
theorem dX2_passOn_8 : decode cX2_passOn 8 = .ok (.iload_n 1, 1) := by decide +kernel
theorem dX2_passOn_9 : decode cX2_passOn 9 = .ok (.if_icmp .ge 13, 3) := by decide +kernel
theorem dX2_passOn_12 : decode cX2_passOn 12 = .ok (.aload_n 0, 1) := by decide +kernel
theorem dX2_passOn_13 : decode cX2_passOn 13 = .ok (.invokestatic 97, 3) := by decide +kernel
theorem dX2_passOn_16 : decode cX2_passOn 16 = .ok (.iinc 3 1, 3) := by decide +kernel
theorem dX2_passOn_19 : decode cX2_passOn 19 = .ok (.goto (-12), 3) := by decide +kernel
theorem dX2_passOn_22 : decode cX2_passOn 22 = .ok (.aload_n 0, 1) := by decide +kernel
theorem dX2_passOn_23 : decode cX2_passOn 23 = .ok (.invokestatic 94, 3) := by decide +kernel
theorem dX2_passOn_26 : decode cX2_passOn 26 = .ok (.iload_n 2, 1) := by decide +kernel
theorem dX2_passOn_27 : decode cX2_passOn 27 = .ok (.isub, 1) := by decide +kernel
theorem dX2_passOn_28 : decode cX2_passOn 28 = .ok (.ireturn, 1) := by decide +kernel
set_option maxRecDepth 20000 in
theorem ggX2_write_X2_in : GoodIn wsX2_write wsX2_in := goodIn_r _ [7] (by decide +kernel) (by decide +kernel)
set_option maxRecDepth 20000 in
theorem gX2_write_X2_in : GoodIn wsX2_write (va_wsS RX2 47 yX2_in wsX2_in) := goodIn_app (goodIn_of _ (by decide +kernel)) ggX2_write_X2_in
theorem dX2_write_0 : decode cX2_write 0 = .ok (.iload_n 1, 1) := by decide +kernel
theorem dX2_write_1 : decode cX2_write 1 = .ok (.i2l, 1) := by decide +kernel
theorem dX2_write_2 : decode cX2_write 2 = .ok (.lconst 0, 1) := by decide +kernel
theorem dX2_write_3 : decode cX2_write 3 = .ok (.ldc2_w 100, 3) := by decide +kernel
theorem dX2_write_6 : decode cX2_write 6 = .ok (.invokestatic 47, 3) := by decide +kernel
theorem dX2_write_9 : decode cX2_write 9 = .ok (.ifCond .ne 6, 3) := by decide +kernel
theorem dX2_write_12 : decode cX2_write 12 = .ok (.bipush (-2), 2) := by decide +kernel
theorem dX2_write_14 : decode cX2_write 14 = .ok (.ireturn, 1) := by decide +kernel
theorem dX2_write_15 : decode cX2_write 15 = .ok (.aload_n 0, 1) := by decide +kernel
theorem dX2_write_16 : decode cX2_write 16 = .ok (.getfield 102, 3) := by decide +kernel
theorem dX2_write_19 : decode cX2_write 19 = .ok (.bipush 60, 2) := by decide +kernel
theorem dX2_write_21 : decode cX2_write 21 = .ok (.if_icmp .ne 6, 3) := by decide +kernel
theorem dX2_write_24 : decode cX2_write 24 = .ok (.bipush (-4), 2) := by decide +kernel
theorem dX2_write_26 : decode cX2_write 26 = .ok (.ireturn, 1) := by decide +kernel
theorem dX2_write_27 : decode cX2_write 27 = .ok (.aload_n 0, 1) := by decide +kernel
theorem dX2_write_28 : decode cX2_write 28 = .ok (.getfield 7, 3) := by decide +kernel
theorem dX2_write_31 : decode cX2_write 31 = .ok (.aload_n 0, 1) := by decide +kernel
theorem dX2_write_32 : decode cX2_write 32 = .ok (.getfield 102, 3) := by decide +kernel
theorem dX2_write_35 : decode cX2_write 35 = .ok (.iload_n 1, 1) := by decide +kernel
theorem dX2_write_36 : decode cX2_write 36 = .ok (.iastore, 1) := by decide +kernel
theorem dX2_write_37 : decode cX2_write 37 = .ok (.aload_n 0, 1) := by decide +kernel
theorem dX2_write_38 : decode cX2_write 38 = .ok (.dup, 1) := by decide +kernel
theorem dX2_write_39 : decode cX2_write 39 = .ok (.getfield 102, 3) := by decide +kernel
theorem dX2_write_42 : decode cX2_write 42 = .ok (.iconst 1, 1) := by decide +kernel
theorem dX2_write_43 : decode cX2_write 43 = .ok (.iadd, 1) := by decide +kernel
theorem dX2_write_44 : decode cX2_write 44 = .ok (.putfield 102, 3) := by decide +kernel
theorem dX2_write_47 : decode cX2_write 47 = .ok (.aload_n 0, 1) := by decide +kernel
theorem dX2_write_48 : decode cX2_write 48 = .ok (.getfield 102, 3) := by decide +kernel
theorem dX2_write_51 : decode cX2_write 51 = .ok (.ireturn, 1) := by decide +kernel
theorem dX2_wipe_0 : decode cX2_wipe 0 = .ok (.aload_n 0, 1) := by decide +kernel
theorem dX2_wipe_1 : decode cX2_wipe 1 = .ok (.getfield 102, 3) := by decide +kernel
theorem dX2_wipe_4 : decode cX2_wipe 4 = .ok (.istore_n 1, 1) := by decide +kernel
theorem dX2_wipe_5 : decode cX2_wipe 5 = .ok (.aload_n 0, 1) := by decide +kernel
theorem dX2_wipe_6 : decode cX2_wipe 6 = .ok (.iconst 0, 1) := by decide +kernel
theorem dX2_wipe_7 : decode cX2_wipe 7 = .ok (.putfield 102, 3) := by decide +kernel
theorem dX2_wipe_10 : decode cX2_wipe 10 = .ok (.iload_n 1, 1) := by decide +kernel
theorem dX2_wipe_11 : decode cX2_wipe 11 = .ok (.ireturn, 1) := by decide +kernel
theorem dX2_those_0 : decode cX2_those 0 = .ok (.iconst 0, 1) := by decide +kernel
theorem dX2_those_1 : decode cX2_those 1 = .ok (.istore_n 2, 1) := by decide +kernel
theorem dX2_those_2 : decode cX2_those 2 = .ok (.iconst 0, 1) := by decide +kernel
theorem dX2_those_3 : decode cX2_those 3 = .ok (.istore_n 3, 1) := by decide +kernel
theorem dX2_those_4 : decode cX2_those 4 = .ok (.iload_n 3, 1) := by decide +kernel
theorem dX2_those_5 : decode cX2_those 5 = .ok (.bipush 6, 2) := by decide +kernel
theorem dX2_those_7 : decode cX2_those 7 = .ok (.if_icmp .ge 26, 3) := by decide +kernel
theorem dX2_those_10 : decode cX2_those 10 = .ok (.iload_n 2, 1) := by decide +kernel
theorem dX2_those_11 : decode cX2_those 11 = .ok (.aload_n 0, 1) := by decide +kernel
theorem dX2_those_12 : decode cX2_those 12 = .ok (.iload_n 3, 1) := by decide +kernel
theorem dX2_those_13 : decode cX2_those 13 = .ok (.iaload, 1) := by decide +kernel
theorem dX2_those_14 : decode cX2_those 14 = .ok (.iload_n 1, 1) := by decide +kernel
theorem dX2_those_15 : decode cX2_those 15 = .ok (.if_icmp .ne 9, 3) := by decide +kernel
theorem dX2_those_18 : decode cX2_those 18 = .ok (.iconst 1, 1) := by decide +kernel
theorem dX2_those_19 : decode cX2_those 19 = .ok (.iload_n 3, 1) := by decide +kernel
theorem dX2_those_20 : decode cX2_those 20 = .ok (.ishl, 1) := by decide +kernel
theorem dX2_those_21 : decode cX2_those 21 = .ok (.goto 4, 3) := by decide +kernel
theorem dX2_those_24 : decode cX2_those 24 = .ok (.iconst 0, 1) := by decide +kernel
theorem dX2_those_25 : decode cX2_those 25 = .ok (.ior, 1) := by decide +kernel
theorem dX2_those_26 : decode cX2_those 26 = .ok (.istore_n 2, 1) := by decide +kernel
theorem dX2_those_27 : decode cX2_those 27 = .ok (.iinc 3 1, 3) := by decide +kernel
theorem dX2_those_30 : decode cX2_those 30 = .ok (.goto (-26), 3) := by decide +kernel
theorem dX2_those_33 : decode cX2_those 33 = .ok (.iload_n 2, 1) := by decide +kernel
theorem dX2_those_34 : decode cX2_those 34 = .ok (.ireturn, 1) := by decide +kernel
set_option maxRecDepth 20000 in
theorem ggX2_readText_X2_clear : GoodIn wsX2_readText wsX2_clear := goodIn_r _ [8] (by decide +kernel) (by decide +kernel)
set_option maxRecDepth 20000 in
theorem gX2_readText_X2_clear : GoodIn wsX2_readText (va_wsS RX2 41 yX2_clear wsX2_clear) := goodIn_app (goodIn_of _ (by decide +kernel)) ggX2_readText_X2_clear
set_option maxRecDepth 20000 in
theorem ggX2_readText_X2_in : GoodIn wsX2_readText wsX2_in := goodIn_r _ [11] (by decide +kernel) (by decide +kernel)
set_option maxRecDepth 20000 in
theorem gX2_readText_X2_in : GoodIn wsX2_readText (va_wsS RX2 47 yX2_in wsX2_in) := goodIn_app (goodIn_of _ (by decide +kernel)) ggX2_readText_X2_in
set_option maxRecDepth 20000 in
theorem ggX2_readText_X2_passOn : GoodIn wsX2_readText wsX2_passOn := goodIn_r _ [14, 15, 16, 7, 17, 18, 19, 20, 21, 22, 23, 24, 25, 26, 27, 28, 29, 30, 31, 32, 33, 34, 35, 36, 37, 38, 39, 40, 41, 42, 43, 44, 45, 46, 47, 48, 49, 50, 51, 52, 53, 54, 55, 56, 57] (by decide +kernel) (by decide +kernel)
set_option maxRecDepth 20000 in
theorem gX2_readText_X2_passOn : GoodIn wsX2_readText (va_wsS RX2 108 yX2_passOn wsX2_passOn) := goodIn_app (goodIn_of _ (by decide +kernel)) ggX2_readText_X2_passOn
set_option maxRecDepth 20000 in
theorem ggX2_readText_X2_those : GoodIn wsX2_readText wsX2_those := goodIn_r _ [60] (by decide +kernel) (by decide +kernel)
set_option maxRecDepth 20000 in
theorem gX2_readText_X2_those : GoodIn wsX2_readText (va_wsS RX2 111 yX2_those wsX2_those) := goodIn_app (goodIn_of _ (by decide +kernel)) ggX2_readText_X2_those
set_option maxRecDepth 20000 in
theorem ggX2_readText_X2_isMember : GoodIn wsX2_readText wsX2_isMember := goodIn_r _ [63, 64, 9, 10, 7, 11] (by decide +kernel) (by decide +kernel)
set_option maxRecDepth 20000 in
theorem gX2_readText_X2_isMember : GoodIn wsX2_readText (va_wsS RX2 114 yX2_isMember wsX2_isMember) := goodIn_app (goodIn_of _ (by decide +kernel)) ggX2_readText_X2_isMember
set_option maxRecDepth 20000 in
theorem ggX2_readText_X2_has : GoodIn wsX2_readText wsX2_has := goodIn_r _ [48] (by decide +kernel) (by decide +kernel)
set_option maxRecDepth 20000 in
theorem gX2_readText_X2_has : GoodIn wsX2_readText (va_wsS RX2 64 yX2_has wsX2_has) := goodIn_app (goodIn_of _ (by decide +kernel)) ggX2_readText_X2_has
set_option maxRecDepth 20000 in
theorem ggX2_readText_X2_joins : GoodIn wsX2_readText wsX2_joins := goodIn_r _ [67, 30, 31, 7, 32, 33, 34, 35, 36, 37, 38, 39] (by decide +kernel) (by decide +kernel)
set_option maxRecDepth 20000 in
theorem gX2_readText_X2_joins : GoodIn wsX2_readText (va_wsS RX2 118 yX2_joins wsX2_joins) := goodIn_app (goodIn_of _ (by decide +kernel)) ggX2_readText_X2_joins
set_option maxRecDepth 20000 in
theorem ggX2_readText_X2_leaves : GoodIn wsX2_readText wsX2_leaves := goodIn_r _ [70, 24, 25, 7, 26, 27, 28, 29, 49, 50, 51, 52, 53, 54, 43, 44, 45, 46, 47, 48, 30, 31, 32, 33, 34, 35, 36, 37, 38, 39] (by decide +kernel) (by decide +kernel)
set_option maxRecDepth 20000 in
theorem gX2_readText_X2_leaves : GoodIn wsX2_readText (va_wsS RX2 121 yX2_leaves wsX2_leaves) := goodIn_app (goodIn_of _ (by decide +kernel)) ggX2_readText_X2_leaves
theorem dX2_readText_0 : decode cX2_readText 0 = .ok (.aload_n 0, 1) := by decide +kernel
theorem dX2_readText_1 : decode cX2_readText 1 = .ok (.getfield 38, 3) := by decide +kernel
theorem dX2_readText_4 : decode cX2_readText 4 = .ok (.invokestatic 41, 3) := by decide +kernel
theorem dX2_readText_7 : decode cX2_readText 7 = .ok (.aload_n 0, 1) := by decide +kernel
theorem dX2_readText_8 : decode cX2_readText 8 = .ok (.getfield 102, 3) := by decide +kernel
theorem dX2_readText_11 : decode cX2_readText 11 = .ok (.ifCond .eq 14, 3) := by decide +kernel
theorem dX2_readText_14 : decode cX2_readText 14 = .ok (.aload_n 0, 1) := by decide +kernel
theorem dX2_readText_15 : decode cX2_readText 15 = .ok (.getfield 7, 3) := by decide +kernel
theorem dX2_readText_18 : decode cX2_readText 18 = .ok (.iconst 0, 1) := by decide +kernel
theorem dX2_readText_19 : decode cX2_readText 19 = .ok (.iaload, 1) := by decide +kernel
theorem dX2_readText_20 : decode cX2_readText 20 = .ok (.bipush 77, 2) := by decide +kernel
theorem dX2_readText_22 : decode cX2_readText 22 = .ok (.if_icmp .eq 5, 3) := by decide +kernel
theorem dX2_readText_25 : decode cX2_readText 25 = .ok (.iconst 0, 1) := by decide +kernel
theorem dX2_readText_26 : decode cX2_readText 26 = .ok (.ireturn, 1) := by decide +kernel
theorem dX2_readText_27 : decode cX2_readText 27 = .ok (.iconst 1, 1) := by decide +kernel
theorem dX2_readText_28 : decode cX2_readText 28 = .ok (.istore_n 1, 1) := by decide +kernel
theorem dX2_readText_29 : decode cX2_readText 29 = .ok (.iload_n 1, 1) := by decide +kernel
theorem dX2_readText_30 : decode cX2_readText 30 = .ok (.bipush 7, 2) := by decide +kernel
theorem dX2_readText_32 : decode cX2_readText 32 = .ok (.if_icmp .ge 94, 3) := by decide +kernel
theorem dX2_readText_35 : decode cX2_readText 35 = .ok (.iload_n 1, 1) := by decide +kernel
theorem dX2_readText_36 : decode cX2_readText 36 = .ok (.aload_n 0, 1) := by decide +kernel
theorem dX2_readText_37 : decode cX2_readText 37 = .ok (.getfield 102, 3) := by decide +kernel
theorem dX2_readText_40 : decode cX2_readText 40 = .ok (.if_icmp .ge 15, 3) := by decide +kernel
theorem dX2_readText_43 : decode cX2_readText 43 = .ok (.aload_n 0, 1) := by decide +kernel
theorem dX2_readText_44 : decode cX2_readText 44 = .ok (.getfield 7, 3) := by decide +kernel
theorem dX2_readText_47 : decode cX2_readText 47 = .ok (.iload_n 1, 1) := by decide +kernel
theorem dX2_readText_48 : decode cX2_readText 48 = .ok (.iaload, 1) := by decide +kernel
theorem dX2_readText_49 : decode cX2_readText 49 = .ok (.bipush 48, 2) := by decide +kernel
theorem dX2_readText_51 : decode cX2_readText 51 = .ok (.isub, 1) := by decide +kernel
theorem dX2_readText_52 : decode cX2_readText 52 = .ok (.goto 5, 3) := by decide +kernel
theorem dX2_readText_55 : decode cX2_readText 55 = .ok (.bipush (-9), 2) := by decide +kernel
theorem dX2_readText_57 : decode cX2_readText 57 = .ok (.istore_n 2, 1) := by decide +kernel
theorem dX2_readText_58 : decode cX2_readText 58 = .ok (.iload_n 2, 1) := by decide +kernel
theorem dX2_readText_59 : decode cX2_readText 59 = .ok (.i2l, 1) := by decide +kernel
theorem dX2_readText_60 : decode cX2_readText 60 = .ok (.iload_n 1, 1) := by decide +kernel
theorem dX2_readText_61 : decode cX2_readText 61 = .ok (.iconst 4, 1) := by decide +kernel
theorem dX2_readText_62 : decode cX2_readText 62 = .ok (.if_icmp .ge 7, 3) := by decide +kernel
theorem dX2_readText_65 : decode cX2_readText 65 = .ok (.lconst 1, 1) := by decide +kernel
theorem dX2_readText_66 : decode cX2_readText 66 = .ok (.goto 4, 3) := by decide +kernel
theorem dX2_readText_69 : decode cX2_readText 69 = .ok (.lconst 0, 1) := by decide +kernel
theorem dX2_readText_70 : decode cX2_readText 70 = .ok (.ldc2_w 106, 3) := by decide +kernel
theorem dX2_readText_73 : decode cX2_readText 73 = .ok (.invokestatic 47, 3) := by decide +kernel
theorem dX2_readText_76 : decode cX2_readText 76 = .ok (.ifCond .ne 5, 3) := by decide +kernel
theorem dX2_readText_79 : decode cX2_readText 79 = .ok (.iload_n 1, 1) := by decide +kernel
theorem dX2_readText_80 : decode cX2_readText 80 = .ok (.ireturn, 1) := by decide +kernel
theorem dX2_readText_81 : decode cX2_readText 81 = .ok (.iload_n 1, 1) := by decide +kernel
theorem dX2_readText_82 : decode cX2_readText 82 = .ok (.iconst 4, 1) := by decide +kernel
theorem dX2_readText_83 : decode cX2_readText 83 = .ok (.if_icmp .ge 18, 3) := by decide +kernel
theorem dX2_readText_86 : decode cX2_readText 86 = .ok (.aload_n 0, 1) := by decide +kernel
theorem dX2_readText_87 : decode cX2_readText 87 = .ok (.getfield 38, 3) := by decide +kernel
theorem dX2_readText_90 : decode cX2_readText 90 = .ok (.bipush 66, 2) := by decide +kernel
theorem dX2_readText_92 : decode cX2_readText 92 = .ok (.iload_n 1, 1) := by decide +kernel
theorem dX2_readText_93 : decode cX2_readText 93 = .ok (.iadd, 1) := by decide +kernel
theorem dX2_readText_94 : decode cX2_readText 94 = .ok (.iconst 1, 1) := by decide +kernel
theorem dX2_readText_95 : decode cX2_readText 95 = .ok (.isub, 1) := by decide +kernel
theorem dX2_readText_96 : decode cX2_readText 96 = .ok (.iload_n 2, 1) := by decide +kernel
theorem dX2_readText_97 : decode cX2_readText 97 = .ok (.iastore, 1) := by decide +kernel
theorem dX2_readText_98 : decode cX2_readText 98 = .ok (.goto 22, 3) := by decide +kernel
theorem dX2_readText_101 : decode cX2_readText 101 = .ok (.aload_n 0, 1) := by decide +kernel
theorem dX2_readText_102 : decode cX2_readText 102 = .ok (.getfield 38, 3) := by decide +kernel
theorem dX2_readText_105 : decode cX2_readText 105 = .ok (.bipush 69, 2) := by decide +kernel
theorem dX2_readText_107 : decode cX2_readText 107 = .ok (.bipush 10, 2) := by decide +kernel
theorem dX2_readText_109 : decode cX2_readText 109 = .ok (.aload_n 0, 1) := by decide +kernel
theorem dX2_readText_110 : decode cX2_readText 110 = .ok (.getfield 38, 3) := by decide +kernel
theorem dX2_readText_113 : decode cX2_readText 113 = .ok (.bipush 69, 2) := by decide +kernel
theorem dX2_readText_115 : decode cX2_readText 115 = .ok (.iaload, 1) := by decide +kernel
theorem dX2_readText_116 : decode cX2_readText 116 = .ok (.imul, 1) := by decide +kernel
theorem dX2_readText_117 : decode cX2_readText 117 = .ok (.iload_n 2, 1) := by decide +kernel
theorem dX2_readText_118 : decode cX2_readText 118 = .ok (.iadd, 1) := by decide +kernel
theorem dX2_readText_119 : decode cX2_readText 119 = .ok (.iastore, 1) := by decide +kernel
theorem dX2_readText_120 : decode cX2_readText 120 = .ok (.iinc 1 1, 3) := by decide +kernel
theorem dX2_readText_123 : decode cX2_readText 123 = .ok (.goto (-94), 3) := by decide +kernel
theorem dX2_readText_126 : decode cX2_readText 126 = .ok (.bipush 7, 2) := by decide +kernel
theorem dX2_readText_128 : decode cX2_readText 128 = .ok (.istore_n 1, 1) := by decide +kernel
theorem dX2_readText_129 : decode cX2_readText 129 = .ok (.iload_n 1, 1) := by decide +kernel
theorem dX2_readText_130 : decode cX2_readText 130 = .ok (.aload_n 0, 1) := by decide +kernel
theorem dX2_readText_131 : decode cX2_readText 131 = .ok (.getfield 102, 3) := by decide +kernel
theorem dX2_readText_134 : decode cX2_readText 134 = .ok (.if_icmp .ge 193, 3) := by decide +kernel
theorem dX2_readText_137 : decode cX2_readText 137 = .ok (.aload_n 0, 1) := by decide +kernel
theorem dX2_readText_138 : decode cX2_readText 138 = .ok (.getfield 7, 3) := by decide +kernel
theorem dX2_readText_141 : decode cX2_readText 141 = .ok (.iload_n 1, 1) := by decide +kernel
theorem dX2_readText_142 : decode cX2_readText 142 = .ok (.iaload, 1) := by decide +kernel
theorem dX2_readText_143 : decode cX2_readText 143 = .ok (.bipush 48, 2) := by decide +kernel
theorem dX2_readText_145 : decode cX2_readText 145 = .ok (.isub, 1) := by decide +kernel
theorem dX2_readText_146 : decode cX2_readText 146 = .ok (.istore_n 2, 1) := by decide +kernel
theorem dX2_readText_147 : decode cX2_readText 147 = .ok (.iconst 0, 1) := by decide +kernel
theorem dX2_readText_148 : decode cX2_readText 148 = .ok (.istore_n 3, 1) := by decide +kernel
theorem dX2_readText_149 : decode cX2_readText 149 = .ok (.iload_n 2, 1) := by decide +kernel
theorem dX2_readText_150 : decode cX2_readText 150 = .ok (.i2l, 1) := by decide +kernel
theorem dX2_readText_151 : decode cX2_readText 151 = .ok (.lconst 1, 1) := by decide +kernel
theorem dX2_readText_152 : decode cX2_readText 152 = .ok (.ldc2_w 106, 3) := by decide +kernel
theorem dX2_readText_155 : decode cX2_readText 155 = .ok (.invokestatic 47, 3) := by decide +kernel
theorem dX2_readText_158 : decode cX2_readText 158 = .ok (.ifCond .eq 18, 3) := by decide +kernel
theorem dX2_readText_161 : decode cX2_readText 161 = .ok (.aload_n 0, 1) := by decide +kernel
theorem dX2_readText_162 : decode cX2_readText 162 = .ok (.getfield 38, 3) := by decide +kernel
theorem dX2_readText_165 : decode cX2_readText 165 = .ok (.iload_n 2, 1) := by decide +kernel
theorem dX2_readText_166 : decode cX2_readText 166 = .ok (.invokestatic 108, 3) := by decide +kernel
theorem dX2_readText_169 : decode cX2_readText 169 = .ok (.istore_n 3, 1) := by decide +kernel
theorem dX2_readText_170 : decode cX2_readText 170 = .ok (.iinc 1 1, 3) := by decide +kernel
theorem dX2_readText_173 : decode cX2_readText 173 = .ok (.goto 151, 3) := by decide +kernel
theorem dX2_readText_176 : decode cX2_readText 176 = .ok (.aload_n 0, 1) := by decide +kernel
theorem dX2_readText_177 : decode cX2_readText 177 = .ok (.getfield 7, 3) := by decide +kernel
theorem dX2_readText_180 : decode cX2_readText 180 = .ok (.iload_n 1, 1) := by decide +kernel
theorem dX2_readText_181 : decode cX2_readText 181 = .ok (.iaload, 1) := by decide +kernel
theorem dX2_readText_182 : decode cX2_readText 182 = .ok (.bipush 106, 2) := by decide +kernel
theorem dX2_readText_184 : decode cX2_readText 184 = .ok (.if_icmp .ne 14, 3) := by decide +kernel
theorem dX2_readText_187 : decode cX2_readText 187 = .ok (.aload_n 0, 1) := by decide +kernel
theorem dX2_readText_188 : decode cX2_readText 188 = .ok (.getfield 38, 3) := by decide +kernel
theorem dX2_readText_191 : decode cX2_readText 191 = .ok (.iconst 0, 1) := by decide +kernel
theorem dX2_readText_192 : decode cX2_readText 192 = .ok (.invokestatic 111, 3) := by decide +kernel
theorem dX2_readText_195 : decode cX2_readText 195 = .ok (.goto 26, 3) := by decide +kernel
theorem dX2_readText_198 : decode cX2_readText 198 = .ok (.aload_n 0, 1) := by decide +kernel
theorem dX2_readText_199 : decode cX2_readText 199 = .ok (.getfield 7, 3) := by decide +kernel
theorem dX2_readText_202 : decode cX2_readText 202 = .ok (.iload_n 1, 1) := by decide +kernel
theorem dX2_readText_203 : decode cX2_readText 203 = .ok (.iaload, 1) := by decide +kernel
theorem dX2_readText_204 : decode cX2_readText 204 = .ok (.bipush 108, 2) := by decide +kernel
theorem dX2_readText_206 : decode cX2_readText 206 = .ok (.if_icmp .ne 14, 3) := by decide +kernel
theorem dX2_readText_209 : decode cX2_readText 209 = .ok (.aload_n 0, 1) := by decide +kernel
theorem dX2_readText_210 : decode cX2_readText 210 = .ok (.getfield 38, 3) := by decide +kernel
theorem dX2_readText_213 : decode cX2_readText 213 = .ok (.iconst 1, 1) := by decide +kernel
theorem dX2_readText_214 : decode cX2_readText 214 = .ok (.invokestatic 111, 3) := by decide +kernel
theorem dX2_readText_217 : decode cX2_readText 217 = .ok (.goto 4, 3) := by decide +kernel
theorem dX2_readText_220 : decode cX2_readText 220 = .ok (.iconst 0, 1) := by decide +kernel
theorem dX2_readText_221 : decode cX2_readText 221 = .ok (.istore 4, 2) := by decide +kernel
theorem dX2_readText_223 : decode cX2_readText 223 = .ok (.iload 4, 2) := by decide +kernel
theorem dX2_readText_225 : decode cX2_readText 225 = .ok (.ifCond .ne 5, 3) := by decide +kernel
theorem dX2_readText_228 : decode cX2_readText 228 = .ok (.iload_n 1, 1) := by decide +kernel
theorem dX2_readText_229 : decode cX2_readText 229 = .ok (.ireturn, 1) := by decide +kernel
theorem dX2_readText_230 : decode cX2_readText 230 = .ok (.aload_n 0, 1) := by decide +kernel
theorem dX2_readText_231 : decode cX2_readText 231 = .ok (.getfield 7, 3) := by decide +kernel
theorem dX2_readText_234 : decode cX2_readText 234 = .ok (.iload_n 1, 1) := by decide +kernel
theorem dX2_readText_235 : decode cX2_readText 235 = .ok (.iaload, 1) := by decide +kernel
theorem dX2_readText_236 : decode cX2_readText 236 = .ok (.bipush 106, 2) := by decide +kernel
theorem dX2_readText_238 : decode cX2_readText 238 = .ok (.if_icmp .ne 7, 3) := by decide +kernel
theorem dX2_readText_241 : decode cX2_readText 241 = .ok (.iconst 1, 1) := by decide +kernel
theorem dX2_readText_242 : decode cX2_readText 242 = .ok (.goto 4, 3) := by decide +kernel
theorem dX2_readText_245 : decode cX2_readText 245 = .ok (.iconst 0, 1) := by decide +kernel
theorem dX2_readText_246 : decode cX2_readText 246 = .ok (.istore 5, 2) := by decide +kernel
theorem dX2_readText_248 : decode cX2_readText 248 = .ok (.iinc 1 1, 3) := by decide +kernel
theorem dX2_readText_251 : decode cX2_readText 251 = .ok (.iload_n 1, 1) := by decide +kernel
theorem dX2_readText_252 : decode cX2_readText 252 = .ok (.aload_n 0, 1) := by decide +kernel
theorem dX2_readText_253 : decode cX2_readText 253 = .ok (.getfield 102, 3) := by decide +kernel
theorem dX2_readText_256 : decode cX2_readText 256 = .ok (.if_icmp .ge 15, 3) := by decide +kernel
theorem dX2_readText_259 : decode cX2_readText 259 = .ok (.aload_n 0, 1) := by decide +kernel
theorem dX2_readText_260 : decode cX2_readText 260 = .ok (.getfield 7, 3) := by decide +kernel
theorem dX2_readText_263 : decode cX2_readText 263 = .ok (.iload_n 1, 1) := by decide +kernel
theorem dX2_readText_264 : decode cX2_readText 264 = .ok (.iaload, 1) := by decide +kernel
theorem dX2_readText_265 : decode cX2_readText 265 = .ok (.bipush 48, 2) := by decide +kernel
theorem dX2_readText_267 : decode cX2_readText 267 = .ok (.isub, 1) := by decide +kernel
theorem dX2_readText_268 : decode cX2_readText 268 = .ok (.goto 5, 3) := by decide +kernel
theorem dX2_readText_271 : decode cX2_readText 271 = .ok (.bipush (-9), 2) := by decide +kernel
theorem dX2_readText_273 : decode cX2_readText 273 = .ok (.istore 6, 2) := by decide +kernel
theorem dX2_readText_275 : decode cX2_readText 275 = .ok (.iload 6, 2) := by decide +kernel
theorem dX2_readText_277 : decode cX2_readText 277 = .ok (.invokestatic 114, 3) := by decide +kernel
theorem dX2_readText_280 : decode cX2_readText 280 = .ok (.ifCond .eq 13, 3) := by decide +kernel
theorem dX2_readText_283 : decode cX2_readText 283 = .ok (.iload 4, 2) := by decide +kernel
theorem dX2_readText_285 : decode cX2_readText 285 = .ok (.iload 6, 2) := by decide +kernel
theorem dX2_readText_287 : decode cX2_readText 287 = .ok (.invokestatic 64, 3) := by decide +kernel
theorem dX2_readText_290 : decode cX2_readText 290 = .ok (.ifCond .ne 5, 3) := by decide +kernel
theorem dX2_readText_293 : decode cX2_readText 293 = .ok (.iload_n 1, 1) := by decide +kernel
theorem dX2_readText_294 : decode cX2_readText 294 = .ok (.ireturn, 1) := by decide +kernel
theorem dX2_readText_295 : decode cX2_readText 295 = .ok (.iinc 1 1, 3) := by decide +kernel
theorem dX2_readText_298 : decode cX2_readText 298 = .ok (.iload 5, 2) := by decide +kernel
theorem dX2_readText_300 : decode cX2_readText 300 = .ok (.ifCond .eq 15, 3) := by decide +kernel
theorem dX2_readText_303 : decode cX2_readText 303 = .ok (.aload_n 0, 1) := by decide +kernel
theorem dX2_readText_304 : decode cX2_readText 304 = .ok (.getfield 38, 3) := by decide +kernel
theorem dX2_readText_307 : decode cX2_readText 307 = .ok (.iload 6, 2) := by decide +kernel
theorem dX2_readText_309 : decode cX2_readText 309 = .ok (.invokestatic 118, 3) := by decide +kernel
theorem dX2_readText_312 : decode cX2_readText 312 = .ok (.goto 12, 3) := by decide +kernel
theorem dX2_readText_315 : decode cX2_readText 315 = .ok (.aload_n 0, 1) := by decide +kernel
theorem dX2_readText_316 : decode cX2_readText 316 = .ok (.getfield 38, 3) := by decide +kernel
theorem dX2_readText_319 : decode cX2_readText 319 = .ok (.iload 6, 2) := by decide +kernel
theorem dX2_readText_321 : decode cX2_readText 321 = .ok (.invokestatic 121, 3) := by decide +kernel
theorem dX2_readText_324 : decode cX2_readText 324 = .ok (.goto (-195), 3) := by decide +kernel
theorem dX2_readText_327 : decode cX2_readText 327 = .ok (.bipush (-9), 2) := by decide +kernel
theorem dX2_readText_329 : decode cX2_readText 329 = .ok (.ireturn, 1) := by decide +kernel
set_option maxRecDepth 20000 in
theorem ggX2_fault_X2_readText : GoodIn wsX2_fault wsX2_readText := goodIn_r _ [5, 6, 7, 8, 9, 10, 11, 4, 12, 13, 14, 15, 16, 17, 18, 19, 20, 21, 22, 23, 24, 25, 26, 27, 28, 29, 30, 31, 32, 33, 34, 35, 36, 37, 38, 39, 40, 41, 42, 43, 44, 45, 46, 47, 48, 49, 50, 51, 52, 53, 54, 55, 56, 57, 58, 59, 60, 61, 62, 63, 64, 65, 66, 67, 68, 69, 70, 71, 72, 73, 74, 75, 76, 77, 78, 79, 80, 81, 82, 83, 84, 85, 86, 87, 88, 89] (by decide +kernel) (by decide +kernel)
set_option maxRecDepth 20000 in
theorem gX2_fault_X2_readText : GoodIn wsX2_fault (wsV RX2 124 RX2 yX2_readText wsX2_readText) := goodIn_app (goodIn_of _ (by decide +kernel)) ggX2_fault_X2_readText
theorem dX2_fault_0 : decode cX2_fault 0 = .ok (.aload_n 0, 1) := by decide +kernel
theorem dX2_fault_1 : decode cX2_fault 1 = .ok (.invokevirtual 124, 3) := by decide +kernel
theorem dX2_fault_4 : decode cX2_fault 4 = .ok (.ireturn, 1) := by decide +kernel
set_option maxRecDepth 20000 in
theorem ggX2_meeting_X2_readText : GoodIn wsX2_meeting wsX2_readText := goodIn_r _ [9, 1, 10, 11, 12, 13, 14, 8, 15, 16, 17, 18, 19, 20, 21, 22, 23, 24, 25, 26, 27, 28, 29, 30, 31, 32, 33, 34, 35, 36, 37, 38, 39, 40, 41, 42, 43, 44, 45, 46, 47, 48, 49, 50, 51, 52, 53, 54, 55, 56, 57, 58, 59, 60, 61, 62, 63, 64, 65, 66, 67, 68, 69, 70, 71, 72, 73, 74, 75, 76, 77, 81, 82, 83, 84, 85, 86, 87, 88, 89, 90, 91, 92, 93, 94, 95] (by decide +kernel) (by decide +kernel)
set_option maxRecDepth 20000 in
theorem gX2_meeting_X2_readText : GoodIn wsX2_meeting (wsV RX2 124 RX2 yX2_readText wsX2_readText) := goodIn_app (goodIn_of _ (by decide +kernel)) ggX2_meeting_X2_readText
set_option maxRecDepth 20000 in
theorem ggX2_meeting_X2_copy : GoodIn wsX2_meeting wsX2_copy := goodIn_r _ [80] (by decide +kernel) (by decide +kernel)
set_option maxRecDepth 20000 in
theorem gX2_meeting_X2_copy : GoodIn wsX2_meeting (va_wsS RX2 128 yX2_copy wsX2_copy) := goodIn_app (goodIn_of _ (by decide +kernel)) ggX2_meeting_X2_copy
theorem dX2_meeting_0 : decode cX2_meeting 0 = .ok (.aload_n 0, 1) := by decide +kernel
theorem dX2_meeting_1 : decode cX2_meeting 1 = .ok (.invokevirtual 124, 3) := by decide +kernel
theorem dX2_meeting_4 : decode cX2_meeting 4 = .ok (.bipush (-9), 2) := by decide +kernel
theorem dX2_meeting_6 : decode cX2_meeting 6 = .ok (.if_icmp .eq 6, 3) := by decide +kernel
theorem dX2_meeting_9 : decode cX2_meeting 9 = .ok (.bipush (-3), 2) := by decide +kernel
theorem dX2_meeting_11 : decode cX2_meeting 11 = .ok (.ireturn, 1) := by decide +kernel
theorem dX2_meeting_12 : decode cX2_meeting 12 = .ok (.aload_n 0, 1) := by decide +kernel
theorem dX2_meeting_13 : decode cX2_meeting 13 = .ok (.getfield 38, 3) := by decide +kernel
theorem dX2_meeting_16 : decode cX2_meeting 16 = .ok (.aload_n 0, 1) := by decide +kernel
theorem dX2_meeting_17 : decode cX2_meeting 17 = .ok (.getfield 13, 3) := by decide +kernel
theorem dX2_meeting_20 : decode cX2_meeting 20 = .ok (.invokestatic 128, 3) := by decide +kernel
theorem dX2_meeting_23 : decode cX2_meeting 23 = .ok (.aload_n 0, 1) := by decide +kernel
theorem dX2_meeting_24 : decode cX2_meeting 24 = .ok (.iconst 0, 1) := by decide +kernel
theorem dX2_meeting_25 : decode cX2_meeting 25 = .ok (.putfield 132, 3) := by decide +kernel
theorem dX2_meeting_28 : decode cX2_meeting 28 = .ok (.aload_n 0, 1) := by decide +kernel
theorem dX2_meeting_29 : decode cX2_meeting 29 = .ok (.getfield 25, 3) := by decide +kernel
theorem dX2_meeting_32 : decode cX2_meeting 32 = .ok (.iconst 0, 1) := by decide +kernel
theorem dX2_meeting_33 : decode cX2_meeting 33 = .ok (.iconst 0, 1) := by decide +kernel
theorem dX2_meeting_34 : decode cX2_meeting 34 = .ok (.bastore, 1) := by decide +kernel
theorem dX2_meeting_35 : decode cX2_meeting 35 = .ok (.aload_n 0, 1) := by decide +kernel
theorem dX2_meeting_36 : decode cX2_meeting 36 = .ok (.getfield 25, 3) := by decide +kernel
theorem dX2_meeting_39 : decode cX2_meeting 39 = .ok (.iconst 1, 1) := by decide +kernel
theorem dX2_meeting_40 : decode cX2_meeting 40 = .ok (.iconst 0, 1) := by decide +kernel
theorem dX2_meeting_41 : decode cX2_meeting 41 = .ok (.bastore, 1) := by decide +kernel
theorem dX2_meeting_42 : decode cX2_meeting 42 = .ok (.aload_n 0, 1) := by decide +kernel
theorem dX2_meeting_43 : decode cX2_meeting 43 = .ok (.getfield 13, 3) := by decide +kernel
theorem dX2_meeting_46 : decode cX2_meeting 46 = .ok (.bipush 70, 2) := by decide +kernel
theorem dX2_meeting_48 : decode cX2_meeting 48 = .ok (.iaload, 1) := by decide +kernel
theorem dX2_meeting_49 : decode cX2_meeting 49 = .ok (.ireturn, 1) := by decide +kernel
set_option maxRecDepth 20000 in
theorem ggX2_rest_X2_copy : GoodIn wsX2_rest wsX2_copy := goodIn_r _ [6] (by decide +kernel) (by decide +kernel)
set_option maxRecDepth 20000 in
theorem gX2_rest_X2_copy : GoodIn wsX2_rest (va_wsS RX2 128 yX2_copy wsX2_copy) := goodIn_app (goodIn_of _ (by decide +kernel)) ggX2_rest_X2_copy
set_option maxRecDepth 20000 in
theorem ggX2_rest_X2_those : GoodIn wsX2_rest wsX2_those := goodIn_r _ [9] (by decide +kernel) (by decide +kernel)
set_option maxRecDepth 20000 in
theorem gX2_rest_X2_those : GoodIn wsX2_rest (va_wsS RX2 111 yX2_those wsX2_those) := goodIn_app (goodIn_of _ (by decide +kernel)) ggX2_rest_X2_those
set_option maxRecDepth 20000 in
theorem ggX2_rest_X2_tick : GoodIn wsX2_rest wsX2_tick := goodIn_r _ [12, 13, 14, 5, 15, 16, 17, 18, 19, 20, 21, 22, 23, 24, 25, 26, 27, 28, 29, 30, 31, 32, 33, 34, 35, 36, 37, 38, 39, 40, 41, 42, 43, 44, 45, 46, 47, 48, 49] (by decide +kernel) (by decide +kernel)
set_option maxRecDepth 20000 in
theorem gX2_rest_X2_tick : GoodIn wsX2_rest (va_wsS RX2 97 yX2_tick wsX2_tick) := goodIn_app (goodIn_of _ (by decide +kernel)) ggX2_rest_X2_tick
theorem dX2_rest_0 : decode cX2_rest 0 = .ok (.aload_n 0, 1) := by decide +kernel
theorem dX2_rest_1 : decode cX2_rest 1 = .ok (.getfield 13, 3) := by decide +kernel
theorem dX2_rest_4 : decode cX2_rest 4 = .ok (.aload_n 0, 1) := by decide +kernel
theorem dX2_rest_5 : decode cX2_rest 5 = .ok (.getfield 16, 3) := by decide +kernel
theorem dX2_rest_8 : decode cX2_rest 8 = .ok (.invokestatic 128, 3) := by decide +kernel
theorem dX2_rest_11 : decode cX2_rest 11 = .ok (.iconst 0, 1) := by decide +kernel
theorem dX2_rest_12 : decode cX2_rest 12 = .ok (.istore_n 1, 1) := by decide +kernel
theorem dX2_rest_13 : decode cX2_rest 13 = .ok (.iload_n 1, 1) := by decide +kernel
theorem dX2_rest_14 : decode cX2_rest 14 = .ok (.bipush 100, 2) := by decide +kernel
theorem dX2_rest_16 : decode cX2_rest 16 = .ok (.if_icmp .ge 106, 3) := by decide +kernel
theorem dX2_rest_19 : decode cX2_rest 19 = .ok (.aload_n 0, 1) := by decide +kernel
theorem dX2_rest_20 : decode cX2_rest 20 = .ok (.getfield 16, 3) := by decide +kernel
theorem dX2_rest_23 : decode cX2_rest 23 = .ok (.iconst 1, 1) := by decide +kernel
theorem dX2_rest_24 : decode cX2_rest 24 = .ok (.invokestatic 111, 3) := by decide +kernel
theorem dX2_rest_27 : decode cX2_rest 27 = .ok (.istore_n 2, 1) := by decide +kernel
theorem dX2_rest_28 : decode cX2_rest 28 = .ok (.aload_n 0, 1) := by decide +kernel
theorem dX2_rest_29 : decode cX2_rest 29 = .ok (.getfield 16, 3) := by decide +kernel
theorem dX2_rest_32 : decode cX2_rest 32 = .ok (.iconst 2, 1) := by decide +kernel
theorem dX2_rest_33 : decode cX2_rest 33 = .ok (.invokestatic 111, 3) := by decide +kernel
theorem dX2_rest_36 : decode cX2_rest 36 = .ok (.ifCond .ne 7, 3) := by decide +kernel
theorem dX2_rest_39 : decode cX2_rest 39 = .ok (.iconst 1, 1) := by decide +kernel
theorem dX2_rest_40 : decode cX2_rest 40 = .ok (.goto 4, 3) := by decide +kernel
theorem dX2_rest_43 : decode cX2_rest 43 = .ok (.iconst 0, 1) := by decide +kernel
theorem dX2_rest_44 : decode cX2_rest 44 = .ok (.istore_n 3, 1) := by decide +kernel
theorem dX2_rest_45 : decode cX2_rest 45 = .ok (.iconst 0, 1) := by decide +kernel
theorem dX2_rest_46 : decode cX2_rest 46 = .ok (.istore 4, 2) := by decide +kernel
theorem dX2_rest_48 : decode cX2_rest 48 = .ok (.iload 4, 2) := by decide +kernel
theorem dX2_rest_50 : decode cX2_rest 50 = .ok (.bipush 6, 2) := by decide +kernel
theorem dX2_rest_52 : decode cX2_rest 52 = .ok (.if_icmp .ge 51, 3) := by decide +kernel
theorem dX2_rest_55 : decode cX2_rest 55 = .ok (.iload_n 3, 1) := by decide +kernel
theorem dX2_rest_56 : decode cX2_rest 56 = .ok (.ifCond .eq 39, 3) := by decide +kernel
theorem dX2_rest_59 : decode cX2_rest 59 = .ok (.aload_n 0, 1) := by decide +kernel
theorem dX2_rest_60 : decode cX2_rest 60 = .ok (.getfield 16, 3) := by decide +kernel
theorem dX2_rest_63 : decode cX2_rest 63 = .ok (.iload 4, 2) := by decide +kernel
theorem dX2_rest_65 : decode cX2_rest 65 = .ok (.iaload, 1) := by decide +kernel
theorem dX2_rest_66 : decode cX2_rest 66 = .ok (.iconst 1, 1) := by decide +kernel
theorem dX2_rest_67 : decode cX2_rest 67 = .ok (.if_icmp .ne 24, 3) := by decide +kernel
theorem dX2_rest_70 : decode cX2_rest 70 = .ok (.aload_n 0, 1) := by decide +kernel
theorem dX2_rest_71 : decode cX2_rest 71 = .ok (.getfield 16, 3) := by decide +kernel
theorem dX2_rest_74 : decode cX2_rest 74 = .ok (.bipush 6, 2) := by decide +kernel
theorem dX2_rest_76 : decode cX2_rest 76 = .ok (.iload 4, 2) := by decide +kernel
theorem dX2_rest_78 : decode cX2_rest 78 = .ok (.iadd, 1) := by decide +kernel
theorem dX2_rest_79 : decode cX2_rest 79 = .ok (.iaload, 1) := by decide +kernel
theorem dX2_rest_80 : decode cX2_rest 80 = .ok (.iload_n 2, 1) := by decide +kernel
theorem dX2_rest_81 : decode cX2_rest 81 = .ok (.iconst 1, 1) := by decide +kernel
theorem dX2_rest_82 : decode cX2_rest 82 = .ok (.iload 4, 2) := by decide +kernel
theorem dX2_rest_84 : decode cX2_rest 84 = .ok (.ishl, 1) := by decide +kernel
theorem dX2_rest_85 : decode cX2_rest 85 = .ok (.iconst (-1), 1) := by decide +kernel
theorem dX2_rest_86 : decode cX2_rest 86 = .ok (.ixor, 1) := by decide +kernel
theorem dX2_rest_87 : decode cX2_rest 87 = .ok (.iand, 1) := by decide +kernel
theorem dX2_rest_88 : decode cX2_rest 88 = .ok (.if_icmp .ne 7, 3) := by decide +kernel
theorem dX2_rest_91 : decode cX2_rest 91 = .ok (.iconst 1, 1) := by decide +kernel
theorem dX2_rest_92 : decode cX2_rest 92 = .ok (.goto 4, 3) := by decide +kernel
theorem dX2_rest_95 : decode cX2_rest 95 = .ok (.iconst 0, 1) := by decide +kernel
theorem dX2_rest_96 : decode cX2_rest 96 = .ok (.istore_n 3, 1) := by decide +kernel
theorem dX2_rest_97 : decode cX2_rest 97 = .ok (.iinc 4 1, 3) := by decide +kernel
theorem dX2_rest_100 : decode cX2_rest 100 = .ok (.goto (-52), 3) := by decide +kernel
theorem dX2_rest_103 : decode cX2_rest 103 = .ok (.iload_n 3, 1) := by decide +kernel
theorem dX2_rest_104 : decode cX2_rest 104 = .ok (.ifCond .eq 5, 3) := by decide +kernel
theorem dX2_rest_107 : decode cX2_rest 107 = .ok (.iload_n 1, 1) := by decide +kernel
theorem dX2_rest_108 : decode cX2_rest 108 = .ok (.ireturn, 1) := by decide +kernel
theorem dX2_rest_109 : decode cX2_rest 109 = .ok (.aload_n 0, 1) := by decide +kernel
theorem dX2_rest_110 : decode cX2_rest 110 = .ok (.getfield 16, 3) := by decide +kernel
theorem dX2_rest_113 : decode cX2_rest 113 = .ok (.invokestatic 97, 3) := by decide +kernel
theorem dX2_rest_116 : decode cX2_rest 116 = .ok (.iinc 1 1, 3) := by decide +kernel
theorem dX2_rest_119 : decode cX2_rest 119 = .ok (.goto (-106), 3) := by decide +kernel
theorem dX2_rest_122 : decode cX2_rest 122 = .ok (.bipush (-9), 2) := by decide +kernel
theorem dX2_rest_124 : decode cX2_rest 124 = .ok (.ireturn, 1) := by decide +kernel
set_option maxRecDepth 20000 in
theorem ggX2_about_X2_those : GoodIn wsX2_about wsX2_those := goodIn_r _ [8] (by decide +kernel) (by decide +kernel)
set_option maxRecDepth 20000 in
theorem gX2_about_X2_those : GoodIn wsX2_about (va_wsS RX2 111 yX2_those wsX2_those) := goodIn_app (goodIn_of _ (by decide +kernel)) ggX2_about_X2_those
set_option maxRecDepth 20000 in
theorem ggX2_about_X2_rest : GoodIn wsX2_about wsX2_rest := goodIn_r _ [12, 1, 13, 14, 15, 7, 16, 5, 6, 8, 17, 18, 19, 20, 21, 22, 23, 24, 25, 26, 27, 28, 29, 30, 31, 32, 33, 34, 35, 36, 37, 38, 39, 40, 41, 42, 43, 44, 45, 46, 47, 48, 49, 50, 51, 52, 53, 54, 55, 56, 57, 58, 59, 60, 61, 62, 63, 64, 65, 66, 67, 68, 69, 70, 71] (by decide +kernel) (by decide +kernel)
set_option maxRecDepth 20000 in
theorem gX2_about_X2_rest : GoodIn wsX2_about (wsV RX2 135 RX2 yX2_rest wsX2_rest) := goodIn_app (goodIn_of _ (by decide +kernel)) ggX2_about_X2_rest
theorem dX2_about_0 : decode cX2_about 0 = .ok (.iload_n 1, 1) := by decide +kernel
theorem dX2_about_1 : decode cX2_about 1 = .ok (.tableswitch 161 0 12 #[67, 75, 83, 91, 99, 107, 115, 123, 132, 141, 146, 151, 156], 67) := by decide +kernel
theorem dX2_about_68 : decode cX2_about 68 = .ok (.aload_n 0, 1) := by decide +kernel
theorem dX2_about_69 : decode cX2_about 69 = .ok (.getfield 13, 3) := by decide +kernel
theorem dX2_about_72 : decode cX2_about 72 = .ok (.bipush 66, 2) := by decide +kernel
theorem dX2_about_74 : decode cX2_about 74 = .ok (.iaload, 1) := by decide +kernel
theorem dX2_about_75 : decode cX2_about 75 = .ok (.ireturn, 1) := by decide +kernel
theorem dX2_about_76 : decode cX2_about 76 = .ok (.aload_n 0, 1) := by decide +kernel
theorem dX2_about_77 : decode cX2_about 77 = .ok (.getfield 13, 3) := by decide +kernel
theorem dX2_about_80 : decode cX2_about 80 = .ok (.bipush 67, 2) := by decide +kernel
theorem dX2_about_82 : decode cX2_about 82 = .ok (.iaload, 1) := by decide +kernel
theorem dX2_about_83 : decode cX2_about 83 = .ok (.ireturn, 1) := by decide +kernel
theorem dX2_about_84 : decode cX2_about 84 = .ok (.aload_n 0, 1) := by decide +kernel
theorem dX2_about_85 : decode cX2_about 85 = .ok (.getfield 13, 3) := by decide +kernel
theorem dX2_about_88 : decode cX2_about 88 = .ok (.bipush 68, 2) := by decide +kernel
theorem dX2_about_90 : decode cX2_about 90 = .ok (.iaload, 1) := by decide +kernel
theorem dX2_about_91 : decode cX2_about 91 = .ok (.ireturn, 1) := by decide +kernel
theorem dX2_about_92 : decode cX2_about 92 = .ok (.aload_n 0, 1) := by decide +kernel
theorem dX2_about_93 : decode cX2_about 93 = .ok (.getfield 13, 3) := by decide +kernel
theorem dX2_about_96 : decode cX2_about 96 = .ok (.bipush 70, 2) := by decide +kernel
theorem dX2_about_98 : decode cX2_about 98 = .ok (.iaload, 1) := by decide +kernel
theorem dX2_about_99 : decode cX2_about 99 = .ok (.ireturn, 1) := by decide +kernel
theorem dX2_about_100 : decode cX2_about 100 = .ok (.aload_n 0, 1) := by decide +kernel
theorem dX2_about_101 : decode cX2_about 101 = .ok (.getfield 13, 3) := by decide +kernel
theorem dX2_about_104 : decode cX2_about 104 = .ok (.bipush 69, 2) := by decide +kernel
theorem dX2_about_106 : decode cX2_about 106 = .ok (.iaload, 1) := by decide +kernel
theorem dX2_about_107 : decode cX2_about 107 = .ok (.ireturn, 1) := by decide +kernel
theorem dX2_about_108 : decode cX2_about 108 = .ok (.aload_n 0, 1) := by decide +kernel
theorem dX2_about_109 : decode cX2_about 109 = .ok (.getfield 13, 3) := by decide +kernel
theorem dX2_about_112 : decode cX2_about 112 = .ok (.bipush 71, 2) := by decide +kernel
theorem dX2_about_114 : decode cX2_about 114 = .ok (.iaload, 1) := by decide +kernel
theorem dX2_about_115 : decode cX2_about 115 = .ok (.ireturn, 1) := by decide +kernel
theorem dX2_about_116 : decode cX2_about 116 = .ok (.aload_n 0, 1) := by decide +kernel
theorem dX2_about_117 : decode cX2_about 117 = .ok (.getfield 13, 3) := by decide +kernel
theorem dX2_about_120 : decode cX2_about 120 = .ok (.bipush 72, 2) := by decide +kernel
theorem dX2_about_122 : decode cX2_about 122 = .ok (.iaload, 1) := by decide +kernel
theorem dX2_about_123 : decode cX2_about 123 = .ok (.ireturn, 1) := by decide +kernel
theorem dX2_about_124 : decode cX2_about 124 = .ok (.aload_n 0, 1) := by decide +kernel
theorem dX2_about_125 : decode cX2_about 125 = .ok (.getfield 13, 3) := by decide +kernel
theorem dX2_about_128 : decode cX2_about 128 = .ok (.iconst 1, 1) := by decide +kernel
theorem dX2_about_129 : decode cX2_about 129 = .ok (.invokestatic 111, 3) := by decide +kernel
theorem dX2_about_132 : decode cX2_about 132 = .ok (.ireturn, 1) := by decide +kernel
theorem dX2_about_133 : decode cX2_about 133 = .ok (.aload_n 0, 1) := by decide +kernel
theorem dX2_about_134 : decode cX2_about 134 = .ok (.getfield 13, 3) := by decide +kernel
theorem dX2_about_137 : decode cX2_about 137 = .ok (.iconst 2, 1) := by decide +kernel
theorem dX2_about_138 : decode cX2_about 138 = .ok (.invokestatic 111, 3) := by decide +kernel
theorem dX2_about_141 : decode cX2_about 141 = .ok (.ireturn, 1) := by decide +kernel
theorem dX2_about_142 : decode cX2_about 142 = .ok (.aload_n 0, 1) := by decide +kernel
theorem dX2_about_143 : decode cX2_about 143 = .ok (.invokevirtual 135, 3) := by decide +kernel
theorem dX2_about_146 : decode cX2_about 146 = .ok (.ireturn, 1) := by decide +kernel
theorem dX2_about_147 : decode cX2_about 147 = .ok (.aload_n 0, 1) := by decide +kernel
theorem dX2_about_148 : decode cX2_about 148 = .ok (.getfield 132, 3) := by decide +kernel
theorem dX2_about_151 : decode cX2_about 151 = .ok (.ireturn, 1) := by decide +kernel
theorem dX2_about_152 : decode cX2_about 152 = .ok (.aload_n 0, 1) := by decide +kernel
theorem dX2_about_153 : decode cX2_about 153 = .ok (.getfield 138, 3) := by decide +kernel
theorem dX2_about_156 : decode cX2_about 156 = .ok (.ireturn, 1) := by decide +kernel
theorem dX2_about_157 : decode cX2_about 157 = .ok (.aload_n 0, 1) := by decide +kernel
theorem dX2_about_158 : decode cX2_about 158 = .ok (.getfield 102, 3) := by decide +kernel
theorem dX2_about_161 : decode cX2_about 161 = .ok (.ireturn, 1) := by decide +kernel
theorem dX2_about_162 : decode cX2_about 162 = .ok (.bipush (-2), 2) := by decide +kernel
theorem dX2_about_164 : decode cX2_about 164 = .ok (.ireturn, 1) := by decide +kernel
set_option maxRecDepth 20000 in
theorem ggX2_member_X2_isMember : GoodIn wsX2_member wsX2_isMember := goodIn_r _ [5, 6, 7, 8, 4, 9] (by decide +kernel) (by decide +kernel)
set_option maxRecDepth 20000 in
theorem gX2_member_X2_isMember : GoodIn wsX2_member (va_wsS RX2 114 yX2_isMember wsX2_isMember) := goodIn_app (goodIn_of _ (by decide +kernel)) ggX2_member_X2_isMember
set_option maxRecDepth 20000 in
theorem ggX2_member_X2_countOf : GoodIn wsX2_member wsX2_countOf := goodIn_r _ [12, 13, 14, 4, 15] (by decide +kernel) (by decide +kernel)
set_option maxRecDepth 20000 in
theorem gX2_member_X2_countOf : GoodIn wsX2_member (va_wsS RX2 76 yX2_countOf wsX2_countOf) := goodIn_app (goodIn_of _ (by decide +kernel)) ggX2_member_X2_countOf
theorem dX2_member_0 : decode cX2_member 0 = .ok (.iload_n 1, 1) := by decide +kernel
theorem dX2_member_1 : decode cX2_member 1 = .ok (.invokestatic 114, 3) := by decide +kernel
theorem dX2_member_4 : decode cX2_member 4 = .ok (.ifCond .ne 5, 3) := by decide +kernel
theorem dX2_member_7 : decode cX2_member 7 = .ok (.iconst (-1), 1) := by decide +kernel
theorem dX2_member_8 : decode cX2_member 8 = .ok (.ireturn, 1) := by decide +kernel
theorem dX2_member_9 : decode cX2_member 9 = .ok (.iload_n 2, 1) := by decide +kernel
theorem dX2_member_10 : decode cX2_member 10 = .ok (.tableswitch 94 0 5 #[38, 45, 55, 64, 74, 84], 38) := by decide +kernel
theorem dX2_member_48 : decode cX2_member 48 = .ok (.aload_n 0, 1) := by decide +kernel
theorem dX2_member_49 : decode cX2_member 49 = .ok (.getfield 13, 3) := by decide +kernel
theorem dX2_member_52 : decode cX2_member 52 = .ok (.iload_n 1, 1) := by decide +kernel
theorem dX2_member_53 : decode cX2_member 53 = .ok (.iaload, 1) := by decide +kernel
theorem dX2_member_54 : decode cX2_member 54 = .ok (.ireturn, 1) := by decide +kernel
theorem dX2_member_55 : decode cX2_member 55 = .ok (.aload_n 0, 1) := by decide +kernel
theorem dX2_member_56 : decode cX2_member 56 = .ok (.getfield 13, 3) := by decide +kernel
theorem dX2_member_59 : decode cX2_member 59 = .ok (.bipush 6, 2) := by decide +kernel
theorem dX2_member_61 : decode cX2_member 61 = .ok (.iload_n 1, 1) := by decide +kernel
theorem dX2_member_62 : decode cX2_member 62 = .ok (.iadd, 1) := by decide +kernel
theorem dX2_member_63 : decode cX2_member 63 = .ok (.iaload, 1) := by decide +kernel
theorem dX2_member_64 : decode cX2_member 64 = .ok (.ireturn, 1) := by decide +kernel
theorem dX2_member_65 : decode cX2_member 65 = .ok (.aload_n 0, 1) := by decide +kernel
theorem dX2_member_66 : decode cX2_member 66 = .ok (.getfield 13, 3) := by decide +kernel
theorem dX2_member_69 : decode cX2_member 69 = .ok (.iload_n 1, 1) := by decide +kernel
theorem dX2_member_70 : decode cX2_member 70 = .ok (.invokestatic 76, 3) := by decide +kernel
theorem dX2_member_73 : decode cX2_member 73 = .ok (.ireturn, 1) := by decide +kernel
theorem dX2_member_74 : decode cX2_member 74 = .ok (.aload_n 0, 1) := by decide +kernel
theorem dX2_member_75 : decode cX2_member 75 = .ok (.getfield 13, 3) := by decide +kernel
theorem dX2_member_78 : decode cX2_member 78 = .ok (.bipush 48, 2) := by decide +kernel
theorem dX2_member_80 : decode cX2_member 80 = .ok (.iload_n 1, 1) := by decide +kernel
theorem dX2_member_81 : decode cX2_member 81 = .ok (.iadd, 1) := by decide +kernel
theorem dX2_member_82 : decode cX2_member 82 = .ok (.iaload, 1) := by decide +kernel
theorem dX2_member_83 : decode cX2_member 83 = .ok (.ireturn, 1) := by decide +kernel
theorem dX2_member_84 : decode cX2_member 84 = .ok (.aload_n 0, 1) := by decide +kernel
theorem dX2_member_85 : decode cX2_member 85 = .ok (.getfield 13, 3) := by decide +kernel
theorem dX2_member_88 : decode cX2_member 88 = .ok (.bipush 54, 2) := by decide +kernel
theorem dX2_member_90 : decode cX2_member 90 = .ok (.iload_n 1, 1) := by decide +kernel
theorem dX2_member_91 : decode cX2_member 91 = .ok (.iadd, 1) := by decide +kernel
theorem dX2_member_92 : decode cX2_member 92 = .ok (.iaload, 1) := by decide +kernel
theorem dX2_member_93 : decode cX2_member 93 = .ok (.ireturn, 1) := by decide +kernel
theorem dX2_member_94 : decode cX2_member 94 = .ok (.aload_n 0, 1) := by decide +kernel
theorem dX2_member_95 : decode cX2_member 95 = .ok (.getfield 13, 3) := by decide +kernel
theorem dX2_member_98 : decode cX2_member 98 = .ok (.bipush 60, 2) := by decide +kernel
theorem dX2_member_100 : decode cX2_member 100 = .ok (.iload_n 1, 1) := by decide +kernel
theorem dX2_member_101 : decode cX2_member 101 = .ok (.iadd, 1) := by decide +kernel
theorem dX2_member_102 : decode cX2_member 102 = .ok (.iaload, 1) := by decide +kernel
theorem dX2_member_103 : decode cX2_member 103 = .ok (.ireturn, 1) := by decide +kernel
theorem dX2_member_104 : decode cX2_member 104 = .ok (.bipush (-2), 2) := by decide +kernel
theorem dX2_member_106 : decode cX2_member 106 = .ok (.ireturn, 1) := by decide +kernel
set_option maxRecDepth 20000 in
theorem ggX2_heard_X2_isMember : GoodIn wsX2_heard wsX2_isMember := goodIn_r _ [5, 6, 7, 8, 4, 9] (by decide +kernel) (by decide +kernel)
set_option maxRecDepth 20000 in
theorem gX2_heard_X2_isMember : GoodIn wsX2_heard (va_wsS RX2 114 yX2_isMember wsX2_isMember) := goodIn_app (goodIn_of _ (by decide +kernel)) ggX2_heard_X2_isMember
set_option maxRecDepth 20000 in
theorem ggX2_heard_X2_has : GoodIn wsX2_heard wsX2_has := goodIn_r _ [12] (by decide +kernel) (by decide +kernel)
set_option maxRecDepth 20000 in
theorem gX2_heard_X2_has : GoodIn wsX2_heard (va_wsS RX2 64 yX2_has wsX2_has) := goodIn_app (goodIn_of _ (by decide +kernel)) ggX2_heard_X2_has
theorem dX2_heard_0 : decode cX2_heard 0 = .ok (.iload_n 1, 1) := by decide +kernel
theorem dX2_heard_1 : decode cX2_heard 1 = .ok (.invokestatic 114, 3) := by decide +kernel
theorem dX2_heard_4 : decode cX2_heard 4 = .ok (.ifCond .eq 10, 3) := by decide +kernel
theorem dX2_heard_7 : decode cX2_heard 7 = .ok (.iload_n 2, 1) := by decide +kernel
theorem dX2_heard_8 : decode cX2_heard 8 = .ok (.invokestatic 114, 3) := by decide +kernel
theorem dX2_heard_11 : decode cX2_heard 11 = .ok (.ifCond .ne 5, 3) := by decide +kernel
theorem dX2_heard_14 : decode cX2_heard 14 = .ok (.iconst (-1), 1) := by decide +kernel
theorem dX2_heard_15 : decode cX2_heard 15 = .ok (.ireturn, 1) := by decide +kernel
theorem dX2_heard_16 : decode cX2_heard 16 = .ok (.aload_n 0, 1) := by decide +kernel
theorem dX2_heard_17 : decode cX2_heard 17 = .ok (.getfield 13, 3) := by decide +kernel
theorem dX2_heard_20 : decode cX2_heard 20 = .ok (.bipush 6, 2) := by decide +kernel
theorem dX2_heard_22 : decode cX2_heard 22 = .ok (.iload_n 1, 1) := by decide +kernel
theorem dX2_heard_23 : decode cX2_heard 23 = .ok (.iadd, 1) := by decide +kernel
theorem dX2_heard_24 : decode cX2_heard 24 = .ok (.iaload, 1) := by decide +kernel
theorem dX2_heard_25 : decode cX2_heard 25 = .ok (.iload_n 2, 1) := by decide +kernel
theorem dX2_heard_26 : decode cX2_heard 26 = .ok (.invokestatic 64, 3) := by decide +kernel
theorem dX2_heard_29 : decode cX2_heard 29 = .ok (.ifCond .eq 20, 3) := by decide +kernel
theorem dX2_heard_32 : decode cX2_heard 32 = .ok (.aload_n 0, 1) := by decide +kernel
theorem dX2_heard_33 : decode cX2_heard 33 = .ok (.getfield 13, 3) := by decide +kernel
theorem dX2_heard_36 : decode cX2_heard 36 = .ok (.bipush 12, 2) := by decide +kernel
theorem dX2_heard_38 : decode cX2_heard 38 = .ok (.bipush 6, 2) := by decide +kernel
theorem dX2_heard_40 : decode cX2_heard 40 = .ok (.iload_n 1, 1) := by decide +kernel
theorem dX2_heard_41 : decode cX2_heard 41 = .ok (.imul, 1) := by decide +kernel
theorem dX2_heard_42 : decode cX2_heard 42 = .ok (.iadd, 1) := by decide +kernel
theorem dX2_heard_43 : decode cX2_heard 43 = .ok (.iload_n 2, 1) := by decide +kernel
theorem dX2_heard_44 : decode cX2_heard 44 = .ok (.iadd, 1) := by decide +kernel
theorem dX2_heard_45 : decode cX2_heard 45 = .ok (.iaload, 1) := by decide +kernel
theorem dX2_heard_46 : decode cX2_heard 46 = .ok (.goto 5, 3) := by decide +kernel
theorem dX2_heard_49 : decode cX2_heard 49 = .ok (.bipush (-9), 2) := by decide +kernel
theorem dX2_heard_51 : decode cX2_heard 51 = .ok (.ireturn, 1) := by decide +kernel
set_option maxRecDepth 20000 in
theorem ggX2_way_X2_isMember : GoodIn wsX2_way wsX2_isMember := goodIn_r _ [5, 6, 7, 8, 4, 9] (by decide +kernel) (by decide +kernel)
set_option maxRecDepth 20000 in
theorem gX2_way_X2_isMember : GoodIn wsX2_way (va_wsS RX2 114 yX2_isMember wsX2_isMember) := goodIn_app (goodIn_of _ (by decide +kernel)) ggX2_way_X2_isMember
set_option maxRecDepth 20000 in
theorem ggX2_way_X2_has : GoodIn wsX2_way wsX2_has := goodIn_r _ [12] (by decide +kernel) (by decide +kernel)
set_option maxRecDepth 20000 in
theorem gX2_way_X2_has : GoodIn wsX2_way (va_wsS RX2 64 yX2_has wsX2_has) := goodIn_app (goodIn_of _ (by decide +kernel)) ggX2_way_X2_has
theorem dX2_way_0 : decode cX2_way 0 = .ok (.iload_n 1, 1) := by decide +kernel
theorem dX2_way_1 : decode cX2_way 1 = .ok (.invokestatic 114, 3) := by decide +kernel
theorem dX2_way_4 : decode cX2_way 4 = .ok (.ifCond .eq 10, 3) := by decide +kernel
theorem dX2_way_7 : decode cX2_way 7 = .ok (.iload_n 2, 1) := by decide +kernel
theorem dX2_way_8 : decode cX2_way 8 = .ok (.invokestatic 114, 3) := by decide +kernel
theorem dX2_way_11 : decode cX2_way 11 = .ok (.ifCond .ne 5, 3) := by decide +kernel
theorem dX2_way_14 : decode cX2_way 14 = .ok (.iconst (-1), 1) := by decide +kernel
theorem dX2_way_15 : decode cX2_way 15 = .ok (.ireturn, 1) := by decide +kernel
theorem dX2_way_16 : decode cX2_way 16 = .ok (.iload_n 1, 1) := by decide +kernel
theorem dX2_way_17 : decode cX2_way 17 = .ok (.iload_n 2, 1) := by decide +kernel
theorem dX2_way_18 : decode cX2_way 18 = .ok (.if_icmp .ne 8, 3) := by decide +kernel
theorem dX2_way_21 : decode cX2_way 21 = .ok (.bipush (-2), 2) := by decide +kernel
theorem dX2_way_23 : decode cX2_way 23 = .ok (.goto 24, 3) := by decide +kernel
theorem dX2_way_26 : decode cX2_way 26 = .ok (.aload_n 0, 1) := by decide +kernel
theorem dX2_way_27 : decode cX2_way 27 = .ok (.getfield 13, 3) := by decide +kernel
theorem dX2_way_30 : decode cX2_way 30 = .ok (.bipush 73, 2) := by decide +kernel
theorem dX2_way_32 : decode cX2_way 32 = .ok (.iload_n 1, 1) := by decide +kernel
theorem dX2_way_33 : decode cX2_way 33 = .ok (.iadd, 1) := by decide +kernel
theorem dX2_way_34 : decode cX2_way 34 = .ok (.iaload, 1) := by decide +kernel
theorem dX2_way_35 : decode cX2_way 35 = .ok (.iload_n 2, 1) := by decide +kernel
theorem dX2_way_36 : decode cX2_way 36 = .ok (.invokestatic 64, 3) := by decide +kernel
theorem dX2_way_39 : decode cX2_way 39 = .ok (.ifCond .eq 7, 3) := by decide +kernel
theorem dX2_way_42 : decode cX2_way 42 = .ok (.iconst 0, 1) := by decide +kernel
theorem dX2_way_43 : decode cX2_way 43 = .ok (.goto 4, 3) := by decide +kernel
theorem dX2_way_46 : decode cX2_way 46 = .ok (.iconst 1, 1) := by decide +kernel
theorem dX2_way_47 : decode cX2_way 47 = .ok (.ireturn, 1) := by decide +kernel
theorem dX2_note_0 : decode cX2_note 0 = .ok (.iconst 0, 1) := by decide +kernel
theorem dX2_note_1 : decode cX2_note 1 = .ok (.istore_n 1, 1) := by decide +kernel
theorem dX2_note_2 : decode cX2_note 2 = .ok (.iload_n 1, 1) := by decide +kernel
theorem dX2_note_3 : decode cX2_note 3 = .ok (.bipush 79, 2) := by decide +kernel
theorem dX2_note_5 : decode cX2_note 5 = .ok (.if_icmp .ge 29, 3) := by decide +kernel
theorem dX2_note_8 : decode cX2_note 8 = .ok (.aload_n 0, 1) := by decide +kernel
theorem dX2_note_9 : decode cX2_note 9 = .ok (.getfield 19, 3) := by decide +kernel
theorem dX2_note_12 : decode cX2_note 12 = .ok (.bipush 79, 2) := by decide +kernel
theorem dX2_note_14 : decode cX2_note 14 = .ok (.aload_n 0, 1) := by decide +kernel
theorem dX2_note_15 : decode cX2_note 15 = .ok (.getfield 141, 3) := by decide +kernel
theorem dX2_note_18 : decode cX2_note 18 = .ok (.imul, 1) := by decide +kernel
theorem dX2_note_19 : decode cX2_note 19 = .ok (.iload_n 1, 1) := by decide +kernel
theorem dX2_note_20 : decode cX2_note 20 = .ok (.iadd, 1) := by decide +kernel
theorem dX2_note_21 : decode cX2_note 21 = .ok (.aload_n 0, 1) := by decide +kernel
theorem dX2_note_22 : decode cX2_note 22 = .ok (.getfield 13, 3) := by decide +kernel
theorem dX2_note_25 : decode cX2_note 25 = .ok (.iload_n 1, 1) := by decide +kernel
theorem dX2_note_26 : decode cX2_note 26 = .ok (.iaload, 1) := by decide +kernel
theorem dX2_note_27 : decode cX2_note 27 = .ok (.iastore, 1) := by decide +kernel
theorem dX2_note_28 : decode cX2_note 28 = .ok (.iinc 1 1, 3) := by decide +kernel
theorem dX2_note_31 : decode cX2_note 31 = .ok (.goto (-29), 3) := by decide +kernel
theorem dX2_note_34 : decode cX2_note 34 = .ok (.aload_n 0, 1) := by decide +kernel
theorem dX2_note_35 : decode cX2_note 35 = .ok (.aload_n 0, 1) := by decide +kernel
theorem dX2_note_36 : decode cX2_note 36 = .ok (.getfield 141, 3) := by decide +kernel
theorem dX2_note_39 : decode cX2_note 39 = .ok (.iconst 1, 1) := by decide +kernel
theorem dX2_note_40 : decode cX2_note 40 = .ok (.iadd, 1) := by decide +kernel
theorem dX2_note_41 : decode cX2_note 41 = .ok (.bipush 14, 2) := by decide +kernel
theorem dX2_note_43 : decode cX2_note 43 = .ok (.irem, 1) := by decide +kernel
theorem dX2_note_44 : decode cX2_note 44 = .ok (.putfield 141, 3) := by decide +kernel
theorem dX2_note_47 : decode cX2_note 47 = .ok (.aload_n 0, 1) := by decide +kernel
theorem dX2_note_48 : decode cX2_note 48 = .ok (.aload_n 0, 1) := by decide +kernel
theorem dX2_note_49 : decode cX2_note 49 = .ok (.getfield 132, 3) := by decide +kernel
theorem dX2_note_52 : decode cX2_note 52 = .ok (.bipush 14, 2) := by decide +kernel
theorem dX2_note_54 : decode cX2_note 54 = .ok (.if_icmp .ge 12, 3) := by decide +kernel
theorem dX2_note_57 : decode cX2_note 57 = .ok (.aload_n 0, 1) := by decide +kernel
theorem dX2_note_58 : decode cX2_note 58 = .ok (.getfield 132, 3) := by decide +kernel
theorem dX2_note_61 : decode cX2_note 61 = .ok (.iconst 1, 1) := by decide +kernel
theorem dX2_note_62 : decode cX2_note 62 = .ok (.iadd, 1) := by decide +kernel
theorem dX2_note_63 : decode cX2_note 63 = .ok (.goto 5, 3) := by decide +kernel
theorem dX2_note_66 : decode cX2_note 66 = .ok (.bipush 14, 2) := by decide +kernel
theorem dX2_note_68 : decode cX2_note 68 = .ok (.putfield 132, 3) := by decide +kernel
theorem dX2_note_71 : decode cX2_note 71 = .ok (.return_, 1) := by decide +kernel
set_option maxRecDepth 20000 in
theorem ggX2_join_X2_isMember : GoodIn wsX2_join wsX2_isMember := goodIn_r _ [5, 6, 7, 8, 4, 9] (by decide +kernel) (by decide +kernel)
set_option maxRecDepth 20000 in
theorem gX2_join_X2_isMember : GoodIn wsX2_join (va_wsS RX2 114 yX2_isMember wsX2_isMember) := goodIn_app (goodIn_of _ (by decide +kernel)) ggX2_join_X2_isMember
set_option maxRecDepth 20000 in
theorem ggX2_join_X2_note : GoodIn wsX2_join wsX2_note := goodIn_r _ [13, 14, 15, 1, 16, 30, 31, 32, 33, 34, 35, 36, 37, 38, 39, 40, 41, 42, 43, 44] (by decide +kernel) (by decide +kernel)
set_option maxRecDepth 20000 in
theorem gX2_join_X2_note : GoodIn wsX2_join (wsV RX2 144 RX2 yX2_note wsX2_note) := goodIn_app (goodIn_of _ (by decide +kernel)) ggX2_join_X2_note
set_option maxRecDepth 20000 in
theorem ggX2_join_X2_joins : GoodIn wsX2_join wsX2_joins := goodIn_r _ [19, 20, 21, 4, 22, 23, 24, 25, 26, 27, 28, 29] (by decide +kernel) (by decide +kernel)
set_option maxRecDepth 20000 in
theorem gX2_join_X2_joins : GoodIn wsX2_join (va_wsS RX2 118 yX2_joins wsX2_joins) := goodIn_app (goodIn_of _ (by decide +kernel)) ggX2_join_X2_joins
theorem dX2_join_0 : decode cX2_join 0 = .ok (.iload_n 1, 1) := by decide +kernel
theorem dX2_join_1 : decode cX2_join 1 = .ok (.invokestatic 114, 3) := by decide +kernel
theorem dX2_join_4 : decode cX2_join 4 = .ok (.ifCond .ne 5, 3) := by decide +kernel
theorem dX2_join_7 : decode cX2_join 7 = .ok (.iconst (-1), 1) := by decide +kernel
theorem dX2_join_8 : decode cX2_join 8 = .ok (.ireturn, 1) := by decide +kernel
theorem dX2_join_9 : decode cX2_join 9 = .ok (.aload_n 0, 1) := by decide +kernel
theorem dX2_join_10 : decode cX2_join 10 = .ok (.getfield 13, 3) := by decide +kernel
theorem dX2_join_13 : decode cX2_join 13 = .ok (.iload_n 1, 1) := by decide +kernel
theorem dX2_join_14 : decode cX2_join 14 = .ok (.iaload, 1) := by decide +kernel
theorem dX2_join_15 : decode cX2_join 15 = .ok (.ifCond .eq 6, 3) := by decide +kernel
theorem dX2_join_18 : decode cX2_join 18 = .ok (.bipush (-3), 2) := by decide +kernel
theorem dX2_join_20 : decode cX2_join 20 = .ok (.ireturn, 1) := by decide +kernel
theorem dX2_join_21 : decode cX2_join 21 = .ok (.aload_n 0, 1) := by decide +kernel
theorem dX2_join_22 : decode cX2_join 22 = .ok (.invokevirtual 144, 3) := by decide +kernel
theorem dX2_join_25 : decode cX2_join 25 = .ok (.aload_n 0, 1) := by decide +kernel
theorem dX2_join_26 : decode cX2_join 26 = .ok (.getfield 13, 3) := by decide +kernel
theorem dX2_join_29 : decode cX2_join 29 = .ok (.iload_n 1, 1) := by decide +kernel
theorem dX2_join_30 : decode cX2_join 30 = .ok (.invokestatic 118, 3) := by decide +kernel
theorem dX2_join_33 : decode cX2_join 33 = .ok (.aload_n 0, 1) := by decide +kernel
theorem dX2_join_34 : decode cX2_join 34 = .ok (.getfield 13, 3) := by decide +kernel
theorem dX2_join_37 : decode cX2_join 37 = .ok (.bipush 54, 2) := by decide +kernel
theorem dX2_join_39 : decode cX2_join 39 = .ok (.iload_n 1, 1) := by decide +kernel
theorem dX2_join_40 : decode cX2_join 40 = .ok (.iadd, 1) := by decide +kernel
theorem dX2_join_41 : decode cX2_join 41 = .ok (.iaload, 1) := by decide +kernel
theorem dX2_join_42 : decode cX2_join 42 = .ok (.ireturn, 1) := by decide +kernel
set_option maxRecDepth 20000 in
theorem ggX2_leave_X2_isMember : GoodIn wsX2_leave wsX2_isMember := goodIn_r _ [5, 6, 7, 8, 4, 9] (by decide +kernel) (by decide +kernel)
set_option maxRecDepth 20000 in
theorem gX2_leave_X2_isMember : GoodIn wsX2_leave (va_wsS RX2 114 yX2_isMember wsX2_isMember) := goodIn_app (goodIn_of _ (by decide +kernel)) ggX2_leave_X2_isMember
set_option maxRecDepth 20000 in
theorem ggX2_leave_X2_note : GoodIn wsX2_leave wsX2_note := goodIn_r _ [13, 14, 15, 1, 16, 48, 49, 50, 51, 52, 53, 54, 55, 56, 57, 58, 59, 60, 61, 62] (by decide +kernel) (by decide +kernel)
set_option maxRecDepth 20000 in
theorem gX2_leave_X2_note : GoodIn wsX2_leave (wsV RX2 144 RX2 yX2_note wsX2_note) := goodIn_app (goodIn_of _ (by decide +kernel)) ggX2_leave_X2_note
set_option maxRecDepth 20000 in
theorem ggX2_leave_X2_leaves : GoodIn wsX2_leave wsX2_leaves := goodIn_r _ [19, 20, 21, 4, 22, 23, 24, 25, 26, 27, 28, 29, 30, 31, 32, 33, 34, 35, 36, 37, 38, 39, 40, 41, 42, 43, 44, 45, 46, 47] (by decide +kernel) (by decide +kernel)
set_option maxRecDepth 20000 in
theorem gX2_leave_X2_leaves : GoodIn wsX2_leave (va_wsS RX2 121 yX2_leaves wsX2_leaves) := goodIn_app (goodIn_of _ (by decide +kernel)) ggX2_leave_X2_leaves
theorem dX2_leave_0 : decode cX2_leave 0 = .ok (.iload_n 1, 1) := by decide +kernel
theorem dX2_leave_1 : decode cX2_leave 1 = .ok (.invokestatic 114, 3) := by decide +kernel
theorem dX2_leave_4 : decode cX2_leave 4 = .ok (.ifCond .ne 5, 3) := by decide +kernel
theorem dX2_leave_7 : decode cX2_leave 7 = .ok (.iconst (-1), 1) := by decide +kernel
theorem dX2_leave_8 : decode cX2_leave 8 = .ok (.ireturn, 1) := by decide +kernel
theorem dX2_leave_9 : decode cX2_leave 9 = .ok (.aload_n 0, 1) := by decide +kernel
theorem dX2_leave_10 : decode cX2_leave 10 = .ok (.getfield 13, 3) := by decide +kernel
theorem dX2_leave_13 : decode cX2_leave 13 = .ok (.iload_n 1, 1) := by decide +kernel
theorem dX2_leave_14 : decode cX2_leave 14 = .ok (.iaload, 1) := by decide +kernel
theorem dX2_leave_15 : decode cX2_leave 15 = .ok (.iconst 1, 1) := by decide +kernel
theorem dX2_leave_16 : decode cX2_leave 16 = .ok (.if_icmp .eq 6, 3) := by decide +kernel
theorem dX2_leave_19 : decode cX2_leave 19 = .ok (.bipush (-3), 2) := by decide +kernel
theorem dX2_leave_21 : decode cX2_leave 21 = .ok (.ireturn, 1) := by decide +kernel
theorem dX2_leave_22 : decode cX2_leave 22 = .ok (.aload_n 0, 1) := by decide +kernel
theorem dX2_leave_23 : decode cX2_leave 23 = .ok (.invokevirtual 144, 3) := by decide +kernel
theorem dX2_leave_26 : decode cX2_leave 26 = .ok (.aload_n 0, 1) := by decide +kernel
theorem dX2_leave_27 : decode cX2_leave 27 = .ok (.getfield 13, 3) := by decide +kernel
theorem dX2_leave_30 : decode cX2_leave 30 = .ok (.iload_n 1, 1) := by decide +kernel
theorem dX2_leave_31 : decode cX2_leave 31 = .ok (.invokestatic 121, 3) := by decide +kernel
theorem dX2_leave_34 : decode cX2_leave 34 = .ok (.aload_n 0, 1) := by decide +kernel
theorem dX2_leave_35 : decode cX2_leave 35 = .ok (.getfield 13, 3) := by decide +kernel
theorem dX2_leave_38 : decode cX2_leave 38 = .ok (.bipush 54, 2) := by decide +kernel
theorem dX2_leave_40 : decode cX2_leave 40 = .ok (.iload_n 1, 1) := by decide +kernel
theorem dX2_leave_41 : decode cX2_leave 41 = .ok (.iadd, 1) := by decide +kernel
theorem dX2_leave_42 : decode cX2_leave 42 = .ok (.iaload, 1) := by decide +kernel
theorem dX2_leave_43 : decode cX2_leave 43 = .ok (.ireturn, 1) := by decide +kernel
set_option maxRecDepth 20000 in
theorem ggX2_pass_X2_in : GoodIn wsX2_pass wsX2_in := goodIn_r _ [6] (by decide +kernel) (by decide +kernel)
set_option maxRecDepth 20000 in
theorem gX2_pass_X2_in : GoodIn wsX2_pass (va_wsS RX2 47 yX2_in wsX2_in) := goodIn_app (goodIn_of _ (by decide +kernel)) ggX2_pass_X2_in
set_option maxRecDepth 20000 in
theorem ggX2_pass_X2_note : GoodIn wsX2_pass wsX2_note := goodIn_r _ [10, 11, 12, 2, 13, 60, 61, 62, 63, 64, 65, 66, 67, 68, 69, 70, 71, 72, 73, 74] (by decide +kernel) (by decide +kernel)
set_option maxRecDepth 20000 in
theorem gX2_pass_X2_note : GoodIn wsX2_pass (wsV RX2 144 RX2 yX2_note wsX2_note) := goodIn_app (goodIn_of _ (by decide +kernel)) ggX2_pass_X2_note
set_option maxRecDepth 20000 in
theorem ggX2_pass_X2_passOn : GoodIn wsX2_pass wsX2_passOn := goodIn_r _ [16, 17, 18, 5, 19, 20, 21, 22, 23, 24, 25, 26, 27, 28, 29, 30, 31, 32, 33, 34, 35, 36, 37, 38, 39, 40, 41, 42, 43, 44, 45, 46, 47, 48, 49, 50, 51, 52, 53, 54, 55, 56, 57, 58, 59] (by decide +kernel) (by decide +kernel)
set_option maxRecDepth 20000 in
theorem gX2_pass_X2_passOn : GoodIn wsX2_pass (va_wsS RX2 108 yX2_passOn wsX2_passOn) := goodIn_app (goodIn_of _ (by decide +kernel)) ggX2_pass_X2_passOn
theorem dX2_pass_0 : decode cX2_pass 0 = .ok (.iload_n 1, 1) := by decide +kernel
theorem dX2_pass_1 : decode cX2_pass 1 = .ok (.i2l, 1) := by decide +kernel
theorem dX2_pass_2 : decode cX2_pass 2 = .ok (.lconst 1, 1) := by decide +kernel
theorem dX2_pass_3 : decode cX2_pass 3 = .ok (.ldc2_w 147, 3) := by decide +kernel
theorem dX2_pass_6 : decode cX2_pass 6 = .ok (.invokestatic 47, 3) := by decide +kernel
theorem dX2_pass_9 : decode cX2_pass 9 = .ok (.ifCond .ne 6, 3) := by decide +kernel
theorem dX2_pass_12 : decode cX2_pass 12 = .ok (.bipush (-2), 2) := by decide +kernel
theorem dX2_pass_14 : decode cX2_pass 14 = .ok (.ireturn, 1) := by decide +kernel
theorem dX2_pass_15 : decode cX2_pass 15 = .ok (.aload_n 0, 1) := by decide +kernel
theorem dX2_pass_16 : decode cX2_pass 16 = .ok (.invokevirtual 144, 3) := by decide +kernel
theorem dX2_pass_19 : decode cX2_pass 19 = .ok (.aload_n 0, 1) := by decide +kernel
theorem dX2_pass_20 : decode cX2_pass 20 = .ok (.getfield 13, 3) := by decide +kernel
theorem dX2_pass_23 : decode cX2_pass 23 = .ok (.iload_n 1, 1) := by decide +kernel
theorem dX2_pass_24 : decode cX2_pass 24 = .ok (.invokestatic 108, 3) := by decide +kernel
theorem dX2_pass_27 : decode cX2_pass 27 = .ok (.ireturn, 1) := by decide +kernel
set_option maxRecDepth 20000 in
theorem ggX2_turn_X2_isMember : GoodIn wsX2_turn wsX2_isMember := goodIn_r _ [5, 6, 7, 8, 4, 9] (by decide +kernel) (by decide +kernel)
set_option maxRecDepth 20000 in
theorem gX2_turn_X2_isMember : GoodIn wsX2_turn (va_wsS RX2 114 yX2_isMember wsX2_isMember) := goodIn_app (goodIn_of _ (by decide +kernel)) ggX2_turn_X2_isMember
set_option maxRecDepth 20000 in
theorem ggX2_turn_X2_note : GoodIn wsX2_turn wsX2_note := goodIn_r _ [13, 14, 15, 1, 16, 20, 21, 22, 23, 24, 25, 26, 27, 28, 29, 30, 31, 32, 33, 34] (by decide +kernel) (by decide +kernel)
set_option maxRecDepth 20000 in
theorem gX2_turn_X2_note : GoodIn wsX2_turn (wsV RX2 144 RX2 yX2_note wsX2_note) := goodIn_app (goodIn_of _ (by decide +kernel)) ggX2_turn_X2_note
set_option maxRecDepth 20000 in
theorem ggX2_turn_X2_has : GoodIn wsX2_turn wsX2_has := goodIn_r _ [19] (by decide +kernel) (by decide +kernel)
set_option maxRecDepth 20000 in
theorem gX2_turn_X2_has : GoodIn wsX2_turn (va_wsS RX2 64 yX2_has wsX2_has) := goodIn_app (goodIn_of _ (by decide +kernel)) ggX2_turn_X2_has
theorem dX2_turn_0 : decode cX2_turn 0 = .ok (.iload_n 1, 1) := by decide +kernel
theorem dX2_turn_1 : decode cX2_turn 1 = .ok (.invokestatic 114, 3) := by decide +kernel
theorem dX2_turn_4 : decode cX2_turn 4 = .ok (.ifCond .eq 10, 3) := by decide +kernel
theorem dX2_turn_7 : decode cX2_turn 7 = .ok (.iload_n 2, 1) := by decide +kernel
theorem dX2_turn_8 : decode cX2_turn 8 = .ok (.invokestatic 114, 3) := by decide +kernel
theorem dX2_turn_11 : decode cX2_turn 11 = .ok (.ifCond .ne 5, 3) := by decide +kernel
theorem dX2_turn_14 : decode cX2_turn 14 = .ok (.iconst (-1), 1) := by decide +kernel
theorem dX2_turn_15 : decode cX2_turn 15 = .ok (.ireturn, 1) := by decide +kernel
theorem dX2_turn_16 : decode cX2_turn 16 = .ok (.iload_n 1, 1) := by decide +kernel
theorem dX2_turn_17 : decode cX2_turn 17 = .ok (.iload_n 2, 1) := by decide +kernel
theorem dX2_turn_18 : decode cX2_turn 18 = .ok (.if_icmp .ne 6, 3) := by decide +kernel
theorem dX2_turn_21 : decode cX2_turn 21 = .ok (.bipush (-2), 2) := by decide +kernel
theorem dX2_turn_23 : decode cX2_turn 23 = .ok (.ireturn, 1) := by decide +kernel
theorem dX2_turn_24 : decode cX2_turn 24 = .ok (.aload_n 0, 1) := by decide +kernel
theorem dX2_turn_25 : decode cX2_turn 25 = .ok (.invokevirtual 144, 3) := by decide +kernel
theorem dX2_turn_28 : decode cX2_turn 28 = .ok (.aload_n 0, 1) := by decide +kernel
theorem dX2_turn_29 : decode cX2_turn 29 = .ok (.getfield 13, 3) := by decide +kernel
theorem dX2_turn_32 : decode cX2_turn 32 = .ok (.bipush 73, 2) := by decide +kernel
theorem dX2_turn_34 : decode cX2_turn 34 = .ok (.iload_n 1, 1) := by decide +kernel
theorem dX2_turn_35 : decode cX2_turn 35 = .ok (.iadd, 1) := by decide +kernel
theorem dX2_turn_36 : decode cX2_turn 36 = .ok (.dup2, 1) := by decide +kernel
theorem dX2_turn_37 : decode cX2_turn 37 = .ok (.iaload, 1) := by decide +kernel
theorem dX2_turn_38 : decode cX2_turn 38 = .ok (.iconst 1, 1) := by decide +kernel
theorem dX2_turn_39 : decode cX2_turn 39 = .ok (.iload_n 2, 1) := by decide +kernel
theorem dX2_turn_40 : decode cX2_turn 40 = .ok (.ishl, 1) := by decide +kernel
theorem dX2_turn_41 : decode cX2_turn 41 = .ok (.ixor, 1) := by decide +kernel
theorem dX2_turn_42 : decode cX2_turn 42 = .ok (.iastore, 1) := by decide +kernel
theorem dX2_turn_43 : decode cX2_turn 43 = .ok (.aload_n 0, 1) := by decide +kernel
theorem dX2_turn_44 : decode cX2_turn 44 = .ok (.getfield 13, 3) := by decide +kernel
theorem dX2_turn_47 : decode cX2_turn 47 = .ok (.bipush 73, 2) := by decide +kernel
theorem dX2_turn_49 : decode cX2_turn 49 = .ok (.iload_n 1, 1) := by decide +kernel
theorem dX2_turn_50 : decode cX2_turn 50 = .ok (.iadd, 1) := by decide +kernel
theorem dX2_turn_51 : decode cX2_turn 51 = .ok (.iaload, 1) := by decide +kernel
theorem dX2_turn_52 : decode cX2_turn 52 = .ok (.iload_n 2, 1) := by decide +kernel
theorem dX2_turn_53 : decode cX2_turn 53 = .ok (.invokestatic 64, 3) := by decide +kernel
theorem dX2_turn_56 : decode cX2_turn 56 = .ok (.ifCond .eq 7, 3) := by decide +kernel
theorem dX2_turn_59 : decode cX2_turn 59 = .ok (.iconst 0, 1) := by decide +kernel
theorem dX2_turn_60 : decode cX2_turn 60 = .ok (.goto 4, 3) := by decide +kernel
theorem dX2_turn_63 : decode cX2_turn 63 = .ok (.iconst 1, 1) := by decide +kernel
theorem dX2_turn_64 : decode cX2_turn 64 = .ok (.ireturn, 1) := by decide +kernel
set_option maxRecDepth 20000 in
theorem ggX2_set_X2_in : GoodIn wsX2_set wsX2_in := goodIn_r _ [7] (by decide +kernel) (by decide +kernel)
set_option maxRecDepth 20000 in
theorem gX2_set_X2_in : GoodIn wsX2_set (va_wsS RX2 47 yX2_in wsX2_in) := goodIn_app (goodIn_of _ (by decide +kernel)) ggX2_set_X2_in
set_option maxRecDepth 20000 in
theorem ggX2_set_X2_note : GoodIn wsX2_set wsX2_note := goodIn_r _ [11, 12, 13, 3, 14, 15, 16, 17, 18, 19, 20, 21, 22, 23, 24, 25, 26, 27, 28, 29] (by decide +kernel) (by decide +kernel)
set_option maxRecDepth 20000 in
theorem gX2_set_X2_note : GoodIn wsX2_set (wsV RX2 144 RX2 yX2_note wsX2_note) := goodIn_app (goodIn_of _ (by decide +kernel)) ggX2_set_X2_note
theorem dX2_set_0 : decode cX2_set 0 = .ok (.iload_n 1, 1) := by decide +kernel
theorem dX2_set_1 : decode cX2_set 1 = .ok (.i2l, 1) := by decide +kernel
theorem dX2_set_2 : decode cX2_set 2 = .ok (.lconst 0, 1) := by decide +kernel
theorem dX2_set_3 : decode cX2_set 3 = .ok (.ldc2_w 149, 3) := by decide +kernel
theorem dX2_set_6 : decode cX2_set 6 = .ok (.invokestatic 47, 3) := by decide +kernel
theorem dX2_set_9 : decode cX2_set 9 = .ok (.ifCond .eq 15, 3) := by decide +kernel
theorem dX2_set_12 : decode cX2_set 12 = .ok (.iload_n 2, 1) := by decide +kernel
theorem dX2_set_13 : decode cX2_set 13 = .ok (.i2l, 1) := by decide +kernel
theorem dX2_set_14 : decode cX2_set 14 = .ok (.lconst 1, 1) := by decide +kernel
theorem dX2_set_15 : decode cX2_set 15 = .ok (.ldc2_w 106, 3) := by decide +kernel
theorem dX2_set_18 : decode cX2_set 18 = .ok (.invokestatic 47, 3) := by decide +kernel
theorem dX2_set_21 : decode cX2_set 21 = .ok (.ifCond .ne 6, 3) := by decide +kernel
theorem dX2_set_24 : decode cX2_set 24 = .ok (.bipush (-2), 2) := by decide +kernel
theorem dX2_set_26 : decode cX2_set 26 = .ok (.ireturn, 1) := by decide +kernel
theorem dX2_set_27 : decode cX2_set 27 = .ok (.aload_n 0, 1) := by decide +kernel
theorem dX2_set_28 : decode cX2_set 28 = .ok (.invokevirtual 144, 3) := by decide +kernel
theorem dX2_set_31 : decode cX2_set 31 = .ok (.aload_n 0, 1) := by decide +kernel
theorem dX2_set_32 : decode cX2_set 32 = .ok (.getfield 13, 3) := by decide +kernel
theorem dX2_set_35 : decode cX2_set 35 = .ok (.bipush 66, 2) := by decide +kernel
theorem dX2_set_37 : decode cX2_set 37 = .ok (.iload_n 1, 1) := by decide +kernel
theorem dX2_set_38 : decode cX2_set 38 = .ok (.iadd, 1) := by decide +kernel
theorem dX2_set_39 : decode cX2_set 39 = .ok (.iaload, 1) := by decide +kernel
theorem dX2_set_40 : decode cX2_set 40 = .ok (.istore_n 3, 1) := by decide +kernel
theorem dX2_set_41 : decode cX2_set 41 = .ok (.aload_n 0, 1) := by decide +kernel
theorem dX2_set_42 : decode cX2_set 42 = .ok (.getfield 13, 3) := by decide +kernel
theorem dX2_set_45 : decode cX2_set 45 = .ok (.bipush 66, 2) := by decide +kernel
theorem dX2_set_47 : decode cX2_set 47 = .ok (.iload_n 1, 1) := by decide +kernel
theorem dX2_set_48 : decode cX2_set 48 = .ok (.iadd, 1) := by decide +kernel
theorem dX2_set_49 : decode cX2_set 49 = .ok (.iload_n 2, 1) := by decide +kernel
theorem dX2_set_50 : decode cX2_set 50 = .ok (.iastore, 1) := by decide +kernel
theorem dX2_set_51 : decode cX2_set 51 = .ok (.iload_n 3, 1) := by decide +kernel
theorem dX2_set_52 : decode cX2_set 52 = .ok (.ireturn, 1) := by decide +kernel
theorem dX2_undo_0 : decode cX2_undo 0 = .ok (.aload_n 0, 1) := by decide +kernel
theorem dX2_undo_1 : decode cX2_undo 1 = .ok (.getfield 132, 3) := by decide +kernel
theorem dX2_undo_4 : decode cX2_undo 4 = .ok (.ifCond .ne 6, 3) := by decide +kernel
theorem dX2_undo_7 : decode cX2_undo 7 = .ok (.bipush (-3), 2) := by decide +kernel
theorem dX2_undo_9 : decode cX2_undo 9 = .ok (.ireturn, 1) := by decide +kernel
theorem dX2_undo_10 : decode cX2_undo 10 = .ok (.aload_n 0, 1) := by decide +kernel
theorem dX2_undo_11 : decode cX2_undo 11 = .ok (.dup, 1) := by decide +kernel
theorem dX2_undo_12 : decode cX2_undo 12 = .ok (.getfield 132, 3) := by decide +kernel
theorem dX2_undo_15 : decode cX2_undo 15 = .ok (.iconst 1, 1) := by decide +kernel
theorem dX2_undo_16 : decode cX2_undo 16 = .ok (.isub, 1) := by decide +kernel
theorem dX2_undo_17 : decode cX2_undo 17 = .ok (.putfield 132, 3) := by decide +kernel
theorem dX2_undo_20 : decode cX2_undo 20 = .ok (.aload_n 0, 1) := by decide +kernel
theorem dX2_undo_21 : decode cX2_undo 21 = .ok (.aload_n 0, 1) := by decide +kernel
theorem dX2_undo_22 : decode cX2_undo 22 = .ok (.getfield 141, 3) := by decide +kernel
theorem dX2_undo_25 : decode cX2_undo 25 = .ok (.bipush 14, 2) := by decide +kernel
theorem dX2_undo_27 : decode cX2_undo 27 = .ok (.iadd, 1) := by decide +kernel
theorem dX2_undo_28 : decode cX2_undo 28 = .ok (.iconst 1, 1) := by decide +kernel
theorem dX2_undo_29 : decode cX2_undo 29 = .ok (.isub, 1) := by decide +kernel
theorem dX2_undo_30 : decode cX2_undo 30 = .ok (.bipush 14, 2) := by decide +kernel
theorem dX2_undo_32 : decode cX2_undo 32 = .ok (.irem, 1) := by decide +kernel
theorem dX2_undo_33 : decode cX2_undo 33 = .ok (.putfield 141, 3) := by decide +kernel
theorem dX2_undo_36 : decode cX2_undo 36 = .ok (.iconst 0, 1) := by decide +kernel
theorem dX2_undo_37 : decode cX2_undo 37 = .ok (.istore_n 1, 1) := by decide +kernel
theorem dX2_undo_38 : decode cX2_undo 38 = .ok (.iload_n 1, 1) := by decide +kernel
theorem dX2_undo_39 : decode cX2_undo 39 = .ok (.bipush 79, 2) := by decide +kernel
theorem dX2_undo_41 : decode cX2_undo 41 = .ok (.if_icmp .ge 29, 3) := by decide +kernel
theorem dX2_undo_44 : decode cX2_undo 44 = .ok (.aload_n 0, 1) := by decide +kernel
theorem dX2_undo_45 : decode cX2_undo 45 = .ok (.getfield 13, 3) := by decide +kernel
theorem dX2_undo_48 : decode cX2_undo 48 = .ok (.iload_n 1, 1) := by decide +kernel
theorem dX2_undo_49 : decode cX2_undo 49 = .ok (.aload_n 0, 1) := by decide +kernel
theorem dX2_undo_50 : decode cX2_undo 50 = .ok (.getfield 19, 3) := by decide +kernel
theorem dX2_undo_53 : decode cX2_undo 53 = .ok (.bipush 79, 2) := by decide +kernel
theorem dX2_undo_55 : decode cX2_undo 55 = .ok (.aload_n 0, 1) := by decide +kernel
theorem dX2_undo_56 : decode cX2_undo 56 = .ok (.getfield 141, 3) := by decide +kernel
theorem dX2_undo_59 : decode cX2_undo 59 = .ok (.imul, 1) := by decide +kernel
theorem dX2_undo_60 : decode cX2_undo 60 = .ok (.iload_n 1, 1) := by decide +kernel
theorem dX2_undo_61 : decode cX2_undo 61 = .ok (.iadd, 1) := by decide +kernel
theorem dX2_undo_62 : decode cX2_undo 62 = .ok (.iaload, 1) := by decide +kernel
theorem dX2_undo_63 : decode cX2_undo 63 = .ok (.iastore, 1) := by decide +kernel
theorem dX2_undo_64 : decode cX2_undo 64 = .ok (.iinc 1 1, 3) := by decide +kernel
theorem dX2_undo_67 : decode cX2_undo 67 = .ok (.goto (-29), 3) := by decide +kernel
theorem dX2_undo_70 : decode cX2_undo 70 = .ok (.aload_n 0, 1) := by decide +kernel
theorem dX2_undo_71 : decode cX2_undo 71 = .ok (.getfield 132, 3) := by decide +kernel
theorem dX2_undo_74 : decode cX2_undo 74 = .ok (.ireturn, 1) := by decide +kernel
set_option maxRecDepth 20000 in
theorem ggX2_ahead_X2_in : GoodIn wsX2_ahead wsX2_in := goodIn_r _ [8] (by decide +kernel) (by decide +kernel)
set_option maxRecDepth 20000 in
theorem gX2_ahead_X2_in : GoodIn wsX2_ahead (va_wsS RX2 47 yX2_in wsX2_in) := goodIn_app (goodIn_of _ (by decide +kernel)) ggX2_ahead_X2_in
set_option maxRecDepth 20000 in
theorem ggX2_ahead_X2_copy : GoodIn wsX2_ahead wsX2_copy := goodIn_r _ [11] (by decide +kernel) (by decide +kernel)
set_option maxRecDepth 20000 in
theorem gX2_ahead_X2_copy : GoodIn wsX2_ahead (va_wsS RX2 128 yX2_copy wsX2_copy) := goodIn_app (goodIn_of _ (by decide +kernel)) ggX2_ahead_X2_copy
set_option maxRecDepth 20000 in
theorem ggX2_ahead_X2_passOn : GoodIn wsX2_ahead wsX2_passOn := goodIn_r _ [14, 15, 16, 7, 17, 18, 19, 20, 21, 22, 23, 24, 25, 26, 27, 28, 29, 30, 31, 32, 33, 34, 35, 36, 37, 38, 39, 40, 41, 42, 43, 44, 45, 46, 47, 48, 49, 50, 51, 52, 53, 54, 55, 56, 57] (by decide +kernel) (by decide +kernel)
set_option maxRecDepth 20000 in
theorem gX2_ahead_X2_passOn : GoodIn wsX2_ahead (va_wsS RX2 108 yX2_passOn wsX2_passOn) := goodIn_app (goodIn_of _ (by decide +kernel)) ggX2_ahead_X2_passOn
set_option maxRecDepth 20000 in
theorem ggX2_ahead_X2_those : GoodIn wsX2_ahead wsX2_those := goodIn_r _ [60] (by decide +kernel) (by decide +kernel)
set_option maxRecDepth 20000 in
theorem gX2_ahead_X2_those : GoodIn wsX2_ahead (va_wsS RX2 111 yX2_those wsX2_those) := goodIn_app (goodIn_of _ (by decide +kernel)) ggX2_ahead_X2_those
theorem dX2_ahead_0 : decode cX2_ahead 0 = .ok (.iload_n 1, 1) := by decide +kernel
theorem dX2_ahead_1 : decode cX2_ahead 1 = .ok (.i2l, 1) := by decide +kernel
theorem dX2_ahead_2 : decode cX2_ahead 2 = .ok (.lconst 0, 1) := by decide +kernel
theorem dX2_ahead_3 : decode cX2_ahead 3 = .ok (.ldc2_w 151, 3) := by decide +kernel
theorem dX2_ahead_6 : decode cX2_ahead 6 = .ok (.invokestatic 47, 3) := by decide +kernel
theorem dX2_ahead_9 : decode cX2_ahead 9 = .ok (.ifCond .eq 15, 3) := by decide +kernel
theorem dX2_ahead_12 : decode cX2_ahead 12 = .ok (.iload_n 2, 1) := by decide +kernel
theorem dX2_ahead_13 : decode cX2_ahead 13 = .ok (.i2l, 1) := by decide +kernel
theorem dX2_ahead_14 : decode cX2_ahead 14 = .ok (.lconst 0, 1) := by decide +kernel
theorem dX2_ahead_15 : decode cX2_ahead 15 = .ok (.ldc2_w 153, 3) := by decide +kernel
theorem dX2_ahead_18 : decode cX2_ahead 18 = .ok (.invokestatic 47, 3) := by decide +kernel
theorem dX2_ahead_21 : decode cX2_ahead 21 = .ok (.ifCond .ne 6, 3) := by decide +kernel
theorem dX2_ahead_24 : decode cX2_ahead 24 = .ok (.bipush (-2), 2) := by decide +kernel
theorem dX2_ahead_26 : decode cX2_ahead 26 = .ok (.ireturn, 1) := by decide +kernel
theorem dX2_ahead_27 : decode cX2_ahead 27 = .ok (.aload_n 0, 1) := by decide +kernel
theorem dX2_ahead_28 : decode cX2_ahead 28 = .ok (.getfield 13, 3) := by decide +kernel
theorem dX2_ahead_31 : decode cX2_ahead 31 = .ok (.aload_n 0, 1) := by decide +kernel
theorem dX2_ahead_32 : decode cX2_ahead 32 = .ok (.getfield 16, 3) := by decide +kernel
theorem dX2_ahead_35 : decode cX2_ahead 35 = .ok (.invokestatic 128, 3) := by decide +kernel
theorem dX2_ahead_38 : decode cX2_ahead 38 = .ok (.aload_n 0, 1) := by decide +kernel
theorem dX2_ahead_39 : decode cX2_ahead 39 = .ok (.getfield 16, 3) := by decide +kernel
theorem dX2_ahead_42 : decode cX2_ahead 42 = .ok (.iload_n 1, 1) := by decide +kernel
theorem dX2_ahead_43 : decode cX2_ahead 43 = .ok (.invokestatic 108, 3) := by decide +kernel
theorem dX2_ahead_46 : decode cX2_ahead 46 = .ok (.istore_n 3, 1) := by decide +kernel
theorem dX2_ahead_47 : decode cX2_ahead 47 = .ok (.iload_n 2, 1) := by decide +kernel
theorem dX2_ahead_48 : decode cX2_ahead 48 = .ok (.ifCond .ne 13, 3) := by decide +kernel
theorem dX2_ahead_51 : decode cX2_ahead 51 = .ok (.aload_n 0, 1) := by decide +kernel
theorem dX2_ahead_52 : decode cX2_ahead 52 = .ok (.getfield 16, 3) := by decide +kernel
theorem dX2_ahead_55 : decode cX2_ahead 55 = .ok (.bipush 71, 2) := by decide +kernel
theorem dX2_ahead_57 : decode cX2_ahead 57 = .ok (.iaload, 1) := by decide +kernel
theorem dX2_ahead_58 : decode cX2_ahead 58 = .ok (.goto 41, 3) := by decide +kernel
theorem dX2_ahead_61 : decode cX2_ahead 61 = .ok (.iload_n 2, 1) := by decide +kernel
theorem dX2_ahead_62 : decode cX2_ahead 62 = .ok (.iconst 1, 1) := by decide +kernel
theorem dX2_ahead_63 : decode cX2_ahead 63 = .ok (.if_icmp .ne 13, 3) := by decide +kernel
theorem dX2_ahead_66 : decode cX2_ahead 66 = .ok (.aload_n 0, 1) := by decide +kernel
theorem dX2_ahead_67 : decode cX2_ahead 67 = .ok (.getfield 16, 3) := by decide +kernel
theorem dX2_ahead_70 : decode cX2_ahead 70 = .ok (.bipush 72, 2) := by decide +kernel
theorem dX2_ahead_72 : decode cX2_ahead 72 = .ok (.iaload, 1) := by decide +kernel
theorem dX2_ahead_73 : decode cX2_ahead 73 = .ok (.goto 26, 3) := by decide +kernel
theorem dX2_ahead_76 : decode cX2_ahead 76 = .ok (.iload_n 2, 1) := by decide +kernel
theorem dX2_ahead_77 : decode cX2_ahead 77 = .ok (.iconst 2, 1) := by decide +kernel
theorem dX2_ahead_78 : decode cX2_ahead 78 = .ok (.if_icmp .ne 14, 3) := by decide +kernel
theorem dX2_ahead_81 : decode cX2_ahead 81 = .ok (.aload_n 0, 1) := by decide +kernel
theorem dX2_ahead_82 : decode cX2_ahead 82 = .ok (.getfield 16, 3) := by decide +kernel
theorem dX2_ahead_85 : decode cX2_ahead 85 = .ok (.iconst 1, 1) := by decide +kernel
theorem dX2_ahead_86 : decode cX2_ahead 86 = .ok (.invokestatic 111, 3) := by decide +kernel
theorem dX2_ahead_89 : decode cX2_ahead 89 = .ok (.goto 10, 3) := by decide +kernel
theorem dX2_ahead_92 : decode cX2_ahead 92 = .ok (.aload_n 0, 1) := by decide +kernel
theorem dX2_ahead_93 : decode cX2_ahead 93 = .ok (.getfield 16, 3) := by decide +kernel
theorem dX2_ahead_96 : decode cX2_ahead 96 = .ok (.bipush 69, 2) := by decide +kernel
theorem dX2_ahead_98 : decode cX2_ahead 98 = .ok (.iaload, 1) := by decide +kernel
theorem dX2_ahead_99 : decode cX2_ahead 99 = .ok (.ireturn, 1) := by decide +kernel
set_option maxRecDepth 20000 in
theorem ggX2_crowd_X2_in : GoodIn wsX2_crowd wsX2_in := goodIn_r _ [7] (by decide +kernel) (by decide +kernel)
set_option maxRecDepth 20000 in
theorem gX2_crowd_X2_in : GoodIn wsX2_crowd (va_wsS RX2 47 yX2_in wsX2_in) := goodIn_app (goodIn_of _ (by decide +kernel)) ggX2_crowd_X2_in
set_option maxRecDepth 20000 in
theorem ggX2_crowd_X2_copy : GoodIn wsX2_crowd wsX2_copy := goodIn_r _ [10] (by decide +kernel) (by decide +kernel)
set_option maxRecDepth 20000 in
theorem gX2_crowd_X2_copy : GoodIn wsX2_crowd (va_wsS RX2 128 yX2_copy wsX2_copy) := goodIn_app (goodIn_of _ (by decide +kernel)) ggX2_crowd_X2_copy
set_option maxRecDepth 20000 in
theorem ggX2_crowd_X2_passOn : GoodIn wsX2_crowd wsX2_passOn := goodIn_r _ [13, 14, 15, 6, 16, 17, 18, 19, 20, 21, 22, 23, 24, 25, 26, 27, 28, 29, 30, 31, 32, 33, 34, 35, 36, 37, 38, 39, 40, 41, 42, 43, 44, 45, 46, 47, 48, 49, 50, 51, 52, 53, 54, 55, 56] (by decide +kernel) (by decide +kernel)
set_option maxRecDepth 20000 in
theorem gX2_crowd_X2_passOn : GoodIn wsX2_crowd (va_wsS RX2 108 yX2_passOn wsX2_passOn) := goodIn_app (goodIn_of _ (by decide +kernel)) ggX2_crowd_X2_passOn
theorem dX2_crowd_0 : decode cX2_crowd 0 = .ok (.iload_n 1, 1) := by decide +kernel
theorem dX2_crowd_1 : decode cX2_crowd 1 = .ok (.i2l, 1) := by decide +kernel
theorem dX2_crowd_2 : decode cX2_crowd 2 = .ok (.lconst 1, 1) := by decide +kernel
theorem dX2_crowd_3 : decode cX2_crowd 3 = .ok (.ldc2_w 151, 3) := by decide +kernel
theorem dX2_crowd_6 : decode cX2_crowd 6 = .ok (.invokestatic 47, 3) := by decide +kernel
theorem dX2_crowd_9 : decode cX2_crowd 9 = .ok (.ifCond .ne 6, 3) := by decide +kernel
theorem dX2_crowd_12 : decode cX2_crowd 12 = .ok (.bipush (-2), 2) := by decide +kernel
theorem dX2_crowd_14 : decode cX2_crowd 14 = .ok (.ireturn, 1) := by decide +kernel
theorem dX2_crowd_15 : decode cX2_crowd 15 = .ok (.aload_n 0, 1) := by decide +kernel
theorem dX2_crowd_16 : decode cX2_crowd 16 = .ok (.getfield 13, 3) := by decide +kernel
theorem dX2_crowd_19 : decode cX2_crowd 19 = .ok (.aload_n 0, 1) := by decide +kernel
theorem dX2_crowd_20 : decode cX2_crowd 20 = .ok (.getfield 16, 3) := by decide +kernel
theorem dX2_crowd_23 : decode cX2_crowd 23 = .ok (.invokestatic 128, 3) := by decide +kernel
theorem dX2_crowd_26 : decode cX2_crowd 26 = .ok (.iconst 0, 1) := by decide +kernel
theorem dX2_crowd_27 : decode cX2_crowd 27 = .ok (.istore_n 2, 1) := by decide +kernel
theorem dX2_crowd_28 : decode cX2_crowd 28 = .ok (.iconst 0, 1) := by decide +kernel
theorem dX2_crowd_29 : decode cX2_crowd 29 = .ok (.istore_n 3, 1) := by decide +kernel
theorem dX2_crowd_30 : decode cX2_crowd 30 = .ok (.iload_n 3, 1) := by decide +kernel
theorem dX2_crowd_31 : decode cX2_crowd 31 = .ok (.iload_n 1, 1) := by decide +kernel
theorem dX2_crowd_32 : decode cX2_crowd 32 = .ok (.if_icmp .ge 32, 3) := by decide +kernel
theorem dX2_crowd_35 : decode cX2_crowd 35 = .ok (.aload_n 0, 1) := by decide +kernel
theorem dX2_crowd_36 : decode cX2_crowd 36 = .ok (.getfield 16, 3) := by decide +kernel
theorem dX2_crowd_39 : decode cX2_crowd 39 = .ok (.iconst 1, 1) := by decide +kernel
theorem dX2_crowd_40 : decode cX2_crowd 40 = .ok (.invokestatic 108, 3) := by decide +kernel
theorem dX2_crowd_43 : decode cX2_crowd 43 = .ok (.istore 4, 2) := by decide +kernel
theorem dX2_crowd_45 : decode cX2_crowd 45 = .ok (.iload 4, 2) := by decide +kernel
theorem dX2_crowd_47 : decode cX2_crowd 47 = .ok (.iload_n 2, 1) := by decide +kernel
theorem dX2_crowd_48 : decode cX2_crowd 48 = .ok (.if_icmp .le 8, 3) := by decide +kernel
theorem dX2_crowd_51 : decode cX2_crowd 51 = .ok (.iload 4, 2) := by decide +kernel
theorem dX2_crowd_53 : decode cX2_crowd 53 = .ok (.goto 4, 3) := by decide +kernel
theorem dX2_crowd_56 : decode cX2_crowd 56 = .ok (.iload_n 2, 1) := by decide +kernel
theorem dX2_crowd_57 : decode cX2_crowd 57 = .ok (.istore_n 2, 1) := by decide +kernel
theorem dX2_crowd_58 : decode cX2_crowd 58 = .ok (.iinc 3 1, 3) := by decide +kernel
theorem dX2_crowd_61 : decode cX2_crowd 61 = .ok (.goto (-31), 3) := by decide +kernel
theorem dX2_crowd_64 : decode cX2_crowd 64 = .ok (.iload_n 2, 1) := by decide +kernel
theorem dX2_crowd_65 : decode cX2_crowd 65 = .ok (.ireturn, 1) := by decide +kernel
theorem dX2_longPower_0 : decode cX2_longPower 0 = .ok (.lconst 1, 1) := by decide +kernel
theorem dX2_longPower_1 : decode cX2_longPower 1 = .ok (.lstore_n 3, 1) := by decide +kernel
theorem dX2_longPower_2 : decode cX2_longPower 2 = .ok (.iconst 0, 1) := by decide +kernel
theorem dX2_longPower_3 : decode cX2_longPower 3 = .ok (.istore 5, 2) := by decide +kernel
theorem dX2_longPower_5 : decode cX2_longPower 5 = .ok (.iload 5, 2) := by decide +kernel
theorem dX2_longPower_7 : decode cX2_longPower 7 = .ok (.iload_n 2, 1) := by decide +kernel
theorem dX2_longPower_8 : decode cX2_longPower 8 = .ok (.if_icmp .ge 13, 3) := by decide +kernel
theorem dX2_longPower_11 : decode cX2_longPower 11 = .ok (.lload_n 3, 1) := by decide +kernel
theorem dX2_longPower_12 : decode cX2_longPower 12 = .ok (.lload_n 0, 1) := by decide +kernel
theorem dX2_longPower_13 : decode cX2_longPower 13 = .ok (.lmul, 1) := by decide +kernel
theorem dX2_longPower_14 : decode cX2_longPower 14 = .ok (.lstore_n 3, 1) := by decide +kernel
theorem dX2_longPower_15 : decode cX2_longPower 15 = .ok (.iinc 5 1, 3) := by decide +kernel
theorem dX2_longPower_18 : decode cX2_longPower 18 = .ok (.goto (-13), 3) := by decide +kernel
theorem dX2_longPower_21 : decode cX2_longPower 21 = .ok (.lload_n 3, 1) := by decide +kernel
theorem dX2_longPower_22 : decode cX2_longPower 22 = .ok (.lreturn, 1) := by decide +kernel
set_option maxRecDepth 20000 in
theorem ggX2_jitter_X2_in : GoodIn wsX2_jitter wsX2_in := goodIn_r _ [6] (by decide +kernel) (by decide +kernel)
set_option maxRecDepth 20000 in
theorem gX2_jitter_X2_in : GoodIn wsX2_jitter (va_wsS RX2 47 yX2_in wsX2_in) := goodIn_app (goodIn_of _ (by decide +kernel)) ggX2_jitter_X2_in
set_option maxRecDepth 20000 in
theorem ggX2_jitter_X2_longPower : GoodIn wsX2_jitter wsX2_longPower := goodIn_r _ [9] (by decide +kernel) (by decide +kernel)
set_option maxRecDepth 20000 in
theorem gX2_jitter_X2_longPower : GoodIn wsX2_jitter (va_wsS RX2 159 yX2_longPower wsX2_longPower) := goodIn_app (goodIn_of _ (by decide +kernel)) ggX2_jitter_X2_longPower
theorem dX2_jitter_0 : decode cX2_jitter 0 = .ok (.iload_n 1, 1) := by decide +kernel
theorem dX2_jitter_1 : decode cX2_jitter 1 = .ok (.i2l, 1) := by decide +kernel
theorem dX2_jitter_2 : decode cX2_jitter 2 = .ok (.lconst 1, 1) := by decide +kernel
theorem dX2_jitter_3 : decode cX2_jitter 3 = .ok (.ldc2_w 155, 3) := by decide +kernel
theorem dX2_jitter_6 : decode cX2_jitter 6 = .ok (.invokestatic 47, 3) := by decide +kernel
theorem dX2_jitter_9 : decode cX2_jitter 9 = .ok (.ifCond .eq 20, 3) := by decide +kernel
theorem dX2_jitter_12 : decode cX2_jitter 12 = .ok (.lload_n 2, 1) := by decide +kernel
theorem dX2_jitter_13 : decode cX2_jitter 13 = .ok (.lconst 0, 1) := by decide +kernel
theorem dX2_jitter_14 : decode cX2_jitter 14 = .ok (.ldc2_w 157, 3) := by decide +kernel
theorem dX2_jitter_17 : decode cX2_jitter 17 = .ok (.iload_n 1, 1) := by decide +kernel
theorem dX2_jitter_18 : decode cX2_jitter 18 = .ok (.invokestatic 159, 3) := by decide +kernel
theorem dX2_jitter_21 : decode cX2_jitter 21 = .ok (.lconst 1, 1) := by decide +kernel
theorem dX2_jitter_22 : decode cX2_jitter 22 = .ok (.lsub, 1) := by decide +kernel
theorem dX2_jitter_23 : decode cX2_jitter 23 = .ok (.invokestatic 47, 3) := by decide +kernel
theorem dX2_jitter_26 : decode cX2_jitter 26 = .ok (.ifCond .ne 6, 3) := by decide +kernel
theorem dX2_jitter_29 : decode cX2_jitter 29 = .ok (.bipush (-2), 2) := by decide +kernel
theorem dX2_jitter_31 : decode cX2_jitter 31 = .ok (.ireturn, 1) := by decide +kernel
theorem dX2_jitter_32 : decode cX2_jitter 32 = .ok (.iconst 0, 1) := by decide +kernel
theorem dX2_jitter_33 : decode cX2_jitter 33 = .ok (.istore 4, 2) := by decide +kernel
theorem dX2_jitter_35 : decode cX2_jitter 35 = .ok (.iconst 0, 1) := by decide +kernel
theorem dX2_jitter_36 : decode cX2_jitter 36 = .ok (.istore 5, 2) := by decide +kernel
theorem dX2_jitter_38 : decode cX2_jitter 38 = .ok (.iconst 0, 1) := by decide +kernel
theorem dX2_jitter_39 : decode cX2_jitter 39 = .ok (.istore 6, 2) := by decide +kernel
theorem dX2_jitter_41 : decode cX2_jitter 41 = .ok (.iload 6, 2) := by decide +kernel
theorem dX2_jitter_43 : decode cX2_jitter 43 = .ok (.iload_n 1, 1) := by decide +kernel
theorem dX2_jitter_44 : decode cX2_jitter 44 = .ok (.if_icmp .ge 90, 3) := by decide +kernel
theorem dX2_jitter_47 : decode cX2_jitter 47 = .ok (.lload_n 2, 1) := by decide +kernel
theorem dX2_jitter_48 : decode cX2_jitter 48 = .ok (.ldc2_w 157, 3) := by decide +kernel
theorem dX2_jitter_51 : decode cX2_jitter 51 = .ok (.iload_n 1, 1) := by decide +kernel
theorem dX2_jitter_52 : decode cX2_jitter 52 = .ok (.iconst 1, 1) := by decide +kernel
theorem dX2_jitter_53 : decode cX2_jitter 53 = .ok (.isub, 1) := by decide +kernel
theorem dX2_jitter_54 : decode cX2_jitter 54 = .ok (.iload 6, 2) := by decide +kernel
theorem dX2_jitter_56 : decode cX2_jitter 56 = .ok (.isub, 1) := by decide +kernel
theorem dX2_jitter_57 : decode cX2_jitter 57 = .ok (.invokestatic 159, 3) := by decide +kernel
theorem dX2_jitter_60 : decode cX2_jitter 60 = .ok (.ldiv, 1) := by decide +kernel
theorem dX2_jitter_61 : decode cX2_jitter 61 = .ok (.ldc2_w 157, 3) := by decide +kernel
theorem dX2_jitter_64 : decode cX2_jitter 64 = .ok (.lrem, 1) := by decide +kernel
theorem dX2_jitter_65 : decode cX2_jitter 65 = .ok (.l2i, 1) := by decide +kernel
theorem dX2_jitter_66 : decode cX2_jitter 66 = .ok (.istore 7, 2) := by decide +kernel
theorem dX2_jitter_68 : decode cX2_jitter 68 = .ok (.iload 6, 2) := by decide +kernel
theorem dX2_jitter_70 : decode cX2_jitter 70 = .ok (.ifCond .ne 7, 3) := by decide +kernel
theorem dX2_jitter_73 : decode cX2_jitter 73 = .ok (.iconst 0, 1) := by decide +kernel
theorem dX2_jitter_74 : decode cX2_jitter 74 = .ok (.goto 23, 3) := by decide +kernel
theorem dX2_jitter_77 : decode cX2_jitter 77 = .ok (.iload 7, 2) := by decide +kernel
theorem dX2_jitter_79 : decode cX2_jitter 79 = .ok (.iload 5, 2) := by decide +kernel
theorem dX2_jitter_81 : decode cX2_jitter 81 = .ok (.if_icmp .le 11, 3) := by decide +kernel
theorem dX2_jitter_84 : decode cX2_jitter 84 = .ok (.iload 7, 2) := by decide +kernel
theorem dX2_jitter_86 : decode cX2_jitter 86 = .ok (.iload 5, 2) := by decide +kernel
theorem dX2_jitter_88 : decode cX2_jitter 88 = .ok (.isub, 1) := by decide +kernel
theorem dX2_jitter_89 : decode cX2_jitter 89 = .ok (.goto 8, 3) := by decide +kernel
theorem dX2_jitter_92 : decode cX2_jitter 92 = .ok (.iload 5, 2) := by decide +kernel
theorem dX2_jitter_94 : decode cX2_jitter 94 = .ok (.iload 7, 2) := by decide +kernel
theorem dX2_jitter_96 : decode cX2_jitter 96 = .ok (.isub, 1) := by decide +kernel
theorem dX2_jitter_97 : decode cX2_jitter 97 = .ok (.istore 8, 2) := by decide +kernel
theorem dX2_jitter_99 : decode cX2_jitter 99 = .ok (.iload 6, 2) := by decide +kernel
theorem dX2_jitter_101 : decode cX2_jitter 101 = .ok (.ifCond .ne 7, 3) := by decide +kernel
theorem dX2_jitter_104 : decode cX2_jitter 104 = .ok (.iconst 0, 1) := by decide +kernel
theorem dX2_jitter_105 : decode cX2_jitter 105 = .ok (.goto 17, 3) := by decide +kernel
theorem dX2_jitter_108 : decode cX2_jitter 108 = .ok (.iload 4, 2) := by decide +kernel
theorem dX2_jitter_110 : decode cX2_jitter 110 = .ok (.iload 8, 2) := by decide +kernel
theorem dX2_jitter_112 : decode cX2_jitter 112 = .ok (.iadd, 1) := by decide +kernel
theorem dX2_jitter_113 : decode cX2_jitter 113 = .ok (.iload 4, 2) := by decide +kernel
theorem dX2_jitter_115 : decode cX2_jitter 115 = .ok (.bipush 8, 2) := by decide +kernel
theorem dX2_jitter_117 : decode cX2_jitter 117 = .ok (.iadd, 1) := by decide +kernel
theorem dX2_jitter_118 : decode cX2_jitter 118 = .ok (.bipush 16, 2) := by decide +kernel
theorem dX2_jitter_120 : decode cX2_jitter 120 = .ok (.idiv, 1) := by decide +kernel
theorem dX2_jitter_121 : decode cX2_jitter 121 = .ok (.isub, 1) := by decide +kernel
theorem dX2_jitter_122 : decode cX2_jitter 122 = .ok (.istore 4, 2) := by decide +kernel
theorem dX2_jitter_124 : decode cX2_jitter 124 = .ok (.iload 7, 2) := by decide +kernel
theorem dX2_jitter_126 : decode cX2_jitter 126 = .ok (.istore 5, 2) := by decide +kernel
theorem dX2_jitter_128 : decode cX2_jitter 128 = .ok (.iinc 6 1, 3) := by decide +kernel
theorem dX2_jitter_131 : decode cX2_jitter 131 = .ok (.goto (-90), 3) := by decide +kernel
theorem dX2_jitter_134 : decode cX2_jitter 134 = .ok (.iload 4, 2) := by decide +kernel
theorem dX2_jitter_136 : decode cX2_jitter 136 = .ok (.ireturn, 1) := by decide +kernel
set_option maxRecDepth 20000 in
theorem ggX2_round_X2_in : GoodIn wsX2_round wsX2_in := goodIn_r _ [5] (by decide +kernel) (by decide +kernel)
set_option maxRecDepth 20000 in
theorem gX2_round_X2_in : GoodIn wsX2_round (va_wsS RX2 47 yX2_in wsX2_in) := goodIn_app (goodIn_of _ (by decide +kernel)) ggX2_round_X2_in
theorem dX2_round_0 : decode cX2_round 0 = .ok (.iload_n 1, 1) := by decide +kernel
theorem dX2_round_1 : decode cX2_round 1 = .ok (.i2l, 1) := by decide +kernel
theorem dX2_round_2 : decode cX2_round 2 = .ok (.lconst 0, 1) := by decide +kernel
theorem dX2_round_3 : decode cX2_round 3 = .ok (.ldc2_w 163, 3) := by decide +kernel
theorem dX2_round_6 : decode cX2_round 6 = .ok (.invokestatic 47, 3) := by decide +kernel
theorem dX2_round_9 : decode cX2_round 9 = .ok (.ifCond .eq 27, 3) := by decide +kernel
theorem dX2_round_12 : decode cX2_round 12 = .ok (.iload_n 2, 1) := by decide +kernel
theorem dX2_round_13 : decode cX2_round 13 = .ok (.i2l, 1) := by decide +kernel
theorem dX2_round_14 : decode cX2_round 14 = .ok (.lconst 0, 1) := by decide +kernel
theorem dX2_round_15 : decode cX2_round 15 = .ok (.ldc2_w 163, 3) := by decide +kernel
theorem dX2_round_18 : decode cX2_round 18 = .ok (.invokestatic 47, 3) := by decide +kernel
theorem dX2_round_21 : decode cX2_round 21 = .ok (.ifCond .eq 15, 3) := by decide +kernel
theorem dX2_round_24 : decode cX2_round 24 = .ok (.iload_n 3, 1) := by decide +kernel
theorem dX2_round_25 : decode cX2_round 25 = .ok (.i2l, 1) := by decide +kernel
theorem dX2_round_26 : decode cX2_round 26 = .ok (.lconst 0, 1) := by decide +kernel
theorem dX2_round_27 : decode cX2_round 27 = .ok (.ldc2_w 163, 3) := by decide +kernel
theorem dX2_round_30 : decode cX2_round 30 = .ok (.invokestatic 47, 3) := by decide +kernel
theorem dX2_round_33 : decode cX2_round 33 = .ok (.ifCond .ne 6, 3) := by decide +kernel
theorem dX2_round_36 : decode cX2_round 36 = .ok (.bipush (-2), 2) := by decide +kernel
theorem dX2_round_38 : decode cX2_round 38 = .ok (.ireturn, 1) := by decide +kernel
theorem dX2_round_39 : decode cX2_round 39 = .ok (.iload_n 1, 1) := by decide +kernel
theorem dX2_round_40 : decode cX2_round 40 = .ok (.iload_n 2, 1) := by decide +kernel
theorem dX2_round_41 : decode cX2_round 41 = .ok (.isub, 1) := by decide +kernel
theorem dX2_round_42 : decode cX2_round 42 = .ok (.iload_n 3, 1) := by decide +kernel
theorem dX2_round_43 : decode cX2_round 43 = .ok (.isub, 1) := by decide +kernel
theorem dX2_round_44 : decode cX2_round 44 = .ok (.istore 4, 2) := by decide +kernel
theorem dX2_round_46 : decode cX2_round 46 = .ok (.iload 4, 2) := by decide +kernel
theorem dX2_round_48 : decode cX2_round 48 = .ok (.ifCond .ge 8, 3) := by decide +kernel
theorem dX2_round_51 : decode cX2_round 51 = .ok (.bipush (-3), 2) := by decide +kernel
theorem dX2_round_53 : decode cX2_round 53 = .ok (.goto 5, 3) := by decide +kernel
theorem dX2_round_56 : decode cX2_round 56 = .ok (.iload 4, 2) := by decide +kernel
theorem dX2_round_58 : decode cX2_round 58 = .ok (.ireturn, 1) := by decide +kernel
set_option maxRecDepth 20000 in
theorem ggX2_judged_X2_isMember : GoodIn wsX2_judged wsX2_isMember := goodIn_r _ [6, 7, 8, 9, 5, 10] (by decide +kernel) (by decide +kernel)
set_option maxRecDepth 20000 in
theorem gX2_judged_X2_isMember : GoodIn wsX2_judged (va_wsS RX2 114 yX2_isMember wsX2_isMember) := goodIn_app (goodIn_of _ (by decide +kernel)) ggX2_judged_X2_isMember
set_option maxRecDepth 20000 in
theorem ggX2_judged_X2_joins : GoodIn wsX2_judged wsX2_joins := goodIn_r _ [13, 14, 15, 5, 16, 17, 18, 19, 20, 21, 22, 23] (by decide +kernel) (by decide +kernel)
set_option maxRecDepth 20000 in
theorem gX2_judged_X2_joins : GoodIn wsX2_judged (va_wsS RX2 118 yX2_joins wsX2_joins) := goodIn_app (goodIn_of _ (by decide +kernel)) ggX2_judged_X2_joins
set_option maxRecDepth 20000 in
theorem ggX2_judged_X2_leaves : GoodIn wsX2_judged wsX2_leaves := goodIn_r _ [26, 27, 28, 5, 29, 30, 31, 32, 33, 34, 35, 36, 37, 38, 39, 40, 41, 42, 43, 44, 14, 15, 16, 17, 18, 19, 20, 21, 22, 23] (by decide +kernel) (by decide +kernel)
set_option maxRecDepth 20000 in
theorem gX2_judged_X2_leaves : GoodIn wsX2_judged (va_wsS RX2 121 yX2_leaves wsX2_leaves) := goodIn_app (goodIn_of _ (by decide +kernel)) ggX2_judged_X2_leaves
set_option maxRecDepth 20000 in
theorem ggX2_judged_X2_in : GoodIn wsX2_judged wsX2_in := goodIn_r _ [10] (by decide +kernel) (by decide +kernel)
set_option maxRecDepth 20000 in
theorem gX2_judged_X2_in : GoodIn wsX2_judged (va_wsS RX2 47 yX2_in wsX2_in) := goodIn_app (goodIn_of _ (by decide +kernel)) ggX2_judged_X2_in
set_option maxRecDepth 20000 in
theorem ggX2_judged_X2_passOn : GoodIn wsX2_judged wsX2_passOn := goodIn_r _ [47, 48, 49, 5, 50, 51, 52, 53, 54, 55, 56, 27, 28, 29, 30, 31, 32, 14, 15, 16, 17, 18, 19, 20, 21, 22, 23, 57, 58, 59, 39, 40, 41, 42, 43, 44, 33, 34, 35, 36, 37, 38, 60, 61, 62] (by decide +kernel) (by decide +kernel)
set_option maxRecDepth 20000 in
theorem gX2_judged_X2_passOn : GoodIn wsX2_judged (va_wsS RX2 108 yX2_passOn wsX2_passOn) := goodIn_app (goodIn_of _ (by decide +kernel)) ggX2_judged_X2_passOn
set_option maxRecDepth 20000 in
theorem ggX2_judged_X2_has : GoodIn wsX2_judged wsX2_has := goodIn_r _ [44] (by decide +kernel) (by decide +kernel)
set_option maxRecDepth 20000 in
theorem gX2_judged_X2_has : GoodIn wsX2_judged (va_wsS RX2 64 yX2_has wsX2_has) := goodIn_app (goodIn_of _ (by decide +kernel)) ggX2_judged_X2_has
set_option maxRecDepth 20000 in
theorem ggX2_judged_X2_countOf : GoodIn wsX2_judged wsX2_countOf := goodIn_r _ [29, 30, 31, 5, 32] (by decide +kernel) (by decide +kernel)
set_option maxRecDepth 20000 in
theorem gX2_judged_X2_countOf : GoodIn wsX2_judged (va_wsS RX2 76 yX2_countOf wsX2_countOf) := goodIn_app (goodIn_of _ (by decide +kernel)) ggX2_judged_X2_countOf
theorem dX2_judged_0 : decode cX2_judged 0 = .ok (.iload_n 2, 1) := by decide +kernel
theorem dX2_judged_1 : decode cX2_judged 1 = .ok (.ifCond .ne 14, 3) := by decide +kernel
theorem dX2_judged_4 : decode cX2_judged 4 = .ok (.iload_n 3, 1) := by decide +kernel
theorem dX2_judged_5 : decode cX2_judged 5 = .ok (.invokestatic 114, 3) := by decide +kernel
theorem dX2_judged_8 : decode cX2_judged 8 = .ok (.ifCond .eq 7, 3) := by decide +kernel
theorem dX2_judged_11 : decode cX2_judged 11 = .ok (.iconst 1, 1) := by decide +kernel
theorem dX2_judged_12 : decode cX2_judged 12 = .ok (.goto 4, 3) := by decide +kernel
theorem dX2_judged_15 : decode cX2_judged 15 = .ok (.iconst 0, 1) := by decide +kernel
theorem dX2_judged_16 : decode cX2_judged 16 = .ok (.istore 4, 2) := by decide +kernel
theorem dX2_judged_18 : decode cX2_judged 18 = .ok (.iload_n 2, 1) := by decide +kernel
theorem dX2_judged_19 : decode cX2_judged 19 = .ok (.invokestatic 114, 3) := by decide +kernel
theorem dX2_judged_22 : decode cX2_judged 22 = .ok (.ifCond .eq 19, 3) := by decide +kernel
theorem dX2_judged_25 : decode cX2_judged 25 = .ok (.iload_n 3, 1) := by decide +kernel
theorem dX2_judged_26 : decode cX2_judged 26 = .ok (.invokestatic 114, 3) := by decide +kernel
theorem dX2_judged_29 : decode cX2_judged 29 = .ok (.ifCond .eq 12, 3) := by decide +kernel
theorem dX2_judged_32 : decode cX2_judged 32 = .ok (.iload_n 2, 1) := by decide +kernel
theorem dX2_judged_33 : decode cX2_judged 33 = .ok (.iload_n 3, 1) := by decide +kernel
theorem dX2_judged_34 : decode cX2_judged 34 = .ok (.if_icmp .eq 7, 3) := by decide +kernel
theorem dX2_judged_37 : decode cX2_judged 37 = .ok (.iconst 1, 1) := by decide +kernel
theorem dX2_judged_38 : decode cX2_judged 38 = .ok (.goto 4, 3) := by decide +kernel
theorem dX2_judged_41 : decode cX2_judged 41 = .ok (.iconst 0, 1) := by decide +kernel
theorem dX2_judged_42 : decode cX2_judged 42 = .ok (.istore 5, 2) := by decide +kernel
theorem dX2_judged_44 : decode cX2_judged 44 = .ok (.iload_n 1, 1) := by decide +kernel
theorem dX2_judged_45 : decode cX2_judged 45 = .ok (.tableswitch 235 1 7 #[43, 69, 96, 137, 160, 187, 212], 43) := by decide +kernel
theorem dX2_judged_88 : decode cX2_judged 88 = .ok (.iload 4, 2) := by decide +kernel
theorem dX2_judged_90 : decode cX2_judged 90 = .ok (.ifCond .eq 12, 3) := by decide +kernel
theorem dX2_judged_93 : decode cX2_judged 93 = .ok (.aload_n 0, 1) := by decide +kernel
theorem dX2_judged_94 : decode cX2_judged 94 = .ok (.getfield 16, 3) := by decide +kernel
theorem dX2_judged_97 : decode cX2_judged 97 = .ok (.iload_n 3, 1) := by decide +kernel
theorem dX2_judged_98 : decode cX2_judged 98 = .ok (.iaload, 1) := by decide +kernel
theorem dX2_judged_99 : decode cX2_judged 99 = .ok (.ifCond .eq 5, 3) := by decide +kernel
theorem dX2_judged_102 : decode cX2_judged 102 = .ok (.iconst 0, 1) := by decide +kernel
theorem dX2_judged_103 : decode cX2_judged 103 = .ok (.ireturn, 1) := by decide +kernel
theorem dX2_judged_104 : decode cX2_judged 104 = .ok (.aload_n 0, 1) := by decide +kernel
theorem dX2_judged_105 : decode cX2_judged 105 = .ok (.getfield 16, 3) := by decide +kernel
theorem dX2_judged_108 : decode cX2_judged 108 = .ok (.iload_n 3, 1) := by decide +kernel
theorem dX2_judged_109 : decode cX2_judged 109 = .ok (.invokestatic 118, 3) := by decide +kernel
theorem dX2_judged_112 : decode cX2_judged 112 = .ok (.iconst 1, 1) := by decide +kernel
theorem dX2_judged_113 : decode cX2_judged 113 = .ok (.ireturn, 1) := by decide +kernel
theorem dX2_judged_114 : decode cX2_judged 114 = .ok (.iload 4, 2) := by decide +kernel
theorem dX2_judged_116 : decode cX2_judged 116 = .ok (.ifCond .eq 13, 3) := by decide +kernel
theorem dX2_judged_119 : decode cX2_judged 119 = .ok (.aload_n 0, 1) := by decide +kernel
theorem dX2_judged_120 : decode cX2_judged 120 = .ok (.getfield 16, 3) := by decide +kernel
theorem dX2_judged_123 : decode cX2_judged 123 = .ok (.iload_n 3, 1) := by decide +kernel
theorem dX2_judged_124 : decode cX2_judged 124 = .ok (.iaload, 1) := by decide +kernel
theorem dX2_judged_125 : decode cX2_judged 125 = .ok (.iconst 1, 1) := by decide +kernel
theorem dX2_judged_126 : decode cX2_judged 126 = .ok (.if_icmp .eq 5, 3) := by decide +kernel
theorem dX2_judged_129 : decode cX2_judged 129 = .ok (.iconst 0, 1) := by decide +kernel
theorem dX2_judged_130 : decode cX2_judged 130 = .ok (.ireturn, 1) := by decide +kernel
theorem dX2_judged_131 : decode cX2_judged 131 = .ok (.aload_n 0, 1) := by decide +kernel
theorem dX2_judged_132 : decode cX2_judged 132 = .ok (.getfield 16, 3) := by decide +kernel
theorem dX2_judged_135 : decode cX2_judged 135 = .ok (.iload_n 3, 1) := by decide +kernel
theorem dX2_judged_136 : decode cX2_judged 136 = .ok (.invokestatic 121, 3) := by decide +kernel
theorem dX2_judged_139 : decode cX2_judged 139 = .ok (.iconst 1, 1) := by decide +kernel
theorem dX2_judged_140 : decode cX2_judged 140 = .ok (.ireturn, 1) := by decide +kernel
theorem dX2_judged_141 : decode cX2_judged 141 = .ok (.bipush 10, 2) := by decide +kernel
theorem dX2_judged_143 : decode cX2_judged 143 = .ok (.iload_n 2, 1) := by decide +kernel
theorem dX2_judged_144 : decode cX2_judged 144 = .ok (.imul, 1) := by decide +kernel
theorem dX2_judged_145 : decode cX2_judged 145 = .ok (.iload_n 3, 1) := by decide +kernel
theorem dX2_judged_146 : decode cX2_judged 146 = .ok (.iadd, 1) := by decide +kernel
theorem dX2_judged_147 : decode cX2_judged 147 = .ok (.i2l, 1) := by decide +kernel
theorem dX2_judged_148 : decode cX2_judged 148 = .ok (.lconst 1, 1) := by decide +kernel
theorem dX2_judged_149 : decode cX2_judged 149 = .ok (.ldc2_w 147, 3) := by decide +kernel
theorem dX2_judged_152 : decode cX2_judged 152 = .ok (.invokestatic 47, 3) := by decide +kernel
theorem dX2_judged_155 : decode cX2_judged 155 = .ok (.ifCond .ne 5, 3) := by decide +kernel
theorem dX2_judged_158 : decode cX2_judged 158 = .ok (.iconst 0, 1) := by decide +kernel
theorem dX2_judged_159 : decode cX2_judged 159 = .ok (.ireturn, 1) := by decide +kernel
theorem dX2_judged_160 : decode cX2_judged 160 = .ok (.aload_n 0, 1) := by decide +kernel
theorem dX2_judged_161 : decode cX2_judged 161 = .ok (.getfield 16, 3) := by decide +kernel
theorem dX2_judged_164 : decode cX2_judged 164 = .ok (.bipush 10, 2) := by decide +kernel
theorem dX2_judged_166 : decode cX2_judged 166 = .ok (.iload_n 2, 1) := by decide +kernel
theorem dX2_judged_167 : decode cX2_judged 167 = .ok (.imul, 1) := by decide +kernel
theorem dX2_judged_168 : decode cX2_judged 168 = .ok (.iload_n 3, 1) := by decide +kernel
theorem dX2_judged_169 : decode cX2_judged 169 = .ok (.iadd, 1) := by decide +kernel
theorem dX2_judged_170 : decode cX2_judged 170 = .ok (.invokestatic 108, 3) := by decide +kernel
theorem dX2_judged_173 : decode cX2_judged 173 = .ok (.ifCond .lt 7, 3) := by decide +kernel
theorem dX2_judged_176 : decode cX2_judged 176 = .ok (.iconst 1, 1) := by decide +kernel
theorem dX2_judged_177 : decode cX2_judged 177 = .ok (.goto 4, 3) := by decide +kernel
theorem dX2_judged_180 : decode cX2_judged 180 = .ok (.iconst 0, 1) := by decide +kernel
theorem dX2_judged_181 : decode cX2_judged 181 = .ok (.ireturn, 1) := by decide +kernel
theorem dX2_judged_182 : decode cX2_judged 182 = .ok (.iload_n 2, 1) := by decide +kernel
theorem dX2_judged_183 : decode cX2_judged 183 = .ok (.invokestatic 114, 3) := by decide +kernel
theorem dX2_judged_186 : decode cX2_judged 186 = .ok (.ifCond .eq 17, 3) := by decide +kernel
theorem dX2_judged_189 : decode cX2_judged 189 = .ok (.aload_n 0, 1) := by decide +kernel
theorem dX2_judged_190 : decode cX2_judged 190 = .ok (.getfield 16, 3) := by decide +kernel
theorem dX2_judged_193 : decode cX2_judged 193 = .ok (.iload_n 2, 1) := by decide +kernel
theorem dX2_judged_194 : decode cX2_judged 194 = .ok (.iaload, 1) := by decide +kernel
theorem dX2_judged_195 : decode cX2_judged 195 = .ok (.iload_n 3, 1) := by decide +kernel
theorem dX2_judged_196 : decode cX2_judged 196 = .ok (.if_icmp .ne 7, 3) := by decide +kernel
theorem dX2_judged_199 : decode cX2_judged 199 = .ok (.iconst 1, 1) := by decide +kernel
theorem dX2_judged_200 : decode cX2_judged 200 = .ok (.goto 4, 3) := by decide +kernel
theorem dX2_judged_203 : decode cX2_judged 203 = .ok (.iconst 0, 1) := by decide +kernel
theorem dX2_judged_204 : decode cX2_judged 204 = .ok (.ireturn, 1) := by decide +kernel
theorem dX2_judged_205 : decode cX2_judged 205 = .ok (.iload 5, 2) := by decide +kernel
theorem dX2_judged_207 : decode cX2_judged 207 = .ok (.ifCond .eq 23, 3) := by decide +kernel
theorem dX2_judged_210 : decode cX2_judged 210 = .ok (.aload_n 0, 1) := by decide +kernel
theorem dX2_judged_211 : decode cX2_judged 211 = .ok (.getfield 16, 3) := by decide +kernel
theorem dX2_judged_214 : decode cX2_judged 214 = .ok (.bipush 6, 2) := by decide +kernel
theorem dX2_judged_216 : decode cX2_judged 216 = .ok (.iload_n 2, 1) := by decide +kernel
theorem dX2_judged_217 : decode cX2_judged 217 = .ok (.iadd, 1) := by decide +kernel
theorem dX2_judged_218 : decode cX2_judged 218 = .ok (.iaload, 1) := by decide +kernel
theorem dX2_judged_219 : decode cX2_judged 219 = .ok (.iload_n 3, 1) := by decide +kernel
theorem dX2_judged_220 : decode cX2_judged 220 = .ok (.invokestatic 64, 3) := by decide +kernel
theorem dX2_judged_223 : decode cX2_judged 223 = .ok (.ifCond .eq 7, 3) := by decide +kernel
theorem dX2_judged_226 : decode cX2_judged 226 = .ok (.iconst 1, 1) := by decide +kernel
theorem dX2_judged_227 : decode cX2_judged 227 = .ok (.goto 4, 3) := by decide +kernel
theorem dX2_judged_230 : decode cX2_judged 230 = .ok (.iconst 0, 1) := by decide +kernel
theorem dX2_judged_231 : decode cX2_judged 231 = .ok (.ireturn, 1) := by decide +kernel
theorem dX2_judged_232 : decode cX2_judged 232 = .ok (.iload_n 2, 1) := by decide +kernel
theorem dX2_judged_233 : decode cX2_judged 233 = .ok (.invokestatic 114, 3) := by decide +kernel
theorem dX2_judged_236 : decode cX2_judged 236 = .ok (.ifCond .eq 19, 3) := by decide +kernel
theorem dX2_judged_239 : decode cX2_judged 239 = .ok (.aload_n 0, 1) := by decide +kernel
theorem dX2_judged_240 : decode cX2_judged 240 = .ok (.getfield 16, 3) := by decide +kernel
theorem dX2_judged_243 : decode cX2_judged 243 = .ok (.iload_n 2, 1) := by decide +kernel
theorem dX2_judged_244 : decode cX2_judged 244 = .ok (.invokestatic 76, 3) := by decide +kernel
theorem dX2_judged_247 : decode cX2_judged 247 = .ok (.iload_n 3, 1) := by decide +kernel
theorem dX2_judged_248 : decode cX2_judged 248 = .ok (.if_icmp .ne 7, 3) := by decide +kernel
theorem dX2_judged_251 : decode cX2_judged 251 = .ok (.iconst 1, 1) := by decide +kernel
theorem dX2_judged_252 : decode cX2_judged 252 = .ok (.goto 4, 3) := by decide +kernel
theorem dX2_judged_255 : decode cX2_judged 255 = .ok (.iconst 0, 1) := by decide +kernel
theorem dX2_judged_256 : decode cX2_judged 256 = .ok (.ireturn, 1) := by decide +kernel
theorem dX2_judged_257 : decode cX2_judged 257 = .ok (.iload 5, 2) := by decide +kernel
theorem dX2_judged_259 : decode cX2_judged 259 = .ok (.ifCond .eq 18, 3) := by decide +kernel
theorem dX2_judged_262 : decode cX2_judged 262 = .ok (.aload_n 0, 1) := by decide +kernel
theorem dX2_judged_263 : decode cX2_judged 263 = .ok (.getfield 16, 3) := by decide +kernel
theorem dX2_judged_266 : decode cX2_judged 266 = .ok (.bipush 73, 2) := by decide +kernel
theorem dX2_judged_268 : decode cX2_judged 268 = .ok (.iload_n 2, 1) := by decide +kernel
theorem dX2_judged_269 : decode cX2_judged 269 = .ok (.iadd, 1) := by decide +kernel
theorem dX2_judged_270 : decode cX2_judged 270 = .ok (.dup2, 1) := by decide +kernel
theorem dX2_judged_271 : decode cX2_judged 271 = .ok (.iaload, 1) := by decide +kernel
theorem dX2_judged_272 : decode cX2_judged 272 = .ok (.iconst 1, 1) := by decide +kernel
theorem dX2_judged_273 : decode cX2_judged 273 = .ok (.iload_n 3, 1) := by decide +kernel
theorem dX2_judged_274 : decode cX2_judged 274 = .ok (.ishl, 1) := by decide +kernel
theorem dX2_judged_275 : decode cX2_judged 275 = .ok (.ixor, 1) := by decide +kernel
theorem dX2_judged_276 : decode cX2_judged 276 = .ok (.iastore, 1) := by decide +kernel
theorem dX2_judged_277 : decode cX2_judged 277 = .ok (.iload 5, 2) := by decide +kernel
theorem dX2_judged_279 : decode cX2_judged 279 = .ok (.ireturn, 1) := by decide +kernel
theorem dX2_judged_280 : decode cX2_judged 280 = .ok (.iconst 0, 1) := by decide +kernel
theorem dX2_judged_281 : decode cX2_judged 281 = .ok (.ireturn, 1) := by decide +kernel
set_option maxRecDepth 20000 in
theorem ggX2_judge_X2_in : GoodIn wsX2_judge wsX2_in := goodIn_r _ [8] (by decide +kernel) (by decide +kernel)
set_option maxRecDepth 20000 in
theorem gX2_judge_X2_in : GoodIn wsX2_judge (va_wsS RX2 47 yX2_in wsX2_in) := goodIn_app (goodIn_of _ (by decide +kernel)) ggX2_judge_X2_in
set_option maxRecDepth 20000 in
theorem ggX2_judge_X2_longPower : GoodIn wsX2_judge wsX2_longPower := goodIn_r _ [11] (by decide +kernel) (by decide +kernel)
set_option maxRecDepth 20000 in
theorem gX2_judge_X2_longPower : GoodIn wsX2_judge (va_wsS RX2 159 yX2_longPower wsX2_longPower) := goodIn_app (goodIn_of _ (by decide +kernel)) ggX2_judge_X2_longPower
set_option maxRecDepth 20000 in
theorem ggX2_judge_X2_copy : GoodIn wsX2_judge wsX2_copy := goodIn_r _ [14] (by decide +kernel) (by decide +kernel)
set_option maxRecDepth 20000 in
theorem gX2_judge_X2_copy : GoodIn wsX2_judge (va_wsS RX2 128 yX2_copy wsX2_copy) := goodIn_app (goodIn_of _ (by decide +kernel)) ggX2_judge_X2_copy
set_option maxRecDepth 20000 in
theorem ggX2_judge_X2_judged : GoodIn wsX2_judge wsX2_judged := goodIn_r _ [18, 4, 19, 20, 21, 7, 22, 23, 5, 6, 8, 24, 25, 26, 27, 28, 29, 30, 31, 32, 33, 34, 35, 36, 37, 38, 39, 40, 41, 42, 43, 44, 45, 46, 47, 48, 49, 50, 51, 52, 53, 54, 55, 56, 57, 58, 59, 60, 61, 62, 63, 64, 65, 66, 67, 68, 69, 70, 71, 72, 73, 74, 75, 76, 77, 78, 79, 80, 81, 82, 83, 84, 85, 86, 87, 88, 89, 90] (by decide +kernel) (by decide +kernel)
set_option maxRecDepth 20000 in
theorem gX2_judge_X2_judged : GoodIn wsX2_judge (wsV RX2 169 RX2 yX2_judged wsX2_judged) := goodIn_app (goodIn_of _ (by decide +kernel)) ggX2_judge_X2_judged
theorem dX2_judge_0 : decode cX2_judge 0 = .ok (.iload_n 1, 1) := by decide +kernel
theorem dX2_judge_1 : decode cX2_judge 1 = .ok (.i2l, 1) := by decide +kernel
theorem dX2_judge_2 : decode cX2_judge 2 = .ok (.lconst 1, 1) := by decide +kernel
theorem dX2_judge_3 : decode cX2_judge 3 = .ok (.ldc2_w 165, 3) := by decide +kernel
theorem dX2_judge_6 : decode cX2_judge 6 = .ok (.invokestatic 47, 3) := by decide +kernel
theorem dX2_judge_9 : decode cX2_judge 9 = .ok (.ifCond .eq 20, 3) := by decide +kernel
theorem dX2_judge_12 : decode cX2_judge 12 = .ok (.lload_n 2, 1) := by decide +kernel
theorem dX2_judge_13 : decode cX2_judge 13 = .ok (.lconst 0, 1) := by decide +kernel
theorem dX2_judge_14 : decode cX2_judge 14 = .ok (.ldc2_w 167, 3) := by decide +kernel
theorem dX2_judge_17 : decode cX2_judge 17 = .ok (.iload_n 1, 1) := by decide +kernel
theorem dX2_judge_18 : decode cX2_judge 18 = .ok (.invokestatic 159, 3) := by decide +kernel
theorem dX2_judge_21 : decode cX2_judge 21 = .ok (.lconst 1, 1) := by decide +kernel
theorem dX2_judge_22 : decode cX2_judge 22 = .ok (.lsub, 1) := by decide +kernel
theorem dX2_judge_23 : decode cX2_judge 23 = .ok (.invokestatic 47, 3) := by decide +kernel
theorem dX2_judge_26 : decode cX2_judge 26 = .ok (.ifCond .ne 6, 3) := by decide +kernel
theorem dX2_judge_29 : decode cX2_judge 29 = .ok (.bipush (-2), 2) := by decide +kernel
theorem dX2_judge_31 : decode cX2_judge 31 = .ok (.ireturn, 1) := by decide +kernel
theorem dX2_judge_32 : decode cX2_judge 32 = .ok (.aload_n 0, 1) := by decide +kernel
theorem dX2_judge_33 : decode cX2_judge 33 = .ok (.getfield 13, 3) := by decide +kernel
theorem dX2_judge_36 : decode cX2_judge 36 = .ok (.aload_n 0, 1) := by decide +kernel
theorem dX2_judge_37 : decode cX2_judge 37 = .ok (.getfield 16, 3) := by decide +kernel
theorem dX2_judge_40 : decode cX2_judge 40 = .ok (.invokestatic 128, 3) := by decide +kernel
theorem dX2_judge_43 : decode cX2_judge 43 = .ok (.iconst 0, 1) := by decide +kernel
theorem dX2_judge_44 : decode cX2_judge 44 = .ok (.istore 4, 2) := by decide +kernel
theorem dX2_judge_46 : decode cX2_judge 46 = .ok (.iload 4, 2) := by decide +kernel
theorem dX2_judge_48 : decode cX2_judge 48 = .ok (.iload_n 1, 1) := by decide +kernel
theorem dX2_judge_49 : decode cX2_judge 49 = .ok (.if_icmp .ge 58, 3) := by decide +kernel
theorem dX2_judge_52 : decode cX2_judge 52 = .ok (.lload_n 2, 1) := by decide +kernel
theorem dX2_judge_53 : decode cX2_judge 53 = .ok (.ldc2_w 167, 3) := by decide +kernel
theorem dX2_judge_56 : decode cX2_judge 56 = .ok (.iload_n 1, 1) := by decide +kernel
theorem dX2_judge_57 : decode cX2_judge 57 = .ok (.iconst 1, 1) := by decide +kernel
theorem dX2_judge_58 : decode cX2_judge 58 = .ok (.isub, 1) := by decide +kernel
theorem dX2_judge_59 : decode cX2_judge 59 = .ok (.iload 4, 2) := by decide +kernel
theorem dX2_judge_61 : decode cX2_judge 61 = .ok (.isub, 1) := by decide +kernel
theorem dX2_judge_62 : decode cX2_judge 62 = .ok (.invokestatic 159, 3) := by decide +kernel
theorem dX2_judge_65 : decode cX2_judge 65 = .ok (.ldiv, 1) := by decide +kernel
theorem dX2_judge_66 : decode cX2_judge 66 = .ok (.ldc2_w 167, 3) := by decide +kernel
theorem dX2_judge_69 : decode cX2_judge 69 = .ok (.lrem, 1) := by decide +kernel
theorem dX2_judge_70 : decode cX2_judge 70 = .ok (.l2i, 1) := by decide +kernel
theorem dX2_judge_71 : decode cX2_judge 71 = .ok (.istore 5, 2) := by decide +kernel
theorem dX2_judge_73 : decode cX2_judge 73 = .ok (.aload_n 0, 1) := by decide +kernel
theorem dX2_judge_74 : decode cX2_judge 74 = .ok (.iload 5, 2) := by decide +kernel
theorem dX2_judge_76 : decode cX2_judge 76 = .ok (.bipush 100, 2) := by decide +kernel
theorem dX2_judge_78 : decode cX2_judge 78 = .ok (.idiv, 1) := by decide +kernel
theorem dX2_judge_79 : decode cX2_judge 79 = .ok (.iload 5, 2) := by decide +kernel
theorem dX2_judge_81 : decode cX2_judge 81 = .ok (.bipush 10, 2) := by decide +kernel
theorem dX2_judge_83 : decode cX2_judge 83 = .ok (.idiv, 1) := by decide +kernel
theorem dX2_judge_84 : decode cX2_judge 84 = .ok (.bipush 10, 2) := by decide +kernel
theorem dX2_judge_86 : decode cX2_judge 86 = .ok (.irem, 1) := by decide +kernel
theorem dX2_judge_87 : decode cX2_judge 87 = .ok (.iload 5, 2) := by decide +kernel
theorem dX2_judge_89 : decode cX2_judge 89 = .ok (.bipush 10, 2) := by decide +kernel
theorem dX2_judge_91 : decode cX2_judge 91 = .ok (.irem, 1) := by decide +kernel
theorem dX2_judge_92 : decode cX2_judge 92 = .ok (.invokevirtual 169, 3) := by decide +kernel
theorem dX2_judge_95 : decode cX2_judge 95 = .ok (.ifCond .ne 6, 3) := by decide +kernel
theorem dX2_judge_98 : decode cX2_judge 98 = .ok (.iload 4, 2) := by decide +kernel
theorem dX2_judge_100 : decode cX2_judge 100 = .ok (.ireturn, 1) := by decide +kernel
theorem dX2_judge_101 : decode cX2_judge 101 = .ok (.iinc 4 1, 3) := by decide +kernel
theorem dX2_judge_104 : decode cX2_judge 104 = .ok (.goto (-58), 3) := by decide +kernel
theorem dX2_judge_107 : decode cX2_judge 107 = .ok (.bipush (-9), 2) := by decide +kernel
theorem dX2_judge_109 : decode cX2_judge 109 = .ok (.ireturn, 1) := by decide +kernel
set_option maxRecDepth 20000 in
theorem ggX2_see_X2_in : GoodIn wsX2_see wsX2_in := goodIn_r _ [9] (by decide +kernel) (by decide +kernel)
set_option maxRecDepth 20000 in
theorem gX2_see_X2_in : GoodIn wsX2_see (va_wsS RX2 47 yX2_in wsX2_in) := goodIn_app (goodIn_of _ (by decide +kernel)) ggX2_see_X2_in
theorem dX2_see_0 : decode cX2_see 0 = .ok (.iload_n 1, 1) := by decide +kernel
theorem dX2_see_1 : decode cX2_see 1 = .ok (.i2l, 1) := by decide +kernel
theorem dX2_see_2 : decode cX2_see 2 = .ok (.lconst 0, 1) := by decide +kernel
theorem dX2_see_3 : decode cX2_see 3 = .ok (.ldc2_w 173, 3) := by decide +kernel
theorem dX2_see_6 : decode cX2_see 6 = .ok (.invokestatic 47, 3) := by decide +kernel
theorem dX2_see_9 : decode cX2_see 9 = .ok (.ifCond .eq 15, 3) := by decide +kernel
theorem dX2_see_12 : decode cX2_see 12 = .ok (.iload_n 2, 1) := by decide +kernel
theorem dX2_see_13 : decode cX2_see 13 = .ok (.i2l, 1) := by decide +kernel
theorem dX2_see_14 : decode cX2_see 14 = .ok (.lconst 0, 1) := by decide +kernel
theorem dX2_see_15 : decode cX2_see 15 = .ok (.ldc2_w 151, 3) := by decide +kernel
theorem dX2_see_18 : decode cX2_see 18 = .ok (.invokestatic 47, 3) := by decide +kernel
theorem dX2_see_21 : decode cX2_see 21 = .ok (.ifCond .ne 6, 3) := by decide +kernel
theorem dX2_see_24 : decode cX2_see 24 = .ok (.bipush (-2), 2) := by decide +kernel
theorem dX2_see_26 : decode cX2_see 26 = .ok (.ireturn, 1) := by decide +kernel
theorem dX2_see_27 : decode cX2_see 27 = .ok (.aload_n 0, 1) := by decide +kernel
theorem dX2_see_28 : decode cX2_see 28 = .ok (.getfield 138, 3) := by decide +kernel
theorem dX2_see_31 : decode cX2_see 31 = .ok (.bipush 6, 2) := by decide +kernel
theorem dX2_see_33 : decode cX2_see 33 = .ok (.if_icmp .ne 6, 3) := by decide +kernel
theorem dX2_see_36 : decode cX2_see 36 = .ok (.bipush (-4), 2) := by decide +kernel
theorem dX2_see_38 : decode cX2_see 38 = .ok (.ireturn, 1) := by decide +kernel
theorem dX2_see_39 : decode cX2_see 39 = .ok (.aload_n 0, 1) := by decide +kernel
theorem dX2_see_40 : decode cX2_see 40 = .ok (.getfield 29, 3) := by decide +kernel
theorem dX2_see_43 : decode cX2_see 43 = .ok (.aload_n 0, 1) := by decide +kernel
theorem dX2_see_44 : decode cX2_see 44 = .ok (.getfield 138, 3) := by decide +kernel
theorem dX2_see_47 : decode cX2_see 47 = .ok (.iload_n 1, 1) := by decide +kernel
theorem dX2_see_48 : decode cX2_see 48 = .ok (.iastore, 1) := by decide +kernel
theorem dX2_see_49 : decode cX2_see 49 = .ok (.aload_n 0, 1) := by decide +kernel
theorem dX2_see_50 : decode cX2_see 50 = .ok (.getfield 32, 3) := by decide +kernel
theorem dX2_see_53 : decode cX2_see 53 = .ok (.aload_n 0, 1) := by decide +kernel
theorem dX2_see_54 : decode cX2_see 54 = .ok (.getfield 138, 3) := by decide +kernel
theorem dX2_see_57 : decode cX2_see 57 = .ok (.iload_n 2, 1) := by decide +kernel
theorem dX2_see_58 : decode cX2_see 58 = .ok (.iastore, 1) := by decide +kernel
theorem dX2_see_59 : decode cX2_see 59 = .ok (.aload_n 0, 1) := by decide +kernel
theorem dX2_see_60 : decode cX2_see 60 = .ok (.dup, 1) := by decide +kernel
theorem dX2_see_61 : decode cX2_see 61 = .ok (.getfield 138, 3) := by decide +kernel
theorem dX2_see_64 : decode cX2_see 64 = .ok (.iconst 1, 1) := by decide +kernel
theorem dX2_see_65 : decode cX2_see 65 = .ok (.iadd, 1) := by decide +kernel
theorem dX2_see_66 : decode cX2_see 66 = .ok (.putfield 138, 3) := by decide +kernel
theorem dX2_see_69 : decode cX2_see 69 = .ok (.aload_n 0, 1) := by decide +kernel
theorem dX2_see_70 : decode cX2_see 70 = .ok (.getfield 138, 3) := by decide +kernel
theorem dX2_see_73 : decode cX2_see 73 = .ok (.ireturn, 1) := by decide +kernel
theorem dX2_unsee_0 : decode cX2_unsee 0 = .ok (.aload_n 0, 1) := by decide +kernel
theorem dX2_unsee_1 : decode cX2_unsee 1 = .ok (.getfield 138, 3) := by decide +kernel
theorem dX2_unsee_4 : decode cX2_unsee 4 = .ok (.istore_n 1, 1) := by decide +kernel
theorem dX2_unsee_5 : decode cX2_unsee 5 = .ok (.aload_n 0, 1) := by decide +kernel
theorem dX2_unsee_6 : decode cX2_unsee 6 = .ok (.iconst 0, 1) := by decide +kernel
theorem dX2_unsee_7 : decode cX2_unsee 7 = .ok (.putfield 138, 3) := by decide +kernel
theorem dX2_unsee_10 : decode cX2_unsee 10 = .ok (.iload_n 1, 1) := by decide +kernel
theorem dX2_unsee_11 : decode cX2_unsee 11 = .ok (.ireturn, 1) := by decide +kernel
set_option maxRecDepth 20000 in
theorem ggX2_which_X2_copy : GoodIn wsX2_which wsX2_copy := goodIn_r _ [9] (by decide +kernel) (by decide +kernel)
set_option maxRecDepth 20000 in
theorem gX2_which_X2_copy : GoodIn wsX2_which (va_wsS RX2 128 yX2_copy wsX2_copy) := goodIn_app (goodIn_of _ (by decide +kernel)) ggX2_which_X2_copy
set_option maxRecDepth 20000 in
theorem ggX2_which_X2_passOn : GoodIn wsX2_which wsX2_passOn := goodIn_r _ [12, 13, 14, 8, 15, 16, 17, 18, 19, 20, 21, 22, 23, 24, 25, 26, 27, 28, 29, 30, 31, 32, 33, 34, 35, 36, 37, 38, 39, 40, 41, 42, 43, 44, 45, 46, 47, 48, 49, 50, 51, 52, 53, 54, 55] (by decide +kernel) (by decide +kernel)
set_option maxRecDepth 20000 in
theorem gX2_which_X2_passOn : GoodIn wsX2_which (va_wsS RX2 108 yX2_passOn wsX2_passOn) := goodIn_app (goodIn_of _ (by decide +kernel)) ggX2_which_X2_passOn
theorem dX2_which_0 : decode cX2_which 0 = .ok (.iconst 0, 1) := by decide +kernel
theorem dX2_which_1 : decode cX2_which 1 = .ok (.istore_n 1, 1) := by decide +kernel
theorem dX2_which_2 : decode cX2_which 2 = .ok (.iconst 1, 1) := by decide +kernel
theorem dX2_which_3 : decode cX2_which 3 = .ok (.istore_n 2, 1) := by decide +kernel
theorem dX2_which_4 : decode cX2_which 4 = .ok (.iload_n 2, 1) := by decide +kernel
theorem dX2_which_5 : decode cX2_which 5 = .ok (.bipush 10, 2) := by decide +kernel
theorem dX2_which_7 : decode cX2_which 7 = .ok (.if_icmp .ge 96, 3) := by decide +kernel
theorem dX2_which_10 : decode cX2_which 10 = .ok (.iconst 1, 1) := by decide +kernel
theorem dX2_which_11 : decode cX2_which 11 = .ok (.istore_n 3, 1) := by decide +kernel
theorem dX2_which_12 : decode cX2_which 12 = .ok (.iconst 0, 1) := by decide +kernel
theorem dX2_which_13 : decode cX2_which 13 = .ok (.istore 4, 2) := by decide +kernel
theorem dX2_which_15 : decode cX2_which 15 = .ok (.iload 4, 2) := by decide +kernel
theorem dX2_which_17 : decode cX2_which 17 = .ok (.aload_n 0, 1) := by decide +kernel
theorem dX2_which_18 : decode cX2_which 18 = .ok (.getfield 138, 3) := by decide +kernel
theorem dX2_which_21 : decode cX2_which 21 = .ok (.if_icmp .ge 62, 3) := by decide +kernel
theorem dX2_which_24 : decode cX2_which 24 = .ok (.aload_n 0, 1) := by decide +kernel
theorem dX2_which_25 : decode cX2_which 25 = .ok (.getfield 13, 3) := by decide +kernel
theorem dX2_which_28 : decode cX2_which 28 = .ok (.aload_n 0, 1) := by decide +kernel
theorem dX2_which_29 : decode cX2_which 29 = .ok (.getfield 16, 3) := by decide +kernel
theorem dX2_which_32 : decode cX2_which 32 = .ok (.invokestatic 128, 3) := by decide +kernel
theorem dX2_which_35 : decode cX2_which 35 = .ok (.aload_n 0, 1) := by decide +kernel
theorem dX2_which_36 : decode cX2_which 36 = .ok (.getfield 16, 3) := by decide +kernel
theorem dX2_which_39 : decode cX2_which 39 = .ok (.bipush 67, 2) := by decide +kernel
theorem dX2_which_41 : decode cX2_which 41 = .ok (.iload_n 2, 1) := by decide +kernel
theorem dX2_which_42 : decode cX2_which 42 = .ok (.iastore, 1) := by decide +kernel
theorem dX2_which_43 : decode cX2_which 43 = .ok (.iload_n 3, 1) := by decide +kernel
theorem dX2_which_44 : decode cX2_which 44 = .ok (.ifCond .eq 31, 3) := by decide +kernel
theorem dX2_which_47 : decode cX2_which 47 = .ok (.aload_n 0, 1) := by decide +kernel
theorem dX2_which_48 : decode cX2_which 48 = .ok (.getfield 16, 3) := by decide +kernel
theorem dX2_which_51 : decode cX2_which 51 = .ok (.aload_n 0, 1) := by decide +kernel
theorem dX2_which_52 : decode cX2_which 52 = .ok (.getfield 29, 3) := by decide +kernel
theorem dX2_which_55 : decode cX2_which 55 = .ok (.iload 4, 2) := by decide +kernel
theorem dX2_which_57 : decode cX2_which 57 = .ok (.iaload, 1) := by decide +kernel
theorem dX2_which_58 : decode cX2_which 58 = .ok (.invokestatic 108, 3) := by decide +kernel
theorem dX2_which_61 : decode cX2_which 61 = .ok (.aload_n 0, 1) := by decide +kernel
theorem dX2_which_62 : decode cX2_which 62 = .ok (.getfield 32, 3) := by decide +kernel
theorem dX2_which_65 : decode cX2_which 65 = .ok (.iload 4, 2) := by decide +kernel
theorem dX2_which_67 : decode cX2_which 67 = .ok (.iaload, 1) := by decide +kernel
theorem dX2_which_68 : decode cX2_which 68 = .ok (.if_icmp .ne 7, 3) := by decide +kernel
theorem dX2_which_71 : decode cX2_which 71 = .ok (.iconst 1, 1) := by decide +kernel
theorem dX2_which_72 : decode cX2_which 72 = .ok (.goto 4, 3) := by decide +kernel
theorem dX2_which_75 : decode cX2_which 75 = .ok (.iconst 0, 1) := by decide +kernel
theorem dX2_which_76 : decode cX2_which 76 = .ok (.istore_n 3, 1) := by decide +kernel
theorem dX2_which_77 : decode cX2_which 77 = .ok (.iinc 4 1, 3) := by decide +kernel
theorem dX2_which_80 : decode cX2_which 80 = .ok (.goto (-65), 3) := by decide +kernel
theorem dX2_which_83 : decode cX2_which 83 = .ok (.iload_n 1, 1) := by decide +kernel
theorem dX2_which_84 : decode cX2_which 84 = .ok (.iload_n 3, 1) := by decide +kernel
theorem dX2_which_85 : decode cX2_which 85 = .ok (.ifCond .eq 9, 3) := by decide +kernel
theorem dX2_which_88 : decode cX2_which 88 = .ok (.iconst 1, 1) := by decide +kernel
theorem dX2_which_89 : decode cX2_which 89 = .ok (.iload_n 2, 1) := by decide +kernel
theorem dX2_which_90 : decode cX2_which 90 = .ok (.ishl, 1) := by decide +kernel
theorem dX2_which_91 : decode cX2_which 91 = .ok (.goto 4, 3) := by decide +kernel
theorem dX2_which_94 : decode cX2_which 94 = .ok (.iconst 0, 1) := by decide +kernel
theorem dX2_which_95 : decode cX2_which 95 = .ok (.ior, 1) := by decide +kernel
theorem dX2_which_96 : decode cX2_which 96 = .ok (.istore_n 1, 1) := by decide +kernel
theorem dX2_which_97 : decode cX2_which 97 = .ok (.iinc 2 1, 3) := by decide +kernel
theorem dX2_which_100 : decode cX2_which 100 = .ok (.goto (-96), 3) := by decide +kernel
theorem dX2_which_103 : decode cX2_which 103 = .ok (.iload_n 1, 1) := by decide +kernel
theorem dX2_which_104 : decode cX2_which 104 = .ok (.ireturn, 1) := by decide +kernel
set_option maxRecDepth 20000 in
theorem ggX2_lettersBy_X2_copy : GoodIn wsX2_lettersBy wsX2_copy := goodIn_r _ [6] (by decide +kernel) (by decide +kernel)
set_option maxRecDepth 20000 in
theorem gX2_lettersBy_X2_copy : GoodIn wsX2_lettersBy (va_wsS RX2 128 yX2_copy wsX2_copy) := goodIn_app (goodIn_of _ (by decide +kernel)) ggX2_lettersBy_X2_copy
set_option maxRecDepth 20000 in
theorem ggX2_lettersBy_X2_has : GoodIn wsX2_lettersBy wsX2_has := goodIn_r _ [9] (by decide +kernel) (by decide +kernel)
set_option maxRecDepth 20000 in
theorem gX2_lettersBy_X2_has : GoodIn wsX2_lettersBy (va_wsS RX2 64 yX2_has wsX2_has) := goodIn_app (goodIn_of _ (by decide +kernel)) ggX2_lettersBy_X2_has
set_option maxRecDepth 20000 in
theorem ggX2_lettersBy_X2_goAway : GoodIn wsX2_lettersBy wsX2_goAway := goodIn_r _ [12] (by decide +kernel) (by decide +kernel)
set_option maxRecDepth 20000 in
theorem gX2_lettersBy_X2_goAway : GoodIn wsX2_lettersBy (va_wsS RX2 72 yX2_goAway wsX2_goAway) := goodIn_app (goodIn_of _ (by decide +kernel)) ggX2_lettersBy_X2_goAway
set_option maxRecDepth 20000 in
theorem ggX2_lettersBy_X2_passOn : GoodIn wsX2_lettersBy wsX2_passOn := goodIn_r _ [15, 16, 17, 5, 18, 19, 20, 21, 22, 23, 24, 25, 26, 27, 28, 29, 30, 31, 32, 33, 34, 35, 36, 37, 38, 39, 40, 41, 42, 43, 44, 45, 46, 7, 8, 9, 47, 48, 49, 10, 11, 12, 50, 51, 52] (by decide +kernel) (by decide +kernel)
set_option maxRecDepth 20000 in
theorem gX2_lettersBy_X2_passOn : GoodIn wsX2_lettersBy (va_wsS RX2 108 yX2_passOn wsX2_passOn) := goodIn_app (goodIn_of _ (by decide +kernel)) ggX2_lettersBy_X2_passOn
theorem dX2_lettersBy_0 : decode cX2_lettersBy 0 = .ok (.aload_n 0, 1) := by decide +kernel
theorem dX2_lettersBy_1 : decode cX2_lettersBy 1 = .ok (.getfield 13, 3) := by decide +kernel
theorem dX2_lettersBy_4 : decode cX2_lettersBy 4 = .ok (.aload_n 0, 1) := by decide +kernel
theorem dX2_lettersBy_5 : decode cX2_lettersBy 5 = .ok (.getfield 16, 3) := by decide +kernel
theorem dX2_lettersBy_8 : decode cX2_lettersBy 8 = .ok (.invokestatic 128, 3) := by decide +kernel
theorem dX2_lettersBy_11 : decode cX2_lettersBy 11 = .ok (.iconst 0, 1) := by decide +kernel
theorem dX2_lettersBy_12 : decode cX2_lettersBy 12 = .ok (.istore_n 3, 1) := by decide +kernel
theorem dX2_lettersBy_13 : decode cX2_lettersBy 13 = .ok (.iload_n 3, 1) := by decide +kernel
theorem dX2_lettersBy_14 : decode cX2_lettersBy 14 = .ok (.bipush 6, 2) := by decide +kernel
theorem dX2_lettersBy_16 : decode cX2_lettersBy 16 = .ok (.if_icmp .ge 38, 3) := by decide +kernel
theorem dX2_lettersBy_19 : decode cX2_lettersBy 19 = .ok (.aload_n 0, 1) := by decide +kernel
theorem dX2_lettersBy_20 : decode cX2_lettersBy 20 = .ok (.getfield 16, 3) := by decide +kernel
theorem dX2_lettersBy_23 : decode cX2_lettersBy 23 = .ok (.bipush 6, 2) := by decide +kernel
theorem dX2_lettersBy_25 : decode cX2_lettersBy 25 = .ok (.iload_n 3, 1) := by decide +kernel
theorem dX2_lettersBy_26 : decode cX2_lettersBy 26 = .ok (.iadd, 1) := by decide +kernel
theorem dX2_lettersBy_27 : decode cX2_lettersBy 27 = .ok (.dup2, 1) := by decide +kernel
theorem dX2_lettersBy_28 : decode cX2_lettersBy 28 = .ok (.iaload, 1) := by decide +kernel
theorem dX2_lettersBy_29 : decode cX2_lettersBy 29 = .ok (.iload_n 1, 1) := by decide +kernel
theorem dX2_lettersBy_30 : decode cX2_lettersBy 30 = .ok (.iand, 1) := by decide +kernel
theorem dX2_lettersBy_31 : decode cX2_lettersBy 31 = .ok (.iastore, 1) := by decide +kernel
theorem dX2_lettersBy_32 : decode cX2_lettersBy 32 = .ok (.iload_n 1, 1) := by decide +kernel
theorem dX2_lettersBy_33 : decode cX2_lettersBy 33 = .ok (.iload_n 3, 1) := by decide +kernel
theorem dX2_lettersBy_34 : decode cX2_lettersBy 34 = .ok (.invokestatic 64, 3) := by decide +kernel
theorem dX2_lettersBy_37 : decode cX2_lettersBy 37 = .ok (.ifCond .ne 11, 3) := by decide +kernel
theorem dX2_lettersBy_40 : decode cX2_lettersBy 40 = .ok (.aload_n 0, 1) := by decide +kernel
theorem dX2_lettersBy_41 : decode cX2_lettersBy 41 = .ok (.getfield 16, 3) := by decide +kernel
theorem dX2_lettersBy_44 : decode cX2_lettersBy 44 = .ok (.iload_n 3, 1) := by decide +kernel
theorem dX2_lettersBy_45 : decode cX2_lettersBy 45 = .ok (.invokestatic 72, 3) := by decide +kernel
theorem dX2_lettersBy_48 : decode cX2_lettersBy 48 = .ok (.iinc 3 1, 3) := by decide +kernel
theorem dX2_lettersBy_51 : decode cX2_lettersBy 51 = .ok (.goto (-38), 3) := by decide +kernel
theorem dX2_lettersBy_54 : decode cX2_lettersBy 54 = .ok (.aload_n 0, 1) := by decide +kernel
theorem dX2_lettersBy_55 : decode cX2_lettersBy 55 = .ok (.getfield 16, 3) := by decide +kernel
theorem dX2_lettersBy_58 : decode cX2_lettersBy 58 = .ok (.iload_n 2, 1) := by decide +kernel
theorem dX2_lettersBy_59 : decode cX2_lettersBy 59 = .ok (.invokestatic 108, 3) := by decide +kernel
theorem dX2_lettersBy_62 : decode cX2_lettersBy 62 = .ok (.ireturn, 1) := by decide +kernel
set_option maxRecDepth 20000 in
theorem ggX2_share_X2_isMember : GoodIn wsX2_share wsX2_isMember := goodIn_r _ [5, 6, 7, 8, 4, 9] (by decide +kernel) (by decide +kernel)
set_option maxRecDepth 20000 in
theorem gX2_share_X2_isMember : GoodIn wsX2_share (va_wsS RX2 114 yX2_isMember wsX2_isMember) := goodIn_app (goodIn_of _ (by decide +kernel)) ggX2_share_X2_isMember
set_option maxRecDepth 20000 in
theorem ggX2_share_X2_lettersBy : GoodIn wsX2_share wsX2_lettersBy := goodIn_r _ [13, 14, 15, 16, 17, 4, 18, 19, 20, 21, 22, 23, 24, 25, 26, 27, 28, 29, 30, 31, 32, 33, 34, 35, 36, 37, 38, 39, 40, 41, 42, 43, 44, 45, 46, 47, 48, 49, 50, 51, 52, 53, 54, 55, 56, 57, 58, 59, 60, 61, 62, 63, 64, 71, 72, 73, 74, 75, 76, 77, 78, 79, 80, 81, 82, 83, 84, 85] (by decide +kernel) (by decide +kernel)
set_option maxRecDepth 20000 in
theorem gX2_share_X2_lettersBy : GoodIn wsX2_share (wsV RX2 175 RX2 yX2_lettersBy wsX2_lettersBy) := goodIn_app (goodIn_of _ (by decide +kernel)) ggX2_share_X2_lettersBy
set_option maxRecDepth 20000 in
theorem ggX2_share_X2_has : GoodIn wsX2_share wsX2_has := goodIn_r _ [21] (by decide +kernel) (by decide +kernel)
set_option maxRecDepth 20000 in
theorem gX2_share_X2_has : GoodIn wsX2_share (va_wsS RX2 64 yX2_has wsX2_has) := goodIn_app (goodIn_of _ (by decide +kernel)) ggX2_share_X2_has
set_option maxRecDepth 20000 in
theorem ggX2_share_X2_ones : GoodIn wsX2_share wsX2_ones := goodIn_r _ [42] (by decide +kernel) (by decide +kernel)
set_option maxRecDepth 20000 in
theorem gX2_share_X2_ones : GoodIn wsX2_share (va_wsS RX2 51 yX2_ones wsX2_ones) := goodIn_app (goodIn_of _ (by decide +kernel)) ggX2_share_X2_ones
set_option maxRecDepth 20000 in
theorem ggX2_share_X2_factorial : GoodIn wsX2_share wsX2_factorial := goodIn_r _ [67] (by decide +kernel) (by decide +kernel)
set_option maxRecDepth 20000 in
theorem gX2_share_X2_factorial : GoodIn wsX2_share (va_wsS RX2 179 yX2_factorial wsX2_factorial) := goodIn_app (goodIn_of _ (by decide +kernel)) ggX2_share_X2_factorial
set_option maxRecDepth 20000 in
theorem ggX2_share_X2_fraction : GoodIn wsX2_share wsX2_fraction := goodIn_r _ [70] (by decide +kernel) (by decide +kernel)
set_option maxRecDepth 20000 in
theorem gX2_share_X2_fraction : GoodIn wsX2_share (va_wsS RX2 182 yX2_fraction wsX2_fraction) := goodIn_app (goodIn_of _ (by decide +kernel)) ggX2_share_X2_fraction
theorem dX2_share_0 : decode cX2_share 0 = .ok (.iload_n 1, 1) := by decide +kernel
theorem dX2_share_1 : decode cX2_share 1 = .ok (.invokestatic 114, 3) := by decide +kernel
theorem dX2_share_4 : decode cX2_share 4 = .ok (.ifCond .ne 5, 3) := by decide +kernel
theorem dX2_share_7 : decode cX2_share 7 = .ok (.iconst (-1), 1) := by decide +kernel
theorem dX2_share_8 : decode cX2_share 8 = .ok (.ireturn, 1) := by decide +kernel
theorem dX2_share_9 : decode cX2_share 9 = .ok (.iconst 0, 1) := by decide +kernel
theorem dX2_share_10 : decode cX2_share 10 = .ok (.istore_n 3, 1) := by decide +kernel
theorem dX2_share_11 : decode cX2_share 11 = .ok (.iload_n 3, 1) := by decide +kernel
theorem dX2_share_12 : decode cX2_share 12 = .ok (.bipush 64, 2) := by decide +kernel
theorem dX2_share_14 : decode cX2_share 14 = .ok (.if_icmp .ge 22, 3) := by decide +kernel
theorem dX2_share_17 : decode cX2_share 17 = .ok (.aload_n 0, 1) := by decide +kernel
theorem dX2_share_18 : decode cX2_share 18 = .ok (.getfield 35, 3) := by decide +kernel
theorem dX2_share_21 : decode cX2_share 21 = .ok (.iload_n 3, 1) := by decide +kernel
theorem dX2_share_22 : decode cX2_share 22 = .ok (.aload_n 0, 1) := by decide +kernel
theorem dX2_share_23 : decode cX2_share 23 = .ok (.iload_n 3, 1) := by decide +kernel
theorem dX2_share_24 : decode cX2_share 24 = .ok (.bipush 30, 2) := by decide +kernel
theorem dX2_share_26 : decode cX2_share 26 = .ok (.invokevirtual 175, 3) := by decide +kernel
theorem dX2_share_29 : decode cX2_share 29 = .ok (.iastore, 1) := by decide +kernel
theorem dX2_share_30 : decode cX2_share 30 = .ok (.iinc 3 1, 3) := by decide +kernel
theorem dX2_share_33 : decode cX2_share 33 = .ok (.goto (-22), 3) := by decide +kernel
theorem dX2_share_36 : decode cX2_share 36 = .ok (.iconst 0, 1) := by decide +kernel
theorem dX2_share_37 : decode cX2_share 37 = .ok (.istore_n 3, 1) := by decide +kernel
theorem dX2_share_38 : decode cX2_share 38 = .ok (.iconst 0, 1) := by decide +kernel
theorem dX2_share_39 : decode cX2_share 39 = .ok (.istore 4, 2) := by decide +kernel
theorem dX2_share_41 : decode cX2_share 41 = .ok (.iload 4, 2) := by decide +kernel
theorem dX2_share_43 : decode cX2_share 43 = .ok (.bipush 64, 2) := by decide +kernel
theorem dX2_share_45 : decode cX2_share 45 = .ok (.if_icmp .ge 61, 3) := by decide +kernel
theorem dX2_share_48 : decode cX2_share 48 = .ok (.iload 4, 2) := by decide +kernel
theorem dX2_share_50 : decode cX2_share 50 = .ok (.iload_n 1, 1) := by decide +kernel
theorem dX2_share_51 : decode cX2_share 51 = .ok (.invokestatic 64, 3) := by decide +kernel
theorem dX2_share_54 : decode cX2_share 54 = .ok (.ifCond .ne 46, 3) := by decide +kernel
theorem dX2_share_57 : decode cX2_share 57 = .ok (.iload 4, 2) := by decide +kernel
theorem dX2_share_59 : decode cX2_share 59 = .ok (.invokestatic 51, 3) := by decide +kernel
theorem dX2_share_62 : decode cX2_share 62 = .ok (.istore 5, 2) := by decide +kernel
theorem dX2_share_64 : decode cX2_share 64 = .ok (.iload_n 3, 1) := by decide +kernel
theorem dX2_share_65 : decode cX2_share 65 = .ok (.iload 5, 2) := by decide +kernel
theorem dX2_share_67 : decode cX2_share 67 = .ok (.invokestatic 179, 3) := by decide +kernel
theorem dX2_share_70 : decode cX2_share 70 = .ok (.iconst 5, 1) := by decide +kernel
theorem dX2_share_71 : decode cX2_share 71 = .ok (.iload 5, 2) := by decide +kernel
theorem dX2_share_73 : decode cX2_share 73 = .ok (.isub, 1) := by decide +kernel
theorem dX2_share_74 : decode cX2_share 74 = .ok (.invokestatic 179, 3) := by decide +kernel
theorem dX2_share_77 : decode cX2_share 77 = .ok (.imul, 1) := by decide +kernel
theorem dX2_share_78 : decode cX2_share 78 = .ok (.aload_n 0, 1) := by decide +kernel
theorem dX2_share_79 : decode cX2_share 79 = .ok (.getfield 35, 3) := by decide +kernel
theorem dX2_share_82 : decode cX2_share 82 = .ok (.iload 4, 2) := by decide +kernel
theorem dX2_share_84 : decode cX2_share 84 = .ok (.iconst 1, 1) := by decide +kernel
theorem dX2_share_85 : decode cX2_share 85 = .ok (.iload_n 1, 1) := by decide +kernel
theorem dX2_share_86 : decode cX2_share 86 = .ok (.ishl, 1) := by decide +kernel
theorem dX2_share_87 : decode cX2_share 87 = .ok (.ior, 1) := by decide +kernel
theorem dX2_share_88 : decode cX2_share 88 = .ok (.iaload, 1) := by decide +kernel
theorem dX2_share_89 : decode cX2_share 89 = .ok (.aload_n 0, 1) := by decide +kernel
theorem dX2_share_90 : decode cX2_share 90 = .ok (.getfield 35, 3) := by decide +kernel
theorem dX2_share_93 : decode cX2_share 93 = .ok (.iload 4, 2) := by decide +kernel
theorem dX2_share_95 : decode cX2_share 95 = .ok (.iaload, 1) := by decide +kernel
theorem dX2_share_96 : decode cX2_share 96 = .ok (.isub, 1) := by decide +kernel
theorem dX2_share_97 : decode cX2_share 97 = .ok (.imul, 1) := by decide +kernel
theorem dX2_share_98 : decode cX2_share 98 = .ok (.iadd, 1) := by decide +kernel
theorem dX2_share_99 : decode cX2_share 99 = .ok (.istore_n 3, 1) := by decide +kernel
theorem dX2_share_100 : decode cX2_share 100 = .ok (.iinc 4 1, 3) := by decide +kernel
theorem dX2_share_103 : decode cX2_share 103 = .ok (.goto (-62), 3) := by decide +kernel
theorem dX2_share_106 : decode cX2_share 106 = .ok (.iload_n 3, 1) := by decide +kernel
theorem dX2_share_107 : decode cX2_share 107 = .ok (.bipush 6, 2) := by decide +kernel
theorem dX2_share_109 : decode cX2_share 109 = .ok (.invokestatic 179, 3) := by decide +kernel
theorem dX2_share_112 : decode cX2_share 112 = .ok (.iload_n 2, 1) := by decide +kernel
theorem dX2_share_113 : decode cX2_share 113 = .ok (.invokestatic 182, 3) := by decide +kernel
theorem dX2_share_116 : decode cX2_share 116 = .ok (.ireturn, 1) := by decide +kernel
set_option maxRecDepth 20000 in
theorem ggX2_chance_X2_in : GoodIn wsX2_chance wsX2_in := goodIn_r _ [6] (by decide +kernel) (by decide +kernel)
set_option maxRecDepth 20000 in
theorem gX2_chance_X2_in : GoodIn wsX2_chance (va_wsS RX2 47 yX2_in wsX2_in) := goodIn_app (goodIn_of _ (by decide +kernel)) ggX2_chance_X2_in
set_option maxRecDepth 20000 in
theorem ggX2_chance_X2_ones : GoodIn wsX2_chance wsX2_ones := goodIn_r _ [9] (by decide +kernel) (by decide +kernel)
set_option maxRecDepth 20000 in
theorem gX2_chance_X2_ones : GoodIn wsX2_chance (va_wsS RX2 51 yX2_ones wsX2_ones) := goodIn_app (goodIn_of _ (by decide +kernel)) ggX2_chance_X2_ones
set_option maxRecDepth 20000 in
theorem ggX2_chance_X2_lettersBy : GoodIn wsX2_chance wsX2_lettersBy := goodIn_r _ [13, 14, 15, 16, 17, 5, 18, 19, 20, 21, 22, 23, 24, 25, 26, 27, 28, 29, 30, 31, 32, 33, 34, 35, 36, 37, 38, 39, 7, 8, 9, 40, 41, 42, 43, 44, 45, 46, 47, 48, 49, 50, 51, 52, 53, 54, 55, 56, 57, 58, 59, 60, 61, 68, 69, 70, 71, 72, 73, 74, 75, 76, 77, 78, 79, 80, 81, 82] (by decide +kernel) (by decide +kernel)
set_option maxRecDepth 20000 in
theorem gX2_chance_X2_lettersBy : GoodIn wsX2_chance (wsV RX2 175 RX2 yX2_lettersBy wsX2_lettersBy) := goodIn_app (goodIn_of _ (by decide +kernel)) ggX2_chance_X2_lettersBy
set_option maxRecDepth 20000 in
theorem ggX2_chance_X2_power : GoodIn wsX2_chance wsX2_power := goodIn_r _ [64] (by decide +kernel) (by decide +kernel)
set_option maxRecDepth 20000 in
theorem gX2_chance_X2_power : GoodIn wsX2_chance (va_wsS RX2 188 yX2_power wsX2_power) := goodIn_app (goodIn_of _ (by decide +kernel)) ggX2_chance_X2_power
set_option maxRecDepth 20000 in
theorem ggX2_chance_X2_fraction : GoodIn wsX2_chance wsX2_fraction := goodIn_r _ [67] (by decide +kernel) (by decide +kernel)
set_option maxRecDepth 20000 in
theorem gX2_chance_X2_fraction : GoodIn wsX2_chance (va_wsS RX2 182 yX2_fraction wsX2_fraction) := goodIn_app (goodIn_of _ (by decide +kernel)) ggX2_chance_X2_fraction
theorem dX2_chance_0 : decode cX2_chance 0 = .ok (.iload_n 1, 1) := by decide +kernel
theorem dX2_chance_1 : decode cX2_chance 1 = .ok (.i2l, 1) := by decide +kernel
theorem dX2_chance_2 : decode cX2_chance 2 = .ok (.lconst 0, 1) := by decide +kernel
theorem dX2_chance_3 : decode cX2_chance 3 = .ok (.ldc2_w 151, 3) := by decide +kernel
theorem dX2_chance_6 : decode cX2_chance 6 = .ok (.invokestatic 47, 3) := by decide +kernel
theorem dX2_chance_9 : decode cX2_chance 9 = .ok (.ifCond .eq 15, 3) := by decide +kernel
theorem dX2_chance_12 : decode cX2_chance 12 = .ok (.iload_n 2, 1) := by decide +kernel
theorem dX2_chance_13 : decode cX2_chance 13 = .ok (.i2l, 1) := by decide +kernel
theorem dX2_chance_14 : decode cX2_chance 14 = .ok (.lconst 0, 1) := by decide +kernel
theorem dX2_chance_15 : decode cX2_chance 15 = .ok (.ldc2_w 186, 3) := by decide +kernel
theorem dX2_chance_18 : decode cX2_chance 18 = .ok (.invokestatic 47, 3) := by decide +kernel
theorem dX2_chance_21 : decode cX2_chance 21 = .ok (.ifCond .ne 6, 3) := by decide +kernel
theorem dX2_chance_24 : decode cX2_chance 24 = .ok (.bipush (-2), 2) := by decide +kernel
theorem dX2_chance_26 : decode cX2_chance 26 = .ok (.ireturn, 1) := by decide +kernel
theorem dX2_chance_27 : decode cX2_chance 27 = .ok (.iconst 0, 1) := by decide +kernel
theorem dX2_chance_28 : decode cX2_chance 28 = .ok (.istore 4, 2) := by decide +kernel
theorem dX2_chance_30 : decode cX2_chance 30 = .ok (.iconst 0, 1) := by decide +kernel
theorem dX2_chance_31 : decode cX2_chance 31 = .ok (.istore 5, 2) := by decide +kernel
theorem dX2_chance_33 : decode cX2_chance 33 = .ok (.iload 5, 2) := by decide +kernel
theorem dX2_chance_35 : decode cX2_chance 35 = .ok (.bipush 64, 2) := by decide +kernel
theorem dX2_chance_37 : decode cX2_chance 37 = .ok (.if_icmp .ge 56, 3) := by decide +kernel
theorem dX2_chance_40 : decode cX2_chance 40 = .ok (.iload 5, 2) := by decide +kernel
theorem dX2_chance_42 : decode cX2_chance 42 = .ok (.invokestatic 51, 3) := by decide +kernel
theorem dX2_chance_45 : decode cX2_chance 45 = .ok (.istore 6, 2) := by decide +kernel
theorem dX2_chance_47 : decode cX2_chance 47 = .ok (.iload 4, 2) := by decide +kernel
theorem dX2_chance_49 : decode cX2_chance 49 = .ok (.aload_n 0, 1) := by decide +kernel
theorem dX2_chance_50 : decode cX2_chance 50 = .ok (.iload 5, 2) := by decide +kernel
theorem dX2_chance_52 : decode cX2_chance 52 = .ok (.bipush 20, 2) := by decide +kernel
theorem dX2_chance_54 : decode cX2_chance 54 = .ok (.invokevirtual 175, 3) := by decide +kernel
theorem dX2_chance_57 : decode cX2_chance 57 = .ok (.iload_n 1, 1) := by decide +kernel
theorem dX2_chance_58 : decode cX2_chance 58 = .ok (.if_icmp .lt 25, 3) := by decide +kernel
theorem dX2_chance_61 : decode cX2_chance 61 = .ok (.bipush 10, 2) := by decide +kernel
theorem dX2_chance_63 : decode cX2_chance 63 = .ok (.iload_n 2, 1) := by decide +kernel
theorem dX2_chance_64 : decode cX2_chance 64 = .ok (.isub, 1) := by decide +kernel
theorem dX2_chance_65 : decode cX2_chance 65 = .ok (.iload 6, 2) := by decide +kernel
theorem dX2_chance_67 : decode cX2_chance 67 = .ok (.invokestatic 188, 3) := by decide +kernel
theorem dX2_chance_70 : decode cX2_chance 70 = .ok (.iload_n 2, 1) := by decide +kernel
theorem dX2_chance_71 : decode cX2_chance 71 = .ok (.bipush 6, 2) := by decide +kernel
theorem dX2_chance_73 : decode cX2_chance 73 = .ok (.iload 6, 2) := by decide +kernel
theorem dX2_chance_75 : decode cX2_chance 75 = .ok (.isub, 1) := by decide +kernel
theorem dX2_chance_76 : decode cX2_chance 76 = .ok (.invokestatic 188, 3) := by decide +kernel
theorem dX2_chance_79 : decode cX2_chance 79 = .ok (.imul, 1) := by decide +kernel
theorem dX2_chance_80 : decode cX2_chance 80 = .ok (.goto 4, 3) := by decide +kernel
theorem dX2_chance_83 : decode cX2_chance 83 = .ok (.iconst 0, 1) := by decide +kernel
theorem dX2_chance_84 : decode cX2_chance 84 = .ok (.iadd, 1) := by decide +kernel
theorem dX2_chance_85 : decode cX2_chance 85 = .ok (.istore 4, 2) := by decide +kernel
theorem dX2_chance_87 : decode cX2_chance 87 = .ok (.iinc 5 1, 3) := by decide +kernel
theorem dX2_chance_90 : decode cX2_chance 90 = .ok (.goto (-57), 3) := by decide +kernel
theorem dX2_chance_93 : decode cX2_chance 93 = .ok (.iload 4, 2) := by decide +kernel
theorem dX2_chance_95 : decode cX2_chance 95 = .ok (.bipush 10, 2) := by decide +kernel
theorem dX2_chance_97 : decode cX2_chance 97 = .ok (.bipush 6, 2) := by decide +kernel
theorem dX2_chance_99 : decode cX2_chance 99 = .ok (.invokestatic 188, 3) := by decide +kernel
theorem dX2_chance_102 : decode cX2_chance 102 = .ok (.iload_n 3, 1) := by decide +kernel
theorem dX2_chance_103 : decode cX2_chance 103 = .ok (.invokestatic 182, 3) := by decide +kernel
theorem dX2_chance_106 : decode cX2_chance 106 = .ok (.ireturn, 1) := by decide +kernel
theorem dX2_seed_0 : decode cX2_seed 0 = .ok (.aload_n 0, 1) := by decide +kernel
theorem dX2_seed_1 : decode cX2_seed 1 = .ok (.getfield 191, 3) := by decide +kernel
theorem dX2_seed_4 : decode cX2_seed 4 = .ok (.lstore_n 3, 1) := by decide +kernel
theorem dX2_seed_5 : decode cX2_seed 5 = .ok (.aload_n 0, 1) := by decide +kernel
theorem dX2_seed_6 : decode cX2_seed 6 = .ok (.lload_n 1, 1) := by decide +kernel
theorem dX2_seed_7 : decode cX2_seed 7 = .ok (.putfield 191, 3) := by decide +kernel
theorem dX2_seed_10 : decode cX2_seed 10 = .ok (.lload_n 3, 1) := by decide +kernel
theorem dX2_seed_11 : decode cX2_seed 11 = .ok (.lreturn, 1) := by decide +kernel
set_option maxRecDepth 20000 in
theorem ggX2_drawn_X2_in : GoodIn wsX2_drawn wsX2_in := goodIn_r _ [10] (by decide +kernel) (by decide +kernel)
set_option maxRecDepth 20000 in
theorem gX2_drawn_X2_in : GoodIn wsX2_drawn (va_wsS RX2 47 yX2_in wsX2_in) := goodIn_app (goodIn_of _ (by decide +kernel)) ggX2_drawn_X2_in
set_option maxRecDepth 20000 in
theorem ggX2_drawn_X2_copy : GoodIn wsX2_drawn wsX2_copy := goodIn_r _ [13] (by decide +kernel) (by decide +kernel)
set_option maxRecDepth 20000 in
theorem gX2_drawn_X2_copy : GoodIn wsX2_drawn (va_wsS RX2 128 yX2_copy wsX2_copy) := goodIn_app (goodIn_of _ (by decide +kernel)) ggX2_drawn_X2_copy
set_option maxRecDepth 20000 in
theorem ggX2_drawn_X2_joins : GoodIn wsX2_drawn wsX2_joins := goodIn_r _ [16, 17, 18, 9, 19, 20, 21, 22, 23, 24, 25, 26] (by decide +kernel) (by decide +kernel)
set_option maxRecDepth 20000 in
theorem gX2_drawn_X2_joins : GoodIn wsX2_drawn (va_wsS RX2 118 yX2_joins wsX2_joins) := goodIn_app (goodIn_of _ (by decide +kernel)) ggX2_drawn_X2_joins
set_option maxRecDepth 20000 in
theorem ggX2_drawn_X2_leaves : GoodIn wsX2_drawn wsX2_leaves := goodIn_r _ [29, 30, 31, 9, 32, 33, 34, 35, 36, 37, 38, 39, 40, 41, 42, 43, 44, 45, 46, 47, 17, 18, 19, 20, 21, 22, 23, 24, 25, 26] (by decide +kernel) (by decide +kernel)
set_option maxRecDepth 20000 in
theorem gX2_drawn_X2_leaves : GoodIn wsX2_drawn (va_wsS RX2 121 yX2_leaves wsX2_leaves) := goodIn_app (goodIn_of _ (by decide +kernel)) ggX2_drawn_X2_leaves
set_option maxRecDepth 20000 in
theorem ggX2_drawn_X2_tick : GoodIn wsX2_drawn wsX2_tick := goodIn_r _ [50, 51, 52, 9, 53, 30, 31, 32, 33, 34, 35, 17, 18, 19, 20, 21, 22, 23, 24, 25, 26, 54, 55, 56, 42, 43, 44, 45, 46, 47, 36, 37, 38, 39, 40, 41, 57, 58, 59] (by decide +kernel) (by decide +kernel)
set_option maxRecDepth 20000 in
theorem gX2_drawn_X2_tick : GoodIn wsX2_drawn (va_wsS RX2 97 yX2_tick wsX2_tick) := goodIn_app (goodIn_of _ (by decide +kernel)) ggX2_drawn_X2_tick
set_option maxRecDepth 20000 in
theorem ggX2_drawn_X2_lettersOf : GoodIn wsX2_drawn wsX2_lettersOf := goodIn_r _ [62] (by decide +kernel) (by decide +kernel)
set_option maxRecDepth 20000 in
theorem gX2_drawn_X2_lettersOf : GoodIn wsX2_drawn (va_wsS RX2 94 yX2_lettersOf wsX2_lettersOf) := goodIn_app (goodIn_of _ (by decide +kernel)) ggX2_drawn_X2_lettersOf
theorem dX2_drawn_0 : decode cX2_drawn 0 = .ok (.iload_n 1, 1) := by decide +kernel
theorem dX2_drawn_1 : decode cX2_drawn 1 = .ok (.i2l, 1) := by decide +kernel
theorem dX2_drawn_2 : decode cX2_drawn 2 = .ok (.lconst 1, 1) := by decide +kernel
theorem dX2_drawn_3 : decode cX2_drawn 3 = .ok (.ldc2_w 195, 3) := by decide +kernel
theorem dX2_drawn_6 : decode cX2_drawn 6 = .ok (.invokestatic 47, 3) := by decide +kernel
theorem dX2_drawn_9 : decode cX2_drawn 9 = .ok (.ifCond .ne 6, 3) := by decide +kernel
theorem dX2_drawn_12 : decode cX2_drawn 12 = .ok (.bipush (-2), 2) := by decide +kernel
theorem dX2_drawn_14 : decode cX2_drawn 14 = .ok (.ireturn, 1) := by decide +kernel
theorem dX2_drawn_15 : decode cX2_drawn 15 = .ok (.aload_n 0, 1) := by decide +kernel
theorem dX2_drawn_16 : decode cX2_drawn 16 = .ok (.getfield 13, 3) := by decide +kernel
theorem dX2_drawn_19 : decode cX2_drawn 19 = .ok (.aload_n 0, 1) := by decide +kernel
theorem dX2_drawn_20 : decode cX2_drawn 20 = .ok (.getfield 16, 3) := by decide +kernel
theorem dX2_drawn_23 : decode cX2_drawn 23 = .ok (.invokestatic 128, 3) := by decide +kernel
theorem dX2_drawn_26 : decode cX2_drawn 26 = .ok (.iconst 0, 1) := by decide +kernel
theorem dX2_drawn_27 : decode cX2_drawn 27 = .ok (.istore_n 2, 1) := by decide +kernel
theorem dX2_drawn_28 : decode cX2_drawn 28 = .ok (.iload_n 2, 1) := by decide +kernel
theorem dX2_drawn_29 : decode cX2_drawn 29 = .ok (.iload_n 1, 1) := by decide +kernel
theorem dX2_drawn_30 : decode cX2_drawn 30 = .ok (.if_icmp .ge 106, 3) := by decide +kernel
theorem dX2_drawn_33 : decode cX2_drawn 33 = .ok (.aload_n 0, 1) := by decide +kernel
theorem dX2_drawn_34 : decode cX2_drawn 34 = .ok (.aload_n 0, 1) := by decide +kernel
theorem dX2_drawn_35 : decode cX2_drawn 35 = .ok (.getfield 191, 3) := by decide +kernel
theorem dX2_drawn_38 : decode cX2_drawn 38 = .ok (.ldc2_w 197, 3) := by decide +kernel
theorem dX2_drawn_41 : decode cX2_drawn 41 = .ok (.lmul, 1) := by decide +kernel
theorem dX2_drawn_42 : decode cX2_drawn 42 = .ok (.ldc2_w 199, 3) := by decide +kernel
theorem dX2_drawn_45 : decode cX2_drawn 45 = .ok (.ladd, 1) := by decide +kernel
theorem dX2_drawn_46 : decode cX2_drawn 46 = .ok (.putfield 191, 3) := by decide +kernel
theorem dX2_drawn_49 : decode cX2_drawn 49 = .ok (.aload_n 0, 1) := by decide +kernel
theorem dX2_drawn_50 : decode cX2_drawn 50 = .ok (.getfield 191, 3) := by decide +kernel
theorem dX2_drawn_53 : decode cX2_drawn 53 = .ok (.bipush 33, 2) := by decide +kernel
theorem dX2_drawn_55 : decode cX2_drawn 55 = .ok (.lushr, 1) := by decide +kernel
theorem dX2_drawn_56 : decode cX2_drawn 56 = .ok (.l2i, 1) := by decide +kernel
theorem dX2_drawn_57 : decode cX2_drawn 57 = .ok (.istore_n 3, 1) := by decide +kernel
theorem dX2_drawn_58 : decode cX2_drawn 58 = .ok (.iload_n 3, 1) := by decide +kernel
theorem dX2_drawn_59 : decode cX2_drawn 59 = .ok (.bipush 8, 2) := by decide +kernel
theorem dX2_drawn_61 : decode cX2_drawn 61 = .ok (.idiv, 1) := by decide +kernel
theorem dX2_drawn_62 : decode cX2_drawn 62 = .ok (.bipush 6, 2) := by decide +kernel
theorem dX2_drawn_64 : decode cX2_drawn 64 = .ok (.irem, 1) := by decide +kernel
theorem dX2_drawn_65 : decode cX2_drawn 65 = .ok (.istore 4, 2) := by decide +kernel
theorem dX2_drawn_67 : decode cX2_drawn 67 = .ok (.iload_n 3, 1) := by decide +kernel
theorem dX2_drawn_68 : decode cX2_drawn 68 = .ok (.bipush 8, 2) := by decide +kernel
theorem dX2_drawn_70 : decode cX2_drawn 70 = .ok (.irem, 1) := by decide +kernel
theorem dX2_drawn_71 : decode cX2_drawn 71 = .ok (.ifCond .ne 25, 3) := by decide +kernel
theorem dX2_drawn_74 : decode cX2_drawn 74 = .ok (.aload_n 0, 1) := by decide +kernel
theorem dX2_drawn_75 : decode cX2_drawn 75 = .ok (.getfield 16, 3) := by decide +kernel
theorem dX2_drawn_78 : decode cX2_drawn 78 = .ok (.iload 4, 2) := by decide +kernel
theorem dX2_drawn_80 : decode cX2_drawn 80 = .ok (.iaload, 1) := by decide +kernel
theorem dX2_drawn_81 : decode cX2_drawn 81 = .ok (.ifCond .ne 15, 3) := by decide +kernel
theorem dX2_drawn_84 : decode cX2_drawn 84 = .ok (.aload_n 0, 1) := by decide +kernel
theorem dX2_drawn_85 : decode cX2_drawn 85 = .ok (.getfield 16, 3) := by decide +kernel
theorem dX2_drawn_88 : decode cX2_drawn 88 = .ok (.iload 4, 2) := by decide +kernel
theorem dX2_drawn_90 : decode cX2_drawn 90 = .ok (.invokestatic 118, 3) := by decide +kernel
theorem dX2_drawn_93 : decode cX2_drawn 93 = .ok (.goto 30, 3) := by decide +kernel
theorem dX2_drawn_96 : decode cX2_drawn 96 = .ok (.iload_n 3, 1) := by decide +kernel
theorem dX2_drawn_97 : decode cX2_drawn 97 = .ok (.bipush 8, 2) := by decide +kernel
theorem dX2_drawn_99 : decode cX2_drawn 99 = .ok (.irem, 1) := by decide +kernel
theorem dX2_drawn_100 : decode cX2_drawn 100 = .ok (.ifCond .ne 23, 3) := by decide +kernel
theorem dX2_drawn_103 : decode cX2_drawn 103 = .ok (.aload_n 0, 1) := by decide +kernel
theorem dX2_drawn_104 : decode cX2_drawn 104 = .ok (.getfield 16, 3) := by decide +kernel
theorem dX2_drawn_107 : decode cX2_drawn 107 = .ok (.iload 4, 2) := by decide +kernel
theorem dX2_drawn_109 : decode cX2_drawn 109 = .ok (.iaload, 1) := by decide +kernel
theorem dX2_drawn_110 : decode cX2_drawn 110 = .ok (.iconst 1, 1) := by decide +kernel
theorem dX2_drawn_111 : decode cX2_drawn 111 = .ok (.if_icmp .ne 12, 3) := by decide +kernel
theorem dX2_drawn_114 : decode cX2_drawn 114 = .ok (.aload_n 0, 1) := by decide +kernel
theorem dX2_drawn_115 : decode cX2_drawn 115 = .ok (.getfield 16, 3) := by decide +kernel
theorem dX2_drawn_118 : decode cX2_drawn 118 = .ok (.iload 4, 2) := by decide +kernel
theorem dX2_drawn_120 : decode cX2_drawn 120 = .ok (.invokestatic 121, 3) := by decide +kernel
theorem dX2_drawn_123 : decode cX2_drawn 123 = .ok (.aload_n 0, 1) := by decide +kernel
theorem dX2_drawn_124 : decode cX2_drawn 124 = .ok (.getfield 16, 3) := by decide +kernel
theorem dX2_drawn_127 : decode cX2_drawn 127 = .ok (.invokestatic 97, 3) := by decide +kernel
theorem dX2_drawn_130 : decode cX2_drawn 130 = .ok (.iinc 2 1, 3) := by decide +kernel
theorem dX2_drawn_133 : decode cX2_drawn 133 = .ok (.goto (-105), 3) := by decide +kernel
theorem dX2_drawn_136 : decode cX2_drawn 136 = .ok (.aload_n 0, 1) := by decide +kernel
theorem dX2_drawn_137 : decode cX2_drawn 137 = .ok (.getfield 16, 3) := by decide +kernel
theorem dX2_drawn_140 : decode cX2_drawn 140 = .ok (.invokestatic 94, 3) := by decide +kernel
theorem dX2_drawn_143 : decode cX2_drawn 143 = .ok (.aload_n 0, 1) := by decide +kernel
theorem dX2_drawn_144 : decode cX2_drawn 144 = .ok (.getfield 13, 3) := by decide +kernel
theorem dX2_drawn_147 : decode cX2_drawn 147 = .ok (.invokestatic 94, 3) := by decide +kernel
theorem dX2_drawn_150 : decode cX2_drawn 150 = .ok (.isub, 1) := by decide +kernel
theorem dX2_drawn_151 : decode cX2_drawn 151 = .ok (.ireturn, 1) := by decide +kernel
set_option maxRecDepth 20000 in
theorem ggX2_keep_X2_in : GoodIn wsX2_keep wsX2_in := goodIn_r _ [7] (by decide +kernel) (by decide +kernel)
set_option maxRecDepth 20000 in
theorem gX2_keep_X2_in : GoodIn wsX2_keep (va_wsS RX2 47 yX2_in wsX2_in) := goodIn_app (goodIn_of _ (by decide +kernel)) ggX2_keep_X2_in
theorem dX2_keep_0 : decode cX2_keep 0 = .ok (.iload_n 1, 1) := by decide +kernel
theorem dX2_keep_1 : decode cX2_keep 1 = .ok (.i2l, 1) := by decide +kernel
theorem dX2_keep_2 : decode cX2_keep 2 = .ok (.lconst 0, 1) := by decide +kernel
theorem dX2_keep_3 : decode cX2_keep 3 = .ok (.lconst 1, 1) := by decide +kernel
theorem dX2_keep_4 : decode cX2_keep 4 = .ok (.invokestatic 47, 3) := by decide +kernel
theorem dX2_keep_7 : decode cX2_keep 7 = .ok (.ifCond .ne 5, 3) := by decide +kernel
theorem dX2_keep_10 : decode cX2_keep 10 = .ok (.iconst (-1), 1) := by decide +kernel
theorem dX2_keep_11 : decode cX2_keep 11 = .ok (.ireturn, 1) := by decide +kernel
theorem dX2_keep_12 : decode cX2_keep 12 = .ok (.aload_n 0, 1) := by decide +kernel
theorem dX2_keep_13 : decode cX2_keep 13 = .ok (.getfield 25, 3) := by decide +kernel
theorem dX2_keep_16 : decode cX2_keep 16 = .ok (.iload_n 1, 1) := by decide +kernel
theorem dX2_keep_17 : decode cX2_keep 17 = .ok (.iconst 1, 1) := by decide +kernel
theorem dX2_keep_18 : decode cX2_keep 18 = .ok (.bastore, 1) := by decide +kernel
theorem dX2_keep_19 : decode cX2_keep 19 = .ok (.iconst 0, 1) := by decide +kernel
theorem dX2_keep_20 : decode cX2_keep 20 = .ok (.istore_n 2, 1) := by decide +kernel
theorem dX2_keep_21 : decode cX2_keep 21 = .ok (.iload_n 2, 1) := by decide +kernel
theorem dX2_keep_22 : decode cX2_keep 22 = .ok (.bipush 79, 2) := by decide +kernel
theorem dX2_keep_24 : decode cX2_keep 24 = .ok (.if_icmp .ge 26, 3) := by decide +kernel
theorem dX2_keep_27 : decode cX2_keep 27 = .ok (.aload_n 0, 1) := by decide +kernel
theorem dX2_keep_28 : decode cX2_keep 28 = .ok (.getfield 22, 3) := by decide +kernel
theorem dX2_keep_31 : decode cX2_keep 31 = .ok (.bipush 79, 2) := by decide +kernel
theorem dX2_keep_33 : decode cX2_keep 33 = .ok (.iload_n 1, 1) := by decide +kernel
theorem dX2_keep_34 : decode cX2_keep 34 = .ok (.imul, 1) := by decide +kernel
theorem dX2_keep_35 : decode cX2_keep 35 = .ok (.iload_n 2, 1) := by decide +kernel
theorem dX2_keep_36 : decode cX2_keep 36 = .ok (.iadd, 1) := by decide +kernel
theorem dX2_keep_37 : decode cX2_keep 37 = .ok (.aload_n 0, 1) := by decide +kernel
theorem dX2_keep_38 : decode cX2_keep 38 = .ok (.getfield 13, 3) := by decide +kernel
theorem dX2_keep_41 : decode cX2_keep 41 = .ok (.iload_n 2, 1) := by decide +kernel
theorem dX2_keep_42 : decode cX2_keep 42 = .ok (.iaload, 1) := by decide +kernel
theorem dX2_keep_43 : decode cX2_keep 43 = .ok (.iastore, 1) := by decide +kernel
theorem dX2_keep_44 : decode cX2_keep 44 = .ok (.iinc 2 1, 3) := by decide +kernel
theorem dX2_keep_47 : decode cX2_keep 47 = .ok (.goto (-26), 3) := by decide +kernel
theorem dX2_keep_50 : decode cX2_keep 50 = .ok (.aload_n 0, 1) := by decide +kernel
theorem dX2_keep_51 : decode cX2_keep 51 = .ok (.getfield 13, 3) := by decide +kernel
theorem dX2_keep_54 : decode cX2_keep 54 = .ok (.bipush 70, 2) := by decide +kernel
theorem dX2_keep_56 : decode cX2_keep 56 = .ok (.iaload, 1) := by decide +kernel
theorem dX2_keep_57 : decode cX2_keep 57 = .ok (.ireturn, 1) := by decide +kernel
set_option maxRecDepth 20000 in
theorem ggX2_again_X2_in : GoodIn wsX2_again wsX2_in := goodIn_r _ [8] (by decide +kernel) (by decide +kernel)
set_option maxRecDepth 20000 in
theorem gX2_again_X2_in : GoodIn wsX2_again (va_wsS RX2 47 yX2_in wsX2_in) := goodIn_app (goodIn_of _ (by decide +kernel)) ggX2_again_X2_in
theorem dX2_again_0 : decode cX2_again 0 = .ok (.iload_n 1, 1) := by decide +kernel
theorem dX2_again_1 : decode cX2_again 1 = .ok (.i2l, 1) := by decide +kernel
theorem dX2_again_2 : decode cX2_again 2 = .ok (.lconst 0, 1) := by decide +kernel
theorem dX2_again_3 : decode cX2_again 3 = .ok (.lconst 1, 1) := by decide +kernel
theorem dX2_again_4 : decode cX2_again 4 = .ok (.invokestatic 47, 3) := by decide +kernel
theorem dX2_again_7 : decode cX2_again 7 = .ok (.ifCond .ne 5, 3) := by decide +kernel
theorem dX2_again_10 : decode cX2_again 10 = .ok (.iconst (-1), 1) := by decide +kernel
theorem dX2_again_11 : decode cX2_again 11 = .ok (.ireturn, 1) := by decide +kernel
theorem dX2_again_12 : decode cX2_again 12 = .ok (.aload_n 0, 1) := by decide +kernel
theorem dX2_again_13 : decode cX2_again 13 = .ok (.getfield 25, 3) := by decide +kernel
theorem dX2_again_16 : decode cX2_again 16 = .ok (.iload_n 1, 1) := by decide +kernel
theorem dX2_again_17 : decode cX2_again 17 = .ok (.baload, 1) := by decide +kernel
theorem dX2_again_18 : decode cX2_again 18 = .ok (.ifCond .ne 6, 3) := by decide +kernel
theorem dX2_again_21 : decode cX2_again 21 = .ok (.bipush (-3), 2) := by decide +kernel
theorem dX2_again_23 : decode cX2_again 23 = .ok (.ireturn, 1) := by decide +kernel
theorem dX2_again_24 : decode cX2_again 24 = .ok (.iconst 0, 1) := by decide +kernel
theorem dX2_again_25 : decode cX2_again 25 = .ok (.istore_n 2, 1) := by decide +kernel
theorem dX2_again_26 : decode cX2_again 26 = .ok (.iload_n 2, 1) := by decide +kernel
theorem dX2_again_27 : decode cX2_again 27 = .ok (.bipush 79, 2) := by decide +kernel
theorem dX2_again_29 : decode cX2_again 29 = .ok (.if_icmp .ge 26, 3) := by decide +kernel
theorem dX2_again_32 : decode cX2_again 32 = .ok (.aload_n 0, 1) := by decide +kernel
theorem dX2_again_33 : decode cX2_again 33 = .ok (.getfield 13, 3) := by decide +kernel
theorem dX2_again_36 : decode cX2_again 36 = .ok (.iload_n 2, 1) := by decide +kernel
theorem dX2_again_37 : decode cX2_again 37 = .ok (.aload_n 0, 1) := by decide +kernel
theorem dX2_again_38 : decode cX2_again 38 = .ok (.getfield 22, 3) := by decide +kernel
theorem dX2_again_41 : decode cX2_again 41 = .ok (.bipush 79, 2) := by decide +kernel
theorem dX2_again_43 : decode cX2_again 43 = .ok (.iload_n 1, 1) := by decide +kernel
theorem dX2_again_44 : decode cX2_again 44 = .ok (.imul, 1) := by decide +kernel
theorem dX2_again_45 : decode cX2_again 45 = .ok (.iload_n 2, 1) := by decide +kernel
theorem dX2_again_46 : decode cX2_again 46 = .ok (.iadd, 1) := by decide +kernel
theorem dX2_again_47 : decode cX2_again 47 = .ok (.iaload, 1) := by decide +kernel
theorem dX2_again_48 : decode cX2_again 48 = .ok (.iastore, 1) := by decide +kernel
theorem dX2_again_49 : decode cX2_again 49 = .ok (.iinc 2 1, 3) := by decide +kernel
theorem dX2_again_52 : decode cX2_again 52 = .ok (.goto (-26), 3) := by decide +kernel
theorem dX2_again_55 : decode cX2_again 55 = .ok (.aload_n 0, 1) := by decide +kernel
theorem dX2_again_56 : decode cX2_again 56 = .ok (.iconst 0, 1) := by decide +kernel
theorem dX2_again_57 : decode cX2_again 57 = .ok (.putfield 132, 3) := by decide +kernel
theorem dX2_again_60 : decode cX2_again 60 = .ok (.aload_n 0, 1) := by decide +kernel
theorem dX2_again_61 : decode cX2_again 61 = .ok (.getfield 13, 3) := by decide +kernel
theorem dX2_again_64 : decode cX2_again 64 = .ok (.bipush 70, 2) := by decide +kernel
theorem dX2_again_66 : decode cX2_again 66 = .ok (.iaload, 1) := by decide +kernel
theorem dX2_again_67 : decode cX2_again 67 = .ok (.ireturn, 1) := by decide +kernel
theorem dJ6_bitCount_0f7a4_0 : decode cJ6_bitCount_0f7a4 0 = .ok (.iload_n 0, 1) := by decide +kernel
theorem dJ6_bitCount_0f7a4_1 : decode cJ6_bitCount_0f7a4 1 = .ok (.iload_n 0, 1) := by decide +kernel
theorem dJ6_bitCount_0f7a4_2 : decode cJ6_bitCount_0f7a4 2 = .ok (.iconst 1, 1) := by decide +kernel
theorem dJ6_bitCount_0f7a4_3 : decode cJ6_bitCount_0f7a4 3 = .ok (.iushr, 1) := by decide +kernel
theorem dJ6_bitCount_0f7a4_4 : decode cJ6_bitCount_0f7a4 4 = .ok (.ldc_w 265, 3) := by decide +kernel
theorem dJ6_bitCount_0f7a4_7 : decode cJ6_bitCount_0f7a4 7 = .ok (.iand, 1) := by decide +kernel
theorem dJ6_bitCount_0f7a4_8 : decode cJ6_bitCount_0f7a4 8 = .ok (.isub, 1) := by decide +kernel
theorem dJ6_bitCount_0f7a4_9 : decode cJ6_bitCount_0f7a4 9 = .ok (.istore_n 0, 1) := by decide +kernel
theorem dJ6_bitCount_0f7a4_10 : decode cJ6_bitCount_0f7a4 10 = .ok (.iload_n 0, 1) := by decide +kernel
theorem dJ6_bitCount_0f7a4_11 : decode cJ6_bitCount_0f7a4 11 = .ok (.ldc_w 266, 3) := by decide +kernel
theorem dJ6_bitCount_0f7a4_14 : decode cJ6_bitCount_0f7a4 14 = .ok (.iand, 1) := by decide +kernel
theorem dJ6_bitCount_0f7a4_15 : decode cJ6_bitCount_0f7a4 15 = .ok (.iload_n 0, 1) := by decide +kernel
theorem dJ6_bitCount_0f7a4_16 : decode cJ6_bitCount_0f7a4 16 = .ok (.iconst 2, 1) := by decide +kernel
theorem dJ6_bitCount_0f7a4_17 : decode cJ6_bitCount_0f7a4 17 = .ok (.iushr, 1) := by decide +kernel
theorem dJ6_bitCount_0f7a4_18 : decode cJ6_bitCount_0f7a4 18 = .ok (.ldc_w 266, 3) := by decide +kernel
theorem dJ6_bitCount_0f7a4_21 : decode cJ6_bitCount_0f7a4 21 = .ok (.iand, 1) := by decide +kernel
theorem dJ6_bitCount_0f7a4_22 : decode cJ6_bitCount_0f7a4 22 = .ok (.iadd, 1) := by decide +kernel
theorem dJ6_bitCount_0f7a4_23 : decode cJ6_bitCount_0f7a4 23 = .ok (.istore_n 0, 1) := by decide +kernel
theorem dJ6_bitCount_0f7a4_24 : decode cJ6_bitCount_0f7a4 24 = .ok (.iload_n 0, 1) := by decide +kernel
theorem dJ6_bitCount_0f7a4_25 : decode cJ6_bitCount_0f7a4 25 = .ok (.iload_n 0, 1) := by decide +kernel
theorem dJ6_bitCount_0f7a4_26 : decode cJ6_bitCount_0f7a4 26 = .ok (.iconst 4, 1) := by decide +kernel
theorem dJ6_bitCount_0f7a4_27 : decode cJ6_bitCount_0f7a4 27 = .ok (.iushr, 1) := by decide +kernel
theorem dJ6_bitCount_0f7a4_28 : decode cJ6_bitCount_0f7a4 28 = .ok (.iadd, 1) := by decide +kernel
theorem dJ6_bitCount_0f7a4_29 : decode cJ6_bitCount_0f7a4 29 = .ok (.ldc_w 267, 3) := by decide +kernel
theorem dJ6_bitCount_0f7a4_32 : decode cJ6_bitCount_0f7a4 32 = .ok (.iand, 1) := by decide +kernel
theorem dJ6_bitCount_0f7a4_33 : decode cJ6_bitCount_0f7a4 33 = .ok (.istore_n 0, 1) := by decide +kernel
theorem dJ6_bitCount_0f7a4_34 : decode cJ6_bitCount_0f7a4 34 = .ok (.iload_n 0, 1) := by decide +kernel
theorem dJ6_bitCount_0f7a4_35 : decode cJ6_bitCount_0f7a4 35 = .ok (.iload_n 0, 1) := by decide +kernel
theorem dJ6_bitCount_0f7a4_36 : decode cJ6_bitCount_0f7a4 36 = .ok (.bipush 8, 2) := by decide +kernel
theorem dJ6_bitCount_0f7a4_38 : decode cJ6_bitCount_0f7a4 38 = .ok (.iushr, 1) := by decide +kernel
theorem dJ6_bitCount_0f7a4_39 : decode cJ6_bitCount_0f7a4 39 = .ok (.iadd, 1) := by decide +kernel
theorem dJ6_bitCount_0f7a4_40 : decode cJ6_bitCount_0f7a4 40 = .ok (.istore_n 0, 1) := by decide +kernel
theorem dJ6_bitCount_0f7a4_41 : decode cJ6_bitCount_0f7a4 41 = .ok (.iload_n 0, 1) := by decide +kernel
theorem dJ6_bitCount_0f7a4_42 : decode cJ6_bitCount_0f7a4 42 = .ok (.iload_n 0, 1) := by decide +kernel
theorem dJ6_bitCount_0f7a4_43 : decode cJ6_bitCount_0f7a4 43 = .ok (.bipush 16, 2) := by decide +kernel
theorem dJ6_bitCount_0f7a4_45 : decode cJ6_bitCount_0f7a4 45 = .ok (.iushr, 1) := by decide +kernel
theorem dJ6_bitCount_0f7a4_46 : decode cJ6_bitCount_0f7a4 46 = .ok (.iadd, 1) := by decide +kernel
theorem dJ6_bitCount_0f7a4_47 : decode cJ6_bitCount_0f7a4 47 = .ok (.istore_n 0, 1) := by decide +kernel
theorem dJ6_bitCount_0f7a4_48 : decode cJ6_bitCount_0f7a4 48 = .ok (.iload_n 0, 1) := by decide +kernel
theorem dJ6_bitCount_0f7a4_49 : decode cJ6_bitCount_0f7a4 49 = .ok (.bipush 63, 2) := by decide +kernel
theorem dJ6_bitCount_0f7a4_51 : decode cJ6_bitCount_0f7a4 51 = .ok (.iand, 1) := by decide +kernel
theorem dJ6_bitCount_0f7a4_52 : decode cJ6_bitCount_0f7a4 52 = .ok (.ireturn, 1) := by decide +kernel
theorem dJ9_abs_0f7a4_0 : decode cJ9_abs_0f7a4 0 = .ok (.iload_n 0, 1) := by decide +kernel
theorem dJ9_abs_0f7a4_1 : decode cJ9_abs_0f7a4 1 = .ok (.ifCond .ge 8, 3) := by decide +kernel
theorem dJ9_abs_0f7a4_4 : decode cJ9_abs_0f7a4 4 = .ok (.iload_n 0, 1) := by decide +kernel
theorem dJ9_abs_0f7a4_5 : decode cJ9_abs_0f7a4 5 = .ok (.ineg, 1) := by decide +kernel
theorem dJ9_abs_0f7a4_6 : decode cJ9_abs_0f7a4 6 = .ok (.goto 4, 3) := by decide +kernel
theorem dJ9_abs_0f7a4_9 : decode cJ9_abs_0f7a4 9 = .ok (.iload_n 0, 1) := by decide +kernel
theorem dJ9_abs_0f7a4_10 : decode cJ9_abs_0f7a4 10 = .ok (.ireturn, 1) := by decide +kernel
theorem dJ9_max_7cf53_0 : decode cJ9_max_7cf53 0 = .ok (.iload_n 0, 1) := by decide +kernel
theorem dJ9_max_7cf53_1 : decode cJ9_max_7cf53 1 = .ok (.iload_n 1, 1) := by decide +kernel
theorem dJ9_max_7cf53_2 : decode cJ9_max_7cf53 2 = .ok (.if_icmp .lt 7, 3) := by decide +kernel
theorem dJ9_max_7cf53_5 : decode cJ9_max_7cf53 5 = .ok (.iload_n 0, 1) := by decide +kernel
theorem dJ9_max_7cf53_6 : decode cJ9_max_7cf53 6 = .ok (.goto 4, 3) := by decide +kernel
theorem dJ9_max_7cf53_9 : decode cJ9_max_7cf53 9 = .ok (.iload_n 1, 1) := by decide +kernel
theorem dJ9_max_7cf53_10 : decode cJ9_max_7cf53 10 = .ok (.ireturn, 1) := by decide +kernel
set_option maxRecDepth 20000 in
theorem ggL_law_X1_init : GoodIn wsL_law wsX1_init := goodIn_r _ [9, 10, 11, 12, 13, 14, 15, 16, 17, 18, 19, 20, 21, 22, 23, 24, 25, 26, 27, 28, 29, 30, 31, 32, 33, 34, 35, 36, 37, 38, 39, 40, 41, 42, 43, 44, 45, 46, 644, 645, 646, 647, 648, 649, 650, 651, 652, 653, 654, 655, 656, 657, 616, 617, 618, 619, 620, 621, 622, 623, 624, 625, 626, 627, 628] (by decide +kernel) (by decide +kernel)
set_option maxRecDepth 20000 in
theorem gL_law_X1_init : GoodIn wsL_law (wsX1_init) := ggL_law_X1_init
set_option maxRecDepth 20000 in
theorem ggL_law_X2_init : GoodIn wsL_law wsX2_init := goodIn_r _ [49, 50, 11, 12, 22, 51, 52, 53, 54, 55, 56, 57, 58, 59, 60, 61, 62, 63, 5, 64, 629, 630, 631, 632, 633, 634, 635, 636, 637, 638, 639, 640, 641, 642, 643] (by decide +kernel) (by decide +kernel)
set_option maxRecDepth 20000 in
theorem gL_law_X2_init : GoodIn wsL_law (wsX2_init) := ggL_law_X2_init
set_option maxRecDepth 20000 in
theorem ggL_law_X1_write : GoodIn wsL_law wsX1_write := goodIn_r _ [68, 24, 23, 616, 617, 618, 619, 620, 621, 622, 623, 624, 625, 626, 627, 628] (by decide +kernel) (by decide +kernel)
set_option maxRecDepth 20000 in
theorem gL_law_X1_write : GoodIn wsL_law (wsV RL 13 RX1 yX1_write wsX1_write) := goodIn_app (goodIn_of _ (by decide +kernel)) ggL_law_X1_write
set_option maxRecDepth 20000 in
theorem ggL_law_X2_write : GoodIn wsL_law wsX2_write := goodIn_r _ [72, 73, 74, 51, 75, 76, 5, 77, 629, 630, 631, 632, 633, 634, 635, 636, 637, 638, 639, 640, 641, 642, 643] (by decide +kernel) (by decide +kernel)
set_option maxRecDepth 20000 in
theorem gL_law_X2_write : GoodIn wsL_law (wsV RL 17 RX2 yX2_write wsX2_write) := goodIn_app (goodIn_of _ (by decide +kernel)) ggL_law_X2_write
set_option maxRecDepth 20000 in
theorem ggL_law_X1_wipe : GoodIn wsL_law wsX1_wipe := goodIn_r _ [81, 24, 616, 617, 618, 619, 620, 621, 622, 623, 624, 625, 626, 627, 628] (by decide +kernel) (by decide +kernel)
set_option maxRecDepth 20000 in
theorem gL_law_X1_wipe : GoodIn wsL_law (wsV RL 18 RX1 yX1_wipe wsX1_wipe) := goodIn_app (goodIn_of _ (by decide +kernel)) ggL_law_X1_wipe
set_option maxRecDepth 20000 in
theorem ggL_law_X2_wipe : GoodIn wsL_law wsX2_wipe := goodIn_r _ [85, 74, 629, 630, 631, 632, 633, 634, 635, 636, 637, 638, 639, 640, 641, 642, 643] (by decide +kernel) (by decide +kernel)
set_option maxRecDepth 20000 in
theorem gL_law_X2_wipe : GoodIn wsL_law (wsV RL 22 RX2 yX2_wipe wsX2_wipe) := goodIn_app (goodIn_of _ (by decide +kernel)) ggL_law_X2_wipe
set_option maxRecDepth 20000 in
theorem ggL_law_X1_fault : GoodIn wsL_law wsX1_fault := goodIn_r _ [89, 90, 91, 92, 2, 93, 24, 23, 17, 94, 95, 96, 97, 98, 99, 100, 101, 102, 103, 104, 105, 106, 107, 15, 108, 36, 38, 39, 45, 109, 110, 111, 112, 40, 41, 42, 43, 44, 113, 114, 115, 116, 117, 118, 119, 120, 121, 122, 123, 124, 125, 126, 37, 127, 128, 129, 130, 131, 132, 133, 134, 135, 34, 35, 33, 136, 137, 138, 139, 140, 141, 142, 143, 144, 145, 146, 147, 148, 149, 150, 151, 152, 153, 154, 155, 156, 157, 158, 159, 160, 161, 162, 163, 164, 165, 166, 167, 168, 169, 170, 171, 172, 173, 174, 175, 176, 177, 178, 179, 180, 181, 182, 183, 184, 185, 186, 46, 187, 188, 189, 190, 191, 192, 193, 194, 195, 196, 197, 198, 616, 617, 618, 619, 620, 621, 622, 623, 624, 625, 626, 627, 628, 644, 645, 646, 647, 648, 649, 650, 651, 652, 653, 654, 655, 656, 657] (by decide +kernel) (by decide +kernel)
set_option maxRecDepth 20000 in
theorem gL_law_X1_fault : GoodIn wsL_law (wsV RL 23 RX1 yX1_fault wsX1_fault) := goodIn_app (goodIn_of _ (by decide +kernel)) ggL_law_X1_fault
set_option maxRecDepth 20000 in
theorem ggL_law_X2_fault : GoodIn wsL_law wsX2_fault := goodIn_r _ [202, 203, 204, 205, 5, 206, 61, 74, 51, 207, 62, 63, 64, 75, 76, 77, 208, 209, 210, 211, 212, 213, 214, 215, 216, 217, 218, 219, 220, 221, 222, 223, 224, 225, 226, 227, 228, 229, 230, 231, 232, 233, 234, 235, 236, 237, 238, 239, 240, 241, 242, 243, 244, 245, 246, 247, 248, 249, 250, 251, 252, 253, 254, 255, 256, 257, 258, 259, 260, 261, 262, 263, 264, 265, 266, 629, 630, 631, 632, 633, 634, 635, 636, 637, 638, 639, 640, 641, 642, 643] (by decide +kernel) (by decide +kernel)
set_option maxRecDepth 20000 in
theorem gL_law_X2_fault : GoodIn wsL_law (wsV RL 26 RX2 yX2_fault wsX2_fault) := goodIn_app (goodIn_of _ (by decide +kernel)) ggL_law_X2_fault
set_option maxRecDepth 20000 in
theorem ggL_law_X1_meeting : GoodIn wsL_law wsX1_meeting := goodIn_r _ [270, 16, 17, 19, 21, 271, 90, 91, 92, 2, 93, 24, 23, 94, 95, 96, 97, 98, 99, 100, 101, 102, 103, 104, 105, 106, 107, 15, 108, 36, 38, 39, 45, 109, 110, 111, 112, 40, 41, 42, 43, 44, 113, 114, 115, 116, 117, 118, 119, 120, 121, 122, 123, 124, 125, 126, 37, 127, 128, 129, 130, 131, 132, 133, 134, 135, 34, 35, 33, 136, 137, 138, 139, 140, 141, 142, 143, 144, 145, 146, 147, 148, 149, 150, 151, 152, 153, 154, 155, 156, 157, 158, 159, 160, 161, 162, 163, 164, 165, 166, 167, 168, 169, 170, 171, 172, 173, 174, 175, 176, 177, 178, 179, 180, 181, 182, 183, 184, 185, 186, 46, 187, 188, 189, 190, 191, 192, 193, 194, 195, 196, 197, 198, 272, 273, 274, 275, 276, 277, 278, 279, 616, 617, 618, 619, 620, 621, 622, 623, 624, 625, 626, 627, 628, 644, 645, 646, 647, 648, 649, 650, 651, 652, 653, 654, 655, 656, 657] (by decide +kernel) (by decide +kernel)
set_option maxRecDepth 20000 in
theorem gL_law_X1_meeting : GoodIn wsL_law (wsV RL 27 RX1 yX1_meeting wsX1_meeting) := goodIn_app (goodIn_of _ (by decide +kernel)) ggL_law_X1_meeting
set_option maxRecDepth 20000 in
theorem ggL_law_X2_meeting : GoodIn wsL_law wsX2_meeting := goodIn_r _ [283, 61, 52, 284, 57, 203, 204, 205, 5, 206, 74, 51, 207, 62, 63, 64, 75, 76, 77, 208, 209, 210, 211, 212, 213, 214, 215, 216, 217, 218, 219, 220, 221, 222, 223, 224, 225, 226, 227, 228, 229, 230, 231, 232, 233, 234, 235, 236, 237, 238, 239, 240, 241, 242, 243, 244, 245, 246, 247, 248, 249, 250, 251, 252, 253, 254, 255, 256, 257, 258, 259, 260, 261, 262, 263, 264, 265, 266, 285, 286, 287, 629, 630, 631, 632, 633, 634, 635, 636, 637, 638, 639, 640, 641, 642, 643] (by decide +kernel) (by decide +kernel)
set_option maxRecDepth 20000 in
theorem gL_law_X2_meeting : GoodIn wsL_law (wsV RL 30 RX2 yX2_meeting wsX2_meeting) := goodIn_app (goodIn_of _ (by decide +kernel)) ggL_law_X2_meeting
set_option maxRecDepth 20000 in
theorem ggL_law_X1_about : GoodIn wsL_law wsX1_about := goodIn_r _ [291, 16, 98, 99, 100, 271, 101, 292, 293, 19, 27, 24, 195, 196, 197, 15, 198, 40, 294, 295, 296, 2, 297, 17, 272, 273, 274, 275, 33, 34, 35, 36, 37, 38, 39, 276, 277, 278, 279, 41, 42, 43, 44, 45, 46, 298, 299, 300, 301, 302, 171, 172, 173, 174, 175, 176, 177, 178, 179, 180, 181, 182, 140, 141, 142, 143, 144, 145, 146, 147, 148, 149, 150, 123, 124, 125, 126, 127, 128, 129, 130, 131, 132, 133, 134, 135, 151, 152, 153, 154, 109, 110, 111, 112, 155, 156, 157, 158, 159, 160, 161, 162, 163, 164, 165, 166, 167, 168, 169, 170, 183, 184, 185, 186, 187, 188, 189, 190, 616, 617, 618, 619, 620, 621, 622, 623, 624, 625, 626, 627, 628, 644, 645, 646, 647, 648, 649, 650, 651, 652, 653, 654, 655, 656, 657] (by decide +kernel) (by decide +kernel)
set_option maxRecDepth 20000 in
theorem gL_law_X1_about : GoodIn wsL_law (wsV RL 31 RX1 yX1_about wsX1_about) := goodIn_app (goodIn_of _ (by decide +kernel)) ggL_law_X1_about
set_option maxRecDepth 20000 in
theorem ggL_law_X2_about : GoodIn wsL_law wsX2_about := goodIn_r _ [306, 52, 284, 307, 74, 254, 255, 5, 256, 308, 309, 310, 311, 53, 285, 286, 287, 214, 215, 216, 217, 218, 219, 220, 221, 222, 223, 224, 225, 226, 227, 228, 229, 230, 231, 232, 233, 234, 235, 236, 237, 238, 239, 240, 241, 242, 243, 244, 245, 246, 247, 248, 249, 250, 251, 252, 253, 629, 630, 631, 632, 633, 634, 635, 636, 637, 638, 639, 640, 641, 642, 643] (by decide +kernel) (by decide +kernel)
set_option maxRecDepth 20000 in
theorem gL_law_X2_about : GoodIn wsL_law (wsV RL 34 RX2 yX2_about wsX2_about) := goodIn_app (goodIn_of _ (by decide +kernel)) ggL_law_X2_about
set_option maxRecDepth 20000 in
theorem ggL_law_X1_member : GoodIn wsL_law wsX1_member := goodIn_r _ [315, 16, 316, 317, 318, 319, 320, 321, 117, 2, 118, 322, 323, 324, 15, 325, 40, 140, 141, 142, 143, 41, 144, 145, 146, 147, 148, 149, 150, 616, 617, 618, 619, 620, 621, 622, 623, 624, 625, 626, 627, 628, 644, 645, 646, 647, 648, 649, 650, 651, 652, 653, 654, 655, 656, 657] (by decide +kernel) (by decide +kernel)
set_option maxRecDepth 20000 in
theorem gL_law_X1_member : GoodIn wsL_law (wsV RL 35 RX1 yX1_member wsX1_member) := goodIn_app (goodIn_of _ (by decide +kernel)) ggL_law_X1_member
set_option maxRecDepth 20000 in
theorem ggL_law_X2_member : GoodIn wsL_law wsX2_member := goodIn_r _ [329, 52, 257, 258, 5, 259, 260, 75, 76, 77, 220, 221, 222, 223, 224, 225, 629, 630, 631, 632, 633, 634, 635, 636, 637, 638, 639, 640, 641, 642, 643] (by decide +kernel) (by decide +kernel)
set_option maxRecDepth 20000 in
theorem gL_law_X2_member : GoodIn wsL_law (wsV RL 39 RX2 yX2_member wsX2_member) := goodIn_app (goodIn_of _ (by decide +kernel)) ggL_law_X2_member
set_option maxRecDepth 20000 in
theorem ggL_law_X1_heard : GoodIn wsL_law wsX1_heard := goodIn_r _ [333, 16, 334, 321, 117, 2, 118, 335, 168, 169, 15, 170, 41, 616, 617, 618, 619, 620, 621, 622, 623, 624, 625, 626, 627, 628, 644, 645, 646, 647, 648, 649, 650, 651, 652, 653, 654, 655, 656, 657] (by decide +kernel) (by decide +kernel)
set_option maxRecDepth 20000 in
theorem gL_law_X1_heard : GoodIn wsL_law (wsV RL 40 RX1 yX1_heard wsX1_heard) := goodIn_app (goodIn_of _ (by decide +kernel)) ggL_law_X1_heard
set_option maxRecDepth 20000 in
theorem ggL_law_X2_heard : GoodIn wsL_law wsX2_heard := goodIn_r _ [339, 52, 257, 258, 5, 259, 260, 75, 76, 77, 242, 243, 244, 629, 630, 631, 632, 633, 634, 635, 636, 637, 638, 639, 640, 641, 642, 643] (by decide +kernel) (by decide +kernel)
set_option maxRecDepth 20000 in
theorem gL_law_X2_heard : GoodIn wsL_law (wsV RL 43 RX2 yX2_heard wsX2_heard) := goodIn_app (goodIn_of _ (by decide +kernel)) ggL_law_X2_heard
set_option maxRecDepth 20000 in
theorem ggL_law_X1_way : GoodIn wsL_law wsX1_way := goodIn_r _ [343, 16, 321, 117, 2, 118, 344, 160, 161, 15, 162, 45, 616, 617, 618, 619, 620, 621, 622, 623, 624, 625, 626, 627, 628, 644, 645, 646, 647, 648, 649, 650, 651, 652, 653, 654, 655, 656, 657] (by decide +kernel) (by decide +kernel)
set_option maxRecDepth 20000 in
theorem gL_law_X1_way : GoodIn wsL_law (wsV RL 44 RX1 yX1_way wsX1_way) := goodIn_app (goodIn_of _ (by decide +kernel)) ggL_law_X1_way
set_option maxRecDepth 20000 in
theorem ggL_law_X2_way : GoodIn wsL_law wsX2_way := goodIn_r _ [348, 52, 257, 258, 5, 259, 260, 75, 76, 77, 242, 243, 244, 629, 630, 631, 632, 633, 634, 635, 636, 637, 638, 639, 640, 641, 642, 643] (by decide +kernel) (by decide +kernel)
set_option maxRecDepth 20000 in
theorem gL_law_X2_way : GoodIn wsL_law (wsV RL 47 RX2 yX2_way wsX2_way) := goodIn_app (goodIn_of _ (by decide +kernel)) ggL_law_X2_way
set_option maxRecDepth 20000 in
theorem ggL_law_X1_join : GoodIn wsL_law wsX1_join := goodIn_r _ [352, 16, 316, 319, 321, 117, 2, 118, 353, 354, 355, 356, 19, 18, 272, 273, 274, 15, 275, 33, 34, 35, 36, 37, 38, 39, 40, 276, 277, 278, 279, 41, 42, 43, 44, 45, 46, 113, 114, 115, 116, 119, 120, 121, 122, 123, 124, 125, 126, 127, 128, 129, 130, 131, 132, 133, 134, 135, 616, 617, 618, 619, 620, 621, 622, 623, 624, 625, 626, 627, 628, 644, 645, 646, 647, 648, 649, 650, 651, 652, 653, 654, 655, 656, 657] (by decide +kernel) (by decide +kernel)
set_option maxRecDepth 20000 in
theorem gL_law_X1_join : GoodIn wsL_law (wsV RL 48 RX1 yX1_join wsX1_join) := goodIn_app (goodIn_of _ (by decide +kernel)) ggL_law_X1_join
set_option maxRecDepth 20000 in
theorem ggL_law_X2_join : GoodIn wsL_law wsX2_join := goodIn_r _ [360, 52, 257, 258, 5, 259, 260, 75, 76, 77, 361, 362, 363, 364, 54, 365, 284, 261, 262, 263, 226, 227, 228, 229, 230, 231, 232, 233, 234, 235, 629, 630, 631, 632, 633, 634, 635, 636, 637, 638, 639, 640, 641, 642, 643] (by decide +kernel) (by decide +kernel)
set_option maxRecDepth 20000 in
theorem gL_law_X2_join : GoodIn wsL_law (wsV RL 51 RX2 yX2_join wsX2_join) := goodIn_app (goodIn_of _ (by decide +kernel)) ggL_law_X2_join
set_option maxRecDepth 20000 in
theorem ggL_law_X1_leave : GoodIn wsL_law wsX1_leave := goodIn_r _ [369, 16, 316, 319, 321, 117, 2, 118, 353, 354, 355, 356, 19, 18, 272, 273, 274, 15, 275, 33, 34, 35, 36, 37, 38, 39, 40, 276, 277, 278, 279, 41, 42, 43, 44, 45, 46, 136, 137, 138, 139, 140, 141, 142, 143, 144, 145, 146, 147, 148, 149, 150, 151, 152, 153, 154, 109, 110, 111, 112, 155, 156, 157, 158, 159, 160, 161, 162, 163, 164, 165, 166, 128, 129, 130, 131, 167, 168, 169, 170, 119, 120, 121, 122, 123, 124, 125, 126, 127, 132, 133, 134, 135, 616, 617, 618, 619, 620, 621, 622, 623, 624, 625, 626, 627, 628, 644, 645, 646, 647, 648, 649, 650, 651, 652, 653, 654, 655, 656, 657] (by decide +kernel) (by decide +kernel)
set_option maxRecDepth 20000 in
theorem gL_law_X1_leave : GoodIn wsL_law (wsV RL 52 RX1 yX1_leave wsX1_leave) := goodIn_app (goodIn_of _ (by decide +kernel)) ggL_law_X1_leave
set_option maxRecDepth 20000 in
theorem ggL_law_X2_leave : GoodIn wsL_law wsX2_leave := goodIn_r _ [373, 52, 257, 258, 5, 259, 260, 75, 76, 77, 361, 362, 363, 364, 54, 365, 284, 264, 265, 266, 220, 221, 222, 223, 224, 225, 245, 246, 247, 248, 249, 250, 239, 240, 241, 242, 243, 244, 226, 227, 228, 229, 230, 231, 232, 233, 234, 235, 629, 630, 631, 632, 633, 634, 635, 636, 637, 638, 639, 640, 641, 642, 643] (by decide +kernel) (by decide +kernel)
set_option maxRecDepth 20000 in
theorem gL_law_X2_leave : GoodIn wsL_law (wsV RL 55 RX2 yX2_leave wsX2_leave) := goodIn_app (goodIn_of _ (by decide +kernel)) ggL_law_X2_leave
set_option maxRecDepth 20000 in
theorem ggL_law_X1_pass : GoodIn wsL_law wsX1_pass := goodIn_r _ [377, 16, 353, 354, 355, 2, 356, 19, 18, 272, 273, 274, 15, 275, 33, 34, 35, 36, 37, 38, 39, 40, 276, 277, 278, 279, 41, 42, 43, 44, 45, 46, 171, 172, 173, 174, 175, 176, 177, 178, 179, 180, 181, 182, 140, 141, 142, 143, 144, 145, 146, 147, 148, 149, 150, 123, 124, 125, 126, 127, 128, 129, 130, 131, 132, 133, 134, 135, 151, 152, 153, 154, 109, 110, 111, 112, 155, 156, 157, 158, 159, 160, 161, 162, 163, 164, 165, 166, 167, 168, 169, 170, 183, 184, 185, 186, 187, 188, 189, 190, 616, 617, 618, 619, 620, 621, 622, 623, 624, 625, 626, 627, 628, 644, 645, 646, 647, 648, 649, 650, 651, 652, 653, 654, 655, 656, 657] (by decide +kernel) (by decide +kernel)
set_option maxRecDepth 20000 in
theorem gL_law_X1_pass : GoodIn wsL_law (wsV RL 56 RX1 yX1_pass wsX1_pass) := goodIn_app (goodIn_of _ (by decide +kernel)) ggL_law_X1_pass
set_option maxRecDepth 20000 in
theorem ggL_law_X2_pass : GoodIn wsL_law wsX2_pass := goodIn_r _ [381, 382, 52, 75, 76, 5, 77, 361, 362, 363, 364, 54, 365, 284, 208, 209, 210, 211, 212, 213, 214, 215, 216, 217, 218, 219, 220, 221, 222, 223, 224, 225, 226, 227, 228, 229, 230, 231, 232, 233, 234, 235, 236, 237, 238, 239, 240, 241, 242, 243, 244, 245, 246, 247, 248, 249, 250, 251, 252, 253, 629, 630, 631, 632, 633, 634, 635, 636, 637, 638, 639, 640, 641, 642, 643] (by decide +kernel) (by decide +kernel)
set_option maxRecDepth 20000 in
theorem gL_law_X2_pass : GoodIn wsL_law (wsV RL 59 RX2 yX2_pass wsX2_pass) := goodIn_app (goodIn_of _ (by decide +kernel)) ggL_law_X2_pass
set_option maxRecDepth 20000 in
theorem ggL_law_X1_turn : GoodIn wsL_law wsX1_turn := goodIn_r _ [386, 16, 321, 117, 2, 118, 353, 354, 355, 356, 19, 18, 272, 273, 274, 15, 275, 33, 34, 35, 36, 37, 38, 39, 40, 276, 277, 278, 279, 41, 42, 43, 44, 45, 46, 387, 388, 389, 390, 344, 160, 161, 162, 616, 617, 618, 619, 620, 621, 622, 623, 624, 625, 626, 627, 628, 644, 645, 646, 647, 648, 649, 650, 651, 652, 653, 654, 655, 656, 657] (by decide +kernel) (by decide +kernel)
set_option maxRecDepth 20000 in
theorem gL_law_X1_turn : GoodIn wsL_law (wsV RL 60 RX1 yX1_turn wsX1_turn) := goodIn_app (goodIn_of _ (by decide +kernel)) ggL_law_X1_turn
set_option maxRecDepth 20000 in
theorem ggL_law_X2_turn : GoodIn wsL_law wsX2_turn := goodIn_r _ [394, 52, 257, 258, 5, 259, 260, 75, 76, 77, 361, 362, 363, 364, 54, 365, 284, 242, 243, 244, 629, 630, 631, 632, 633, 634, 635, 636, 637, 638, 639, 640, 641, 642, 643] (by decide +kernel) (by decide +kernel)
set_option maxRecDepth 20000 in
theorem gL_law_X2_turn : GoodIn wsL_law (wsV RL 63 RX2 yX2_turn wsX2_turn) := goodIn_app (goodIn_of _ (by decide +kernel)) ggL_law_X2_turn
set_option maxRecDepth 20000 in
theorem ggL_law_X1_set : GoodIn wsL_law wsX1_set := goodIn_r _ [398, 16, 353, 354, 355, 2, 356, 19, 18, 272, 273, 274, 15, 275, 33, 34, 35, 36, 37, 38, 39, 40, 276, 277, 278, 279, 41, 42, 43, 44, 45, 46, 399, 400, 401, 402, 616, 617, 618, 619, 620, 621, 622, 623, 624, 625, 626, 627, 628, 644, 645, 646, 647, 648, 649, 650, 651, 652, 653, 654, 655, 656, 657] (by decide +kernel) (by decide +kernel)
set_option maxRecDepth 20000 in
theorem gL_law_X1_set : GoodIn wsL_law (wsV RL 64 RX1 yX1_set wsX1_set) := goodIn_app (goodIn_of _ (by decide +kernel)) ggL_law_X1_set
set_option maxRecDepth 20000 in
theorem ggL_law_X2_set : GoodIn wsL_law wsX2_set := goodIn_r _ [406, 407, 207, 52, 75, 76, 5, 77, 361, 362, 363, 364, 54, 365, 284, 629, 630, 631, 632, 633, 634, 635, 636, 637, 638, 639, 640, 641, 642, 643] (by decide +kernel) (by decide +kernel)
set_option maxRecDepth 20000 in
theorem gL_law_X2_set : GoodIn wsL_law (wsV RL 67 RX2 yX2_set wsX2_set) := goodIn_app (goodIn_of _ (by decide +kernel)) ggL_law_X2_set
set_option maxRecDepth 20000 in
theorem ggL_law_X1_undo : GoodIn wsL_law wsX1_undo := goodIn_r _ [411, 19, 16, 18, 272, 273, 274, 15, 275, 33, 34, 35, 36, 37, 38, 39, 40, 276, 277, 278, 279, 41, 42, 43, 44, 45, 46, 616, 617, 618, 619, 620, 621, 622, 623, 624, 625, 626, 627, 628, 644, 645, 646, 647, 648, 649, 650, 651, 652, 653, 654, 655, 656, 657] (by decide +kernel) (by decide +kernel)
set_option maxRecDepth 20000 in
theorem gL_law_X1_undo : GoodIn wsL_law (wsV RL 68 RX1 yX1_undo wsX1_undo) := goodIn_app (goodIn_of _ (by decide +kernel)) ggL_law_X1_undo
set_option maxRecDepth 20000 in
theorem ggL_law_X2_undo : GoodIn wsL_law wsX2_undo := goodIn_r _ [415, 284, 365, 52, 54, 629, 630, 631, 632, 633, 634, 635, 636, 637, 638, 639, 640, 641, 642, 643] (by decide +kernel) (by decide +kernel)
set_option maxRecDepth 20000 in
theorem gL_law_X2_undo : GoodIn wsL_law (wsV RL 71 RX2 yX2_undo wsX2_undo) := goodIn_app (goodIn_of _ (by decide +kernel)) ggL_law_X2_undo
set_option maxRecDepth 20000 in
theorem ggL_law_X1_ahead : GoodIn wsL_law wsX1_ahead := goodIn_r _ [419, 17, 16, 292, 293, 101, 272, 273, 274, 15, 275, 33, 34, 35, 36, 37, 38, 39, 40, 276, 277, 278, 279, 41, 42, 43, 44, 45, 46, 171, 172, 173, 174, 175, 176, 177, 178, 179, 180, 181, 182, 140, 141, 142, 143, 144, 145, 146, 147, 148, 149, 150, 123, 124, 125, 126, 127, 128, 129, 130, 131, 132, 133, 134, 135, 151, 152, 153, 154, 109, 110, 111, 112, 155, 156, 157, 158, 159, 160, 161, 162, 163, 164, 165, 166, 167, 168, 169, 170, 183, 184, 185, 186, 187, 188, 189, 190, 195, 196, 197, 198, 616, 617, 618, 619, 620, 621, 622, 623, 624, 625, 626, 627, 628, 644, 645, 646, 647, 648, 649, 650, 651, 652, 653, 654, 655, 656, 657] (by decide +kernel) (by decide +kernel)
set_option maxRecDepth 20000 in
theorem gL_law_X1_ahead : GoodIn wsL_law (wsV RL 72 RX1 yX1_ahead wsX1_ahead) := goodIn_app (goodIn_of _ (by decide +kernel)) ggL_law_X1_ahead
set_option maxRecDepth 20000 in
theorem ggL_law_X2_ahead : GoodIn wsL_law wsX2_ahead := goodIn_r _ [423, 424, 425, 52, 53, 75, 76, 5, 77, 285, 286, 287, 208, 209, 210, 211, 212, 213, 214, 215, 216, 217, 218, 219, 220, 221, 222, 223, 224, 225, 226, 227, 228, 229, 230, 231, 232, 233, 234, 235, 236, 237, 238, 239, 240, 241, 242, 243, 244, 245, 246, 247, 248, 249, 250, 251, 252, 253, 254, 255, 256, 629, 630, 631, 632, 633, 634, 635, 636, 637, 638, 639, 640, 641, 642, 643] (by decide +kernel) (by decide +kernel)
set_option maxRecDepth 20000 in
theorem gL_law_X2_ahead : GoodIn wsL_law (wsV RL 75 RX2 yX2_ahead wsX2_ahead) := goodIn_app (goodIn_of _ (by decide +kernel)) ggL_law_X2_ahead
set_option maxRecDepth 20000 in
theorem ggL_law_X1_crowd : GoodIn wsL_law wsX1_crowd := goodIn_r _ [429, 17, 16, 430, 129, 130, 131, 272, 273, 274, 15, 275, 33, 34, 35, 36, 37, 38, 39, 40, 276, 277, 278, 279, 41, 42, 43, 44, 45, 46, 171, 172, 173, 174, 175, 176, 177, 178, 179, 180, 181, 182, 140, 141, 142, 143, 144, 145, 146, 147, 148, 149, 150, 123, 124, 125, 126, 127, 128, 132, 133, 134, 135, 151, 152, 153, 154, 109, 110, 111, 112, 155, 156, 157, 158, 159, 160, 161, 162, 163, 164, 165, 166, 167, 168, 169, 170, 183, 184, 185, 186, 187, 188, 189, 190, 616, 617, 618, 619, 620, 621, 622, 623, 624, 625, 626, 627, 628, 644, 645, 646, 647, 648, 649, 650, 651, 652, 653, 654, 655, 656, 657] (by decide +kernel) (by decide +kernel)
set_option maxRecDepth 20000 in
theorem gL_law_X1_crowd : GoodIn wsL_law (wsV RL 76 RX1 yX1_crowd wsX1_crowd) := goodIn_app (goodIn_of _ (by decide +kernel)) ggL_law_X1_crowd
set_option maxRecDepth 20000 in
theorem ggL_law_X2_crowd : GoodIn wsL_law wsX2_crowd := goodIn_r _ [434, 424, 52, 53, 75, 76, 5, 77, 285, 286, 287, 208, 209, 210, 211, 212, 213, 214, 215, 216, 217, 218, 219, 220, 221, 222, 223, 224, 225, 226, 227, 228, 229, 230, 231, 232, 233, 234, 235, 236, 237, 238, 239, 240, 241, 242, 243, 244, 245, 246, 247, 248, 249, 250, 251, 252, 253, 629, 630, 631, 632, 633, 634, 635, 636, 637, 638, 639, 640, 641, 642, 643] (by decide +kernel) (by decide +kernel)
set_option maxRecDepth 20000 in
theorem gL_law_X2_crowd : GoodIn wsL_law (wsV RL 79 RX2 yX2_crowd wsX2_crowd) := goodIn_app (goodIn_of _ (by decide +kernel)) ggL_law_X2_crowd
set_option maxRecDepth 20000 in
theorem ggL_law_X1_jitter : GoodIn wsL_law wsX1_jitter := goodIn_r _ [438, 439, 440, 130, 441, 442, 443, 2, 444, 445, 446, 447, 448] (by decide +kernel) (by decide +kernel)
set_option maxRecDepth 20000 in
theorem gL_law_X1_jitter : GoodIn wsL_law (wsV RL 82 RX1 yX1_jitter wsX1_jitter) := goodIn_app (goodIn_of _ (by decide +kernel)) ggL_law_X1_jitter
set_option maxRecDepth 20000 in
theorem ggL_law_X2_jitter : GoodIn wsL_law wsX2_jitter := goodIn_r _ [452, 453, 454, 75, 76, 5, 77, 455, 456, 457] (by decide +kernel) (by decide +kernel)
set_option maxRecDepth 20000 in
theorem gL_law_X2_jitter : GoodIn wsL_law (wsV RL 86 RX2 yX2_jitter wsX2_jitter) := goodIn_app (goodIn_of _ (by decide +kernel)) ggL_law_X2_jitter
set_option maxRecDepth 20000 in
theorem ggL_law_X1_round : GoodIn wsL_law wsX1_round := goodIn_r _ [461, 462, 463, 2, 464] (by decide +kernel) (by decide +kernel)
set_option maxRecDepth 20000 in
theorem gL_law_X1_round : GoodIn wsL_law (wsV RL 87 RX1 yX1_round wsX1_round) := goodIn_app (goodIn_of _ (by decide +kernel)) ggL_law_X1_round
set_option maxRecDepth 20000 in
theorem ggL_law_X2_round : GoodIn wsL_law wsX2_round := goodIn_r _ [468, 469, 75, 76, 5, 77] (by decide +kernel) (by decide +kernel)
set_option maxRecDepth 20000 in
theorem gL_law_X2_round : GoodIn wsL_law (wsV RL 91 RX2 yX2_round wsX2_round) := goodIn_app (goodIn_of _ (by decide +kernel)) ggL_law_X2_round
set_option maxRecDepth 20000 in
theorem ggL_law_X1_judge : GoodIn wsL_law wsX1_judge := goodIn_r _ [473, 17, 16, 442, 443, 2, 444, 445, 272, 273, 274, 15, 275, 33, 34, 35, 36, 37, 38, 39, 40, 276, 277, 278, 279, 41, 42, 43, 44, 45, 46, 446, 447, 448, 474, 475, 476, 477, 316, 113, 114, 115, 116, 117, 118, 119, 120, 121, 122, 123, 124, 125, 126, 127, 128, 129, 130, 131, 132, 133, 134, 135, 136, 137, 138, 139, 140, 141, 142, 143, 144, 145, 146, 147, 148, 149, 150, 151, 152, 153, 154, 109, 110, 111, 112, 155, 156, 157, 158, 159, 160, 161, 162, 163, 164, 165, 166, 167, 168, 169, 170, 171, 172, 173, 174, 175, 176, 177, 178, 179, 180, 181, 182, 183, 184, 185, 186, 187, 188, 189, 190, 321, 335, 322, 323, 324, 325, 387, 388, 389, 390, 616, 617, 618, 619, 620, 621, 622, 623, 624, 625, 626, 627, 628, 644, 645, 646, 647, 648, 649, 650, 651, 652, 653, 654, 655, 656, 657] (by decide +kernel) (by decide +kernel)
set_option maxRecDepth 20000 in
theorem gL_law_X1_judge : GoodIn wsL_law (wsV RL 92 RX1 yX1_judge wsX1_judge) := goodIn_app (goodIn_of _ (by decide +kernel)) ggL_law_X1_judge
set_option maxRecDepth 20000 in
theorem ggL_law_X2_judge : GoodIn wsL_law wsX2_judge := goodIn_r _ [481, 482, 483, 52, 53, 75, 76, 5, 77, 455, 456, 457, 285, 286, 287, 484, 485, 486, 487, 382, 257, 258, 259, 260, 261, 262, 263, 226, 227, 228, 229, 230, 231, 232, 233, 234, 235, 264, 265, 266, 220, 221, 222, 223, 224, 225, 245, 246, 247, 248, 249, 250, 239, 240, 241, 242, 243, 244, 208, 209, 210, 211, 212, 213, 214, 215, 216, 217, 218, 219, 236, 237, 238, 251, 252, 253, 629, 630, 631, 632, 633, 634, 635, 636, 637, 638, 639, 640, 641, 642, 643] (by decide +kernel) (by decide +kernel)
set_option maxRecDepth 20000 in
theorem gL_law_X2_judge : GoodIn wsL_law (wsV RL 95 RX2 yX2_judge wsX2_judge) := goodIn_app (goodIn_of _ (by decide +kernel)) ggL_law_X2_judge
set_option maxRecDepth 20000 in
theorem ggL_law_X1_see : GoodIn wsL_law wsX1_see := goodIn_r _ [491, 27, 25, 26, 616, 617, 618, 619, 620, 621, 622, 623, 624, 625, 626, 627, 628] (by decide +kernel) (by decide +kernel)
set_option maxRecDepth 20000 in
theorem gL_law_X1_see : GoodIn wsL_law (wsV RL 96 RX1 yX1_see wsX1_see) := goodIn_app (goodIn_of _ (by decide +kernel)) ggL_law_X1_see
set_option maxRecDepth 20000 in
theorem ggL_law_X2_see : GoodIn wsL_law wsX2_see := goodIn_r _ [495, 496, 424, 307, 58, 59, 75, 76, 5, 77, 629, 630, 631, 632, 633, 634, 635, 636, 637, 638, 639, 640, 641, 642, 643] (by decide +kernel) (by decide +kernel)
set_option maxRecDepth 20000 in
theorem gL_law_X2_see : GoodIn wsL_law (wsV RL 99 RX2 yX2_see wsX2_see) := goodIn_app (goodIn_of _ (by decide +kernel)) ggL_law_X2_see
set_option maxRecDepth 20000 in
theorem ggL_law_X1_unsee : GoodIn wsL_law wsX1_unsee := goodIn_r _ [500, 27, 616, 617, 618, 619, 620, 621, 622, 623, 624, 625, 626, 627, 628] (by decide +kernel) (by decide +kernel)
set_option maxRecDepth 20000 in
theorem gL_law_X1_unsee : GoodIn wsL_law (wsV RL 100 RX1 yX1_unsee wsX1_unsee) := goodIn_app (goodIn_of _ (by decide +kernel)) ggL_law_X1_unsee
set_option maxRecDepth 20000 in
theorem ggL_law_X2_unsee : GoodIn wsL_law wsX2_unsee := goodIn_r _ [504, 307, 629, 630, 631, 632, 633, 634, 635, 636, 637, 638, 639, 640, 641, 642, 643] (by decide +kernel) (by decide +kernel)
set_option maxRecDepth 20000 in
theorem gL_law_X2_unsee : GoodIn wsL_law (wsV RL 103 RX2 yX2_unsee wsX2_unsee) := goodIn_app (goodIn_of _ (by decide +kernel)) ggL_law_X2_unsee
set_option maxRecDepth 20000 in
theorem ggL_law_X1_which : GoodIn wsL_law wsX1_which := goodIn_r _ [508, 509, 510, 511, 2, 512, 17, 16, 99, 27, 25, 26, 272, 273, 274, 15, 275, 33, 34, 35, 36, 37, 38, 39, 40, 276, 277, 278, 279, 41, 42, 43, 44, 45, 46, 171, 172, 173, 174, 175, 176, 177, 178, 179, 180, 181, 182, 140, 141, 142, 143, 144, 145, 146, 147, 148, 149, 150, 123, 124, 125, 126, 127, 128, 129, 130, 131, 132, 133, 134, 135, 151, 152, 153, 154, 109, 110, 111, 112, 155, 156, 157, 158, 159, 160, 161, 162, 163, 164, 165, 166, 167, 168, 169, 170, 183, 184, 185, 186, 187, 188, 189, 190, 616, 617, 618, 619, 620, 621, 622, 623, 624, 625, 626, 627, 628, 644, 645, 646, 647, 648, 649, 650, 651, 652, 653, 654, 655, 656, 657] (by decide +kernel) (by decide +kernel)
set_option maxRecDepth 20000 in
theorem gL_law_X1_which : GoodIn wsL_law (wsV RL 104 RX1 yX1_which wsX1_which) := goodIn_app (goodIn_of _ (by decide +kernel)) ggL_law_X1_which
set_option maxRecDepth 20000 in
theorem ggL_law_X2_which : GoodIn wsL_law wsX2_which := goodIn_r _ [516, 307, 52, 53, 58, 59, 285, 286, 5, 287, 208, 209, 210, 211, 212, 213, 214, 215, 216, 217, 218, 219, 220, 221, 222, 223, 224, 225, 226, 227, 228, 229, 230, 231, 232, 233, 234, 235, 236, 237, 238, 239, 240, 241, 242, 243, 244, 245, 246, 247, 248, 249, 250, 251, 252, 253, 629, 630, 631, 632, 633, 634, 635, 636, 637, 638, 639, 640, 641, 642, 643] (by decide +kernel) (by decide +kernel)
set_option maxRecDepth 20000 in
theorem gL_law_X2_which : GoodIn wsL_law (wsV RL 107 RX2 yX2_which wsX2_which) := goodIn_app (goodIn_of _ (by decide +kernel)) ggL_law_X2_which
set_option maxRecDepth 20000 in
theorem ggL_law_X1_share : GoodIn wsL_law wsX1_share := goodIn_r _ [520, 29, 521, 321, 117, 2, 118, 522, 523, 524, 525, 16, 17, 526, 527, 528, 15, 529, 41, 40, 272, 273, 274, 275, 33, 34, 35, 36, 37, 38, 39, 276, 277, 278, 279, 42, 43, 44, 45, 46, 530, 531, 532, 533, 109, 110, 111, 112, 171, 172, 173, 174, 175, 176, 177, 178, 179, 180, 181, 182, 140, 141, 142, 143, 144, 145, 146, 147, 148, 149, 150, 123, 124, 125, 126, 127, 128, 129, 130, 131, 132, 133, 134, 135, 151, 152, 153, 154, 155, 156, 157, 158, 159, 160, 161, 162, 163, 164, 165, 166, 167, 168, 169, 170, 183, 184, 185, 186, 187, 188, 189, 190, 534, 535, 536, 537, 439, 440, 441, 538, 539, 540, 430, 616, 617, 618, 619, 620, 621, 622, 623, 624, 625, 626, 627, 628, 644, 645, 646, 647, 648, 649, 650, 651, 652, 653, 654, 655, 656, 657] (by decide +kernel) (by decide +kernel)
set_option maxRecDepth 20000 in
theorem gL_law_X1_share : GoodIn wsL_law (wsV RL 108 RX1 yX1_share wsX1_share) := goodIn_app (goodIn_of _ (by decide +kernel)) ggL_law_X1_share
set_option maxRecDepth 20000 in
theorem ggL_law_X2_share : GoodIn wsL_law wsX2_share := goodIn_r _ [544, 60, 257, 258, 5, 259, 260, 75, 76, 77, 545, 546, 547, 548, 52, 53, 285, 286, 287, 242, 243, 244, 248, 249, 250, 208, 209, 210, 211, 212, 213, 214, 215, 216, 217, 218, 219, 220, 221, 222, 223, 224, 225, 226, 227, 228, 229, 230, 231, 232, 233, 234, 235, 236, 237, 238, 239, 240, 241, 245, 246, 247, 251, 252, 253, 549, 550, 551, 552, 553, 554, 629, 630, 631, 632, 633, 634, 635, 636, 637, 638, 639, 640, 641, 642, 643] (by decide +kernel) (by decide +kernel)
set_option maxRecDepth 20000 in
theorem gL_law_X2_share : GoodIn wsL_law (wsV RL 112 RX2 yX2_share wsX2_share) := goodIn_app (goodIn_of _ (by decide +kernel)) ggL_law_X2_share
set_option maxRecDepth 20000 in
theorem ggL_law_X1_chance : GoodIn wsL_law wsX1_chance := goodIn_r _ [558, 29, 559, 522, 523, 524, 2, 525, 16, 17, 526, 527, 528, 15, 529, 41, 40, 272, 273, 274, 275, 33, 34, 35, 36, 37, 38, 39, 276, 277, 278, 279, 42, 43, 44, 45, 46, 530, 531, 532, 533, 109, 110, 111, 112, 171, 172, 173, 174, 175, 176, 177, 178, 179, 180, 181, 182, 140, 141, 142, 143, 144, 145, 146, 147, 148, 149, 150, 123, 124, 125, 126, 127, 128, 129, 130, 131, 132, 133, 134, 135, 151, 152, 153, 154, 155, 156, 157, 158, 159, 160, 161, 162, 163, 164, 165, 166, 167, 168, 169, 170, 183, 184, 185, 186, 187, 188, 189, 190, 560, 561, 562, 535, 536, 537, 439, 440, 441, 538, 539, 540, 430, 616, 617, 618, 619, 620, 621, 622, 623, 624, 625, 626, 627, 628, 644, 645, 646, 647, 648, 649, 650, 651, 652, 653, 654, 655, 656, 657] (by decide +kernel) (by decide +kernel)
set_option maxRecDepth 20000 in
theorem gL_law_X1_chance : GoodIn wsL_law (wsV RL 113 RX1 yX1_chance wsX1_chance) := goodIn_app (goodIn_of _ (by decide +kernel)) ggL_law_X1_chance
set_option maxRecDepth 20000 in
theorem ggL_law_X2_chance : GoodIn wsL_law wsX2_chance := goodIn_r _ [566, 424, 567, 75, 76, 5, 77, 223, 224, 225, 545, 546, 547, 548, 52, 53, 285, 286, 287, 242, 243, 244, 248, 249, 250, 208, 209, 210, 211, 212, 213, 214, 215, 216, 217, 218, 219, 220, 221, 222, 226, 227, 228, 229, 230, 231, 232, 233, 234, 235, 236, 237, 238, 239, 240, 241, 245, 246, 247, 251, 252, 253, 568, 569, 570, 552, 553, 554, 629, 630, 631, 632, 633, 634, 635, 636, 637, 638, 639, 640, 641, 642, 643] (by decide +kernel) (by decide +kernel)
set_option maxRecDepth 20000 in
theorem gL_law_X2_chance : GoodIn wsL_law (wsV RL 117 RX2 yX2_chance wsX2_chance) := goodIn_app (goodIn_of _ (by decide +kernel)) ggL_law_X2_chance
set_option maxRecDepth 20000 in
theorem ggL_law_X1_seed : GoodIn wsL_law wsX1_seed := goodIn_r _ [574, 28, 616, 617, 618, 619, 620, 621, 622, 623, 624, 625, 626, 627, 628] (by decide +kernel) (by decide +kernel)
set_option maxRecDepth 20000 in
theorem gL_law_X1_seed : GoodIn wsL_law (wsV RL 118 RX1 yX1_seed wsX1_seed) := goodIn_app (goodIn_of _ (by decide +kernel)) ggL_law_X1_seed
set_option maxRecDepth 20000 in
theorem ggL_law_X2_seed : GoodIn wsL_law wsX2_seed := goodIn_r _ [578, 579, 629, 630, 631, 632, 633, 634, 635, 636, 637, 638, 639, 640, 641, 642, 643] (by decide +kernel) (by decide +kernel)
set_option maxRecDepth 20000 in
theorem gL_law_X2_seed : GoodIn wsL_law (wsV RL 122 RX2 yX2_seed wsX2_seed) := goodIn_app (goodIn_of _ (by decide +kernel)) ggL_law_X2_seed
set_option maxRecDepth 20000 in
theorem ggL_law_X1_drawn : GoodIn wsL_law wsX1_drawn := goodIn_r _ [583, 17, 16, 28, 584, 585, 272, 273, 274, 15, 275, 33, 34, 35, 36, 37, 38, 39, 40, 276, 277, 278, 279, 41, 42, 43, 44, 45, 46, 586, 176, 177, 178, 587, 588, 589, 590, 591, 114, 115, 116, 117, 2, 118, 119, 120, 121, 122, 123, 124, 125, 126, 127, 128, 129, 130, 131, 132, 133, 134, 135, 592, 137, 138, 139, 140, 141, 142, 143, 144, 145, 146, 147, 148, 149, 150, 151, 152, 153, 154, 109, 110, 111, 112, 155, 156, 157, 158, 159, 160, 161, 162, 163, 164, 165, 166, 167, 168, 169, 170, 171, 172, 173, 174, 175, 179, 180, 181, 182, 183, 184, 185, 186, 187, 188, 189, 190, 616, 617, 618, 619, 620, 621, 622, 623, 624, 625, 626, 627, 628, 644, 645, 646, 647, 648, 649, 650, 651, 652, 653, 654, 655, 656, 657] (by decide +kernel) (by decide +kernel)
set_option maxRecDepth 20000 in
theorem gL_law_X1_drawn : GoodIn wsL_law (wsV RL 123 RX1 yX1_drawn wsX1_drawn) := goodIn_app (goodIn_of _ (by decide +kernel)) ggL_law_X1_drawn
set_option maxRecDepth 20000 in
theorem ggL_law_X2_drawn : GoodIn wsL_law wsX2_drawn := goodIn_r _ [596, 597, 52, 53, 579, 598, 599, 75, 76, 5, 77, 285, 286, 287, 261, 262, 263, 226, 227, 228, 229, 230, 231, 232, 233, 234, 235, 264, 265, 266, 220, 221, 222, 223, 224, 225, 245, 246, 247, 248, 249, 250, 239, 240, 241, 242, 243, 244, 214, 215, 216, 217, 218, 219, 236, 237, 238, 251, 252, 253, 211, 212, 213, 629, 630, 631, 632, 633, 634, 635, 636, 637, 638, 639, 640, 641, 642, 643] (by decide +kernel) (by decide +kernel)
set_option maxRecDepth 20000 in
theorem gL_law_X2_drawn : GoodIn wsL_law (wsV RL 126 RX2 yX2_drawn wsX2_drawn) := goodIn_app (goodIn_of _ (by decide +kernel)) ggL_law_X2_drawn
set_option maxRecDepth 20000 in
theorem ggL_law_X1_keep : GoodIn wsL_law wsX1_keep := goodIn_r _ [603, 20, 16, 21, 271, 272, 273, 274, 15, 275, 33, 34, 35, 36, 37, 38, 39, 40, 276, 277, 278, 279, 41, 42, 43, 44, 45, 46, 616, 617, 618, 619, 620, 621, 622, 623, 624, 625, 626, 627, 628, 644, 645, 646, 647, 648, 649, 650, 651, 652, 653, 654, 655, 656, 657] (by decide +kernel) (by decide +kernel)
set_option maxRecDepth 20000 in
theorem gL_law_X1_keep : GoodIn wsL_law (wsV RL 127 RX1 yX1_keep wsX1_keep) := goodIn_app (goodIn_of _ (by decide +kernel)) ggL_law_X1_keep
set_option maxRecDepth 20000 in
theorem ggL_law_X2_keep : GoodIn wsL_law wsX2_keep := goodIn_r _ [607, 57, 55, 52, 75, 76, 5, 77, 629, 630, 631, 632, 633, 634, 635, 636, 637, 638, 639, 640, 641, 642, 643] (by decide +kernel) (by decide +kernel)
set_option maxRecDepth 20000 in
theorem gL_law_X2_keep : GoodIn wsL_law (wsV RL 130 RX2 yX2_keep wsX2_keep) := goodIn_app (goodIn_of _ (by decide +kernel)) ggL_law_X2_keep
set_option maxRecDepth 20000 in
theorem ggL_law_X1_again : GoodIn wsL_law wsX1_again := goodIn_r _ [611, 21, 16, 20, 19, 271, 272, 273, 274, 15, 275, 33, 34, 35, 36, 37, 38, 39, 40, 276, 277, 278, 279, 41, 42, 43, 44, 45, 46, 616, 617, 618, 619, 620, 621, 622, 623, 624, 625, 626, 627, 628, 644, 645, 646, 647, 648, 649, 650, 651, 652, 653, 654, 655, 656, 657] (by decide +kernel) (by decide +kernel)
set_option maxRecDepth 20000 in
theorem gL_law_X1_again : GoodIn wsL_law (wsV RL 131 RX1 yX1_again wsX1_again) := goodIn_app (goodIn_of _ (by decide +kernel)) ggL_law_X1_again
set_option maxRecDepth 20000 in
theorem ggL_law_X2_again : GoodIn wsL_law wsX2_again := goodIn_r _ [615, 57, 52, 55, 284, 75, 76, 5, 77, 629, 630, 631, 632, 633, 634, 635, 636, 637, 638, 639, 640, 641, 642, 643] (by decide +kernel) (by decide +kernel)
set_option maxRecDepth 20000 in
theorem gL_law_X2_again : GoodIn wsL_law (wsV RL 134 RX2 yX2_again wsX2_again) := goodIn_app (goodIn_of _ (by decide +kernel)) ggL_law_X2_again
theorem dL_law_0 : decode cL_law 0 = .ok (.new 7, 3) := by decide +kernel
theorem dL_law_3 : decode cL_law 3 = .ok (.dup, 1) := by decide +kernel
theorem dL_law_4 : decode cL_law 4 = .ok (.invokespecial 9, 3) := by decide +kernel
theorem dL_law_7 : decode cL_law 7 = .ok (.astore_n 1, 1) := by decide +kernel
theorem dL_law_8 : decode cL_law 8 = .ok (.new 10, 3) := by decide +kernel
theorem dL_law_11 : decode cL_law 11 = .ok (.dup, 1) := by decide +kernel
theorem dL_law_12 : decode cL_law 12 = .ok (.invokespecial 12, 3) := by decide +kernel
theorem dL_law_15 : decode cL_law 15 = .ok (.astore_n 2, 1) := by decide +kernel
theorem dL_law_16 : decode cL_law 16 = .ok (.iconst 0, 1) := by decide +kernel
theorem dL_law_17 : decode cL_law 17 = .ok (.istore_n 3, 1) := by decide +kernel
theorem dL_law_18 : decode cL_law 18 = .ok (.iload_n 3, 1) := by decide +kernel
theorem dL_law_19 : decode cL_law 19 = .ok (.aload_n 0, 1) := by decide +kernel
theorem dL_law_20 : decode cL_law 20 = .ok (.arraylength, 1) := by decide +kernel
theorem dL_law_21 : decode cL_law 21 = .ok (.iconst 4, 1) := by decide +kernel
theorem dL_law_22 : decode cL_law 22 = .ok (.isub, 1) := by decide +kernel
theorem dL_law_23 : decode cL_law 23 = .ok (.if_icmp .gt 990, 3) := by decide +kernel
theorem dL_law_26 : decode cL_law 26 = .ok (.aload_n 0, 1) := by decide +kernel
theorem dL_law_27 : decode cL_law 27 = .ok (.iload_n 3, 1) := by decide +kernel
theorem dL_law_28 : decode cL_law 28 = .ok (.iaload, 1) := by decide +kernel
theorem dL_law_29 : decode cL_law 29 = .ok (.bipush 31, 2) := by decide +kernel
theorem dL_law_31 : decode cL_law 31 = .ok (.iand, 1) := by decide +kernel
theorem dL_law_32 : decode cL_law 32 = .ok (.tableswitch 975 0 27 #[128, 151, 164, 177, 190, 213, 246, 279, 312, 335, 358, 381, 414, 447, 460, 493, 516, 579, 622, 685, 718, 731, 744, 793, 852, 906, 929, 952], 128) := by decide +kernel
theorem dL_law_160 : decode cL_law 160 = .ok (.aload_n 1, 1) := by decide +kernel
theorem dL_law_161 : decode cL_law 161 = .ok (.aload_n 0, 1) := by decide +kernel
theorem dL_law_162 : decode cL_law 162 = .ok (.iload_n 3, 1) := by decide +kernel
theorem dL_law_163 : decode cL_law 163 = .ok (.iconst 1, 1) := by decide +kernel
theorem dL_law_164 : decode cL_law 164 = .ok (.iadd, 1) := by decide +kernel
theorem dL_law_165 : decode cL_law 165 = .ok (.iaload, 1) := by decide +kernel
theorem dL_law_166 : decode cL_law 166 = .ok (.invokevirtual 13, 3) := by decide +kernel
theorem dL_law_169 : decode cL_law 169 = .ok (.aload_n 2, 1) := by decide +kernel
theorem dL_law_170 : decode cL_law 170 = .ok (.aload_n 0, 1) := by decide +kernel
theorem dL_law_171 : decode cL_law 171 = .ok (.iload_n 3, 1) := by decide +kernel
theorem dL_law_172 : decode cL_law 172 = .ok (.iconst 1, 1) := by decide +kernel
theorem dL_law_173 : decode cL_law 173 = .ok (.iadd, 1) := by decide +kernel
theorem dL_law_174 : decode cL_law 174 = .ok (.iaload, 1) := by decide +kernel
theorem dL_law_175 : decode cL_law 175 = .ok (.invokevirtual 17, 3) := by decide +kernel
theorem dL_law_178 : decode cL_law 178 = .ok (.if_icmp .eq 829, 3) := by decide +kernel
theorem dL_law_181 : decode cL_law 181 = .ok (.iconst 0, 1) := by decide +kernel
theorem dL_law_182 : decode cL_law 182 = .ok (.ireturn, 1) := by decide +kernel
theorem dL_law_183 : decode cL_law 183 = .ok (.aload_n 1, 1) := by decide +kernel
theorem dL_law_184 : decode cL_law 184 = .ok (.invokevirtual 18, 3) := by decide +kernel
theorem dL_law_187 : decode cL_law 187 = .ok (.aload_n 2, 1) := by decide +kernel
theorem dL_law_188 : decode cL_law 188 = .ok (.invokevirtual 22, 3) := by decide +kernel
theorem dL_law_191 : decode cL_law 191 = .ok (.if_icmp .eq 816, 3) := by decide +kernel
theorem dL_law_194 : decode cL_law 194 = .ok (.iconst 0, 1) := by decide +kernel
theorem dL_law_195 : decode cL_law 195 = .ok (.ireturn, 1) := by decide +kernel
theorem dL_law_196 : decode cL_law 196 = .ok (.aload_n 1, 1) := by decide +kernel
theorem dL_law_197 : decode cL_law 197 = .ok (.invokevirtual 23, 3) := by decide +kernel
theorem dL_law_200 : decode cL_law 200 = .ok (.aload_n 2, 1) := by decide +kernel
theorem dL_law_201 : decode cL_law 201 = .ok (.invokevirtual 26, 3) := by decide +kernel
theorem dL_law_204 : decode cL_law 204 = .ok (.if_icmp .eq 803, 3) := by decide +kernel
theorem dL_law_207 : decode cL_law 207 = .ok (.iconst 0, 1) := by decide +kernel
theorem dL_law_208 : decode cL_law 208 = .ok (.ireturn, 1) := by decide +kernel
theorem dL_law_209 : decode cL_law 209 = .ok (.aload_n 1, 1) := by decide +kernel
theorem dL_law_210 : decode cL_law 210 = .ok (.invokevirtual 27, 3) := by decide +kernel
theorem dL_law_213 : decode cL_law 213 = .ok (.aload_n 2, 1) := by decide +kernel
theorem dL_law_214 : decode cL_law 214 = .ok (.invokevirtual 30, 3) := by decide +kernel
theorem dL_law_217 : decode cL_law 217 = .ok (.if_icmp .eq 790, 3) := by decide +kernel
theorem dL_law_220 : decode cL_law 220 = .ok (.iconst 0, 1) := by decide +kernel
theorem dL_law_221 : decode cL_law 221 = .ok (.ireturn, 1) := by decide +kernel
theorem dL_law_222 : decode cL_law 222 = .ok (.aload_n 1, 1) := by decide +kernel
theorem dL_law_223 : decode cL_law 223 = .ok (.aload_n 0, 1) := by decide +kernel
theorem dL_law_224 : decode cL_law 224 = .ok (.iload_n 3, 1) := by decide +kernel
theorem dL_law_225 : decode cL_law 225 = .ok (.iconst 1, 1) := by decide +kernel
theorem dL_law_226 : decode cL_law 226 = .ok (.iadd, 1) := by decide +kernel
theorem dL_law_227 : decode cL_law 227 = .ok (.iaload, 1) := by decide +kernel
theorem dL_law_228 : decode cL_law 228 = .ok (.invokevirtual 31, 3) := by decide +kernel
theorem dL_law_231 : decode cL_law 231 = .ok (.aload_n 2, 1) := by decide +kernel
theorem dL_law_232 : decode cL_law 232 = .ok (.aload_n 0, 1) := by decide +kernel
theorem dL_law_233 : decode cL_law 233 = .ok (.iload_n 3, 1) := by decide +kernel
theorem dL_law_234 : decode cL_law 234 = .ok (.iconst 1, 1) := by decide +kernel
theorem dL_law_235 : decode cL_law 235 = .ok (.iadd, 1) := by decide +kernel
theorem dL_law_236 : decode cL_law 236 = .ok (.iaload, 1) := by decide +kernel
theorem dL_law_237 : decode cL_law 237 = .ok (.invokevirtual 34, 3) := by decide +kernel
theorem dL_law_240 : decode cL_law 240 = .ok (.if_icmp .eq 767, 3) := by decide +kernel
theorem dL_law_243 : decode cL_law 243 = .ok (.iconst 0, 1) := by decide +kernel
theorem dL_law_244 : decode cL_law 244 = .ok (.ireturn, 1) := by decide +kernel
theorem dL_law_245 : decode cL_law 245 = .ok (.aload_n 1, 1) := by decide +kernel
theorem dL_law_246 : decode cL_law 246 = .ok (.aload_n 0, 1) := by decide +kernel
theorem dL_law_247 : decode cL_law 247 = .ok (.iload_n 3, 1) := by decide +kernel
theorem dL_law_248 : decode cL_law 248 = .ok (.iconst 1, 1) := by decide +kernel
theorem dL_law_249 : decode cL_law 249 = .ok (.iadd, 1) := by decide +kernel
theorem dL_law_250 : decode cL_law 250 = .ok (.iaload, 1) := by decide +kernel
theorem dL_law_251 : decode cL_law 251 = .ok (.aload_n 0, 1) := by decide +kernel
theorem dL_law_252 : decode cL_law 252 = .ok (.iload_n 3, 1) := by decide +kernel
theorem dL_law_253 : decode cL_law 253 = .ok (.iconst 2, 1) := by decide +kernel
theorem dL_law_254 : decode cL_law 254 = .ok (.iadd, 1) := by decide +kernel
theorem dL_law_255 : decode cL_law 255 = .ok (.iaload, 1) := by decide +kernel
theorem dL_law_256 : decode cL_law 256 = .ok (.invokevirtual 35, 3) := by decide +kernel
theorem dL_law_259 : decode cL_law 259 = .ok (.aload_n 2, 1) := by decide +kernel
theorem dL_law_260 : decode cL_law 260 = .ok (.aload_n 0, 1) := by decide +kernel
theorem dL_law_261 : decode cL_law 261 = .ok (.iload_n 3, 1) := by decide +kernel
theorem dL_law_262 : decode cL_law 262 = .ok (.iconst 1, 1) := by decide +kernel
theorem dL_law_263 : decode cL_law 263 = .ok (.iadd, 1) := by decide +kernel
theorem dL_law_264 : decode cL_law 264 = .ok (.iaload, 1) := by decide +kernel
theorem dL_law_265 : decode cL_law 265 = .ok (.aload_n 0, 1) := by decide +kernel
theorem dL_law_266 : decode cL_law 266 = .ok (.iload_n 3, 1) := by decide +kernel
theorem dL_law_267 : decode cL_law 267 = .ok (.iconst 2, 1) := by decide +kernel
theorem dL_law_268 : decode cL_law 268 = .ok (.iadd, 1) := by decide +kernel
theorem dL_law_269 : decode cL_law 269 = .ok (.iaload, 1) := by decide +kernel
theorem dL_law_270 : decode cL_law 270 = .ok (.invokevirtual 39, 3) := by decide +kernel
theorem dL_law_273 : decode cL_law 273 = .ok (.if_icmp .eq 734, 3) := by decide +kernel
theorem dL_law_276 : decode cL_law 276 = .ok (.iconst 0, 1) := by decide +kernel
theorem dL_law_277 : decode cL_law 277 = .ok (.ireturn, 1) := by decide +kernel
theorem dL_law_278 : decode cL_law 278 = .ok (.aload_n 1, 1) := by decide +kernel
theorem dL_law_279 : decode cL_law 279 = .ok (.aload_n 0, 1) := by decide +kernel
theorem dL_law_280 : decode cL_law 280 = .ok (.iload_n 3, 1) := by decide +kernel
theorem dL_law_281 : decode cL_law 281 = .ok (.iconst 1, 1) := by decide +kernel
theorem dL_law_282 : decode cL_law 282 = .ok (.iadd, 1) := by decide +kernel
theorem dL_law_283 : decode cL_law 283 = .ok (.iaload, 1) := by decide +kernel
theorem dL_law_284 : decode cL_law 284 = .ok (.aload_n 0, 1) := by decide +kernel
theorem dL_law_285 : decode cL_law 285 = .ok (.iload_n 3, 1) := by decide +kernel
theorem dL_law_286 : decode cL_law 286 = .ok (.iconst 2, 1) := by decide +kernel
theorem dL_law_287 : decode cL_law 287 = .ok (.iadd, 1) := by decide +kernel
theorem dL_law_288 : decode cL_law 288 = .ok (.iaload, 1) := by decide +kernel
theorem dL_law_289 : decode cL_law 289 = .ok (.invokevirtual 40, 3) := by decide +kernel
theorem dL_law_292 : decode cL_law 292 = .ok (.aload_n 2, 1) := by decide +kernel
theorem dL_law_293 : decode cL_law 293 = .ok (.aload_n 0, 1) := by decide +kernel
theorem dL_law_294 : decode cL_law 294 = .ok (.iload_n 3, 1) := by decide +kernel
theorem dL_law_295 : decode cL_law 295 = .ok (.iconst 1, 1) := by decide +kernel
theorem dL_law_296 : decode cL_law 296 = .ok (.iadd, 1) := by decide +kernel
theorem dL_law_297 : decode cL_law 297 = .ok (.iaload, 1) := by decide +kernel
theorem dL_law_298 : decode cL_law 298 = .ok (.aload_n 0, 1) := by decide +kernel
theorem dL_law_299 : decode cL_law 299 = .ok (.iload_n 3, 1) := by decide +kernel
theorem dL_law_300 : decode cL_law 300 = .ok (.iconst 2, 1) := by decide +kernel
theorem dL_law_301 : decode cL_law 301 = .ok (.iadd, 1) := by decide +kernel
theorem dL_law_302 : decode cL_law 302 = .ok (.iaload, 1) := by decide +kernel
theorem dL_law_303 : decode cL_law 303 = .ok (.invokevirtual 43, 3) := by decide +kernel
theorem dL_law_306 : decode cL_law 306 = .ok (.if_icmp .eq 701, 3) := by decide +kernel
theorem dL_law_309 : decode cL_law 309 = .ok (.iconst 0, 1) := by decide +kernel
theorem dL_law_310 : decode cL_law 310 = .ok (.ireturn, 1) := by decide +kernel
theorem dL_law_311 : decode cL_law 311 = .ok (.aload_n 1, 1) := by decide +kernel
theorem dL_law_312 : decode cL_law 312 = .ok (.aload_n 0, 1) := by decide +kernel
theorem dL_law_313 : decode cL_law 313 = .ok (.iload_n 3, 1) := by decide +kernel
theorem dL_law_314 : decode cL_law 314 = .ok (.iconst 1, 1) := by decide +kernel
theorem dL_law_315 : decode cL_law 315 = .ok (.iadd, 1) := by decide +kernel
theorem dL_law_316 : decode cL_law 316 = .ok (.iaload, 1) := by decide +kernel
theorem dL_law_317 : decode cL_law 317 = .ok (.aload_n 0, 1) := by decide +kernel
theorem dL_law_318 : decode cL_law 318 = .ok (.iload_n 3, 1) := by decide +kernel
theorem dL_law_319 : decode cL_law 319 = .ok (.iconst 2, 1) := by decide +kernel
theorem dL_law_320 : decode cL_law 320 = .ok (.iadd, 1) := by decide +kernel
theorem dL_law_321 : decode cL_law 321 = .ok (.iaload, 1) := by decide +kernel
theorem dL_law_322 : decode cL_law 322 = .ok (.invokevirtual 44, 3) := by decide +kernel
theorem dL_law_325 : decode cL_law 325 = .ok (.aload_n 2, 1) := by decide +kernel
theorem dL_law_326 : decode cL_law 326 = .ok (.aload_n 0, 1) := by decide +kernel
theorem dL_law_327 : decode cL_law 327 = .ok (.iload_n 3, 1) := by decide +kernel
theorem dL_law_328 : decode cL_law 328 = .ok (.iconst 1, 1) := by decide +kernel
theorem dL_law_329 : decode cL_law 329 = .ok (.iadd, 1) := by decide +kernel
theorem dL_law_330 : decode cL_law 330 = .ok (.iaload, 1) := by decide +kernel
theorem dL_law_331 : decode cL_law 331 = .ok (.aload_n 0, 1) := by decide +kernel
theorem dL_law_332 : decode cL_law 332 = .ok (.iload_n 3, 1) := by decide +kernel
theorem dL_law_333 : decode cL_law 333 = .ok (.iconst 2, 1) := by decide +kernel
theorem dL_law_334 : decode cL_law 334 = .ok (.iadd, 1) := by decide +kernel
theorem dL_law_335 : decode cL_law 335 = .ok (.iaload, 1) := by decide +kernel
theorem dL_law_336 : decode cL_law 336 = .ok (.invokevirtual 47, 3) := by decide +kernel
theorem dL_law_339 : decode cL_law 339 = .ok (.if_icmp .eq 668, 3) := by decide +kernel
theorem dL_law_342 : decode cL_law 342 = .ok (.iconst 0, 1) := by decide +kernel
theorem dL_law_343 : decode cL_law 343 = .ok (.ireturn, 1) := by decide +kernel
theorem dL_law_344 : decode cL_law 344 = .ok (.aload_n 1, 1) := by decide +kernel
theorem dL_law_345 : decode cL_law 345 = .ok (.aload_n 0, 1) := by decide +kernel
theorem dL_law_346 : decode cL_law 346 = .ok (.iload_n 3, 1) := by decide +kernel
theorem dL_law_347 : decode cL_law 347 = .ok (.iconst 1, 1) := by decide +kernel
theorem dL_law_348 : decode cL_law 348 = .ok (.iadd, 1) := by decide +kernel
theorem dL_law_349 : decode cL_law 349 = .ok (.iaload, 1) := by decide +kernel
theorem dL_law_350 : decode cL_law 350 = .ok (.invokevirtual 48, 3) := by decide +kernel
theorem dL_law_353 : decode cL_law 353 = .ok (.aload_n 2, 1) := by decide +kernel
theorem dL_law_354 : decode cL_law 354 = .ok (.aload_n 0, 1) := by decide +kernel
theorem dL_law_355 : decode cL_law 355 = .ok (.iload_n 3, 1) := by decide +kernel
theorem dL_law_356 : decode cL_law 356 = .ok (.iconst 1, 1) := by decide +kernel
theorem dL_law_357 : decode cL_law 357 = .ok (.iadd, 1) := by decide +kernel
theorem dL_law_358 : decode cL_law 358 = .ok (.iaload, 1) := by decide +kernel
theorem dL_law_359 : decode cL_law 359 = .ok (.invokevirtual 51, 3) := by decide +kernel
theorem dL_law_362 : decode cL_law 362 = .ok (.if_icmp .eq 645, 3) := by decide +kernel
theorem dL_law_365 : decode cL_law 365 = .ok (.iconst 0, 1) := by decide +kernel
theorem dL_law_366 : decode cL_law 366 = .ok (.ireturn, 1) := by decide +kernel
theorem dL_law_367 : decode cL_law 367 = .ok (.aload_n 1, 1) := by decide +kernel
theorem dL_law_368 : decode cL_law 368 = .ok (.aload_n 0, 1) := by decide +kernel
theorem dL_law_369 : decode cL_law 369 = .ok (.iload_n 3, 1) := by decide +kernel
theorem dL_law_370 : decode cL_law 370 = .ok (.iconst 1, 1) := by decide +kernel
theorem dL_law_371 : decode cL_law 371 = .ok (.iadd, 1) := by decide +kernel
theorem dL_law_372 : decode cL_law 372 = .ok (.iaload, 1) := by decide +kernel
theorem dL_law_373 : decode cL_law 373 = .ok (.invokevirtual 52, 3) := by decide +kernel
theorem dL_law_376 : decode cL_law 376 = .ok (.aload_n 2, 1) := by decide +kernel
theorem dL_law_377 : decode cL_law 377 = .ok (.aload_n 0, 1) := by decide +kernel
theorem dL_law_378 : decode cL_law 378 = .ok (.iload_n 3, 1) := by decide +kernel
theorem dL_law_379 : decode cL_law 379 = .ok (.iconst 1, 1) := by decide +kernel
theorem dL_law_380 : decode cL_law 380 = .ok (.iadd, 1) := by decide +kernel
theorem dL_law_381 : decode cL_law 381 = .ok (.iaload, 1) := by decide +kernel
theorem dL_law_382 : decode cL_law 382 = .ok (.invokevirtual 55, 3) := by decide +kernel
theorem dL_law_385 : decode cL_law 385 = .ok (.if_icmp .eq 622, 3) := by decide +kernel
theorem dL_law_388 : decode cL_law 388 = .ok (.iconst 0, 1) := by decide +kernel
theorem dL_law_389 : decode cL_law 389 = .ok (.ireturn, 1) := by decide +kernel
theorem dL_law_390 : decode cL_law 390 = .ok (.aload_n 1, 1) := by decide +kernel
theorem dL_law_391 : decode cL_law 391 = .ok (.aload_n 0, 1) := by decide +kernel
theorem dL_law_392 : decode cL_law 392 = .ok (.iload_n 3, 1) := by decide +kernel
theorem dL_law_393 : decode cL_law 393 = .ok (.iconst 1, 1) := by decide +kernel
theorem dL_law_394 : decode cL_law 394 = .ok (.iadd, 1) := by decide +kernel
theorem dL_law_395 : decode cL_law 395 = .ok (.iaload, 1) := by decide +kernel
theorem dL_law_396 : decode cL_law 396 = .ok (.invokevirtual 56, 3) := by decide +kernel
theorem dL_law_399 : decode cL_law 399 = .ok (.aload_n 2, 1) := by decide +kernel
theorem dL_law_400 : decode cL_law 400 = .ok (.aload_n 0, 1) := by decide +kernel
theorem dL_law_401 : decode cL_law 401 = .ok (.iload_n 3, 1) := by decide +kernel
theorem dL_law_402 : decode cL_law 402 = .ok (.iconst 1, 1) := by decide +kernel
theorem dL_law_403 : decode cL_law 403 = .ok (.iadd, 1) := by decide +kernel
theorem dL_law_404 : decode cL_law 404 = .ok (.iaload, 1) := by decide +kernel
theorem dL_law_405 : decode cL_law 405 = .ok (.invokevirtual 59, 3) := by decide +kernel
theorem dL_law_408 : decode cL_law 408 = .ok (.if_icmp .eq 599, 3) := by decide +kernel
theorem dL_law_411 : decode cL_law 411 = .ok (.iconst 0, 1) := by decide +kernel
theorem dL_law_412 : decode cL_law 412 = .ok (.ireturn, 1) := by decide +kernel
theorem dL_law_413 : decode cL_law 413 = .ok (.aload_n 1, 1) := by decide +kernel
theorem dL_law_414 : decode cL_law 414 = .ok (.aload_n 0, 1) := by decide +kernel
theorem dL_law_415 : decode cL_law 415 = .ok (.iload_n 3, 1) := by decide +kernel
theorem dL_law_416 : decode cL_law 416 = .ok (.iconst 1, 1) := by decide +kernel
theorem dL_law_417 : decode cL_law 417 = .ok (.iadd, 1) := by decide +kernel
theorem dL_law_418 : decode cL_law 418 = .ok (.iaload, 1) := by decide +kernel
theorem dL_law_419 : decode cL_law 419 = .ok (.aload_n 0, 1) := by decide +kernel
theorem dL_law_420 : decode cL_law 420 = .ok (.iload_n 3, 1) := by decide +kernel
theorem dL_law_421 : decode cL_law 421 = .ok (.iconst 2, 1) := by decide +kernel
theorem dL_law_422 : decode cL_law 422 = .ok (.iadd, 1) := by decide +kernel
theorem dL_law_423 : decode cL_law 423 = .ok (.iaload, 1) := by decide +kernel
theorem dL_law_424 : decode cL_law 424 = .ok (.invokevirtual 60, 3) := by decide +kernel
theorem dL_law_427 : decode cL_law 427 = .ok (.aload_n 2, 1) := by decide +kernel
theorem dL_law_428 : decode cL_law 428 = .ok (.aload_n 0, 1) := by decide +kernel
theorem dL_law_429 : decode cL_law 429 = .ok (.iload_n 3, 1) := by decide +kernel
theorem dL_law_430 : decode cL_law 430 = .ok (.iconst 1, 1) := by decide +kernel
theorem dL_law_431 : decode cL_law 431 = .ok (.iadd, 1) := by decide +kernel
theorem dL_law_432 : decode cL_law 432 = .ok (.iaload, 1) := by decide +kernel
theorem dL_law_433 : decode cL_law 433 = .ok (.aload_n 0, 1) := by decide +kernel
theorem dL_law_434 : decode cL_law 434 = .ok (.iload_n 3, 1) := by decide +kernel
theorem dL_law_435 : decode cL_law 435 = .ok (.iconst 2, 1) := by decide +kernel
theorem dL_law_436 : decode cL_law 436 = .ok (.iadd, 1) := by decide +kernel
theorem dL_law_437 : decode cL_law 437 = .ok (.iaload, 1) := by decide +kernel
theorem dL_law_438 : decode cL_law 438 = .ok (.invokevirtual 63, 3) := by decide +kernel
theorem dL_law_441 : decode cL_law 441 = .ok (.if_icmp .eq 566, 3) := by decide +kernel
theorem dL_law_444 : decode cL_law 444 = .ok (.iconst 0, 1) := by decide +kernel
theorem dL_law_445 : decode cL_law 445 = .ok (.ireturn, 1) := by decide +kernel
theorem dL_law_446 : decode cL_law 446 = .ok (.aload_n 1, 1) := by decide +kernel
theorem dL_law_447 : decode cL_law 447 = .ok (.aload_n 0, 1) := by decide +kernel
theorem dL_law_448 : decode cL_law 448 = .ok (.iload_n 3, 1) := by decide +kernel
theorem dL_law_449 : decode cL_law 449 = .ok (.iconst 1, 1) := by decide +kernel
theorem dL_law_450 : decode cL_law 450 = .ok (.iadd, 1) := by decide +kernel
theorem dL_law_451 : decode cL_law 451 = .ok (.iaload, 1) := by decide +kernel
theorem dL_law_452 : decode cL_law 452 = .ok (.aload_n 0, 1) := by decide +kernel
theorem dL_law_453 : decode cL_law 453 = .ok (.iload_n 3, 1) := by decide +kernel
theorem dL_law_454 : decode cL_law 454 = .ok (.iconst 2, 1) := by decide +kernel
theorem dL_law_455 : decode cL_law 455 = .ok (.iadd, 1) := by decide +kernel
theorem dL_law_456 : decode cL_law 456 = .ok (.iaload, 1) := by decide +kernel
theorem dL_law_457 : decode cL_law 457 = .ok (.invokevirtual 64, 3) := by decide +kernel
theorem dL_law_460 : decode cL_law 460 = .ok (.aload_n 2, 1) := by decide +kernel
theorem dL_law_461 : decode cL_law 461 = .ok (.aload_n 0, 1) := by decide +kernel
theorem dL_law_462 : decode cL_law 462 = .ok (.iload_n 3, 1) := by decide +kernel
theorem dL_law_463 : decode cL_law 463 = .ok (.iconst 1, 1) := by decide +kernel
theorem dL_law_464 : decode cL_law 464 = .ok (.iadd, 1) := by decide +kernel
theorem dL_law_465 : decode cL_law 465 = .ok (.iaload, 1) := by decide +kernel
theorem dL_law_466 : decode cL_law 466 = .ok (.aload_n 0, 1) := by decide +kernel
theorem dL_law_467 : decode cL_law 467 = .ok (.iload_n 3, 1) := by decide +kernel
theorem dL_law_468 : decode cL_law 468 = .ok (.iconst 2, 1) := by decide +kernel
theorem dL_law_469 : decode cL_law 469 = .ok (.iadd, 1) := by decide +kernel
theorem dL_law_470 : decode cL_law 470 = .ok (.iaload, 1) := by decide +kernel
theorem dL_law_471 : decode cL_law 471 = .ok (.invokevirtual 67, 3) := by decide +kernel
theorem dL_law_474 : decode cL_law 474 = .ok (.if_icmp .eq 533, 3) := by decide +kernel
theorem dL_law_477 : decode cL_law 477 = .ok (.iconst 0, 1) := by decide +kernel
theorem dL_law_478 : decode cL_law 478 = .ok (.ireturn, 1) := by decide +kernel
theorem dL_law_479 : decode cL_law 479 = .ok (.aload_n 1, 1) := by decide +kernel
theorem dL_law_480 : decode cL_law 480 = .ok (.invokevirtual 68, 3) := by decide +kernel
theorem dL_law_483 : decode cL_law 483 = .ok (.aload_n 2, 1) := by decide +kernel
theorem dL_law_484 : decode cL_law 484 = .ok (.invokevirtual 71, 3) := by decide +kernel
theorem dL_law_487 : decode cL_law 487 = .ok (.if_icmp .eq 520, 3) := by decide +kernel
theorem dL_law_490 : decode cL_law 490 = .ok (.iconst 0, 1) := by decide +kernel
theorem dL_law_491 : decode cL_law 491 = .ok (.ireturn, 1) := by decide +kernel
theorem dL_law_492 : decode cL_law 492 = .ok (.aload_n 1, 1) := by decide +kernel
theorem dL_law_493 : decode cL_law 493 = .ok (.aload_n 0, 1) := by decide +kernel
theorem dL_law_494 : decode cL_law 494 = .ok (.iload_n 3, 1) := by decide +kernel
theorem dL_law_495 : decode cL_law 495 = .ok (.iconst 1, 1) := by decide +kernel
theorem dL_law_496 : decode cL_law 496 = .ok (.iadd, 1) := by decide +kernel
theorem dL_law_497 : decode cL_law 497 = .ok (.iaload, 1) := by decide +kernel
theorem dL_law_498 : decode cL_law 498 = .ok (.aload_n 0, 1) := by decide +kernel
theorem dL_law_499 : decode cL_law 499 = .ok (.iload_n 3, 1) := by decide +kernel
theorem dL_law_500 : decode cL_law 500 = .ok (.iconst 2, 1) := by decide +kernel
theorem dL_law_501 : decode cL_law 501 = .ok (.iadd, 1) := by decide +kernel
theorem dL_law_502 : decode cL_law 502 = .ok (.iaload, 1) := by decide +kernel
theorem dL_law_503 : decode cL_law 503 = .ok (.invokevirtual 72, 3) := by decide +kernel
theorem dL_law_506 : decode cL_law 506 = .ok (.aload_n 2, 1) := by decide +kernel
theorem dL_law_507 : decode cL_law 507 = .ok (.aload_n 0, 1) := by decide +kernel
theorem dL_law_508 : decode cL_law 508 = .ok (.iload_n 3, 1) := by decide +kernel
theorem dL_law_509 : decode cL_law 509 = .ok (.iconst 1, 1) := by decide +kernel
theorem dL_law_510 : decode cL_law 510 = .ok (.iadd, 1) := by decide +kernel
theorem dL_law_511 : decode cL_law 511 = .ok (.iaload, 1) := by decide +kernel
theorem dL_law_512 : decode cL_law 512 = .ok (.aload_n 0, 1) := by decide +kernel
theorem dL_law_513 : decode cL_law 513 = .ok (.iload_n 3, 1) := by decide +kernel
theorem dL_law_514 : decode cL_law 514 = .ok (.iconst 2, 1) := by decide +kernel
theorem dL_law_515 : decode cL_law 515 = .ok (.iadd, 1) := by decide +kernel
theorem dL_law_516 : decode cL_law 516 = .ok (.iaload, 1) := by decide +kernel
theorem dL_law_517 : decode cL_law 517 = .ok (.invokevirtual 75, 3) := by decide +kernel
theorem dL_law_520 : decode cL_law 520 = .ok (.if_icmp .eq 487, 3) := by decide +kernel
theorem dL_law_523 : decode cL_law 523 = .ok (.iconst 0, 1) := by decide +kernel
theorem dL_law_524 : decode cL_law 524 = .ok (.ireturn, 1) := by decide +kernel
theorem dL_law_525 : decode cL_law 525 = .ok (.aload_n 1, 1) := by decide +kernel
theorem dL_law_526 : decode cL_law 526 = .ok (.aload_n 0, 1) := by decide +kernel
theorem dL_law_527 : decode cL_law 527 = .ok (.iload_n 3, 1) := by decide +kernel
theorem dL_law_528 : decode cL_law 528 = .ok (.iconst 1, 1) := by decide +kernel
theorem dL_law_529 : decode cL_law 529 = .ok (.iadd, 1) := by decide +kernel
theorem dL_law_530 : decode cL_law 530 = .ok (.iaload, 1) := by decide +kernel
theorem dL_law_531 : decode cL_law 531 = .ok (.invokevirtual 76, 3) := by decide +kernel
theorem dL_law_534 : decode cL_law 534 = .ok (.aload_n 2, 1) := by decide +kernel
theorem dL_law_535 : decode cL_law 535 = .ok (.aload_n 0, 1) := by decide +kernel
theorem dL_law_536 : decode cL_law 536 = .ok (.iload_n 3, 1) := by decide +kernel
theorem dL_law_537 : decode cL_law 537 = .ok (.iconst 1, 1) := by decide +kernel
theorem dL_law_538 : decode cL_law 538 = .ok (.iadd, 1) := by decide +kernel
theorem dL_law_539 : decode cL_law 539 = .ok (.iaload, 1) := by decide +kernel
theorem dL_law_540 : decode cL_law 540 = .ok (.invokevirtual 79, 3) := by decide +kernel
theorem dL_law_543 : decode cL_law 543 = .ok (.if_icmp .eq 464, 3) := by decide +kernel
theorem dL_law_546 : decode cL_law 546 = .ok (.iconst 0, 1) := by decide +kernel
theorem dL_law_547 : decode cL_law 547 = .ok (.ireturn, 1) := by decide +kernel
theorem dL_law_548 : decode cL_law 548 = .ok (.aload_n 1, 1) := by decide +kernel
theorem dL_law_549 : decode cL_law 549 = .ok (.aload_n 0, 1) := by decide +kernel
theorem dL_law_550 : decode cL_law 550 = .ok (.iload_n 3, 1) := by decide +kernel
theorem dL_law_551 : decode cL_law 551 = .ok (.iconst 1, 1) := by decide +kernel
theorem dL_law_552 : decode cL_law 552 = .ok (.iadd, 1) := by decide +kernel
theorem dL_law_553 : decode cL_law 553 = .ok (.iaload, 1) := by decide +kernel
theorem dL_law_554 : decode cL_law 554 = .ok (.aload_n 0, 1) := by decide +kernel
theorem dL_law_555 : decode cL_law 555 = .ok (.iload_n 3, 1) := by decide +kernel
theorem dL_law_556 : decode cL_law 556 = .ok (.iconst 2, 1) := by decide +kernel
theorem dL_law_557 : decode cL_law 557 = .ok (.iadd, 1) := by decide +kernel
theorem dL_law_558 : decode cL_law 558 = .ok (.iaload, 1) := by decide +kernel
theorem dL_law_559 : decode cL_law 559 = .ok (.i2l, 1) := by decide +kernel
theorem dL_law_560 : decode cL_law 560 = .ok (.bipush 32, 2) := by decide +kernel
theorem dL_law_562 : decode cL_law 562 = .ok (.lshl, 1) := by decide +kernel
theorem dL_law_563 : decode cL_law 563 = .ok (.aload_n 0, 1) := by decide +kernel
theorem dL_law_564 : decode cL_law 564 = .ok (.iload_n 3, 1) := by decide +kernel
theorem dL_law_565 : decode cL_law 565 = .ok (.iconst 3, 1) := by decide +kernel
theorem dL_law_566 : decode cL_law 566 = .ok (.iadd, 1) := by decide +kernel
theorem dL_law_567 : decode cL_law 567 = .ok (.iaload, 1) := by decide +kernel
theorem dL_law_568 : decode cL_law 568 = .ok (.i2l, 1) := by decide +kernel
theorem dL_law_569 : decode cL_law 569 = .ok (.ldc2_w 80, 3) := by decide +kernel
theorem dL_law_572 : decode cL_law 572 = .ok (.land, 1) := by decide +kernel
theorem dL_law_573 : decode cL_law 573 = .ok (.lor, 1) := by decide +kernel
theorem dL_law_574 : decode cL_law 574 = .ok (.invokevirtual 82, 3) := by decide +kernel
theorem dL_law_577 : decode cL_law 577 = .ok (.aload_n 2, 1) := by decide +kernel
theorem dL_law_578 : decode cL_law 578 = .ok (.aload_n 0, 1) := by decide +kernel
theorem dL_law_579 : decode cL_law 579 = .ok (.iload_n 3, 1) := by decide +kernel
theorem dL_law_580 : decode cL_law 580 = .ok (.iconst 1, 1) := by decide +kernel
theorem dL_law_581 : decode cL_law 581 = .ok (.iadd, 1) := by decide +kernel
theorem dL_law_582 : decode cL_law 582 = .ok (.iaload, 1) := by decide +kernel
theorem dL_law_583 : decode cL_law 583 = .ok (.aload_n 0, 1) := by decide +kernel
theorem dL_law_584 : decode cL_law 584 = .ok (.iload_n 3, 1) := by decide +kernel
theorem dL_law_585 : decode cL_law 585 = .ok (.iconst 2, 1) := by decide +kernel
theorem dL_law_586 : decode cL_law 586 = .ok (.iadd, 1) := by decide +kernel
theorem dL_law_587 : decode cL_law 587 = .ok (.iaload, 1) := by decide +kernel
theorem dL_law_588 : decode cL_law 588 = .ok (.i2l, 1) := by decide +kernel
theorem dL_law_589 : decode cL_law 589 = .ok (.bipush 32, 2) := by decide +kernel
theorem dL_law_591 : decode cL_law 591 = .ok (.lshl, 1) := by decide +kernel
theorem dL_law_592 : decode cL_law 592 = .ok (.aload_n 0, 1) := by decide +kernel
theorem dL_law_593 : decode cL_law 593 = .ok (.iload_n 3, 1) := by decide +kernel
theorem dL_law_594 : decode cL_law 594 = .ok (.iconst 3, 1) := by decide +kernel
theorem dL_law_595 : decode cL_law 595 = .ok (.iadd, 1) := by decide +kernel
theorem dL_law_596 : decode cL_law 596 = .ok (.iaload, 1) := by decide +kernel
theorem dL_law_597 : decode cL_law 597 = .ok (.i2l, 1) := by decide +kernel
theorem dL_law_598 : decode cL_law 598 = .ok (.ldc2_w 80, 3) := by decide +kernel
theorem dL_law_601 : decode cL_law 601 = .ok (.land, 1) := by decide +kernel
theorem dL_law_602 : decode cL_law 602 = .ok (.lor, 1) := by decide +kernel
theorem dL_law_603 : decode cL_law 603 = .ok (.invokevirtual 86, 3) := by decide +kernel
theorem dL_law_606 : decode cL_law 606 = .ok (.if_icmp .eq 401, 3) := by decide +kernel
theorem dL_law_609 : decode cL_law 609 = .ok (.iconst 0, 1) := by decide +kernel
theorem dL_law_610 : decode cL_law 610 = .ok (.ireturn, 1) := by decide +kernel
theorem dL_law_611 : decode cL_law 611 = .ok (.aload_n 1, 1) := by decide +kernel
theorem dL_law_612 : decode cL_law 612 = .ok (.aload_n 0, 1) := by decide +kernel
theorem dL_law_613 : decode cL_law 613 = .ok (.iload_n 3, 1) := by decide +kernel
theorem dL_law_614 : decode cL_law 614 = .ok (.iconst 1, 1) := by decide +kernel
theorem dL_law_615 : decode cL_law 615 = .ok (.iadd, 1) := by decide +kernel
theorem dL_law_616 : decode cL_law 616 = .ok (.iaload, 1) := by decide +kernel
theorem dL_law_617 : decode cL_law 617 = .ok (.aload_n 0, 1) := by decide +kernel
theorem dL_law_618 : decode cL_law 618 = .ok (.iload_n 3, 1) := by decide +kernel
theorem dL_law_619 : decode cL_law 619 = .ok (.iconst 2, 1) := by decide +kernel
theorem dL_law_620 : decode cL_law 620 = .ok (.iadd, 1) := by decide +kernel
theorem dL_law_621 : decode cL_law 621 = .ok (.iaload, 1) := by decide +kernel
theorem dL_law_622 : decode cL_law 622 = .ok (.aload_n 0, 1) := by decide +kernel
theorem dL_law_623 : decode cL_law 623 = .ok (.iload_n 3, 1) := by decide +kernel
theorem dL_law_624 : decode cL_law 624 = .ok (.iconst 3, 1) := by decide +kernel
theorem dL_law_625 : decode cL_law 625 = .ok (.iadd, 1) := by decide +kernel
theorem dL_law_626 : decode cL_law 626 = .ok (.iaload, 1) := by decide +kernel
theorem dL_law_627 : decode cL_law 627 = .ok (.invokevirtual 87, 3) := by decide +kernel
theorem dL_law_630 : decode cL_law 630 = .ok (.aload_n 2, 1) := by decide +kernel
theorem dL_law_631 : decode cL_law 631 = .ok (.aload_n 0, 1) := by decide +kernel
theorem dL_law_632 : decode cL_law 632 = .ok (.iload_n 3, 1) := by decide +kernel
theorem dL_law_633 : decode cL_law 633 = .ok (.iconst 1, 1) := by decide +kernel
theorem dL_law_634 : decode cL_law 634 = .ok (.iadd, 1) := by decide +kernel
theorem dL_law_635 : decode cL_law 635 = .ok (.iaload, 1) := by decide +kernel
theorem dL_law_636 : decode cL_law 636 = .ok (.aload_n 0, 1) := by decide +kernel
theorem dL_law_637 : decode cL_law 637 = .ok (.iload_n 3, 1) := by decide +kernel
theorem dL_law_638 : decode cL_law 638 = .ok (.iconst 2, 1) := by decide +kernel
theorem dL_law_639 : decode cL_law 639 = .ok (.iadd, 1) := by decide +kernel
theorem dL_law_640 : decode cL_law 640 = .ok (.iaload, 1) := by decide +kernel
theorem dL_law_641 : decode cL_law 641 = .ok (.aload_n 0, 1) := by decide +kernel
theorem dL_law_642 : decode cL_law 642 = .ok (.iload_n 3, 1) := by decide +kernel
theorem dL_law_643 : decode cL_law 643 = .ok (.iconst 3, 1) := by decide +kernel
theorem dL_law_644 : decode cL_law 644 = .ok (.iadd, 1) := by decide +kernel
theorem dL_law_645 : decode cL_law 645 = .ok (.iaload, 1) := by decide +kernel
theorem dL_law_646 : decode cL_law 646 = .ok (.invokevirtual 91, 3) := by decide +kernel
theorem dL_law_649 : decode cL_law 649 = .ok (.if_icmp .eq 358, 3) := by decide +kernel
theorem dL_law_652 : decode cL_law 652 = .ok (.iconst 0, 1) := by decide +kernel
theorem dL_law_653 : decode cL_law 653 = .ok (.ireturn, 1) := by decide +kernel
theorem dL_law_654 : decode cL_law 654 = .ok (.aload_n 1, 1) := by decide +kernel
theorem dL_law_655 : decode cL_law 655 = .ok (.aload_n 0, 1) := by decide +kernel
theorem dL_law_656 : decode cL_law 656 = .ok (.iload_n 3, 1) := by decide +kernel
theorem dL_law_657 : decode cL_law 657 = .ok (.iconst 1, 1) := by decide +kernel
theorem dL_law_658 : decode cL_law 658 = .ok (.iadd, 1) := by decide +kernel
theorem dL_law_659 : decode cL_law 659 = .ok (.iaload, 1) := by decide +kernel
theorem dL_law_660 : decode cL_law 660 = .ok (.aload_n 0, 1) := by decide +kernel
theorem dL_law_661 : decode cL_law 661 = .ok (.iload_n 3, 1) := by decide +kernel
theorem dL_law_662 : decode cL_law 662 = .ok (.iconst 2, 1) := by decide +kernel
theorem dL_law_663 : decode cL_law 663 = .ok (.iadd, 1) := by decide +kernel
theorem dL_law_664 : decode cL_law 664 = .ok (.iaload, 1) := by decide +kernel
theorem dL_law_665 : decode cL_law 665 = .ok (.i2l, 1) := by decide +kernel
theorem dL_law_666 : decode cL_law 666 = .ok (.bipush 32, 2) := by decide +kernel
theorem dL_law_668 : decode cL_law 668 = .ok (.lshl, 1) := by decide +kernel
theorem dL_law_669 : decode cL_law 669 = .ok (.aload_n 0, 1) := by decide +kernel
theorem dL_law_670 : decode cL_law 670 = .ok (.iload_n 3, 1) := by decide +kernel
theorem dL_law_671 : decode cL_law 671 = .ok (.iconst 3, 1) := by decide +kernel
theorem dL_law_672 : decode cL_law 672 = .ok (.iadd, 1) := by decide +kernel
theorem dL_law_673 : decode cL_law 673 = .ok (.iaload, 1) := by decide +kernel
theorem dL_law_674 : decode cL_law 674 = .ok (.i2l, 1) := by decide +kernel
theorem dL_law_675 : decode cL_law 675 = .ok (.ldc2_w 80, 3) := by decide +kernel
theorem dL_law_678 : decode cL_law 678 = .ok (.land, 1) := by decide +kernel
theorem dL_law_679 : decode cL_law 679 = .ok (.lor, 1) := by decide +kernel
theorem dL_law_680 : decode cL_law 680 = .ok (.invokevirtual 92, 3) := by decide +kernel
theorem dL_law_683 : decode cL_law 683 = .ok (.aload_n 2, 1) := by decide +kernel
theorem dL_law_684 : decode cL_law 684 = .ok (.aload_n 0, 1) := by decide +kernel
theorem dL_law_685 : decode cL_law 685 = .ok (.iload_n 3, 1) := by decide +kernel
theorem dL_law_686 : decode cL_law 686 = .ok (.iconst 1, 1) := by decide +kernel
theorem dL_law_687 : decode cL_law 687 = .ok (.iadd, 1) := by decide +kernel
theorem dL_law_688 : decode cL_law 688 = .ok (.iaload, 1) := by decide +kernel
theorem dL_law_689 : decode cL_law 689 = .ok (.aload_n 0, 1) := by decide +kernel
theorem dL_law_690 : decode cL_law 690 = .ok (.iload_n 3, 1) := by decide +kernel
theorem dL_law_691 : decode cL_law 691 = .ok (.iconst 2, 1) := by decide +kernel
theorem dL_law_692 : decode cL_law 692 = .ok (.iadd, 1) := by decide +kernel
theorem dL_law_693 : decode cL_law 693 = .ok (.iaload, 1) := by decide +kernel
theorem dL_law_694 : decode cL_law 694 = .ok (.i2l, 1) := by decide +kernel
theorem dL_law_695 : decode cL_law 695 = .ok (.bipush 32, 2) := by decide +kernel
theorem dL_law_697 : decode cL_law 697 = .ok (.lshl, 1) := by decide +kernel
theorem dL_law_698 : decode cL_law 698 = .ok (.aload_n 0, 1) := by decide +kernel
theorem dL_law_699 : decode cL_law 699 = .ok (.iload_n 3, 1) := by decide +kernel
theorem dL_law_700 : decode cL_law 700 = .ok (.iconst 3, 1) := by decide +kernel
theorem dL_law_701 : decode cL_law 701 = .ok (.iadd, 1) := by decide +kernel
theorem dL_law_702 : decode cL_law 702 = .ok (.iaload, 1) := by decide +kernel
theorem dL_law_703 : decode cL_law 703 = .ok (.i2l, 1) := by decide +kernel
theorem dL_law_704 : decode cL_law 704 = .ok (.ldc2_w 80, 3) := by decide +kernel
theorem dL_law_707 : decode cL_law 707 = .ok (.land, 1) := by decide +kernel
theorem dL_law_708 : decode cL_law 708 = .ok (.lor, 1) := by decide +kernel
theorem dL_law_709 : decode cL_law 709 = .ok (.invokevirtual 95, 3) := by decide +kernel
theorem dL_law_712 : decode cL_law 712 = .ok (.if_icmp .eq 295, 3) := by decide +kernel
theorem dL_law_715 : decode cL_law 715 = .ok (.iconst 0, 1) := by decide +kernel
theorem dL_law_716 : decode cL_law 716 = .ok (.ireturn, 1) := by decide +kernel
theorem dL_law_717 : decode cL_law 717 = .ok (.aload_n 1, 1) := by decide +kernel
theorem dL_law_718 : decode cL_law 718 = .ok (.aload_n 0, 1) := by decide +kernel
theorem dL_law_719 : decode cL_law 719 = .ok (.iload_n 3, 1) := by decide +kernel
theorem dL_law_720 : decode cL_law 720 = .ok (.iconst 1, 1) := by decide +kernel
theorem dL_law_721 : decode cL_law 721 = .ok (.iadd, 1) := by decide +kernel
theorem dL_law_722 : decode cL_law 722 = .ok (.iaload, 1) := by decide +kernel
theorem dL_law_723 : decode cL_law 723 = .ok (.aload_n 0, 1) := by decide +kernel
theorem dL_law_724 : decode cL_law 724 = .ok (.iload_n 3, 1) := by decide +kernel
theorem dL_law_725 : decode cL_law 725 = .ok (.iconst 2, 1) := by decide +kernel
theorem dL_law_726 : decode cL_law 726 = .ok (.iadd, 1) := by decide +kernel
theorem dL_law_727 : decode cL_law 727 = .ok (.iaload, 1) := by decide +kernel
theorem dL_law_728 : decode cL_law 728 = .ok (.invokevirtual 96, 3) := by decide +kernel
theorem dL_law_731 : decode cL_law 731 = .ok (.aload_n 2, 1) := by decide +kernel
theorem dL_law_732 : decode cL_law 732 = .ok (.aload_n 0, 1) := by decide +kernel
theorem dL_law_733 : decode cL_law 733 = .ok (.iload_n 3, 1) := by decide +kernel
theorem dL_law_734 : decode cL_law 734 = .ok (.iconst 1, 1) := by decide +kernel
theorem dL_law_735 : decode cL_law 735 = .ok (.iadd, 1) := by decide +kernel
theorem dL_law_736 : decode cL_law 736 = .ok (.iaload, 1) := by decide +kernel
theorem dL_law_737 : decode cL_law 737 = .ok (.aload_n 0, 1) := by decide +kernel
theorem dL_law_738 : decode cL_law 738 = .ok (.iload_n 3, 1) := by decide +kernel
theorem dL_law_739 : decode cL_law 739 = .ok (.iconst 2, 1) := by decide +kernel
theorem dL_law_740 : decode cL_law 740 = .ok (.iadd, 1) := by decide +kernel
theorem dL_law_741 : decode cL_law 741 = .ok (.iaload, 1) := by decide +kernel
theorem dL_law_742 : decode cL_law 742 = .ok (.invokevirtual 99, 3) := by decide +kernel
theorem dL_law_745 : decode cL_law 745 = .ok (.if_icmp .eq 262, 3) := by decide +kernel
theorem dL_law_748 : decode cL_law 748 = .ok (.iconst 0, 1) := by decide +kernel
theorem dL_law_749 : decode cL_law 749 = .ok (.ireturn, 1) := by decide +kernel
theorem dL_law_750 : decode cL_law 750 = .ok (.aload_n 1, 1) := by decide +kernel
theorem dL_law_751 : decode cL_law 751 = .ok (.invokevirtual 100, 3) := by decide +kernel
theorem dL_law_754 : decode cL_law 754 = .ok (.aload_n 2, 1) := by decide +kernel
theorem dL_law_755 : decode cL_law 755 = .ok (.invokevirtual 103, 3) := by decide +kernel
theorem dL_law_758 : decode cL_law 758 = .ok (.if_icmp .eq 249, 3) := by decide +kernel
theorem dL_law_761 : decode cL_law 761 = .ok (.iconst 0, 1) := by decide +kernel
theorem dL_law_762 : decode cL_law 762 = .ok (.ireturn, 1) := by decide +kernel
theorem dL_law_763 : decode cL_law 763 = .ok (.aload_n 1, 1) := by decide +kernel
theorem dL_law_764 : decode cL_law 764 = .ok (.invokevirtual 104, 3) := by decide +kernel
theorem dL_law_767 : decode cL_law 767 = .ok (.aload_n 2, 1) := by decide +kernel
theorem dL_law_768 : decode cL_law 768 = .ok (.invokevirtual 107, 3) := by decide +kernel
theorem dL_law_771 : decode cL_law 771 = .ok (.if_icmp .eq 236, 3) := by decide +kernel
theorem dL_law_774 : decode cL_law 774 = .ok (.iconst 0, 1) := by decide +kernel
theorem dL_law_775 : decode cL_law 775 = .ok (.ireturn, 1) := by decide +kernel
theorem dL_law_776 : decode cL_law 776 = .ok (.aload_n 1, 1) := by decide +kernel
theorem dL_law_777 : decode cL_law 777 = .ok (.aload_n 0, 1) := by decide +kernel
theorem dL_law_778 : decode cL_law 778 = .ok (.iload_n 3, 1) := by decide +kernel
theorem dL_law_779 : decode cL_law 779 = .ok (.iconst 1, 1) := by decide +kernel
theorem dL_law_780 : decode cL_law 780 = .ok (.iadd, 1) := by decide +kernel
theorem dL_law_781 : decode cL_law 781 = .ok (.iaload, 1) := by decide +kernel
theorem dL_law_782 : decode cL_law 782 = .ok (.aload_n 0, 1) := by decide +kernel
theorem dL_law_783 : decode cL_law 783 = .ok (.iload_n 3, 1) := by decide +kernel
theorem dL_law_784 : decode cL_law 784 = .ok (.iconst 2, 1) := by decide +kernel
theorem dL_law_785 : decode cL_law 785 = .ok (.iadd, 1) := by decide +kernel
theorem dL_law_786 : decode cL_law 786 = .ok (.iaload, 1) := by decide +kernel
theorem dL_law_787 : decode cL_law 787 = .ok (.ifCond .eq 7, 3) := by decide +kernel
theorem dL_law_790 : decode cL_law 790 = .ok (.iconst 1, 1) := by decide +kernel
theorem dL_law_791 : decode cL_law 791 = .ok (.goto 4, 3) := by decide +kernel
theorem dL_law_794 : decode cL_law 794 = .ok (.iconst 0, 1) := by decide +kernel
theorem dL_law_795 : decode cL_law 795 = .ok (.invokevirtual 108, 3) := by decide +kernel
theorem dL_law_798 : decode cL_law 798 = .ok (.aload_n 2, 1) := by decide +kernel
theorem dL_law_799 : decode cL_law 799 = .ok (.aload_n 0, 1) := by decide +kernel
theorem dL_law_800 : decode cL_law 800 = .ok (.iload_n 3, 1) := by decide +kernel
theorem dL_law_801 : decode cL_law 801 = .ok (.iconst 1, 1) := by decide +kernel
theorem dL_law_802 : decode cL_law 802 = .ok (.iadd, 1) := by decide +kernel
theorem dL_law_803 : decode cL_law 803 = .ok (.iaload, 1) := by decide +kernel
theorem dL_law_804 : decode cL_law 804 = .ok (.aload_n 0, 1) := by decide +kernel
theorem dL_law_805 : decode cL_law 805 = .ok (.iload_n 3, 1) := by decide +kernel
theorem dL_law_806 : decode cL_law 806 = .ok (.iconst 2, 1) := by decide +kernel
theorem dL_law_807 : decode cL_law 807 = .ok (.iadd, 1) := by decide +kernel
theorem dL_law_808 : decode cL_law 808 = .ok (.iaload, 1) := by decide +kernel
theorem dL_law_809 : decode cL_law 809 = .ok (.ifCond .eq 7, 3) := by decide +kernel
theorem dL_law_812 : decode cL_law 812 = .ok (.iconst 1, 1) := by decide +kernel
theorem dL_law_813 : decode cL_law 813 = .ok (.goto 4, 3) := by decide +kernel
theorem dL_law_816 : decode cL_law 816 = .ok (.iconst 0, 1) := by decide +kernel
theorem dL_law_817 : decode cL_law 817 = .ok (.invokevirtual 112, 3) := by decide +kernel
theorem dL_law_820 : decode cL_law 820 = .ok (.if_icmp .eq 187, 3) := by decide +kernel
theorem dL_law_823 : decode cL_law 823 = .ok (.iconst 0, 1) := by decide +kernel
theorem dL_law_824 : decode cL_law 824 = .ok (.ireturn, 1) := by decide +kernel
theorem dL_law_825 : decode cL_law 825 = .ok (.aload_n 1, 1) := by decide +kernel
theorem dL_law_826 : decode cL_law 826 = .ok (.aload_n 0, 1) := by decide +kernel
theorem dL_law_827 : decode cL_law 827 = .ok (.iload_n 3, 1) := by decide +kernel
theorem dL_law_828 : decode cL_law 828 = .ok (.iconst 1, 1) := by decide +kernel
theorem dL_law_829 : decode cL_law 829 = .ok (.iadd, 1) := by decide +kernel
theorem dL_law_830 : decode cL_law 830 = .ok (.iaload, 1) := by decide +kernel
theorem dL_law_831 : decode cL_law 831 = .ok (.aload_n 0, 1) := by decide +kernel
theorem dL_law_832 : decode cL_law 832 = .ok (.iload_n 3, 1) := by decide +kernel
theorem dL_law_833 : decode cL_law 833 = .ok (.iconst 2, 1) := by decide +kernel
theorem dL_law_834 : decode cL_law 834 = .ok (.iadd, 1) := by decide +kernel
theorem dL_law_835 : decode cL_law 835 = .ok (.iaload, 1) := by decide +kernel
theorem dL_law_836 : decode cL_law 836 = .ok (.aload_n 0, 1) := by decide +kernel
theorem dL_law_837 : decode cL_law 837 = .ok (.iload_n 3, 1) := by decide +kernel
theorem dL_law_838 : decode cL_law 838 = .ok (.iconst 3, 1) := by decide +kernel
theorem dL_law_839 : decode cL_law 839 = .ok (.iadd, 1) := by decide +kernel
theorem dL_law_840 : decode cL_law 840 = .ok (.iaload, 1) := by decide +kernel
theorem dL_law_841 : decode cL_law 841 = .ok (.ifCond .eq 7, 3) := by decide +kernel
theorem dL_law_844 : decode cL_law 844 = .ok (.iconst 1, 1) := by decide +kernel
theorem dL_law_845 : decode cL_law 845 = .ok (.goto 4, 3) := by decide +kernel
theorem dL_law_848 : decode cL_law 848 = .ok (.iconst 0, 1) := by decide +kernel
theorem dL_law_849 : decode cL_law 849 = .ok (.invokevirtual 113, 3) := by decide +kernel
theorem dL_law_852 : decode cL_law 852 = .ok (.aload_n 2, 1) := by decide +kernel
theorem dL_law_853 : decode cL_law 853 = .ok (.aload_n 0, 1) := by decide +kernel
theorem dL_law_854 : decode cL_law 854 = .ok (.iload_n 3, 1) := by decide +kernel
theorem dL_law_855 : decode cL_law 855 = .ok (.iconst 1, 1) := by decide +kernel
theorem dL_law_856 : decode cL_law 856 = .ok (.iadd, 1) := by decide +kernel
theorem dL_law_857 : decode cL_law 857 = .ok (.iaload, 1) := by decide +kernel
theorem dL_law_858 : decode cL_law 858 = .ok (.aload_n 0, 1) := by decide +kernel
theorem dL_law_859 : decode cL_law 859 = .ok (.iload_n 3, 1) := by decide +kernel
theorem dL_law_860 : decode cL_law 860 = .ok (.iconst 2, 1) := by decide +kernel
theorem dL_law_861 : decode cL_law 861 = .ok (.iadd, 1) := by decide +kernel
theorem dL_law_862 : decode cL_law 862 = .ok (.iaload, 1) := by decide +kernel
theorem dL_law_863 : decode cL_law 863 = .ok (.aload_n 0, 1) := by decide +kernel
theorem dL_law_864 : decode cL_law 864 = .ok (.iload_n 3, 1) := by decide +kernel
theorem dL_law_865 : decode cL_law 865 = .ok (.iconst 3, 1) := by decide +kernel
theorem dL_law_866 : decode cL_law 866 = .ok (.iadd, 1) := by decide +kernel
theorem dL_law_867 : decode cL_law 867 = .ok (.iaload, 1) := by decide +kernel
theorem dL_law_868 : decode cL_law 868 = .ok (.ifCond .eq 7, 3) := by decide +kernel
theorem dL_law_871 : decode cL_law 871 = .ok (.iconst 1, 1) := by decide +kernel
theorem dL_law_872 : decode cL_law 872 = .ok (.goto 4, 3) := by decide +kernel
theorem dL_law_875 : decode cL_law 875 = .ok (.iconst 0, 1) := by decide +kernel
theorem dL_law_876 : decode cL_law 876 = .ok (.invokevirtual 117, 3) := by decide +kernel
theorem dL_law_879 : decode cL_law 879 = .ok (.if_icmp .eq 128, 3) := by decide +kernel
theorem dL_law_882 : decode cL_law 882 = .ok (.iconst 0, 1) := by decide +kernel
theorem dL_law_883 : decode cL_law 883 = .ok (.ireturn, 1) := by decide +kernel
theorem dL_law_884 : decode cL_law 884 = .ok (.aload_n 1, 1) := by decide +kernel
theorem dL_law_885 : decode cL_law 885 = .ok (.aload_n 0, 1) := by decide +kernel
theorem dL_law_886 : decode cL_law 886 = .ok (.iload_n 3, 1) := by decide +kernel
theorem dL_law_887 : decode cL_law 887 = .ok (.iconst 1, 1) := by decide +kernel
theorem dL_law_888 : decode cL_law 888 = .ok (.iadd, 1) := by decide +kernel
theorem dL_law_889 : decode cL_law 889 = .ok (.iaload, 1) := by decide +kernel
theorem dL_law_890 : decode cL_law 890 = .ok (.i2l, 1) := by decide +kernel
theorem dL_law_891 : decode cL_law 891 = .ok (.bipush 32, 2) := by decide +kernel
theorem dL_law_893 : decode cL_law 893 = .ok (.lshl, 1) := by decide +kernel
theorem dL_law_894 : decode cL_law 894 = .ok (.aload_n 0, 1) := by decide +kernel
theorem dL_law_895 : decode cL_law 895 = .ok (.iload_n 3, 1) := by decide +kernel
theorem dL_law_896 : decode cL_law 896 = .ok (.iconst 2, 1) := by decide +kernel
theorem dL_law_897 : decode cL_law 897 = .ok (.iadd, 1) := by decide +kernel
theorem dL_law_898 : decode cL_law 898 = .ok (.iaload, 1) := by decide +kernel
theorem dL_law_899 : decode cL_law 899 = .ok (.i2l, 1) := by decide +kernel
theorem dL_law_900 : decode cL_law 900 = .ok (.ldc2_w 80, 3) := by decide +kernel
theorem dL_law_903 : decode cL_law 903 = .ok (.land, 1) := by decide +kernel
theorem dL_law_904 : decode cL_law 904 = .ok (.lor, 1) := by decide +kernel
theorem dL_law_905 : decode cL_law 905 = .ok (.invokevirtual 118, 3) := by decide +kernel
theorem dL_law_908 : decode cL_law 908 = .ok (.aload_n 2, 1) := by decide +kernel
theorem dL_law_909 : decode cL_law 909 = .ok (.aload_n 0, 1) := by decide +kernel
theorem dL_law_910 : decode cL_law 910 = .ok (.iload_n 3, 1) := by decide +kernel
theorem dL_law_911 : decode cL_law 911 = .ok (.iconst 1, 1) := by decide +kernel
theorem dL_law_912 : decode cL_law 912 = .ok (.iadd, 1) := by decide +kernel
theorem dL_law_913 : decode cL_law 913 = .ok (.iaload, 1) := by decide +kernel
theorem dL_law_914 : decode cL_law 914 = .ok (.i2l, 1) := by decide +kernel
theorem dL_law_915 : decode cL_law 915 = .ok (.bipush 32, 2) := by decide +kernel
theorem dL_law_917 : decode cL_law 917 = .ok (.lshl, 1) := by decide +kernel
theorem dL_law_918 : decode cL_law 918 = .ok (.aload_n 0, 1) := by decide +kernel
theorem dL_law_919 : decode cL_law 919 = .ok (.iload_n 3, 1) := by decide +kernel
theorem dL_law_920 : decode cL_law 920 = .ok (.iconst 2, 1) := by decide +kernel
theorem dL_law_921 : decode cL_law 921 = .ok (.iadd, 1) := by decide +kernel
theorem dL_law_922 : decode cL_law 922 = .ok (.iaload, 1) := by decide +kernel
theorem dL_law_923 : decode cL_law 923 = .ok (.i2l, 1) := by decide +kernel
theorem dL_law_924 : decode cL_law 924 = .ok (.ldc2_w 80, 3) := by decide +kernel
theorem dL_law_927 : decode cL_law 927 = .ok (.land, 1) := by decide +kernel
theorem dL_law_928 : decode cL_law 928 = .ok (.lor, 1) := by decide +kernel
theorem dL_law_929 : decode cL_law 929 = .ok (.invokevirtual 122, 3) := by decide +kernel
theorem dL_law_932 : decode cL_law 932 = .ok (.lcmp, 1) := by decide +kernel
theorem dL_law_933 : decode cL_law 933 = .ok (.ifCond .eq 74, 3) := by decide +kernel
theorem dL_law_936 : decode cL_law 936 = .ok (.iconst 0, 1) := by decide +kernel
theorem dL_law_937 : decode cL_law 937 = .ok (.ireturn, 1) := by decide +kernel
theorem dL_law_938 : decode cL_law 938 = .ok (.aload_n 1, 1) := by decide +kernel
theorem dL_law_939 : decode cL_law 939 = .ok (.aload_n 0, 1) := by decide +kernel
theorem dL_law_940 : decode cL_law 940 = .ok (.iload_n 3, 1) := by decide +kernel
theorem dL_law_941 : decode cL_law 941 = .ok (.iconst 1, 1) := by decide +kernel
theorem dL_law_942 : decode cL_law 942 = .ok (.iadd, 1) := by decide +kernel
theorem dL_law_943 : decode cL_law 943 = .ok (.iaload, 1) := by decide +kernel
theorem dL_law_944 : decode cL_law 944 = .ok (.invokevirtual 123, 3) := by decide +kernel
theorem dL_law_947 : decode cL_law 947 = .ok (.aload_n 2, 1) := by decide +kernel
theorem dL_law_948 : decode cL_law 948 = .ok (.aload_n 0, 1) := by decide +kernel
theorem dL_law_949 : decode cL_law 949 = .ok (.iload_n 3, 1) := by decide +kernel
theorem dL_law_950 : decode cL_law 950 = .ok (.iconst 1, 1) := by decide +kernel
theorem dL_law_951 : decode cL_law 951 = .ok (.iadd, 1) := by decide +kernel
theorem dL_law_952 : decode cL_law 952 = .ok (.iaload, 1) := by decide +kernel
theorem dL_law_953 : decode cL_law 953 = .ok (.invokevirtual 126, 3) := by decide +kernel
theorem dL_law_956 : decode cL_law 956 = .ok (.if_icmp .eq 51, 3) := by decide +kernel
theorem dL_law_959 : decode cL_law 959 = .ok (.iconst 0, 1) := by decide +kernel
theorem dL_law_960 : decode cL_law 960 = .ok (.ireturn, 1) := by decide +kernel
theorem dL_law_961 : decode cL_law 961 = .ok (.aload_n 1, 1) := by decide +kernel
theorem dL_law_962 : decode cL_law 962 = .ok (.aload_n 0, 1) := by decide +kernel
theorem dL_law_963 : decode cL_law 963 = .ok (.iload_n 3, 1) := by decide +kernel
theorem dL_law_964 : decode cL_law 964 = .ok (.iconst 1, 1) := by decide +kernel
theorem dL_law_965 : decode cL_law 965 = .ok (.iadd, 1) := by decide +kernel
theorem dL_law_966 : decode cL_law 966 = .ok (.iaload, 1) := by decide +kernel
theorem dL_law_967 : decode cL_law 967 = .ok (.invokevirtual 127, 3) := by decide +kernel
theorem dL_law_970 : decode cL_law 970 = .ok (.aload_n 2, 1) := by decide +kernel
theorem dL_law_971 : decode cL_law 971 = .ok (.aload_n 0, 1) := by decide +kernel
theorem dL_law_972 : decode cL_law 972 = .ok (.iload_n 3, 1) := by decide +kernel
theorem dL_law_973 : decode cL_law 973 = .ok (.iconst 1, 1) := by decide +kernel
theorem dL_law_974 : decode cL_law 974 = .ok (.iadd, 1) := by decide +kernel
theorem dL_law_975 : decode cL_law 975 = .ok (.iaload, 1) := by decide +kernel
theorem dL_law_976 : decode cL_law 976 = .ok (.invokevirtual 130, 3) := by decide +kernel
theorem dL_law_979 : decode cL_law 979 = .ok (.if_icmp .eq 28, 3) := by decide +kernel
theorem dL_law_982 : decode cL_law 982 = .ok (.iconst 0, 1) := by decide +kernel
theorem dL_law_983 : decode cL_law 983 = .ok (.ireturn, 1) := by decide +kernel
theorem dL_law_984 : decode cL_law 984 = .ok (.aload_n 1, 1) := by decide +kernel
theorem dL_law_985 : decode cL_law 985 = .ok (.aload_n 0, 1) := by decide +kernel
theorem dL_law_986 : decode cL_law 986 = .ok (.iload_n 3, 1) := by decide +kernel
theorem dL_law_987 : decode cL_law 987 = .ok (.iconst 1, 1) := by decide +kernel
theorem dL_law_988 : decode cL_law 988 = .ok (.iadd, 1) := by decide +kernel
theorem dL_law_989 : decode cL_law 989 = .ok (.iaload, 1) := by decide +kernel
theorem dL_law_990 : decode cL_law 990 = .ok (.invokevirtual 131, 3) := by decide +kernel
theorem dL_law_993 : decode cL_law 993 = .ok (.aload_n 2, 1) := by decide +kernel
theorem dL_law_994 : decode cL_law 994 = .ok (.aload_n 0, 1) := by decide +kernel
theorem dL_law_995 : decode cL_law 995 = .ok (.iload_n 3, 1) := by decide +kernel
theorem dL_law_996 : decode cL_law 996 = .ok (.iconst 1, 1) := by decide +kernel
theorem dL_law_997 : decode cL_law 997 = .ok (.iadd, 1) := by decide +kernel
theorem dL_law_998 : decode cL_law 998 = .ok (.iaload, 1) := by decide +kernel
theorem dL_law_999 : decode cL_law 999 = .ok (.invokevirtual 134, 3) := by decide +kernel
theorem dL_law_1002 : decode cL_law 1002 = .ok (.if_icmp .eq 5, 3) := by decide +kernel
theorem dL_law_1005 : decode cL_law 1005 = .ok (.iconst 0, 1) := by decide +kernel
theorem dL_law_1006 : decode cL_law 1006 = .ok (.ireturn, 1) := by decide +kernel
theorem dL_law_1007 : decode cL_law 1007 = .ok (.iinc 3 4, 3) := by decide +kernel
theorem dL_law_1010 : decode cL_law 1010 = .ok (.goto (-992), 3) := by decide +kernel
theorem dL_law_1013 : decode cL_law 1013 = .ok (.iconst 1, 1) := by decide +kernel
theorem dL_law_1014 : decode cL_law 1014 = .ok (.ireturn, 1) := by decide +kernel
abbrev vwCl : List vw_C := [(RX0, TX0, 14), (RX1, TX1, 13), (RX2, TX2, 15)]
/-! ===== END printed: names (the pool rows behind vwCl are left out) ===== -/
