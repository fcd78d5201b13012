section
-- ===== PART A: goes FIRST, ahead of the names: the tables' words, and 'selects' of the private methods out of them =====
/-- a private method of a class that the tables say can be made, by its rows of tables_1 -/
def lw_okq (q : MethodName × Nat) : Prop := (q.1.cls ≠ "java/lang/invoke/MethodHandle" ∧ q.1.cls ≠ "java/lang/invoke/VarHandle") ∧ Cond.instantiable q.1.cls q.2 ∈ tables_1 ∧ Cond.privateMethod q.1 ∈ tables_1 ∧ Cond.instanceMethod q.1 ∈ tables_1
theorem lw_p0 : lw_okq (⟨"CrowdReports", "readText", "()I"⟩, 13) := ⟨⟨by decide +kernel, by decide +kernel⟩, List.mem_of_getElem? (i := 8) (by decide +kernel), List.mem_of_getElem? (i := 132) (by decide +kernel), List.mem_of_getElem? (i := 133) (by decide +kernel)⟩
theorem lw_p1 : lw_okq (⟨"CrowdReports", "readHead", "()I"⟩, 13) := ⟨⟨by decide +kernel, by decide +kernel⟩, List.mem_of_getElem? (i := 8) (by decide +kernel), List.mem_of_getElem? (i := 136) (by decide +kernel), List.mem_of_getElem? (i := 137) (by decide +kernel)⟩
theorem lw_p2 : lw_okq (⟨"CrowdReports", "canBegin", "(I)Z"⟩, 13) := ⟨⟨by decide +kernel, by decide +kernel⟩, List.mem_of_getElem? (i := 8) (by decide +kernel), List.mem_of_getElem? (i := 228) (by decide +kernel), List.mem_of_getElem? (i := 229) (by decide +kernel)⟩
theorem lw_p3 : lw_okq (⟨"CrowdReports", "restAt", "()I"⟩, 13) := ⟨⟨by decide +kernel, by decide +kernel⟩, List.mem_of_getElem? (i := 8) (by decide +kernel), List.mem_of_getElem? (i := 251) (by decide +kernel), List.mem_of_getElem? (i := 252) (by decide +kernel)⟩
theorem lw_p4 : lw_okq (⟨"CrowdReports", "remember", "()V"⟩, 13) := ⟨⟨by decide +kernel, by decide +kernel⟩, List.mem_of_getElem? (i := 8) (by decide +kernel), List.mem_of_getElem? (i := 283) (by decide +kernel), List.mem_of_getElem? (i := 284) (by decide +kernel)⟩
theorem lw_p5 : lw_okq (⟨"CrowdReports", "canBe", "(I)Z"⟩, 13) := ⟨⟨by decide +kernel, by decide +kernel⟩, List.mem_of_getElem? (i := 8) (by decide +kernel), List.mem_of_getElem? (i := 349) (by decide +kernel), List.mem_of_getElem? (i := 350) (by decide +kernel)⟩
theorem lw_p6 : lw_okq (⟨"CrowdReports", "fitsSeen", "(I)Z"⟩, 13) := ⟨⟨by decide +kernel, by decide +kernel⟩, List.mem_of_getElem? (i := 8) (by decide +kernel), List.mem_of_getElem? (i := 365) (by decide +kernel), List.mem_of_getElem? (i := 366) (by decide +kernel)⟩
theorem lw_p7 : lw_okq (⟨"CrowdReports", "runSubsets", "(I)V"⟩, 13) := ⟨⟨by decide +kernel, by decide +kernel⟩, List.mem_of_getElem? (i := 8) (by decide +kernel), List.mem_of_getElem? (i := 373) (by decide +kernel), List.mem_of_getElem? (i := 374) (by decide +kernel)⟩
theorem lw_p8 : lw_okq (⟨"CrowdReportsModel", "readText", "()I"⟩, 15) := ⟨⟨by decide +kernel, by decide +kernel⟩, List.mem_of_getElem? (i := 427) (by decide +kernel), List.mem_of_getElem? (i := 499) (by decide +kernel), List.mem_of_getElem? (i := 500) (by decide +kernel)⟩
theorem lw_p9 : lw_okq (⟨"CrowdReportsModel", "rest", "()I"⟩, 15) := ⟨⟨by decide +kernel, by decide +kernel⟩, List.mem_of_getElem? (i := 427) (by decide +kernel), List.mem_of_getElem? (i := 574) (by decide +kernel), List.mem_of_getElem? (i := 575) (by decide +kernel)⟩
theorem lw_p10 : lw_okq (⟨"CrowdReportsModel", "note", "()V"⟩, 15) := ⟨⟨by decide +kernel, by decide +kernel⟩, List.mem_of_getElem? (i := 427) (by decide +kernel), List.mem_of_getElem? (i := 594) (by decide +kernel), List.mem_of_getElem? (i := 595) (by decide +kernel)⟩
theorem lw_p11 : lw_okq (⟨"CrowdReportsModel", "judged", "(III)Z"⟩, 15) := ⟨⟨by decide +kernel, by decide +kernel⟩, List.mem_of_getElem? (i := 427) (by decide +kernel), List.mem_of_getElem? (i := 650) (by decide +kernel), List.mem_of_getElem? (i := 651) (by decide +kernel)⟩
theorem lw_p12 : lw_okq (⟨"CrowdReportsModel", "lettersBy", "(II)I"⟩, 15) := ⟨⟨by decide +kernel, by decide +kernel⟩, List.mem_of_getElem? (i := 427) (by decide +kernel), List.mem_of_getElem? (i := 671) (by decide +kernel), List.mem_of_getElem? (i := 672) (by decide +kernel)⟩
def lw_privs_1 : List (MethodName × Nat) := [(⟨"CrowdReports", "readText", "()I"⟩, 13), (⟨"CrowdReports", "readHead", "()I"⟩, 13), (⟨"CrowdReports", "canBegin", "(I)Z"⟩, 13), (⟨"CrowdReports", "restAt", "()I"⟩, 13), (⟨"CrowdReports", "remember", "()V"⟩, 13), (⟨"CrowdReports", "canBe", "(I)Z"⟩, 13), (⟨"CrowdReports", "fitsSeen", "(I)Z"⟩, 13), (⟨"CrowdReports", "runSubsets", "(I)V"⟩, 13), (⟨"CrowdReportsModel", "readText", "()I"⟩, 15), (⟨"CrowdReportsModel", "rest", "()I"⟩, 15), (⟨"CrowdReportsModel", "note", "()V"⟩, 15), (⟨"CrowdReportsModel", "judged", "(III)Z"⟩, 15), (⟨"CrowdReportsModel", "lettersBy", "(II)I"⟩, 15)]
theorem lw_r1 : ∀ q ∈ lw_privs_1, lw_okq q := List.forall_mem_cons.mpr ⟨lw_p0, List.forall_mem_cons.mpr ⟨lw_p1, List.forall_mem_cons.mpr ⟨lw_p2, List.forall_mem_cons.mpr ⟨lw_p3, List.forall_mem_cons.mpr ⟨lw_p4, List.forall_mem_cons.mpr ⟨lw_p5, List.forall_mem_cons.mpr ⟨lw_p6, List.forall_mem_cons.mpr ⟨lw_p7, List.forall_mem_cons.mpr ⟨lw_p8, List.forall_mem_cons.mpr ⟨lw_p9, List.forall_mem_cons.mpr ⟨lw_p10, List.forall_mem_cons.mpr ⟨lw_p11, List.forall_mem_cons.mpr ⟨lw_p12, fun _ h => absurd h List.not_mem_nil⟩⟩⟩⟩⟩⟩⟩⟩⟩⟩⟩⟩⟩
def lw_privs : List (MethodName × Nat) := lw_privs_1
def lw_tbl : List Cond := k2_sels lw_privs ++ tables_1
theorem lw_privs_ok : ∀ q ∈ lw_privs, lw_okq q := lw_r1
-- ===== end of PART A; then your names; then what follows =====
end
section
theorem goodIn_r {big : List Cond} (ws : List Cond) (ps : List Nat) (hp : ws = ps.filterMap (fun i => big[i]?)) (h : ws.all goodWord = true) : GoodIn big ws := by
  intro w hw
  have h1 := List.all_eq_true.mp h w hw
  rw [hp] at hw
  obtain ⟨i, -, hi⟩ := List.mem_filterMap.mp hw
  have hm : w ∈ big := by first | exact List.mem_of_getElem? hi | exact List.getElem?_mem hi
  exact ⟨hm, good_of_word h1⟩
theorem goodIn_app {big a b : List Cond} (ha : GoodIn big a) (hb : GoodIn big b) : GoodIn big (a ++ b) := fun w h => (List.mem_append.mp h).elim (ha w) (hb w)
theorem goodIn_ca {big a b : List Cond} {c : Cond} (ha : GoodIn big (c :: a)) (hb : GoodIn big b) : GoodIn big (c :: (a ++ b)) := fun w h => (List.mem_cons.mp h).elim (fun e => ha w (List.mem_cons.mpr (Or.inl e))) (fun h => (List.mem_append.mp h).elim (fun h => ha w (List.mem_cons.mpr (Or.inr h))) (hb w))
theorem goodIn_sub {big ws : List Cond} (hm : ∀ w ∈ ws, w ∈ big) (h : ws.all goodWord = true) : GoodIn big ws := fun w hw => ⟨hm w hw, good_of_word (List.all_eq_true.mp h w hw)⟩

def RX0 : String := "CrowdReports$Crowd"
def TX0 : u_T := fun k => match k with
  | 0 => ("CrowdReports$Crowd", "size", "I", false)
  | 1 => ("CrowdReports$Crowd", "rate", "I", false)
  | 2 => ("CrowdReports$Crowd", "min", "I", false)
  | 3 => ("CrowdReports$Crowd", "clock", "I", false)
  | 4 => ("CrowdReports$Crowd", "lot", "I", false)
  | 5 => ("CrowdReports$Crowd", "reports", "I", false)
  | 6 => ("CrowdReports$Crowd", "byes", "I", false)
  | 7 => ("CrowdReports$Crowd", "kind", "[I", true)
  | 8 => ("CrowdReports$Crowd", "known", "[I", true)
  | 9 => ("CrowdReports$Crowd", "begun", "[I", true)
  | 10 => ("CrowdReports$Crowd", "due", "[I", true)
  | 11 => ("CrowdReports$Crowd", "goers", "[I", true)
  | 12 => ("CrowdReports$Crowd", "shut", "[I", true)
  | _ => ("CrowdReports$Crowd", "lastHeard", "[I", true)
def tyX0 : Nat → FieldType := fun k => match k with
  | 0 => .int
  | 1 => .int
  | 2 => .int
  | 3 => .int
  | 4 => .int
  | 5 => .int
  | 6 => .int
  | 7 => .array .int
  | 8 => .array .int
  | 9 => .array .int
  | 10 => .array .int
  | 11 => .array .int
  | 12 => .array .int
  | _ => .array .int
abbrev wsX00 : List Cond := u_ws RX0 TX0 14
theorem nmX0 : ∀ a, a < 14 → ∀ b, b < 14 → a ≠ b → (TX0 a).2.1 ≠ (TX0 b).2.1 := by decide +kernel
theorem tyX0_ok : ∀ k, k < 14 → parseFieldDescriptor (TX0 k).2.2.1 = some (tyX0 k) := by decide +kernel
abbrev cX0_init : ByteArray := prog_2_method_1_code
def yX0_init : MethodName := ⟨RX0, "<init>", "()V"⟩
abbrev cX0_restart : ByteArray := prog_2_method_2_code
def yX0_restart : MethodName := ⟨RX0, "restart", "()V"⟩
abbrev cX0_takeFrom : ByteArray := prog_2_method_3_code
def yX0_takeFrom : MethodName := ⟨RX0, "takeFrom", "(LCrowdReports$Crowd;)V"⟩
abbrev cX0_sent : ByteArray := prog_2_method_4_code
def yX0_sent : MethodName := ⟨RX0, "sent", "()I"⟩
abbrev cX0_bitsOf : ByteArray := prog_2_method_5_code
def yX0_bitsOf : MethodName := ⟨RX0, "bitsOf", "(I)I"⟩
abbrev cX0_knows : ByteArray := prog_2_method_6_code
def yX0_knows : MethodName := ⟨RX0, "knows", "(II)Z"⟩
abbrev cX0_isOpen : ByteArray := prog_2_method_7_code
def yX0_isOpen : MethodName := ⟨RX0, "isOpen", "(II)Z"⟩
abbrev cX0_countOf : ByteArray := prog_2_method_8_code
def yX0_countOf : MethodName := ⟨RX0, "countOf", "(I)I"⟩
abbrev cX0_countTold : ByteArray := prog_2_method_9_code
def yX0_countTold : MethodName := ⟨RX0, "countTold", "(I)I"⟩
abbrev cX0_isAtRest : ByteArray := prog_2_method_10_code
def yX0_isAtRest : MethodName := ⟨RX0, "isAtRest", "()Z"⟩
abbrev cX0_feltBits : ByteArray := prog_2_method_11_code
def yX0_feltBits : MethodName := ⟨RX0, "feltBits", "()I"⟩
abbrev cX0_leaveOnly : ByteArray := prog_2_method_12_code
def yX0_leaveOnly : MethodName := ⟨RX0, "leaveOnly", "(I)V"⟩
abbrev cX0_turnWay : ByteArray := prog_2_method_13_code
def yX0_turnWay : MethodName := ⟨RX0, "turnWay", "(II)Z"⟩
abbrev cX0_tellAnew : ByteArray := prog_2_method_14_code
def yX0_tellAnew : MethodName := ⟨RX0, "tellAnew", "(II)I"⟩
abbrev cX0_spanOf : ByteArray := prog_2_method_15_code
def yX0_spanOf : MethodName := ⟨RX0, "spanOf", "(I)I"⟩
abbrev cX0_waitOf : ByteArray := prog_2_method_16_code
def yX0_waitOf : MethodName := ⟨RX0, "waitOf", "(I)I"⟩
abbrev cX0_begin : ByteArray := prog_2_method_17_code
def yX0_begin : MethodName := ⟨RX0, "begin", "(I)V"⟩
abbrev cX0_goAway : ByteArray := prog_2_method_18_code
def yX0_goAway : MethodName := ⟨RX0, "goAway", "(I)V"⟩
abbrev cX0_enter : ByteArray := prog_2_method_19_code
def yX0_enter : MethodName := ⟨RX0, "enter", "(I)Z"⟩
abbrev cX0_depart : ByteArray := prog_2_method_20_code
def yX0_depart : MethodName := ⟨RX0, "depart", "(I)Z"⟩
abbrev cX0_enterOrDepart : ByteArray := prog_2_method_21_code
def yX0_enterOrDepart : MethodName := ⟨RX0, "enterOrDepart", "(I)V"⟩
abbrev cX0_run : ByteArray := prog_2_method_22_code
def yX0_run : MethodName := ⟨RX0, "run", "(I)I"⟩
abbrev cX0_comeDue : ByteArray := prog_2_method_23_code
def yX0_comeDue : MethodName := ⟨RX0, "comeDue", "(I)V"⟩
abbrev cX0_forgetOld : ByteArray := prog_2_method_24_code
def yX0_forgetOld : MethodName := ⟨RX0, "forgetOld", "(I)V"⟩
abbrev cX0_reaches : ByteArray := prog_2_method_25_code
def yX0_reaches : MethodName := ⟨RX0, "reaches", "(II)Z"⟩
abbrev cX0_sendReport : ByteArray := prog_2_method_26_code
def yX0_sendReport : MethodName := ⟨RX0, "sendReport", "(I)V"⟩
abbrev cX0_sendBye : ByteArray := prog_2_method_27_code
def yX0_sendBye : MethodName := ⟨RX0, "sendBye", "(I)V"⟩
abbrev cX0_hearBye : ByteArray := prog_2_method_28_code
def yX0_hearBye : MethodName := ⟨RX0, "hearBye", "(II)V"⟩
def RX1 : String := "CrowdReports"
def TX1 : u_T := fun k => match k with
  | 0 => ("CrowdReports", "now", "LCrowdReports$Crowd;", true)
  | 1 => ("CrowdReports", "trial", "LCrowdReports$Crowd;", true)
  | 2 => ("CrowdReports", "past", "[LCrowdReports$Crowd;", true)
  | 3 => ("CrowdReports", "acts", "I", false)
  | 4 => ("CrowdReports", "slots", "[LCrowdReports$Crowd;", true)
  | 5 => ("CrowdReports", "keptBits", "I", false)
  | 6 => ("CrowdReports", "text", "[I", true)
  | 7 => ("CrowdReports", "letters", "I", false)
  | 8 => ("CrowdReports", "seenTicks", "[I", true)
  | 9 => ("CrowdReports", "seenLetters", "[I", true)
  | 10 => ("CrowdReports", "seen", "I", false)
  | 11 => ("CrowdReports", "lastSeed", "J", false)
  | _ => ("CrowdReports", "sentBy", "[I", true)
def tyX1 : Nat → FieldType := fun k => match k with
  | 0 => .object "CrowdReports$Crowd"
  | 1 => .object "CrowdReports$Crowd"
  | 2 => .array (.object "CrowdReports$Crowd")
  | 3 => .int
  | 4 => .array (.object "CrowdReports$Crowd")
  | 5 => .int
  | 6 => .array .int
  | 7 => .int
  | 8 => .array .int
  | 9 => .array .int
  | 10 => .int
  | 11 => .long
  | _ => .array .int
abbrev wsX10 : List Cond := u_ws RX1 TX1 13
theorem nmX1 : ∀ a, a < 13 → ∀ b, b < 13 → a ≠ b → (TX1 a).2.1 ≠ (TX1 b).2.1 := by decide +kernel
theorem tyX1_ok : ∀ k, k < 13 → parseFieldDescriptor (TX1 k).2.2.1 = some (tyX1 k) := by decide +kernel
abbrev cX1_init : ByteArray := prog_1_method_1_code
def yX1_init : MethodName := ⟨RX1, "<init>", "()V"⟩
abbrev cX1_write : ByteArray := prog_1_method_2_code
def yX1_write : MethodName := ⟨RX1, "write", "(I)I"⟩
abbrev cX1_wipe : ByteArray := prog_1_method_3_code
def yX1_wipe : MethodName := ⟨RX1, "wipe", "()I"⟩
abbrev cX1_fault : ByteArray := prog_1_method_4_code
def yX1_fault : MethodName := ⟨RX1, "fault", "()I"⟩
abbrev cX1_meeting : ByteArray := prog_1_method_5_code
def yX1_meeting : MethodName := ⟨RX1, "meeting", "()I"⟩
abbrev cX1_about : ByteArray := prog_1_method_6_code
def yX1_about : MethodName := ⟨RX1, "about", "(I)I"⟩
abbrev cX1_member : ByteArray := prog_1_method_7_code
def yX1_member : MethodName := ⟨RX1, "member", "(II)I"⟩
abbrev cX1_heard : ByteArray := prog_1_method_8_code
def yX1_heard : MethodName := ⟨RX1, "heard", "(II)I"⟩
abbrev cX1_way : ByteArray := prog_1_method_9_code
def yX1_way : MethodName := ⟨RX1, "way", "(II)I"⟩
abbrev cX1_join : ByteArray := prog_1_method_10_code
def yX1_join : MethodName := ⟨RX1, "join", "(I)I"⟩
abbrev cX1_leave : ByteArray := prog_1_method_11_code
def yX1_leave : MethodName := ⟨RX1, "leave", "(I)I"⟩
abbrev cX1_pass : ByteArray := prog_1_method_12_code
def yX1_pass : MethodName := ⟨RX1, "pass", "(I)I"⟩
abbrev cX1_turn : ByteArray := prog_1_method_13_code
def yX1_turn : MethodName := ⟨RX1, "turn", "(II)I"⟩
abbrev cX1_set : ByteArray := prog_1_method_14_code
def yX1_set : MethodName := ⟨RX1, "set", "(II)I"⟩
abbrev cX1_undo : ByteArray := prog_1_method_15_code
def yX1_undo : MethodName := ⟨RX1, "undo", "()I"⟩
abbrev cX1_ahead : ByteArray := prog_1_method_16_code
def yX1_ahead : MethodName := ⟨RX1, "ahead", "(II)I"⟩
abbrev cX1_crowd : ByteArray := prog_1_method_17_code
def yX1_crowd : MethodName := ⟨RX1, "crowd", "(I)I"⟩
abbrev cX1_jitter : ByteArray := prog_1_method_18_code
def yX1_jitter : MethodName := ⟨RX1, "jitter", "(IJ)I"⟩
abbrev cX1_round : ByteArray := prog_1_method_19_code
def yX1_round : MethodName := ⟨RX1, "round", "(III)I"⟩
abbrev cX1_judge : ByteArray := prog_1_method_20_code
def yX1_judge : MethodName := ⟨RX1, "judge", "(IJ)I"⟩
abbrev cX1_see : ByteArray := prog_1_method_21_code
def yX1_see : MethodName := ⟨RX1, "see", "(II)I"⟩
abbrev cX1_unsee : ByteArray := prog_1_method_22_code
def yX1_unsee : MethodName := ⟨RX1, "unsee", "()I"⟩
abbrev cX1_which : ByteArray := prog_1_method_23_code
def yX1_which : MethodName := ⟨RX1, "which", "()I"⟩
abbrev cX1_share : ByteArray := prog_1_method_24_code
def yX1_share : MethodName := ⟨RX1, "share", "(IZ)I"⟩
abbrev cX1_chance : ByteArray := prog_1_method_25_code
def yX1_chance : MethodName := ⟨RX1, "chance", "(IIZ)I"⟩
abbrev cX1_seed : ByteArray := prog_1_method_26_code
def yX1_seed : MethodName := ⟨RX1, "seed", "(J)J"⟩
abbrev cX1_drawn : ByteArray := prog_1_method_27_code
def yX1_drawn : MethodName := ⟨RX1, "drawn", "(I)I"⟩
abbrev cX1_keep : ByteArray := prog_1_method_28_code
def yX1_keep : MethodName := ⟨RX1, "keep", "(I)I"⟩
abbrev cX1_again : ByteArray := prog_1_method_29_code
def yX1_again : MethodName := ⟨RX1, "again", "(I)I"⟩
abbrev cX1_isMember : ByteArray := prog_1_method_30_code
def yX1_isMember : MethodName := ⟨RX1, "isMember", "(I)Z"⟩
abbrev cX1_isTime : ByteArray := prog_1_method_31_code
def yX1_isTime : MethodName := ⟨RX1, "isTime", "(I)Z"⟩
abbrev cX1_isFigure : ByteArray := prog_1_method_32_code
def yX1_isFigure : MethodName := ⟨RX1, "isFigure", "(II)Z"⟩
abbrev cX1_tenTo : ByteArray := prog_1_method_33_code
def yX1_tenTo : MethodName := ⟨RX1, "tenTo", "(I)J"⟩
abbrev cX1_part : ByteArray := prog_1_method_34_code
def yX1_part : MethodName := ⟨RX1, "part", "(JII)I"⟩
abbrev cX1_greatestDivisor : ByteArray := prog_1_method_35_code
def yX1_greatestDivisor : MethodName := ⟨RX1, "greatestDivisor", "(II)I"⟩
abbrev cX1_fraction : ByteArray := prog_1_method_36_code
def yX1_fraction : MethodName := ⟨RX1, "fraction", "(IIZ)I"⟩
abbrev cX1_likelihood : ByteArray := prog_1_method_37_code
def yX1_likelihood : MethodName := ⟨RX1, "likelihood", "(II)I"⟩
abbrev cX1_remember : ByteArray := prog_1_method_38_code
def yX1_remember : MethodName := ⟨RX1, "remember", "()V"⟩
abbrev cX1_readText : ByteArray := prog_1_method_39_code
def yX1_readText : MethodName := ⟨RX1, "readText", "()I"⟩
abbrev cX1_readHead : ByteArray := prog_1_method_40_code
def yX1_readHead : MethodName := ⟨RX1, "readHead", "()I"⟩
abbrev cX1_canBegin : ByteArray := prog_1_method_41_code
def yX1_canBegin : MethodName := ⟨RX1, "canBegin", "(I)Z"⟩
abbrev cX1_restAt : ByteArray := prog_1_method_42_code
def yX1_restAt : MethodName := ⟨RX1, "restAt", "()I"⟩
abbrev cX1_canBe : ByteArray := prog_1_method_43_code
def yX1_canBe : MethodName := ⟨RX1, "canBe", "(I)Z"⟩
abbrev cX1_fitsSeen : ByteArray := prog_1_method_44_code
def yX1_fitsSeen : MethodName := ⟨RX1, "fitsSeen", "(I)Z"⟩
abbrev cX1_runSubsets : ByteArray := prog_1_method_45_code
def yX1_runSubsets : MethodName := ⟨RX1, "runSubsets", "(I)V"⟩
def RX2 : String := "CrowdReportsModel"
def TX2 : u_T := fun k => match k with
  | 0 => ("CrowdReportsModel", "text", "[I", true)
  | 1 => ("CrowdReportsModel", "length", "I", false)
  | 2 => ("CrowdReportsModel", "now", "[I", true)
  | 3 => ("CrowdReportsModel", "trial", "[I", true)
  | 4 => ("CrowdReportsModel", "diary", "[I", true)
  | 5 => ("CrowdReportsModel", "acts", "I", false)
  | 6 => ("CrowdReportsModel", "next", "I", false)
  | 7 => ("CrowdReportsModel", "kept", "[I", true)
  | 8 => ("CrowdReportsModel", "isKept", "[Z", true)
  | 9 => ("CrowdReportsModel", "seenTicks", "[I", true)
  | 10 => ("CrowdReportsModel", "seenMany", "[I", true)
  | 11 => ("CrowdReportsModel", "seen", "I", false)
  | 12 => ("CrowdReportsModel", "seed", "J", false)
  | 13 => ("CrowdReportsModel", "worth", "[I", true)
  | _ => ("CrowdReportsModel", "read", "[I", true)
def tyX2 : Nat → FieldType := fun k => match k with
  | 0 => .array .int
  | 1 => .int
  | 2 => .array .int
  | 3 => .array .int
  | 4 => .array .int
  | 5 => .int
  | 6 => .int
  | 7 => .array .int
  | 8 => .array .boolean
  | 9 => .array .int
  | 10 => .array .int
  | 11 => .int
  | 12 => .long
  | 13 => .array .int
  | _ => .array .int
abbrev wsX20 : List Cond := u_ws RX2 TX2 15
theorem nmX2 : ∀ a, a < 15 → ∀ b, b < 15 → a ≠ b → (TX2 a).2.1 ≠ (TX2 b).2.1 := by decide +kernel
theorem tyX2_ok : ∀ k, k < 15 → parseFieldDescriptor (TX2 k).2.2.1 = some (tyX2 k) := by decide +kernel
abbrev cX2_init : ByteArray := prog_4_method_1_code
def yX2_init : MethodName := ⟨RX2, "<init>", "()V"⟩
abbrev cX2_copy : ByteArray := prog_4_method_3_code
def yX2_copy : MethodName := ⟨RX2, "copy", "([I[I)V"⟩
abbrev cX2_clear : ByteArray := prog_4_method_4_code
def yX2_clear : MethodName := ⟨RX2, "clear", "([I)V"⟩
abbrev cX2_in : ByteArray := prog_4_method_5_code
def yX2_in : MethodName := ⟨RX2, "in", "(JJJ)Z"⟩
abbrev cX2_has : ByteArray := prog_4_method_6_code
def yX2_has : MethodName := ⟨RX2, "has", "(II)Z"⟩
abbrev cX2_ones : ByteArray := prog_4_method_7_code
def yX2_ones : MethodName := ⟨RX2, "ones", "(I)I"⟩
abbrev cX2_power : ByteArray := prog_4_method_8_code
def yX2_power : MethodName := ⟨RX2, "power", "(II)I"⟩
abbrev cX2_factorial : ByteArray := prog_4_method_9_code
def yX2_factorial : MethodName := ⟨RX2, "factorial", "(I)I"⟩
abbrev cX2_fraction : ByteArray := prog_4_method_10_code
def yX2_fraction : MethodName := ⟨RX2, "fraction", "(IIZ)I"⟩
abbrev cX2_isMember : ByteArray := prog_4_method_11_code
def yX2_isMember : MethodName := ⟨RX2, "isMember", "(I)Z"⟩
abbrev cX2_countOf : ByteArray := prog_4_method_12_code
def yX2_countOf : MethodName := ⟨RX2, "countOf", "([II)I"⟩
abbrev cX2_spanOf : ByteArray := prog_4_method_13_code
def yX2_spanOf : MethodName := ⟨RX2, "spanOf", "([II)I"⟩
abbrev cX2_draw : ByteArray := prog_4_method_14_code
def yX2_draw : MethodName := ⟨RX2, "draw", "([I)I"⟩
abbrev cX2_waitOf : ByteArray := prog_4_method_15_code
def yX2_waitOf : MethodName := ⟨RX2, "waitOf", "([II)I"⟩
abbrev cX2_lettersOf : ByteArray := prog_4_method_16_code
def yX2_lettersOf : MethodName := ⟨RX2, "lettersOf", "([I)I"⟩
abbrev cX2_reaches : ByteArray := prog_4_method_17_code
def yX2_reaches : MethodName := ⟨RX2, "reaches", "([III)Z"⟩
abbrev cX2_report : ByteArray := prog_4_method_18_code
def yX2_report : MethodName := ⟨RX2, "report", "([II)V"⟩
abbrev cX2_goAway : ByteArray := prog_4_method_19_code
def yX2_goAway : MethodName := ⟨RX2, "goAway", "([II)V"⟩
abbrev cX2_bye : ByteArray := prog_4_method_20_code
def yX2_bye : MethodName := ⟨RX2, "bye", "([II)V"⟩
abbrev cX2_joins : ByteArray := prog_4_method_21_code
def yX2_joins : MethodName := ⟨RX2, "joins", "([II)V"⟩
abbrev cX2_leaves : ByteArray := prog_4_method_22_code
def yX2_leaves : MethodName := ⟨RX2, "leaves", "([II)V"⟩
abbrev cX2_look : ByteArray := prog_4_method_23_code
def yX2_look : MethodName := ⟨RX2, "look", "([II)V"⟩
abbrev cX2_forget : ByteArray := prog_4_method_24_code
def yX2_forget : MethodName := ⟨RX2, "forget", "([II)V"⟩
abbrev cX2_tick : ByteArray := prog_4_method_25_code
def yX2_tick : MethodName := ⟨RX2, "tick", "([I)V"⟩
abbrev cX2_passOn : ByteArray := prog_4_method_26_code
def yX2_passOn : MethodName := ⟨RX2, "passOn", "([II)I"⟩
abbrev cX2_write : ByteArray := prog_4_method_27_code
def yX2_write : MethodName := ⟨RX2, "write", "(I)I"⟩
abbrev cX2_wipe : ByteArray := prog_4_method_28_code
def yX2_wipe : MethodName := ⟨RX2, "wipe", "()I"⟩
abbrev cX2_those : ByteArray := prog_4_method_29_code
def yX2_those : MethodName := ⟨RX2, "those", "([II)I"⟩
abbrev cX2_readText : ByteArray := prog_4_method_30_code
def yX2_readText : MethodName := ⟨RX2, "readText", "()I"⟩
abbrev cX2_fault : ByteArray := prog_4_method_31_code
def yX2_fault : MethodName := ⟨RX2, "fault", "()I"⟩
abbrev cX2_meeting : ByteArray := prog_4_method_32_code
def yX2_meeting : MethodName := ⟨RX2, "meeting", "()I"⟩
abbrev cX2_rest : ByteArray := prog_4_method_33_code
def yX2_rest : MethodName := ⟨RX2, "rest", "()I"⟩
abbrev cX2_about : ByteArray := prog_4_method_34_code
def yX2_about : MethodName := ⟨RX2, "about", "(I)I"⟩
abbrev cX2_member : ByteArray := prog_4_method_35_code
def yX2_member : MethodName := ⟨RX2, "member", "(II)I"⟩
abbrev cX2_heard : ByteArray := prog_4_method_36_code
def yX2_heard : MethodName := ⟨RX2, "heard", "(II)I"⟩
abbrev cX2_way : ByteArray := prog_4_method_37_code
def yX2_way : MethodName := ⟨RX2, "way", "(II)I"⟩
abbrev cX2_note : ByteArray := prog_4_method_38_code
def yX2_note : MethodName := ⟨RX2, "note", "()V"⟩
abbrev cX2_join : ByteArray := prog_4_method_39_code
def yX2_join : MethodName := ⟨RX2, "join", "(I)I"⟩
abbrev cX2_leave : ByteArray := prog_4_method_40_code
def yX2_leave : MethodName := ⟨RX2, "leave", "(I)I"⟩
abbrev cX2_pass : ByteArray := prog_4_method_41_code
def yX2_pass : MethodName := ⟨RX2, "pass", "(I)I"⟩
abbrev cX2_turn : ByteArray := prog_4_method_42_code
def yX2_turn : MethodName := ⟨RX2, "turn", "(II)I"⟩
abbrev cX2_set : ByteArray := prog_4_method_43_code
def yX2_set : MethodName := ⟨RX2, "set", "(II)I"⟩
abbrev cX2_undo : ByteArray := prog_4_method_44_code
def yX2_undo : MethodName := ⟨RX2, "undo", "()I"⟩
abbrev cX2_ahead : ByteArray := prog_4_method_45_code
def yX2_ahead : MethodName := ⟨RX2, "ahead", "(II)I"⟩
abbrev cX2_crowd : ByteArray := prog_4_method_46_code
def yX2_crowd : MethodName := ⟨RX2, "crowd", "(I)I"⟩
abbrev cX2_longPower : ByteArray := prog_4_method_47_code
def yX2_longPower : MethodName := ⟨RX2, "longPower", "(JI)J"⟩
abbrev cX2_jitter : ByteArray := prog_4_method_48_code
def yX2_jitter : MethodName := ⟨RX2, "jitter", "(IJ)I"⟩
abbrev cX2_round : ByteArray := prog_4_method_49_code
def yX2_round : MethodName := ⟨RX2, "round", "(III)I"⟩
abbrev cX2_judged : ByteArray := prog_4_method_50_code
def yX2_judged : MethodName := ⟨RX2, "judged", "(III)Z"⟩
abbrev cX2_judge : ByteArray := prog_4_method_51_code
def yX2_judge : MethodName := ⟨RX2, "judge", "(IJ)I"⟩
abbrev cX2_see : ByteArray := prog_4_method_52_code
def yX2_see : MethodName := ⟨RX2, "see", "(II)I"⟩
abbrev cX2_unsee : ByteArray := prog_4_method_53_code
def yX2_unsee : MethodName := ⟨RX2, "unsee", "()I"⟩
abbrev cX2_which : ByteArray := prog_4_method_54_code
def yX2_which : MethodName := ⟨RX2, "which", "()I"⟩
abbrev cX2_lettersBy : ByteArray := prog_4_method_55_code
def yX2_lettersBy : MethodName := ⟨RX2, "lettersBy", "(II)I"⟩
abbrev cX2_share : ByteArray := prog_4_method_56_code
def yX2_share : MethodName := ⟨RX2, "share", "(IZ)I"⟩
abbrev cX2_chance : ByteArray := prog_4_method_57_code
def yX2_chance : MethodName := ⟨RX2, "chance", "(IIZ)I"⟩
abbrev cX2_seed : ByteArray := prog_4_method_58_code
def yX2_seed : MethodName := ⟨RX2, "seed", "(J)J"⟩
abbrev cX2_drawn : ByteArray := prog_4_method_59_code
def yX2_drawn : MethodName := ⟨RX2, "drawn", "(I)I"⟩
abbrev cX2_keep : ByteArray := prog_4_method_60_code
def yX2_keep : MethodName := ⟨RX2, "keep", "(I)I"⟩
abbrev cX2_again : ByteArray := prog_4_method_61_code
def yX2_again : MethodName := ⟨RX2, "again", "(I)I"⟩
def RJ6 : String := "java/lang/Integer"
def TJ6 : u_T := fun k => match k with
  | _ => ("", "", "", false)
def tyJ6 : Nat → FieldType := fun k => match k with
  | _ => .int
abbrev wsJ60 : List Cond := u_ws RJ6 TJ6 0
theorem nmJ6 : ∀ a, a < 0 → ∀ b, b < 0 → a ≠ b → (TJ6 a).2.1 ≠ (TJ6 b).2.1 := by decide +kernel
theorem tyJ6_ok : ∀ k, k < 0 → parseFieldDescriptor (TJ6 k).2.2.1 = some (tyJ6 k) := by decide +kernel
abbrev cJ6_bitCount_0f7a4 : ByteArray := prog_5_method_49_code
def yJ6_bitCount_0f7a4 : MethodName := ⟨RJ6, "bitCount", "(I)I"⟩
def RJ9 : String := "java/lang/Math"
def TJ9 : u_T := fun k => match k with
  | _ => ("", "", "", false)
def tyJ9 : Nat → FieldType := fun k => match k with
  | _ => .int
abbrev wsJ90 : List Cond := u_ws RJ9 TJ9 0
theorem nmJ9 : ∀ a, a < 0 → ∀ b, b < 0 → a ≠ b → (TJ9 a).2.1 ≠ (TJ9 b).2.1 := by decide +kernel
theorem tyJ9_ok : ∀ k, k < 0 → parseFieldDescriptor (TJ9 k).2.2.1 = some (tyJ9 k) := by decide +kernel
abbrev cJ9_abs_0f7a4 : ByteArray := prog_6_method_59_code
def yJ9_abs_0f7a4 : MethodName := ⟨RJ9, "abs", "(I)I"⟩
abbrev cJ9_max_7cf53 : ByteArray := prog_6_method_65_code
def yJ9_max_7cf53 : MethodName := ⟨RJ9, "max", "(II)I"⟩
def RJ10 : String := "java/lang/System"
def TJ10 : u_T := fun k => match k with
  | _ => ("", "", "", false)
def tyJ10 : Nat → FieldType := fun k => match k with
  | _ => .int
abbrev wsJ100 : List Cond := u_ws RJ10 TJ10 0
theorem nmJ10 : ∀ a, a < 0 → ∀ b, b < 0 → a ≠ b → (TJ10 a).2.1 ≠ (TJ10 b).2.1 := by decide +kernel
theorem tyJ10_ok : ∀ k, k < 0 → parseFieldDescriptor (TJ10 k).2.2.1 = some (tyJ10 k) := by decide +kernel
def RL : String := "CrowdReportsLaw"
abbrev cL_law : ByteArray := code
def yL_law : MethodName := ⟨RL, "law", "([I)Z"⟩
def wsX0_init : List Cond := .code yX0_init cX0_init 1 none :: ([.methodLink RX0 3 objectInit, .instanceMethod objectInit, .code objectInit ⟨#[0xb1]⟩ 1 none, .fieldLink RX0 9 "CrowdReports$Crowd" "size" "I", .fieldLink RX0 15 "CrowdReports$Crowd" "rate" "I", .fieldLink RX0 18 "CrowdReports$Crowd" "min" "I", .fieldLink RX0 21 "CrowdReports$Crowd" "clock" "I", .fieldLink RX0 24 "CrowdReports$Crowd" "lot" "I", .fieldLink RX0 27 "CrowdReports$Crowd" "reports" "I", .fieldLink RX0 30 "CrowdReports$Crowd" "byes" "I", .arrayClass .int, .fieldLink RX0 33 "CrowdReports$Crowd" "kind" "[I", .fieldLink RX0 37 "CrowdReports$Crowd" "known" "[I", .fieldLink RX0 40 "CrowdReports$Crowd" "begun" "[I", .fieldLink RX0 43 "CrowdReports$Crowd" "due" "[I", .fieldLink RX0 46 "CrowdReports$Crowd" "goers" "[I", .fieldLink RX0 49 "CrowdReports$Crowd" "shut" "[I", .fieldLink RX0 52 "CrowdReports$Crowd" "lastHeard" "[I"] ++ wsX00)
def wsX0_goAway : List Cond := .code yX0_goAway cX0_goAway 2 none :: ([.fieldLink RX0 33 "CrowdReports$Crowd" "kind" "[I", .fieldLink RX0 37 "CrowdReports$Crowd" "known" "[I", .fieldLink RX0 40 "CrowdReports$Crowd" "begun" "[I", .fieldLink RX0 43 "CrowdReports$Crowd" "due" "[I", .fieldLink RX0 46 "CrowdReports$Crowd" "goers" "[I"] ++ wsX00)
def wsX0_restart : List Cond := .code yX0_restart cX0_restart 2 none :: ([.fieldLink RX0 21 "CrowdReports$Crowd" "clock" "I", .fieldLink RX0 27 "CrowdReports$Crowd" "reports" "I", .fieldLink RX0 30 "CrowdReports$Crowd" "byes" "I", .fieldLink RX0 49 "CrowdReports$Crowd" "shut" "[I", .methodLink RX0 55 yX0_goAway, .instanceMethod yX0_goAway, .selects RX0 yX0_goAway yX0_goAway, .initialized RX0, .code yX0_goAway cX0_goAway 2 none, .fieldLink RX0 33 "CrowdReports$Crowd" "kind" "[I", .fieldLink RX0 37 "CrowdReports$Crowd" "known" "[I", .fieldLink RX0 40 "CrowdReports$Crowd" "begun" "[I", .fieldLink RX0 43 "CrowdReports$Crowd" "due" "[I", .fieldLink RX0 46 "CrowdReports$Crowd" "goers" "[I"] ++ wsX00)
def wsX0_takeFrom : List Cond := .code yX0_takeFrom cX0_takeFrom 2 none :: ([.fieldLink RX0 9 "CrowdReports$Crowd" "size" "I", .fieldLink RX0 15 "CrowdReports$Crowd" "rate" "I", .fieldLink RX0 18 "CrowdReports$Crowd" "min" "I", .fieldLink RX0 21 "CrowdReports$Crowd" "clock" "I", .fieldLink RX0 24 "CrowdReports$Crowd" "lot" "I", .fieldLink RX0 27 "CrowdReports$Crowd" "reports" "I", .fieldLink RX0 30 "CrowdReports$Crowd" "byes" "I", .fieldLink RX0 33 "CrowdReports$Crowd" "kind" "[I", .methodLink RX0 59 arraycopyName, .native arraycopyName, .static arraycopyName, .initialized "java/lang/System", .fieldLink RX0 37 "CrowdReports$Crowd" "known" "[I", .fieldLink RX0 40 "CrowdReports$Crowd" "begun" "[I", .fieldLink RX0 43 "CrowdReports$Crowd" "due" "[I", .fieldLink RX0 46 "CrowdReports$Crowd" "goers" "[I", .fieldLink RX0 49 "CrowdReports$Crowd" "shut" "[I", .fieldLink RX0 52 "CrowdReports$Crowd" "lastHeard" "[I"] ++ wsX00)
def wsX0_sent : List Cond := .code yX0_sent cX0_sent 1 (some .int) :: ([.fieldLink RX0 27 "CrowdReports$Crowd" "reports" "I", .fieldLink RX0 30 "CrowdReports$Crowd" "byes" "I"] ++ wsX00)
def wsX0_bitsOf : List Cond := .code yX0_bitsOf cX0_bitsOf 4 (some .int) :: ([.fieldLink RX0 33 "CrowdReports$Crowd" "kind" "[I"] ++ wsX00)
def wsX0_knows : List Cond := .code yX0_knows cX0_knows 3 (some .boolean) :: ([.fieldLink RX0 37 "CrowdReports$Crowd" "known" "[I"] ++ wsX00)
def wsX0_isOpen : List Cond := .code yX0_isOpen cX0_isOpen 3 (some .boolean) :: ([.fieldLink RX0 49 "CrowdReports$Crowd" "shut" "[I"] ++ wsX00)
def wsJ6_bitCount_0f7a4 : List Cond := .code yJ6_bitCount_0f7a4 cJ6_bitCount_0f7a4 1 (some .int) :: ([.constant RJ6 265 (1431655765), .constant RJ6 266 (858993459), .constant RJ6 267 (252645135)])
def wsX0_countOf : List Cond := .code yX0_countOf cX0_countOf 2 (some .int) :: ([.fieldLink RX0 37 "CrowdReports$Crowd" "known" "[I", .methodLink RX0 65 yJ6_bitCount_0f7a4, .static yJ6_bitCount_0f7a4, .initialized RJ6, .code yJ6_bitCount_0f7a4 cJ6_bitCount_0f7a4 1 (some .int), .constant RJ6 265 (1431655765), .constant RJ6 266 (858993459), .constant RJ6 267 (252645135)] ++ wsX00)
def wsX0_countTold : List Cond := .code yX0_countTold cX0_countTold 2 (some .int) :: ([.fieldLink RX0 33 "CrowdReports$Crowd" "kind" "[I", .methodLink RX0 71 yX0_countOf, .instanceMethod yX0_countOf, .selects RX0 yX0_countOf yX0_countOf, .initialized RX0, .code yX0_countOf cX0_countOf 2 (some .int), .fieldLink RX0 37 "CrowdReports$Crowd" "known" "[I", .methodLink RX0 65 yJ6_bitCount_0f7a4, .static yJ6_bitCount_0f7a4, .initialized RJ6, .code yJ6_bitCount_0f7a4 cJ6_bitCount_0f7a4 1 (some .int), .constant RJ6 265 (1431655765), .constant RJ6 266 (858993459), .constant RJ6 267 (252645135)] ++ wsX00)
def wsX0_isAtRest : List Cond := .code yX0_isAtRest cX0_isAtRest 3 (some .boolean) :: ([.fieldLink RX0 33 "CrowdReports$Crowd" "kind" "[I", .fieldLink RX0 37 "CrowdReports$Crowd" "known" "[I", .methodLink RX0 74 yX0_bitsOf, .instanceMethod yX0_bitsOf, .selects RX0 yX0_bitsOf yX0_bitsOf, .initialized RX0, .code yX0_bitsOf cX0_bitsOf 4 (some .int)] ++ wsX00)
def wsX0_feltBits : List Cond := .code yX0_feltBits cX0_feltBits 3 (some .int) :: ([.fieldLink RX0 37 "CrowdReports$Crowd" "known" "[I", .fieldLink RX0 33 "CrowdReports$Crowd" "kind" "[I"] ++ wsX00)
def wsX0_leaveOnly : List Cond := .code yX0_leaveOnly cX0_leaveOnly 3 none :: ([.fieldLink RX0 37 "CrowdReports$Crowd" "known" "[I", .methodLink RX0 55 yX0_goAway, .instanceMethod yX0_goAway, .selects RX0 yX0_goAway yX0_goAway, .initialized RX0, .code yX0_goAway cX0_goAway 2 none, .fieldLink RX0 33 "CrowdReports$Crowd" "kind" "[I", .fieldLink RX0 40 "CrowdReports$Crowd" "begun" "[I", .fieldLink RX0 43 "CrowdReports$Crowd" "due" "[I", .fieldLink RX0 46 "CrowdReports$Crowd" "goers" "[I"] ++ wsX00)
def wsX0_turnWay : List Cond := .code yX0_turnWay cX0_turnWay 3 (some .boolean) :: ([.fieldLink RX0 49 "CrowdReports$Crowd" "shut" "[I"] ++ wsX00)
def wsX0_tellAnew : List Cond := .code yX0_tellAnew cX0_tellAnew 4 (some .int) :: ([.fieldLink RX0 9 "CrowdReports$Crowd" "size" "I", .fieldLink RX0 15 "CrowdReports$Crowd" "rate" "I", .fieldLink RX0 18 "CrowdReports$Crowd" "min" "I"] ++ wsX00)
def wsX0_spanOf : List Cond := .code yX0_spanOf cX0_spanOf 3 (some .int) :: ([.fieldLink RX0 15 "CrowdReports$Crowd" "rate" "I", .methodLink RX0 77 Lib.Math.max.name, .static Lib.Math.max.name, .initialized "java/lang/Math", .code Lib.Math.max.name Lib.Math.max.code 2 (some .int), .fieldLink RX0 18 "CrowdReports$Crowd" "min" "I", .fieldLink RX0 9 "CrowdReports$Crowd" "size" "I"] ++ wsX00)
def wsX0_waitOf : List Cond := .code yX0_waitOf cX0_waitOf 3 (some .int) :: ([.fieldLink RX0 24 "CrowdReports$Crowd" "lot" "I", .constant RX0 83 (65536), .methodLink RX0 77 Lib.Math.max.name, .static Lib.Math.max.name, .initialized "java/lang/Math", .code Lib.Math.max.name Lib.Math.max.code 2 (some .int), .methodLink RX0 84 yX0_spanOf, .instanceMethod yX0_spanOf, .selects RX0 yX0_spanOf yX0_spanOf, .initialized RX0, .code yX0_spanOf cX0_spanOf 3 (some .int), .fieldLink RX0 15 "CrowdReports$Crowd" "rate" "I", .fieldLink RX0 18 "CrowdReports$Crowd" "min" "I", .fieldLink RX0 9 "CrowdReports$Crowd" "size" "I"] ++ wsX00)
def wsX0_begin : List Cond := .code yX0_begin cX0_begin 2 none :: ([.fieldLink RX0 40 "CrowdReports$Crowd" "begun" "[I", .fieldLink RX0 21 "CrowdReports$Crowd" "clock" "I", .fieldLink RX0 43 "CrowdReports$Crowd" "due" "[I", .methodLink RX0 87 yX0_waitOf, .instanceMethod yX0_waitOf, .selects RX0 yX0_waitOf yX0_waitOf, .initialized RX0, .code yX0_waitOf cX0_waitOf 3 (some .int), .fieldLink RX0 24 "CrowdReports$Crowd" "lot" "I", .constant RX0 83 (65536), .methodLink RX0 77 Lib.Math.max.name, .static Lib.Math.max.name, .initialized "java/lang/Math", .code Lib.Math.max.name Lib.Math.max.code 2 (some .int), .methodLink RX0 84 yX0_spanOf, .instanceMethod yX0_spanOf, .selects RX0 yX0_spanOf yX0_spanOf, .code yX0_spanOf cX0_spanOf 3 (some .int), .fieldLink RX0 15 "CrowdReports$Crowd" "rate" "I", .fieldLink RX0 18 "CrowdReports$Crowd" "min" "I", .fieldLink RX0 9 "CrowdReports$Crowd" "size" "I"] ++ wsX00)
def wsX1_isMember : List Cond := .code yX1_isMember cX1_isMember 1 (some .boolean) :: ([])
def wsX0_enter_r1 : List Cond := [Cond.fieldLink RX0 33 "CrowdReports$Crowd" "kind" "[I", Cond.static yX1_isMember, Cond.initialized RX1, Cond.code yX1_isMember cX1_isMember 1 (some .boolean), Cond.methodLink RX0 94 yX0_begin, Cond.instanceMethod yX0_begin, Cond.selects RX0 yX0_begin yX0_begin, Cond.initialized RX0, Cond.code yX0_begin cX0_begin 2 none, Cond.fieldLink RX0 40 "CrowdReports$Crowd" "begun" "[I", Cond.fieldLink RX0 21 "CrowdReports$Crowd" "clock" "I", Cond.fieldLink RX0 43 "CrowdReports$Crowd" "due" "[I", Cond.methodLink RX0 87 yX0_waitOf, Cond.instanceMethod yX0_waitOf, Cond.selects RX0 yX0_waitOf yX0_waitOf, Cond.code yX0_waitOf cX0_waitOf 3 (some .int), Cond.fieldLink RX0 24 "CrowdReports$Crowd" "lot" "I", Cond.constant RX0 83 (65536), Cond.methodLink RX0 77 Lib.Math.max.name, Cond.static Lib.Math.max.name, Cond.initialized "java/lang/Math", Cond.code Lib.Math.max.name Lib.Math.max.code 2 (some .int), Cond.methodLink RX0 84 yX0_spanOf, Cond.instanceMethod yX0_spanOf]
def wsX0_enter_r2 : List Cond := [Cond.selects RX0 yX0_spanOf yX0_spanOf, Cond.code yX0_spanOf cX0_spanOf 3 (some .int), Cond.fieldLink RX0 15 "CrowdReports$Crowd" "rate" "I", Cond.fieldLink RX0 18 "CrowdReports$Crowd" "min" "I", Cond.fieldLink RX0 9 "CrowdReports$Crowd" "size" "I"]
def wsX0_enter : List Cond := .code yX0_enter cX0_enter 2 (some .boolean) :: ((wsX0_enter_r1 ++ wsX0_enter_r2) ++ wsX00)
def wsX0_reaches : List Cond := .code yX0_reaches cX0_reaches 3 (some .boolean) :: ([.fieldLink RX0 33 "CrowdReports$Crowd" "kind" "[I", .methodLink RX0 123 yX0_isOpen, .instanceMethod yX0_isOpen, .selects RX0 yX0_isOpen yX0_isOpen, .initialized RX0, .code yX0_isOpen cX0_isOpen 3 (some .boolean), .fieldLink RX0 49 "CrowdReports$Crowd" "shut" "[I"] ++ wsX00)
def wsX0_hearBye_r1 : List Cond := [Cond.fieldLink RX0 33 "CrowdReports$Crowd" "kind" "[I", Cond.fieldLink RX0 46 "CrowdReports$Crowd" "goers" "[I", Cond.fieldLink RX0 37 "CrowdReports$Crowd" "known" "[I", Cond.fieldLink RX0 43 "CrowdReports$Crowd" "due" "[I", Cond.fieldLink RX0 21 "CrowdReports$Crowd" "clock" "I", Cond.methodLink RX0 77 Lib.Math.max.name, Cond.static Lib.Math.max.name, Cond.initialized "java/lang/Math", Cond.code Lib.Math.max.name Lib.Math.max.code 2 (some .int), Cond.fieldLink RX0 40 "CrowdReports$Crowd" "begun" "[I", Cond.methodLink RX0 119 yX0_knows, Cond.instanceMethod yX0_knows, Cond.selects RX0 yX0_knows yX0_knows, Cond.initialized RX0, Cond.code yX0_knows cX0_knows 3 (some .boolean), Cond.methodLink RX0 71 yX0_countOf, Cond.instanceMethod yX0_countOf, Cond.selects RX0 yX0_countOf yX0_countOf, Cond.code yX0_countOf cX0_countOf 2 (some .int), Cond.methodLink RX0 65 yJ6_bitCount_0f7a4, Cond.static yJ6_bitCount_0f7a4, Cond.initialized RJ6, Cond.code yJ6_bitCount_0f7a4 cJ6_bitCount_0f7a4 1 (some .int), Cond.constant RJ6 265 (1431655765)]
def wsX0_hearBye_r2 : List Cond := [Cond.constant RJ6 266 (858993459), Cond.constant RJ6 267 (252645135)]
def wsX0_hearBye : List Cond := .code yX0_hearBye cX0_hearBye 5 none :: ((wsX0_hearBye_r1 ++ wsX0_hearBye_r2) ++ wsX00)
def wsX0_sendBye_r1 : List Cond := [Cond.fieldLink RX0 30 "CrowdReports$Crowd" "byes" "I", Cond.methodLink RX0 55 yX0_goAway, Cond.instanceMethod yX0_goAway, Cond.selects RX0 yX0_goAway yX0_goAway, Cond.initialized RX0, Cond.code yX0_goAway cX0_goAway 2 none, Cond.fieldLink RX0 33 "CrowdReports$Crowd" "kind" "[I", Cond.fieldLink RX0 37 "CrowdReports$Crowd" "known" "[I", Cond.fieldLink RX0 40 "CrowdReports$Crowd" "begun" "[I", Cond.fieldLink RX0 43 "CrowdReports$Crowd" "due" "[I", Cond.fieldLink RX0 46 "CrowdReports$Crowd" "goers" "[I", Cond.methodLink RX0 126 yX0_reaches, Cond.instanceMethod yX0_reaches, Cond.selects RX0 yX0_reaches yX0_reaches, Cond.code yX0_reaches cX0_reaches 3 (some .boolean), Cond.methodLink RX0 123 yX0_isOpen, Cond.instanceMethod yX0_isOpen, Cond.selects RX0 yX0_isOpen yX0_isOpen, Cond.code yX0_isOpen cX0_isOpen 3 (some .boolean), Cond.fieldLink RX0 49 "CrowdReports$Crowd" "shut" "[I", Cond.methodLink RX0 129 yX0_hearBye, Cond.instanceMethod yX0_hearBye, Cond.selects RX0 yX0_hearBye yX0_hearBye, Cond.code yX0_hearBye cX0_hearBye 5 none]
def wsX0_sendBye_r2 : List Cond := [Cond.fieldLink RX0 21 "CrowdReports$Crowd" "clock" "I", Cond.methodLink RX0 77 Lib.Math.max.name, Cond.static Lib.Math.max.name, Cond.initialized "java/lang/Math", Cond.code Lib.Math.max.name Lib.Math.max.code 2 (some .int), Cond.methodLink RX0 119 yX0_knows, Cond.instanceMethod yX0_knows, Cond.selects RX0 yX0_knows yX0_knows, Cond.code yX0_knows cX0_knows 3 (some .boolean), Cond.methodLink RX0 71 yX0_countOf, Cond.instanceMethod yX0_countOf, Cond.selects RX0 yX0_countOf yX0_countOf, Cond.code yX0_countOf cX0_countOf 2 (some .int), Cond.methodLink RX0 65 yJ6_bitCount_0f7a4, Cond.static yJ6_bitCount_0f7a4, Cond.initialized RJ6, Cond.code yJ6_bitCount_0f7a4 cJ6_bitCount_0f7a4 1 (some .int), Cond.constant RJ6 265 (1431655765), Cond.constant RJ6 266 (858993459), Cond.constant RJ6 267 (252645135)]
def wsX0_sendBye : List Cond := .code yX0_sendBye cX0_sendBye 3 none :: ((wsX0_sendBye_r1 ++ wsX0_sendBye_r2) ++ wsX00)
def wsX0_depart_r1 : List Cond := [Cond.fieldLink RX0 33 "CrowdReports$Crowd" "kind" "[I", Cond.fieldLink RX0 46 "CrowdReports$Crowd" "goers" "[I", Cond.static yX1_isMember, Cond.initialized RX1, Cond.code yX1_isMember cX1_isMember 1 (some .boolean), Cond.methodLink RX0 71 yX0_countOf, Cond.instanceMethod yX0_countOf, Cond.selects RX0 yX0_countOf yX0_countOf, Cond.initialized RX0, Cond.code yX0_countOf cX0_countOf 2 (some .int), Cond.fieldLink RX0 37 "CrowdReports$Crowd" "known" "[I", Cond.methodLink RX0 65 yJ6_bitCount_0f7a4, Cond.static yJ6_bitCount_0f7a4, Cond.initialized RJ6, Cond.code yJ6_bitCount_0f7a4 cJ6_bitCount_0f7a4 1 (some .int), Cond.constant RJ6 265 (1431655765), Cond.constant RJ6 266 (858993459), Cond.constant RJ6 267 (252645135), Cond.methodLink RX0 97 yX0_sendBye, Cond.instanceMethod yX0_sendBye, Cond.selects RX0 yX0_sendBye yX0_sendBye, Cond.code yX0_sendBye cX0_sendBye 3 none, Cond.fieldLink RX0 30 "CrowdReports$Crowd" "byes" "I", Cond.methodLink RX0 55 yX0_goAway]
def wsX0_depart_r2 : List Cond := [Cond.instanceMethod yX0_goAway, Cond.selects RX0 yX0_goAway yX0_goAway, Cond.code yX0_goAway cX0_goAway 2 none, Cond.fieldLink RX0 40 "CrowdReports$Crowd" "begun" "[I", Cond.fieldLink RX0 43 "CrowdReports$Crowd" "due" "[I", Cond.methodLink RX0 126 yX0_reaches, Cond.instanceMethod yX0_reaches, Cond.selects RX0 yX0_reaches yX0_reaches, Cond.code yX0_reaches cX0_reaches 3 (some .boolean), Cond.methodLink RX0 123 yX0_isOpen, Cond.instanceMethod yX0_isOpen, Cond.selects RX0 yX0_isOpen yX0_isOpen, Cond.code yX0_isOpen cX0_isOpen 3 (some .boolean), Cond.fieldLink RX0 49 "CrowdReports$Crowd" "shut" "[I", Cond.methodLink RX0 129 yX0_hearBye, Cond.instanceMethod yX0_hearBye, Cond.selects RX0 yX0_hearBye yX0_hearBye, Cond.code yX0_hearBye cX0_hearBye 5 none, Cond.fieldLink RX0 21 "CrowdReports$Crowd" "clock" "I", Cond.methodLink RX0 77 Lib.Math.max.name, Cond.static Lib.Math.max.name, Cond.initialized "java/lang/Math", Cond.code Lib.Math.max.name Lib.Math.max.code 2 (some .int), Cond.methodLink RX0 119 yX0_knows]
def wsX0_depart_r3 : List Cond := [Cond.instanceMethod yX0_knows, Cond.selects RX0 yX0_knows yX0_knows, Cond.code yX0_knows cX0_knows 3 (some .boolean), Cond.methodLink RX0 94 yX0_begin, Cond.instanceMethod yX0_begin, Cond.selects RX0 yX0_begin yX0_begin, Cond.code yX0_begin cX0_begin 2 none, Cond.methodLink RX0 87 yX0_waitOf, Cond.instanceMethod yX0_waitOf, Cond.selects RX0 yX0_waitOf yX0_waitOf, Cond.code yX0_waitOf cX0_waitOf 3 (some .int), Cond.fieldLink RX0 24 "CrowdReports$Crowd" "lot" "I", Cond.constant RX0 83 (65536), Cond.methodLink RX0 84 yX0_spanOf, Cond.instanceMethod yX0_spanOf, Cond.selects RX0 yX0_spanOf yX0_spanOf, Cond.code yX0_spanOf cX0_spanOf 3 (some .int), Cond.fieldLink RX0 15 "CrowdReports$Crowd" "rate" "I", Cond.fieldLink RX0 18 "CrowdReports$Crowd" "min" "I", Cond.fieldLink RX0 9 "CrowdReports$Crowd" "size" "I"]
def wsX0_depart : List Cond := .code yX0_depart cX0_depart 2 (some .boolean) :: ((wsX0_depart_r1 ++ (wsX0_depart_r2 ++ wsX0_depart_r3)) ++ wsX00)
def wsX0_enterOrDepart_r1 : List Cond := [Cond.methodLink RX0 100 yX0_enter, Cond.instanceMethod yX0_enter, Cond.selects RX0 yX0_enter yX0_enter, Cond.initialized RX0, Cond.code yX0_enter cX0_enter 2 (some .boolean), Cond.fieldLink RX0 33 "CrowdReports$Crowd" "kind" "[I", Cond.static yX1_isMember, Cond.initialized RX1, Cond.code yX1_isMember cX1_isMember 1 (some .boolean), Cond.methodLink RX0 94 yX0_begin, Cond.instanceMethod yX0_begin, Cond.selects RX0 yX0_begin yX0_begin, Cond.code yX0_begin cX0_begin 2 none, Cond.fieldLink RX0 40 "CrowdReports$Crowd" "begun" "[I", Cond.fieldLink RX0 21 "CrowdReports$Crowd" "clock" "I", Cond.fieldLink RX0 43 "CrowdReports$Crowd" "due" "[I", Cond.methodLink RX0 87 yX0_waitOf, Cond.instanceMethod yX0_waitOf, Cond.selects RX0 yX0_waitOf yX0_waitOf, Cond.code yX0_waitOf cX0_waitOf 3 (some .int), Cond.fieldLink RX0 24 "CrowdReports$Crowd" "lot" "I", Cond.constant RX0 83 (65536), Cond.methodLink RX0 77 Lib.Math.max.name, Cond.static Lib.Math.max.name]
def wsX0_enterOrDepart_r2 : List Cond := [Cond.initialized "java/lang/Math", Cond.code Lib.Math.max.name Lib.Math.max.code 2 (some .int), Cond.methodLink RX0 84 yX0_spanOf, Cond.instanceMethod yX0_spanOf, Cond.selects RX0 yX0_spanOf yX0_spanOf, Cond.code yX0_spanOf cX0_spanOf 3 (some .int), Cond.fieldLink RX0 15 "CrowdReports$Crowd" "rate" "I", Cond.fieldLink RX0 18 "CrowdReports$Crowd" "min" "I", Cond.fieldLink RX0 9 "CrowdReports$Crowd" "size" "I", Cond.methodLink RX0 103 yX0_depart, Cond.instanceMethod yX0_depart, Cond.selects RX0 yX0_depart yX0_depart, Cond.code yX0_depart cX0_depart 2 (some .boolean), Cond.fieldLink RX0 46 "CrowdReports$Crowd" "goers" "[I", Cond.methodLink RX0 71 yX0_countOf, Cond.instanceMethod yX0_countOf, Cond.selects RX0 yX0_countOf yX0_countOf, Cond.code yX0_countOf cX0_countOf 2 (some .int), Cond.fieldLink RX0 37 "CrowdReports$Crowd" "known" "[I", Cond.methodLink RX0 65 yJ6_bitCount_0f7a4, Cond.static yJ6_bitCount_0f7a4, Cond.initialized RJ6, Cond.code yJ6_bitCount_0f7a4 cJ6_bitCount_0f7a4 1 (some .int), Cond.constant RJ6 265 (1431655765)]
def wsX0_enterOrDepart_r3 : List Cond := [Cond.constant RJ6 266 (858993459), Cond.constant RJ6 267 (252645135), Cond.methodLink RX0 97 yX0_sendBye, Cond.instanceMethod yX0_sendBye, Cond.selects RX0 yX0_sendBye yX0_sendBye, Cond.code yX0_sendBye cX0_sendBye 3 none, Cond.fieldLink RX0 30 "CrowdReports$Crowd" "byes" "I", Cond.methodLink RX0 55 yX0_goAway, Cond.instanceMethod yX0_goAway, Cond.selects RX0 yX0_goAway yX0_goAway, Cond.code yX0_goAway cX0_goAway 2 none, Cond.methodLink RX0 126 yX0_reaches, Cond.instanceMethod yX0_reaches, Cond.selects RX0 yX0_reaches yX0_reaches, Cond.code yX0_reaches cX0_reaches 3 (some .boolean), Cond.methodLink RX0 123 yX0_isOpen, Cond.instanceMethod yX0_isOpen, Cond.selects RX0 yX0_isOpen yX0_isOpen, Cond.code yX0_isOpen cX0_isOpen 3 (some .boolean), Cond.fieldLink RX0 49 "CrowdReports$Crowd" "shut" "[I", Cond.methodLink RX0 129 yX0_hearBye, Cond.instanceMethod yX0_hearBye, Cond.selects RX0 yX0_hearBye yX0_hearBye, Cond.code yX0_hearBye cX0_hearBye 5 none]
def wsX0_enterOrDepart_r4 : List Cond := [Cond.methodLink RX0 119 yX0_knows, Cond.instanceMethod yX0_knows, Cond.selects RX0 yX0_knows yX0_knows, Cond.code yX0_knows cX0_knows 3 (some .boolean)]
def wsX0_enterOrDepart : List Cond := .code yX0_enterOrDepart cX0_enterOrDepart 2 none :: ((wsX0_enterOrDepart_r1 ++ (wsX0_enterOrDepart_r2 ++ (wsX0_enterOrDepart_r3 ++ wsX0_enterOrDepart_r4))) ++ wsX00)
def wsX0_sendReport : List Cond := .code yX0_sendReport cX0_sendReport 3 none :: ([.fieldLink RX0 27 "CrowdReports$Crowd" "reports" "I", .fieldLink RX0 37 "CrowdReports$Crowd" "known" "[I", .fieldLink RX0 52 "CrowdReports$Crowd" "lastHeard" "[I", .fieldLink RX0 21 "CrowdReports$Crowd" "clock" "I", .methodLink RX0 126 yX0_reaches, .instanceMethod yX0_reaches, .selects RX0 yX0_reaches yX0_reaches, .initialized RX0, .code yX0_reaches cX0_reaches 3 (some .boolean), .fieldLink RX0 33 "CrowdReports$Crowd" "kind" "[I", .methodLink RX0 123 yX0_isOpen, .instanceMethod yX0_isOpen, .selects RX0 yX0_isOpen yX0_isOpen, .code yX0_isOpen cX0_isOpen 3 (some .boolean), .fieldLink RX0 49 "CrowdReports$Crowd" "shut" "[I"] ++ wsX00)
def wsX0_comeDue_r1 : List Cond := [Cond.fieldLink RX0 33 "CrowdReports$Crowd" "kind" "[I", Cond.fieldLink RX0 46 "CrowdReports$Crowd" "goers" "[I", Cond.fieldLink RX0 40 "CrowdReports$Crowd" "begun" "[I", Cond.fieldLink RX0 21 "CrowdReports$Crowd" "clock" "I", Cond.fieldLink RX0 43 "CrowdReports$Crowd" "due" "[I", Cond.methodLink RX0 71 yX0_countOf, Cond.instanceMethod yX0_countOf, Cond.selects RX0 yX0_countOf yX0_countOf, Cond.initialized RX0, Cond.code yX0_countOf cX0_countOf 2 (some .int), Cond.fieldLink RX0 37 "CrowdReports$Crowd" "known" "[I", Cond.methodLink RX0 65 yJ6_bitCount_0f7a4, Cond.static yJ6_bitCount_0f7a4, Cond.initialized RJ6, Cond.code yJ6_bitCount_0f7a4 cJ6_bitCount_0f7a4 1 (some .int), Cond.constant RJ6 265 (1431655765), Cond.constant RJ6 266 (858993459), Cond.constant RJ6 267 (252645135), Cond.methodLink RX0 87 yX0_waitOf, Cond.instanceMethod yX0_waitOf, Cond.selects RX0 yX0_waitOf yX0_waitOf, Cond.code yX0_waitOf cX0_waitOf 3 (some .int), Cond.fieldLink RX0 24 "CrowdReports$Crowd" "lot" "I", Cond.constant RX0 83 (65536)]
def wsX0_comeDue_r2 : List Cond := [Cond.methodLink RX0 77 Lib.Math.max.name, Cond.static Lib.Math.max.name, Cond.initialized "java/lang/Math", Cond.code Lib.Math.max.name Lib.Math.max.code 2 (some .int), Cond.methodLink RX0 84 yX0_spanOf, Cond.instanceMethod yX0_spanOf, Cond.selects RX0 yX0_spanOf yX0_spanOf, Cond.code yX0_spanOf cX0_spanOf 3 (some .int), Cond.fieldLink RX0 15 "CrowdReports$Crowd" "rate" "I", Cond.fieldLink RX0 18 "CrowdReports$Crowd" "min" "I", Cond.fieldLink RX0 9 "CrowdReports$Crowd" "size" "I", Cond.methodLink RX0 97 yX0_sendBye, Cond.instanceMethod yX0_sendBye, Cond.selects RX0 yX0_sendBye yX0_sendBye, Cond.code yX0_sendBye cX0_sendBye 3 none, Cond.fieldLink RX0 30 "CrowdReports$Crowd" "byes" "I", Cond.methodLink RX0 55 yX0_goAway, Cond.instanceMethod yX0_goAway, Cond.selects RX0 yX0_goAway yX0_goAway, Cond.code yX0_goAway cX0_goAway 2 none, Cond.methodLink RX0 126 yX0_reaches, Cond.instanceMethod yX0_reaches, Cond.selects RX0 yX0_reaches yX0_reaches, Cond.code yX0_reaches cX0_reaches 3 (some .boolean)]
def wsX0_comeDue_r3 : List Cond := [Cond.methodLink RX0 123 yX0_isOpen, Cond.instanceMethod yX0_isOpen, Cond.selects RX0 yX0_isOpen yX0_isOpen, Cond.code yX0_isOpen cX0_isOpen 3 (some .boolean), Cond.fieldLink RX0 49 "CrowdReports$Crowd" "shut" "[I", Cond.methodLink RX0 129 yX0_hearBye, Cond.instanceMethod yX0_hearBye, Cond.selects RX0 yX0_hearBye yX0_hearBye, Cond.code yX0_hearBye cX0_hearBye 5 none, Cond.methodLink RX0 119 yX0_knows, Cond.instanceMethod yX0_knows, Cond.selects RX0 yX0_knows yX0_knows, Cond.code yX0_knows cX0_knows 3 (some .boolean), Cond.methodLink RX0 116 yX0_sendReport, Cond.instanceMethod yX0_sendReport, Cond.selects RX0 yX0_sendReport yX0_sendReport, Cond.code yX0_sendReport cX0_sendReport 3 none, Cond.fieldLink RX0 27 "CrowdReports$Crowd" "reports" "I", Cond.fieldLink RX0 52 "CrowdReports$Crowd" "lastHeard" "[I"]
def wsX0_comeDue : List Cond := .code yX0_comeDue cX0_comeDue 4 none :: ((wsX0_comeDue_r1 ++ (wsX0_comeDue_r2 ++ wsX0_comeDue_r3)) ++ wsX00)
def wsX0_forgetOld_r1 : List Cond := [Cond.fieldLink RX0 21 "CrowdReports$Crowd" "clock" "I", Cond.fieldLink RX0 52 "CrowdReports$Crowd" "lastHeard" "[I", Cond.fieldLink RX0 37 "CrowdReports$Crowd" "known" "[I", Cond.methodLink RX0 71 yX0_countOf, Cond.instanceMethod yX0_countOf, Cond.selects RX0 yX0_countOf yX0_countOf, Cond.initialized RX0, Cond.code yX0_countOf cX0_countOf 2 (some .int), Cond.methodLink RX0 65 yJ6_bitCount_0f7a4, Cond.static yJ6_bitCount_0f7a4, Cond.initialized RJ6, Cond.code yJ6_bitCount_0f7a4 cJ6_bitCount_0f7a4 1 (some .int), Cond.constant RJ6 265 (1431655765), Cond.constant RJ6 266 (858993459), Cond.constant RJ6 267 (252645135), Cond.methodLink RX0 84 yX0_spanOf, Cond.instanceMethod yX0_spanOf, Cond.selects RX0 yX0_spanOf yX0_spanOf, Cond.code yX0_spanOf cX0_spanOf 3 (some .int), Cond.fieldLink RX0 15 "CrowdReports$Crowd" "rate" "I", Cond.methodLink RX0 77 Lib.Math.max.name, Cond.static Lib.Math.max.name, Cond.initialized "java/lang/Math", Cond.code Lib.Math.max.name Lib.Math.max.code 2 (some .int)]
def wsX0_forgetOld_r2 : List Cond := [Cond.fieldLink RX0 18 "CrowdReports$Crowd" "min" "I", Cond.fieldLink RX0 9 "CrowdReports$Crowd" "size" "I", Cond.methodLink RX0 119 yX0_knows, Cond.instanceMethod yX0_knows, Cond.selects RX0 yX0_knows yX0_knows, Cond.code yX0_knows cX0_knows 3 (some .boolean)]
def wsX0_forgetOld : List Cond := .code yX0_forgetOld cX0_forgetOld 5 none :: ((wsX0_forgetOld_r1 ++ wsX0_forgetOld_r2) ++ wsX00)
def wsX0_run_r1 : List Cond := [Cond.fieldLink RX0 21 "CrowdReports$Crowd" "clock" "I", Cond.fieldLink RX0 33 "CrowdReports$Crowd" "kind" "[I", Cond.fieldLink RX0 43 "CrowdReports$Crowd" "due" "[I", Cond.fieldLink RX0 37 "CrowdReports$Crowd" "known" "[I", Cond.methodLink RX0 106 yX0_sent, Cond.instanceMethod yX0_sent, Cond.selects RX0 yX0_sent yX0_sent, Cond.initialized RX0, Cond.code yX0_sent cX0_sent 1 (some .int), Cond.fieldLink RX0 27 "CrowdReports$Crowd" "reports" "I", Cond.fieldLink RX0 30 "CrowdReports$Crowd" "byes" "I", Cond.methodLink RX0 110 yX0_comeDue, Cond.instanceMethod yX0_comeDue, Cond.selects RX0 yX0_comeDue yX0_comeDue, Cond.code yX0_comeDue cX0_comeDue 4 none, Cond.fieldLink RX0 46 "CrowdReports$Crowd" "goers" "[I", Cond.fieldLink RX0 40 "CrowdReports$Crowd" "begun" "[I", Cond.methodLink RX0 71 yX0_countOf, Cond.instanceMethod yX0_countOf, Cond.selects RX0 yX0_countOf yX0_countOf, Cond.code yX0_countOf cX0_countOf 2 (some .int), Cond.methodLink RX0 65 yJ6_bitCount_0f7a4, Cond.static yJ6_bitCount_0f7a4, Cond.initialized RJ6]
def wsX0_run_r2 : List Cond := [Cond.code yJ6_bitCount_0f7a4 cJ6_bitCount_0f7a4 1 (some .int), Cond.constant RJ6 265 (1431655765), Cond.constant RJ6 266 (858993459), Cond.constant RJ6 267 (252645135), Cond.methodLink RX0 87 yX0_waitOf, Cond.instanceMethod yX0_waitOf, Cond.selects RX0 yX0_waitOf yX0_waitOf, Cond.code yX0_waitOf cX0_waitOf 3 (some .int), Cond.fieldLink RX0 24 "CrowdReports$Crowd" "lot" "I", Cond.constant RX0 83 (65536), Cond.methodLink RX0 77 Lib.Math.max.name, Cond.static Lib.Math.max.name, Cond.initialized "java/lang/Math", Cond.code Lib.Math.max.name Lib.Math.max.code 2 (some .int), Cond.methodLink RX0 84 yX0_spanOf, Cond.instanceMethod yX0_spanOf, Cond.selects RX0 yX0_spanOf yX0_spanOf, Cond.code yX0_spanOf cX0_spanOf 3 (some .int), Cond.fieldLink RX0 15 "CrowdReports$Crowd" "rate" "I", Cond.fieldLink RX0 18 "CrowdReports$Crowd" "min" "I", Cond.fieldLink RX0 9 "CrowdReports$Crowd" "size" "I", Cond.methodLink RX0 97 yX0_sendBye, Cond.instanceMethod yX0_sendBye, Cond.selects RX0 yX0_sendBye yX0_sendBye]
def wsX0_run_r3 : List Cond := [Cond.code yX0_sendBye cX0_sendBye 3 none, Cond.methodLink RX0 55 yX0_goAway, Cond.instanceMethod yX0_goAway, Cond.selects RX0 yX0_goAway yX0_goAway, Cond.code yX0_goAway cX0_goAway 2 none, Cond.methodLink RX0 126 yX0_reaches, Cond.instanceMethod yX0_reaches, Cond.selects RX0 yX0_reaches yX0_reaches, Cond.code yX0_reaches cX0_reaches 3 (some .boolean), Cond.methodLink RX0 123 yX0_isOpen, Cond.instanceMethod yX0_isOpen, Cond.selects RX0 yX0_isOpen yX0_isOpen, Cond.code yX0_isOpen cX0_isOpen 3 (some .boolean), Cond.fieldLink RX0 49 "CrowdReports$Crowd" "shut" "[I", Cond.methodLink RX0 129 yX0_hearBye, Cond.instanceMethod yX0_hearBye, Cond.selects RX0 yX0_hearBye yX0_hearBye, Cond.code yX0_hearBye cX0_hearBye 5 none, Cond.methodLink RX0 119 yX0_knows, Cond.instanceMethod yX0_knows, Cond.selects RX0 yX0_knows yX0_knows, Cond.code yX0_knows cX0_knows 3 (some .boolean), Cond.methodLink RX0 116 yX0_sendReport, Cond.instanceMethod yX0_sendReport]
def wsX0_run_r4 : List Cond := [Cond.selects RX0 yX0_sendReport yX0_sendReport, Cond.code yX0_sendReport cX0_sendReport 3 none, Cond.fieldLink RX0 52 "CrowdReports$Crowd" "lastHeard" "[I", Cond.methodLink RX0 113 yX0_forgetOld, Cond.instanceMethod yX0_forgetOld, Cond.selects RX0 yX0_forgetOld yX0_forgetOld, Cond.code yX0_forgetOld cX0_forgetOld 5 none]
def wsX0_run : List Cond := .code yX0_run cX0_run 5 (some .int) :: ((wsX0_run_r1 ++ (wsX0_run_r2 ++ (wsX0_run_r3 ++ wsX0_run_r4))) ++ wsX00)
def wsX1_init_r1 : List Cond := [Cond.methodLink RX1 1 objectInit, Cond.instanceMethod objectInit, Cond.code objectInit ⟨#[0xb1]⟩ 1 none, Cond.classLink RX1 7 RX0, Cond.instantiable RX0 14, Cond.initialized RX0, Cond.fieldLink RX1 10 "CrowdReports" "now" "LCrowdReports$Crowd;", Cond.fieldLink RX1 16 "CrowdReports" "trial" "LCrowdReports$Crowd;", Cond.fieldLink RX1 19 "CrowdReports" "past" "[LCrowdReports$Crowd;", Cond.fieldLink RX1 23 "CrowdReports" "acts" "I", Cond.fieldLink RX1 27 "CrowdReports" "slots" "[LCrowdReports$Crowd;", Cond.fieldLink RX1 30 "CrowdReports" "keptBits" "I", Cond.arrayClass .int, Cond.fieldLink RX1 33 "CrowdReports" "text" "[I", Cond.fieldLink RX1 37 "CrowdReports" "letters" "I", Cond.fieldLink RX1 40 "CrowdReports" "seenTicks" "[I", Cond.fieldLink RX1 43 "CrowdReports" "seenLetters" "[I", Cond.fieldLink RX1 46 "CrowdReports" "seen" "I", Cond.fieldLink RX1 49 "CrowdReports" "lastSeed" "J", Cond.fieldLink RX1 53 "CrowdReports" "sentBy" "[I", Cond.instanceMethod yX0_init, Cond.code yX0_init cX0_init 1 none, Cond.methodLink RX0 3 objectInit, Cond.fieldLink RX0 9 "CrowdReports$Crowd" "size" "I"]
def wsX1_init_r2 : List Cond := [Cond.fieldLink RX0 15 "CrowdReports$Crowd" "rate" "I", Cond.fieldLink RX0 18 "CrowdReports$Crowd" "min" "I", Cond.fieldLink RX0 21 "CrowdReports$Crowd" "clock" "I", Cond.fieldLink RX0 24 "CrowdReports$Crowd" "lot" "I", Cond.fieldLink RX0 27 "CrowdReports$Crowd" "reports" "I", Cond.fieldLink RX0 30 "CrowdReports$Crowd" "byes" "I", Cond.fieldLink RX0 33 "CrowdReports$Crowd" "kind" "[I", Cond.fieldLink RX0 37 "CrowdReports$Crowd" "known" "[I", Cond.fieldLink RX0 40 "CrowdReports$Crowd" "begun" "[I", Cond.fieldLink RX0 43 "CrowdReports$Crowd" "due" "[I", Cond.fieldLink RX0 46 "CrowdReports$Crowd" "goers" "[I", Cond.fieldLink RX0 49 "CrowdReports$Crowd" "shut" "[I", Cond.fieldLink RX0 52 "CrowdReports$Crowd" "lastHeard" "[I"]
def wsX1_init : List Cond := .code yX1_init cX1_init 2 none :: ((wsX1_init_r1 ++ wsX1_init_r2) ++ wsX00 ++ wsX10)
def wsX1_write : List Cond := .code yX1_write cX1_write 2 (some .int) :: ([.fieldLink RX1 37 "CrowdReports" "letters" "I", .fieldLink RX1 33 "CrowdReports" "text" "[I"] ++ wsX10)
def wsX1_wipe : List Cond := .code yX1_wipe cX1_wipe 2 (some .int) :: ([.fieldLink RX1 37 "CrowdReports" "letters" "I"] ++ wsX10)
def wsX1_isFigure : List Cond := .code yX1_isFigure cX1_isFigure 2 (some .boolean) :: ([])
def wsX1_readHead_r1 : List Cond := [Cond.fieldLink RX1 37 "CrowdReports" "letters" "I", Cond.fieldLink RX1 33 "CrowdReports" "text" "[I", Cond.fieldLink RX1 16 "CrowdReports" "trial" "LCrowdReports$Crowd;", Cond.fieldLink RX1 67 "CrowdReports$Crowd" "size" "I", Cond.fieldLink RX1 70 "CrowdReports$Crowd" "rate" "I", Cond.fieldLink RX1 73 "CrowdReports$Crowd" "min" "I", Cond.fieldLink RX1 76 "CrowdReports$Crowd" "lot" "I", Cond.methodLink RX1 206 yX1_isFigure, Cond.static yX1_isFigure, Cond.initialized RX1, Cond.code yX1_isFigure cX1_isFigure 2 (some .boolean), Cond.methodLink RX1 212 yX0_restart, Cond.instanceMethod yX0_restart, Cond.selects RX0 yX0_restart yX0_restart, Cond.initialized RX0, Cond.code yX0_restart cX0_restart 2 none, Cond.fieldLink RX0 21 "CrowdReports$Crowd" "clock" "I", Cond.fieldLink RX0 27 "CrowdReports$Crowd" "reports" "I", Cond.fieldLink RX0 30 "CrowdReports$Crowd" "byes" "I", Cond.fieldLink RX0 49 "CrowdReports$Crowd" "shut" "[I", Cond.methodLink RX0 55 yX0_goAway, Cond.instanceMethod yX0_goAway, Cond.selects RX0 yX0_goAway yX0_goAway, Cond.code yX0_goAway cX0_goAway 2 none]
def wsX1_readHead_r2 : List Cond := [Cond.fieldLink RX0 33 "CrowdReports$Crowd" "kind" "[I", Cond.fieldLink RX0 37 "CrowdReports$Crowd" "known" "[I", Cond.fieldLink RX0 40 "CrowdReports$Crowd" "begun" "[I", Cond.fieldLink RX0 43 "CrowdReports$Crowd" "due" "[I", Cond.fieldLink RX0 46 "CrowdReports$Crowd" "goers" "[I"]
def wsX1_readHead : List Cond := .code yX1_readHead cX1_readHead 3 (some .int) :: ((wsX1_readHead_r1 ++ wsX1_readHead_r2) ++ wsX10 ++ wsX00)
def wsX1_canBegin : List Cond := .code yX1_canBegin cX1_canBegin 2 (some .boolean) :: ([.fieldLink RX1 16 "CrowdReports" "trial" "LCrowdReports$Crowd;", .methodLink RX1 85 yX0_bitsOf, .instanceMethod yX0_bitsOf, .selects RX0 yX0_bitsOf yX0_bitsOf, .initialized RX0, .code yX0_bitsOf cX0_bitsOf 4 (some .int), .fieldLink RX0 33 "CrowdReports$Crowd" "kind" "[I"] ++ wsX10 ++ wsX00)
def wsX1_readText_r1 : List Cond := [Cond.fieldLink RX1 37 "CrowdReports" "letters" "I", Cond.fieldLink RX1 33 "CrowdReports" "text" "[I", Cond.fieldLink RX1 16 "CrowdReports" "trial" "LCrowdReports$Crowd;", Cond.methodLink RX1 203 yX1_readHead, Cond.instanceMethod yX1_readHead, Cond.selects RX1 yX1_readHead yX1_readHead, Cond.initialized RX1, Cond.code yX1_readHead cX1_readHead 3 (some .int), Cond.fieldLink RX1 67 "CrowdReports$Crowd" "size" "I", Cond.fieldLink RX1 70 "CrowdReports$Crowd" "rate" "I", Cond.fieldLink RX1 73 "CrowdReports$Crowd" "min" "I", Cond.fieldLink RX1 76 "CrowdReports$Crowd" "lot" "I", Cond.methodLink RX1 206 yX1_isFigure, Cond.static yX1_isFigure, Cond.code yX1_isFigure cX1_isFigure 2 (some .boolean), Cond.methodLink RX1 212 yX0_restart, Cond.instanceMethod yX0_restart, Cond.selects RX0 yX0_restart yX0_restart, Cond.initialized RX0, Cond.code yX0_restart cX0_restart 2 none, Cond.fieldLink RX0 21 "CrowdReports$Crowd" "clock" "I", Cond.fieldLink RX0 27 "CrowdReports$Crowd" "reports" "I", Cond.fieldLink RX0 30 "CrowdReports$Crowd" "byes" "I", Cond.fieldLink RX0 49 "CrowdReports$Crowd" "shut" "[I"]
def wsX1_readText_r2 : List Cond := [Cond.methodLink RX0 55 yX0_goAway, Cond.instanceMethod yX0_goAway, Cond.selects RX0 yX0_goAway yX0_goAway, Cond.code yX0_goAway cX0_goAway 2 none, Cond.fieldLink RX0 33 "CrowdReports$Crowd" "kind" "[I", Cond.fieldLink RX0 37 "CrowdReports$Crowd" "known" "[I", Cond.fieldLink RX0 40 "CrowdReports$Crowd" "begun" "[I", Cond.fieldLink RX0 43 "CrowdReports$Crowd" "due" "[I", Cond.fieldLink RX0 46 "CrowdReports$Crowd" "goers" "[I", Cond.methodLink RX1 127 yX0_enter, Cond.instanceMethod yX0_enter, Cond.selects RX0 yX0_enter yX0_enter, Cond.code yX0_enter cX0_enter 2 (some .boolean), Cond.static yX1_isMember, Cond.code yX1_isMember cX1_isMember 1 (some .boolean), Cond.methodLink RX0 94 yX0_begin, Cond.instanceMethod yX0_begin, Cond.selects RX0 yX0_begin yX0_begin, Cond.code yX0_begin cX0_begin 2 none, Cond.methodLink RX0 87 yX0_waitOf, Cond.instanceMethod yX0_waitOf, Cond.selects RX0 yX0_waitOf yX0_waitOf, Cond.code yX0_waitOf cX0_waitOf 3 (some .int), Cond.fieldLink RX0 24 "CrowdReports$Crowd" "lot" "I"]
def wsX1_readText_r3 : List Cond := [Cond.constant RX0 83 (65536), Cond.methodLink RX0 77 Lib.Math.max.name, Cond.static Lib.Math.max.name, Cond.initialized "java/lang/Math", Cond.code Lib.Math.max.name Lib.Math.max.code 2 (some .int), Cond.methodLink RX0 84 yX0_spanOf, Cond.instanceMethod yX0_spanOf, Cond.selects RX0 yX0_spanOf yX0_spanOf, Cond.code yX0_spanOf cX0_spanOf 3 (some .int), Cond.fieldLink RX0 15 "CrowdReports$Crowd" "rate" "I", Cond.fieldLink RX0 18 "CrowdReports$Crowd" "min" "I", Cond.fieldLink RX0 9 "CrowdReports$Crowd" "size" "I", Cond.methodLink RX1 130 yX0_depart, Cond.instanceMethod yX0_depart, Cond.selects RX0 yX0_depart yX0_depart, Cond.code yX0_depart cX0_depart 2 (some .boolean), Cond.methodLink RX0 71 yX0_countOf, Cond.instanceMethod yX0_countOf, Cond.selects RX0 yX0_countOf yX0_countOf, Cond.code yX0_countOf cX0_countOf 2 (some .int), Cond.methodLink RX0 65 yJ6_bitCount_0f7a4, Cond.static yJ6_bitCount_0f7a4, Cond.initialized RJ6, Cond.code yJ6_bitCount_0f7a4 cJ6_bitCount_0f7a4 1 (some .int)]
def wsX1_readText_r4 : List Cond := [Cond.constant RJ6 265 (1431655765), Cond.constant RJ6 266 (858993459), Cond.constant RJ6 267 (252645135), Cond.methodLink RX0 97 yX0_sendBye, Cond.instanceMethod yX0_sendBye, Cond.selects RX0 yX0_sendBye yX0_sendBye, Cond.code yX0_sendBye cX0_sendBye 3 none, Cond.methodLink RX0 126 yX0_reaches, Cond.instanceMethod yX0_reaches, Cond.selects RX0 yX0_reaches yX0_reaches, Cond.code yX0_reaches cX0_reaches 3 (some .boolean), Cond.methodLink RX0 123 yX0_isOpen, Cond.instanceMethod yX0_isOpen, Cond.selects RX0 yX0_isOpen yX0_isOpen, Cond.code yX0_isOpen cX0_isOpen 3 (some .boolean), Cond.methodLink RX0 129 yX0_hearBye, Cond.instanceMethod yX0_hearBye, Cond.selects RX0 yX0_hearBye yX0_hearBye, Cond.code yX0_hearBye cX0_hearBye 5 none, Cond.methodLink RX0 119 yX0_knows, Cond.instanceMethod yX0_knows, Cond.selects RX0 yX0_knows yX0_knows, Cond.code yX0_knows cX0_knows 3 (some .boolean), Cond.methodLink RX1 133 yX0_run]
def wsX1_readText_r5 : List Cond := [Cond.instanceMethod yX0_run, Cond.selects RX0 yX0_run yX0_run, Cond.code yX0_run cX0_run 5 (some .int), Cond.methodLink RX0 106 yX0_sent, Cond.instanceMethod yX0_sent, Cond.selects RX0 yX0_sent yX0_sent, Cond.code yX0_sent cX0_sent 1 (some .int), Cond.methodLink RX0 110 yX0_comeDue, Cond.instanceMethod yX0_comeDue, Cond.selects RX0 yX0_comeDue yX0_comeDue, Cond.code yX0_comeDue cX0_comeDue 4 none, Cond.methodLink RX0 116 yX0_sendReport, Cond.instanceMethod yX0_sendReport, Cond.selects RX0 yX0_sendReport yX0_sendReport, Cond.code yX0_sendReport cX0_sendReport 3 none, Cond.fieldLink RX0 52 "CrowdReports$Crowd" "lastHeard" "[I", Cond.methodLink RX0 113 yX0_forgetOld, Cond.instanceMethod yX0_forgetOld, Cond.selects RX0 yX0_forgetOld yX0_forgetOld, Cond.code yX0_forgetOld cX0_forgetOld 5 none, Cond.methodLink RX1 209 yX1_canBegin, Cond.instanceMethod yX1_canBegin, Cond.selects RX1 yX1_canBegin yX1_canBegin, Cond.code yX1_canBegin cX1_canBegin 2 (some .boolean)]
def wsX1_readText_r6 : List Cond := [Cond.methodLink RX1 85 yX0_bitsOf, Cond.instanceMethod yX0_bitsOf, Cond.selects RX0 yX0_bitsOf yX0_bitsOf, Cond.code yX0_bitsOf cX0_bitsOf 4 (some .int)]
def wsX1_readText : List Cond := .code yX1_readText cX1_readText 7 (some .int) :: ((wsX1_readText_r1 ++ (wsX1_readText_r2 ++ (wsX1_readText_r3 ++ (wsX1_readText_r4 ++ (wsX1_readText_r5 ++ wsX1_readText_r6))))) ++ wsX10 ++ wsX00)
def wsX1_fault_r1 : List Cond := [Cond.methodLink RX1 56 yX1_readText, Cond.instanceMethod yX1_readText, Cond.selects RX1 yX1_readText yX1_readText, Cond.initialized RX1, Cond.code yX1_readText cX1_readText 7 (some .int), Cond.fieldLink RX1 37 "CrowdReports" "letters" "I", Cond.fieldLink RX1 33 "CrowdReports" "text" "[I", Cond.fieldLink RX1 16 "CrowdReports" "trial" "LCrowdReports$Crowd;", Cond.methodLink RX1 203 yX1_readHead, Cond.instanceMethod yX1_readHead, Cond.selects RX1 yX1_readHead yX1_readHead, Cond.code yX1_readHead cX1_readHead 3 (some .int), Cond.fieldLink RX1 67 "CrowdReports$Crowd" "size" "I", Cond.fieldLink RX1 70 "CrowdReports$Crowd" "rate" "I", Cond.fieldLink RX1 73 "CrowdReports$Crowd" "min" "I", Cond.fieldLink RX1 76 "CrowdReports$Crowd" "lot" "I", Cond.methodLink RX1 206 yX1_isFigure, Cond.static yX1_isFigure, Cond.code yX1_isFigure cX1_isFigure 2 (some .boolean), Cond.methodLink RX1 212 yX0_restart, Cond.instanceMethod yX0_restart, Cond.selects RX0 yX0_restart yX0_restart, Cond.initialized RX0, Cond.code yX0_restart cX0_restart 2 none]
def wsX1_fault_r2 : List Cond := [Cond.fieldLink RX0 21 "CrowdReports$Crowd" "clock" "I", Cond.fieldLink RX0 27 "CrowdReports$Crowd" "reports" "I", Cond.fieldLink RX0 30 "CrowdReports$Crowd" "byes" "I", Cond.fieldLink RX0 49 "CrowdReports$Crowd" "shut" "[I", Cond.methodLink RX0 55 yX0_goAway, Cond.instanceMethod yX0_goAway, Cond.selects RX0 yX0_goAway yX0_goAway, Cond.code yX0_goAway cX0_goAway 2 none, Cond.fieldLink RX0 33 "CrowdReports$Crowd" "kind" "[I", Cond.fieldLink RX0 37 "CrowdReports$Crowd" "known" "[I", Cond.fieldLink RX0 40 "CrowdReports$Crowd" "begun" "[I", Cond.fieldLink RX0 43 "CrowdReports$Crowd" "due" "[I", Cond.fieldLink RX0 46 "CrowdReports$Crowd" "goers" "[I", Cond.methodLink RX1 127 yX0_enter, Cond.instanceMethod yX0_enter, Cond.selects RX0 yX0_enter yX0_enter, Cond.code yX0_enter cX0_enter 2 (some .boolean), Cond.static yX1_isMember, Cond.code yX1_isMember cX1_isMember 1 (some .boolean), Cond.methodLink RX0 94 yX0_begin, Cond.instanceMethod yX0_begin, Cond.selects RX0 yX0_begin yX0_begin, Cond.code yX0_begin cX0_begin 2 none, Cond.methodLink RX0 87 yX0_waitOf]
def wsX1_fault_r3 : List Cond := [Cond.instanceMethod yX0_waitOf, Cond.selects RX0 yX0_waitOf yX0_waitOf, Cond.code yX0_waitOf cX0_waitOf 3 (some .int), Cond.fieldLink RX0 24 "CrowdReports$Crowd" "lot" "I", Cond.constant RX0 83 (65536), Cond.methodLink RX0 77 Lib.Math.max.name, Cond.static Lib.Math.max.name, Cond.initialized "java/lang/Math", Cond.code Lib.Math.max.name Lib.Math.max.code 2 (some .int), Cond.methodLink RX0 84 yX0_spanOf, Cond.instanceMethod yX0_spanOf, Cond.selects RX0 yX0_spanOf yX0_spanOf, Cond.code yX0_spanOf cX0_spanOf 3 (some .int), Cond.fieldLink RX0 15 "CrowdReports$Crowd" "rate" "I", Cond.fieldLink RX0 18 "CrowdReports$Crowd" "min" "I", Cond.fieldLink RX0 9 "CrowdReports$Crowd" "size" "I", Cond.methodLink RX1 130 yX0_depart, Cond.instanceMethod yX0_depart, Cond.selects RX0 yX0_depart yX0_depart, Cond.code yX0_depart cX0_depart 2 (some .boolean), Cond.methodLink RX0 71 yX0_countOf, Cond.instanceMethod yX0_countOf, Cond.selects RX0 yX0_countOf yX0_countOf, Cond.code yX0_countOf cX0_countOf 2 (some .int)]
def wsX1_fault_r4 : List Cond := [Cond.methodLink RX0 65 yJ6_bitCount_0f7a4, Cond.static yJ6_bitCount_0f7a4, Cond.initialized RJ6, Cond.code yJ6_bitCount_0f7a4 cJ6_bitCount_0f7a4 1 (some .int), Cond.constant RJ6 265 (1431655765), Cond.constant RJ6 266 (858993459), Cond.constant RJ6 267 (252645135), Cond.methodLink RX0 97 yX0_sendBye, Cond.instanceMethod yX0_sendBye, Cond.selects RX0 yX0_sendBye yX0_sendBye, Cond.code yX0_sendBye cX0_sendBye 3 none, Cond.methodLink RX0 126 yX0_reaches, Cond.instanceMethod yX0_reaches, Cond.selects RX0 yX0_reaches yX0_reaches, Cond.code yX0_reaches cX0_reaches 3 (some .boolean), Cond.methodLink RX0 123 yX0_isOpen, Cond.instanceMethod yX0_isOpen, Cond.selects RX0 yX0_isOpen yX0_isOpen, Cond.code yX0_isOpen cX0_isOpen 3 (some .boolean), Cond.methodLink RX0 129 yX0_hearBye, Cond.instanceMethod yX0_hearBye, Cond.selects RX0 yX0_hearBye yX0_hearBye, Cond.code yX0_hearBye cX0_hearBye 5 none, Cond.methodLink RX0 119 yX0_knows]
def wsX1_fault_r5 : List Cond := [Cond.instanceMethod yX0_knows, Cond.selects RX0 yX0_knows yX0_knows, Cond.code yX0_knows cX0_knows 3 (some .boolean), Cond.methodLink RX1 133 yX0_run, Cond.instanceMethod yX0_run, Cond.selects RX0 yX0_run yX0_run, Cond.code yX0_run cX0_run 5 (some .int), Cond.methodLink RX0 106 yX0_sent, Cond.instanceMethod yX0_sent, Cond.selects RX0 yX0_sent yX0_sent, Cond.code yX0_sent cX0_sent 1 (some .int), Cond.methodLink RX0 110 yX0_comeDue, Cond.instanceMethod yX0_comeDue, Cond.selects RX0 yX0_comeDue yX0_comeDue, Cond.code yX0_comeDue cX0_comeDue 4 none, Cond.methodLink RX0 116 yX0_sendReport, Cond.instanceMethod yX0_sendReport, Cond.selects RX0 yX0_sendReport yX0_sendReport, Cond.code yX0_sendReport cX0_sendReport 3 none, Cond.fieldLink RX0 52 "CrowdReports$Crowd" "lastHeard" "[I", Cond.methodLink RX0 113 yX0_forgetOld, Cond.instanceMethod yX0_forgetOld, Cond.selects RX0 yX0_forgetOld yX0_forgetOld, Cond.code yX0_forgetOld cX0_forgetOld 5 none]
def wsX1_fault_r6 : List Cond := [Cond.methodLink RX1 209 yX1_canBegin, Cond.instanceMethod yX1_canBegin, Cond.selects RX1 yX1_canBegin yX1_canBegin, Cond.code yX1_canBegin cX1_canBegin 2 (some .boolean), Cond.methodLink RX1 85 yX0_bitsOf, Cond.instanceMethod yX0_bitsOf, Cond.selects RX0 yX0_bitsOf yX0_bitsOf, Cond.code yX0_bitsOf cX0_bitsOf 4 (some .int)]
def wsX1_fault : List Cond := .code yX1_fault cX1_fault 1 (some .int) :: ((wsX1_fault_r1 ++ (wsX1_fault_r2 ++ (wsX1_fault_r3 ++ (wsX1_fault_r4 ++ (wsX1_fault_r5 ++ wsX1_fault_r6))))) ++ wsX10 ++ wsX00)
def wsX1_meeting_r1 : List Cond := [Cond.fieldLink RX1 10 "CrowdReports" "now" "LCrowdReports$Crowd;", Cond.fieldLink RX1 16 "CrowdReports" "trial" "LCrowdReports$Crowd;", Cond.fieldLink RX1 23 "CrowdReports" "acts" "I", Cond.fieldLink RX1 30 "CrowdReports" "keptBits" "I", Cond.fieldLink RX1 64 "CrowdReports$Crowd" "clock" "I", Cond.methodLink RX1 56 yX1_readText, Cond.instanceMethod yX1_readText, Cond.selects RX1 yX1_readText yX1_readText, Cond.initialized RX1, Cond.code yX1_readText cX1_readText 7 (some .int), Cond.fieldLink RX1 37 "CrowdReports" "letters" "I", Cond.fieldLink RX1 33 "CrowdReports" "text" "[I", Cond.methodLink RX1 203 yX1_readHead, Cond.instanceMethod yX1_readHead, Cond.selects RX1 yX1_readHead yX1_readHead, Cond.code yX1_readHead cX1_readHead 3 (some .int), Cond.fieldLink RX1 67 "CrowdReports$Crowd" "size" "I", Cond.fieldLink RX1 70 "CrowdReports$Crowd" "rate" "I", Cond.fieldLink RX1 73 "CrowdReports$Crowd" "min" "I", Cond.fieldLink RX1 76 "CrowdReports$Crowd" "lot" "I", Cond.methodLink RX1 206 yX1_isFigure, Cond.static yX1_isFigure, Cond.code yX1_isFigure cX1_isFigure 2 (some .boolean), Cond.methodLink RX1 212 yX0_restart]
def wsX1_meeting_r2 : List Cond := [Cond.instanceMethod yX0_restart, Cond.selects RX0 yX0_restart yX0_restart, Cond.initialized RX0, Cond.code yX0_restart cX0_restart 2 none, Cond.fieldLink RX0 21 "CrowdReports$Crowd" "clock" "I", Cond.fieldLink RX0 27 "CrowdReports$Crowd" "reports" "I", Cond.fieldLink RX0 30 "CrowdReports$Crowd" "byes" "I", Cond.fieldLink RX0 49 "CrowdReports$Crowd" "shut" "[I", Cond.methodLink RX0 55 yX0_goAway, Cond.instanceMethod yX0_goAway, Cond.selects RX0 yX0_goAway yX0_goAway, Cond.code yX0_goAway cX0_goAway 2 none, Cond.fieldLink RX0 33 "CrowdReports$Crowd" "kind" "[I", Cond.fieldLink RX0 37 "CrowdReports$Crowd" "known" "[I", Cond.fieldLink RX0 40 "CrowdReports$Crowd" "begun" "[I", Cond.fieldLink RX0 43 "CrowdReports$Crowd" "due" "[I", Cond.fieldLink RX0 46 "CrowdReports$Crowd" "goers" "[I", Cond.methodLink RX1 127 yX0_enter, Cond.instanceMethod yX0_enter, Cond.selects RX0 yX0_enter yX0_enter, Cond.code yX0_enter cX0_enter 2 (some .boolean), Cond.static yX1_isMember, Cond.code yX1_isMember cX1_isMember 1 (some .boolean), Cond.methodLink RX0 94 yX0_begin]
def wsX1_meeting_r3 : List Cond := [Cond.instanceMethod yX0_begin, Cond.selects RX0 yX0_begin yX0_begin, Cond.code yX0_begin cX0_begin 2 none, Cond.methodLink RX0 87 yX0_waitOf, Cond.instanceMethod yX0_waitOf, Cond.selects RX0 yX0_waitOf yX0_waitOf, Cond.code yX0_waitOf cX0_waitOf 3 (some .int), Cond.fieldLink RX0 24 "CrowdReports$Crowd" "lot" "I", Cond.constant RX0 83 (65536), Cond.methodLink RX0 77 Lib.Math.max.name, Cond.static Lib.Math.max.name, Cond.initialized "java/lang/Math", Cond.code Lib.Math.max.name Lib.Math.max.code 2 (some .int), Cond.methodLink RX0 84 yX0_spanOf, Cond.instanceMethod yX0_spanOf, Cond.selects RX0 yX0_spanOf yX0_spanOf, Cond.code yX0_spanOf cX0_spanOf 3 (some .int), Cond.fieldLink RX0 15 "CrowdReports$Crowd" "rate" "I", Cond.fieldLink RX0 18 "CrowdReports$Crowd" "min" "I", Cond.fieldLink RX0 9 "CrowdReports$Crowd" "size" "I", Cond.methodLink RX1 130 yX0_depart, Cond.instanceMethod yX0_depart, Cond.selects RX0 yX0_depart yX0_depart, Cond.code yX0_depart cX0_depart 2 (some .boolean)]
def wsX1_meeting_r4 : List Cond := [Cond.methodLink RX0 71 yX0_countOf, Cond.instanceMethod yX0_countOf, Cond.selects RX0 yX0_countOf yX0_countOf, Cond.code yX0_countOf cX0_countOf 2 (some .int), Cond.methodLink RX0 65 yJ6_bitCount_0f7a4, Cond.static yJ6_bitCount_0f7a4, Cond.initialized RJ6, Cond.code yJ6_bitCount_0f7a4 cJ6_bitCount_0f7a4 1 (some .int), Cond.constant RJ6 265 (1431655765), Cond.constant RJ6 266 (858993459), Cond.constant RJ6 267 (252645135), Cond.methodLink RX0 97 yX0_sendBye, Cond.instanceMethod yX0_sendBye, Cond.selects RX0 yX0_sendBye yX0_sendBye, Cond.code yX0_sendBye cX0_sendBye 3 none, Cond.methodLink RX0 126 yX0_reaches, Cond.instanceMethod yX0_reaches, Cond.selects RX0 yX0_reaches yX0_reaches, Cond.code yX0_reaches cX0_reaches 3 (some .boolean), Cond.methodLink RX0 123 yX0_isOpen, Cond.instanceMethod yX0_isOpen, Cond.selects RX0 yX0_isOpen yX0_isOpen, Cond.code yX0_isOpen cX0_isOpen 3 (some .boolean), Cond.methodLink RX0 129 yX0_hearBye]
def wsX1_meeting_r5 : List Cond := [Cond.instanceMethod yX0_hearBye, Cond.selects RX0 yX0_hearBye yX0_hearBye, Cond.code yX0_hearBye cX0_hearBye 5 none, Cond.methodLink RX0 119 yX0_knows, Cond.instanceMethod yX0_knows, Cond.selects RX0 yX0_knows yX0_knows, Cond.code yX0_knows cX0_knows 3 (some .boolean), Cond.methodLink RX1 133 yX0_run, Cond.instanceMethod yX0_run, Cond.selects RX0 yX0_run yX0_run, Cond.code yX0_run cX0_run 5 (some .int), Cond.methodLink RX0 106 yX0_sent, Cond.instanceMethod yX0_sent, Cond.selects RX0 yX0_sent yX0_sent, Cond.code yX0_sent cX0_sent 1 (some .int), Cond.methodLink RX0 110 yX0_comeDue, Cond.instanceMethod yX0_comeDue, Cond.selects RX0 yX0_comeDue yX0_comeDue, Cond.code yX0_comeDue cX0_comeDue 4 none, Cond.methodLink RX0 116 yX0_sendReport, Cond.instanceMethod yX0_sendReport, Cond.selects RX0 yX0_sendReport yX0_sendReport, Cond.code yX0_sendReport cX0_sendReport 3 none, Cond.fieldLink RX0 52 "CrowdReports$Crowd" "lastHeard" "[I"]
def wsX1_meeting_r6 : List Cond := [Cond.methodLink RX0 113 yX0_forgetOld, Cond.instanceMethod yX0_forgetOld, Cond.selects RX0 yX0_forgetOld yX0_forgetOld, Cond.code yX0_forgetOld cX0_forgetOld 5 none, Cond.methodLink RX1 209 yX1_canBegin, Cond.instanceMethod yX1_canBegin, Cond.selects RX1 yX1_canBegin yX1_canBegin, Cond.code yX1_canBegin cX1_canBegin 2 (some .boolean), Cond.methodLink RX1 85 yX0_bitsOf, Cond.instanceMethod yX0_bitsOf, Cond.selects RX0 yX0_bitsOf yX0_bitsOf, Cond.code yX0_bitsOf cX0_bitsOf 4 (some .int), Cond.methodLink RX1 60 yX0_takeFrom, Cond.instanceMethod yX0_takeFrom, Cond.selects RX0 yX0_takeFrom yX0_takeFrom, Cond.code yX0_takeFrom cX0_takeFrom 2 none, Cond.methodLink RX0 59 arraycopyName, Cond.native arraycopyName, Cond.static arraycopyName, Cond.initialized "java/lang/System"]
def wsX1_meeting : List Cond := .code yX1_meeting cX1_meeting 1 (some .int) :: ((wsX1_meeting_r1 ++ (wsX1_meeting_r2 ++ (wsX1_meeting_r3 ++ (wsX1_meeting_r4 ++ (wsX1_meeting_r5 ++ wsX1_meeting_r6))))) ++ wsX10 ++ wsX00)
def wsX1_restAt_r1 : List Cond := [Cond.fieldLink RX1 16 "CrowdReports" "trial" "LCrowdReports$Crowd;", Cond.fieldLink RX1 10 "CrowdReports" "now" "LCrowdReports$Crowd;", Cond.methodLink RX1 60 yX0_takeFrom, Cond.instanceMethod yX0_takeFrom, Cond.selects RX0 yX0_takeFrom yX0_takeFrom, Cond.initialized RX0, Cond.code yX0_takeFrom cX0_takeFrom 2 none, Cond.fieldLink RX0 9 "CrowdReports$Crowd" "size" "I", Cond.fieldLink RX0 15 "CrowdReports$Crowd" "rate" "I", Cond.fieldLink RX0 18 "CrowdReports$Crowd" "min" "I", Cond.fieldLink RX0 21 "CrowdReports$Crowd" "clock" "I", Cond.fieldLink RX0 24 "CrowdReports$Crowd" "lot" "I", Cond.fieldLink RX0 27 "CrowdReports$Crowd" "reports" "I", Cond.fieldLink RX0 30 "CrowdReports$Crowd" "byes" "I", Cond.fieldLink RX0 33 "CrowdReports$Crowd" "kind" "[I", Cond.methodLink RX0 59 arraycopyName, Cond.native arraycopyName, Cond.static arraycopyName, Cond.initialized "java/lang/System", Cond.fieldLink RX0 37 "CrowdReports$Crowd" "known" "[I", Cond.fieldLink RX0 40 "CrowdReports$Crowd" "begun" "[I", Cond.fieldLink RX0 43 "CrowdReports$Crowd" "due" "[I", Cond.fieldLink RX0 46 "CrowdReports$Crowd" "goers" "[I", Cond.fieldLink RX0 49 "CrowdReports$Crowd" "shut" "[I"]
def wsX1_restAt_r2 : List Cond := [Cond.fieldLink RX0 52 "CrowdReports$Crowd" "lastHeard" "[I", Cond.methodLink RX1 215 yX0_isAtRest, Cond.instanceMethod yX0_isAtRest, Cond.selects RX0 yX0_isAtRest yX0_isAtRest, Cond.code yX0_isAtRest cX0_isAtRest 3 (some .boolean), Cond.methodLink RX0 74 yX0_bitsOf, Cond.instanceMethod yX0_bitsOf, Cond.selects RX0 yX0_bitsOf yX0_bitsOf, Cond.code yX0_bitsOf cX0_bitsOf 4 (some .int), Cond.methodLink RX1 133 yX0_run, Cond.instanceMethod yX0_run, Cond.selects RX0 yX0_run yX0_run, Cond.code yX0_run cX0_run 5 (some .int), Cond.methodLink RX0 106 yX0_sent, Cond.instanceMethod yX0_sent, Cond.selects RX0 yX0_sent yX0_sent, Cond.code yX0_sent cX0_sent 1 (some .int), Cond.methodLink RX0 110 yX0_comeDue, Cond.instanceMethod yX0_comeDue, Cond.selects RX0 yX0_comeDue yX0_comeDue, Cond.code yX0_comeDue cX0_comeDue 4 none, Cond.methodLink RX0 71 yX0_countOf, Cond.instanceMethod yX0_countOf, Cond.selects RX0 yX0_countOf yX0_countOf]
def wsX1_restAt_r3 : List Cond := [Cond.code yX0_countOf cX0_countOf 2 (some .int), Cond.methodLink RX0 65 yJ6_bitCount_0f7a4, Cond.static yJ6_bitCount_0f7a4, Cond.initialized RJ6, Cond.code yJ6_bitCount_0f7a4 cJ6_bitCount_0f7a4 1 (some .int), Cond.constant RJ6 265 (1431655765), Cond.constant RJ6 266 (858993459), Cond.constant RJ6 267 (252645135), Cond.methodLink RX0 87 yX0_waitOf, Cond.instanceMethod yX0_waitOf, Cond.selects RX0 yX0_waitOf yX0_waitOf, Cond.code yX0_waitOf cX0_waitOf 3 (some .int), Cond.constant RX0 83 (65536), Cond.methodLink RX0 77 Lib.Math.max.name, Cond.static Lib.Math.max.name, Cond.initialized "java/lang/Math", Cond.code Lib.Math.max.name Lib.Math.max.code 2 (some .int), Cond.methodLink RX0 84 yX0_spanOf, Cond.instanceMethod yX0_spanOf, Cond.selects RX0 yX0_spanOf yX0_spanOf, Cond.code yX0_spanOf cX0_spanOf 3 (some .int), Cond.methodLink RX0 97 yX0_sendBye, Cond.instanceMethod yX0_sendBye, Cond.selects RX0 yX0_sendBye yX0_sendBye]
def wsX1_restAt_r4 : List Cond := [Cond.code yX0_sendBye cX0_sendBye 3 none, Cond.methodLink RX0 55 yX0_goAway, Cond.instanceMethod yX0_goAway, Cond.selects RX0 yX0_goAway yX0_goAway, Cond.code yX0_goAway cX0_goAway 2 none, Cond.methodLink RX0 126 yX0_reaches, Cond.instanceMethod yX0_reaches, Cond.selects RX0 yX0_reaches yX0_reaches, Cond.code yX0_reaches cX0_reaches 3 (some .boolean), Cond.methodLink RX0 123 yX0_isOpen, Cond.instanceMethod yX0_isOpen, Cond.selects RX0 yX0_isOpen yX0_isOpen, Cond.code yX0_isOpen cX0_isOpen 3 (some .boolean), Cond.methodLink RX0 129 yX0_hearBye, Cond.instanceMethod yX0_hearBye, Cond.selects RX0 yX0_hearBye yX0_hearBye, Cond.code yX0_hearBye cX0_hearBye 5 none, Cond.methodLink RX0 119 yX0_knows, Cond.instanceMethod yX0_knows, Cond.selects RX0 yX0_knows yX0_knows, Cond.code yX0_knows cX0_knows 3 (some .boolean), Cond.methodLink RX0 116 yX0_sendReport, Cond.instanceMethod yX0_sendReport, Cond.selects RX0 yX0_sendReport yX0_sendReport]
def wsX1_restAt_r5 : List Cond := [Cond.code yX0_sendReport cX0_sendReport 3 none, Cond.methodLink RX0 113 yX0_forgetOld, Cond.instanceMethod yX0_forgetOld, Cond.selects RX0 yX0_forgetOld yX0_forgetOld, Cond.code yX0_forgetOld cX0_forgetOld 5 none]
def wsX1_restAt : List Cond := .code yX1_restAt cX1_restAt 2 (some .int) :: ((wsX1_restAt_r1 ++ (wsX1_restAt_r2 ++ (wsX1_restAt_r3 ++ (wsX1_restAt_r4 ++ wsX1_restAt_r5)))) ++ wsX10 ++ wsX00)
def wsX1_about_r1 : List Cond := [Cond.fieldLink RX1 10 "CrowdReports" "now" "LCrowdReports$Crowd;", Cond.fieldLink RX1 67 "CrowdReports$Crowd" "size" "I", Cond.fieldLink RX1 70 "CrowdReports$Crowd" "rate" "I", Cond.fieldLink RX1 73 "CrowdReports$Crowd" "min" "I", Cond.fieldLink RX1 64 "CrowdReports$Crowd" "clock" "I", Cond.fieldLink RX1 76 "CrowdReports$Crowd" "lot" "I", Cond.fieldLink RX1 79 "CrowdReports$Crowd" "reports" "I", Cond.fieldLink RX1 82 "CrowdReports$Crowd" "byes" "I", Cond.fieldLink RX1 23 "CrowdReports" "acts" "I", Cond.fieldLink RX1 46 "CrowdReports" "seen" "I", Cond.fieldLink RX1 37 "CrowdReports" "letters" "I", Cond.methodLink RX1 85 yX0_bitsOf, Cond.instanceMethod yX0_bitsOf, Cond.selects RX0 yX0_bitsOf yX0_bitsOf, Cond.initialized RX0, Cond.code yX0_bitsOf cX0_bitsOf 4 (some .int), Cond.fieldLink RX0 33 "CrowdReports$Crowd" "kind" "[I", Cond.methodLink RX1 89 yX1_restAt, Cond.instanceMethod yX1_restAt, Cond.selects RX1 yX1_restAt yX1_restAt, Cond.initialized RX1, Cond.code yX1_restAt cX1_restAt 2 (some .int), Cond.fieldLink RX1 16 "CrowdReports" "trial" "LCrowdReports$Crowd;", Cond.methodLink RX1 60 yX0_takeFrom]
def wsX1_about_r2 : List Cond := [Cond.instanceMethod yX0_takeFrom, Cond.selects RX0 yX0_takeFrom yX0_takeFrom, Cond.code yX0_takeFrom cX0_takeFrom 2 none, Cond.fieldLink RX0 9 "CrowdReports$Crowd" "size" "I", Cond.fieldLink RX0 15 "CrowdReports$Crowd" "rate" "I", Cond.fieldLink RX0 18 "CrowdReports$Crowd" "min" "I", Cond.fieldLink RX0 21 "CrowdReports$Crowd" "clock" "I", Cond.fieldLink RX0 24 "CrowdReports$Crowd" "lot" "I", Cond.fieldLink RX0 27 "CrowdReports$Crowd" "reports" "I", Cond.fieldLink RX0 30 "CrowdReports$Crowd" "byes" "I", Cond.methodLink RX0 59 arraycopyName, Cond.native arraycopyName, Cond.static arraycopyName, Cond.initialized "java/lang/System", Cond.fieldLink RX0 37 "CrowdReports$Crowd" "known" "[I", Cond.fieldLink RX0 40 "CrowdReports$Crowd" "begun" "[I", Cond.fieldLink RX0 43 "CrowdReports$Crowd" "due" "[I", Cond.fieldLink RX0 46 "CrowdReports$Crowd" "goers" "[I", Cond.fieldLink RX0 49 "CrowdReports$Crowd" "shut" "[I", Cond.fieldLink RX0 52 "CrowdReports$Crowd" "lastHeard" "[I", Cond.methodLink RX1 215 yX0_isAtRest, Cond.instanceMethod yX0_isAtRest, Cond.selects RX0 yX0_isAtRest yX0_isAtRest, Cond.code yX0_isAtRest cX0_isAtRest 3 (some .boolean)]
def wsX1_about_r3 : List Cond := [Cond.methodLink RX0 74 yX0_bitsOf, Cond.methodLink RX1 133 yX0_run, Cond.instanceMethod yX0_run, Cond.selects RX0 yX0_run yX0_run, Cond.code yX0_run cX0_run 5 (some .int), Cond.methodLink RX0 106 yX0_sent, Cond.instanceMethod yX0_sent, Cond.selects RX0 yX0_sent yX0_sent, Cond.code yX0_sent cX0_sent 1 (some .int), Cond.methodLink RX0 110 yX0_comeDue, Cond.instanceMethod yX0_comeDue, Cond.selects RX0 yX0_comeDue yX0_comeDue, Cond.code yX0_comeDue cX0_comeDue 4 none, Cond.methodLink RX0 71 yX0_countOf, Cond.instanceMethod yX0_countOf, Cond.selects RX0 yX0_countOf yX0_countOf, Cond.code yX0_countOf cX0_countOf 2 (some .int), Cond.methodLink RX0 65 yJ6_bitCount_0f7a4, Cond.static yJ6_bitCount_0f7a4, Cond.initialized RJ6, Cond.code yJ6_bitCount_0f7a4 cJ6_bitCount_0f7a4 1 (some .int), Cond.constant RJ6 265 (1431655765), Cond.constant RJ6 266 (858993459), Cond.constant RJ6 267 (252645135)]
def wsX1_about_r4 : List Cond := [Cond.methodLink RX0 87 yX0_waitOf, Cond.instanceMethod yX0_waitOf, Cond.selects RX0 yX0_waitOf yX0_waitOf, Cond.code yX0_waitOf cX0_waitOf 3 (some .int), Cond.constant RX0 83 (65536), Cond.methodLink RX0 77 Lib.Math.max.name, Cond.static Lib.Math.max.name, Cond.initialized "java/lang/Math", Cond.code Lib.Math.max.name Lib.Math.max.code 2 (some .int), Cond.methodLink RX0 84 yX0_spanOf, Cond.instanceMethod yX0_spanOf, Cond.selects RX0 yX0_spanOf yX0_spanOf, Cond.code yX0_spanOf cX0_spanOf 3 (some .int), Cond.methodLink RX0 97 yX0_sendBye, Cond.instanceMethod yX0_sendBye, Cond.selects RX0 yX0_sendBye yX0_sendBye, Cond.code yX0_sendBye cX0_sendBye 3 none, Cond.methodLink RX0 55 yX0_goAway, Cond.instanceMethod yX0_goAway, Cond.selects RX0 yX0_goAway yX0_goAway, Cond.code yX0_goAway cX0_goAway 2 none, Cond.methodLink RX0 126 yX0_reaches, Cond.instanceMethod yX0_reaches, Cond.selects RX0 yX0_reaches yX0_reaches]
def wsX1_about_r5 : List Cond := [Cond.code yX0_reaches cX0_reaches 3 (some .boolean), Cond.methodLink RX0 123 yX0_isOpen, Cond.instanceMethod yX0_isOpen, Cond.selects RX0 yX0_isOpen yX0_isOpen, Cond.code yX0_isOpen cX0_isOpen 3 (some .boolean), Cond.methodLink RX0 129 yX0_hearBye, Cond.instanceMethod yX0_hearBye, Cond.selects RX0 yX0_hearBye yX0_hearBye, Cond.code yX0_hearBye cX0_hearBye 5 none, Cond.methodLink RX0 119 yX0_knows, Cond.instanceMethod yX0_knows, Cond.selects RX0 yX0_knows yX0_knows, Cond.code yX0_knows cX0_knows 3 (some .boolean), Cond.methodLink RX0 116 yX0_sendReport, Cond.instanceMethod yX0_sendReport, Cond.selects RX0 yX0_sendReport yX0_sendReport, Cond.code yX0_sendReport cX0_sendReport 3 none, Cond.methodLink RX0 113 yX0_forgetOld, Cond.instanceMethod yX0_forgetOld, Cond.selects RX0 yX0_forgetOld yX0_forgetOld, Cond.code yX0_forgetOld cX0_forgetOld 5 none]
def wsX1_about : List Cond := .code yX1_about cX1_about 2 (some .int) :: ((wsX1_about_r1 ++ (wsX1_about_r2 ++ (wsX1_about_r3 ++ (wsX1_about_r4 ++ wsX1_about_r5)))) ++ wsX10 ++ wsX00)
def wsX1_member_r1 : List Cond := [Cond.fieldLink RX1 10 "CrowdReports" "now" "LCrowdReports$Crowd;", Cond.fieldLink RX1 96 "CrowdReports$Crowd" "kind" "[I", Cond.fieldLink RX1 99 "CrowdReports$Crowd" "known" "[I", Cond.fieldLink RX1 105 "CrowdReports$Crowd" "begun" "[I", Cond.fieldLink RX1 108 "CrowdReports$Crowd" "due" "[I", Cond.fieldLink RX1 111 "CrowdReports$Crowd" "goers" "[I", Cond.methodLink RX1 92 yX1_isMember, Cond.static yX1_isMember, Cond.initialized RX1, Cond.code yX1_isMember cX1_isMember 1 (some .boolean), Cond.methodLink RX1 102 yX0_countTold, Cond.instanceMethod yX0_countTold, Cond.selects RX0 yX0_countTold yX0_countTold, Cond.initialized RX0, Cond.code yX0_countTold cX0_countTold 2 (some .int), Cond.fieldLink RX0 33 "CrowdReports$Crowd" "kind" "[I", Cond.methodLink RX0 71 yX0_countOf, Cond.instanceMethod yX0_countOf, Cond.selects RX0 yX0_countOf yX0_countOf, Cond.code yX0_countOf cX0_countOf 2 (some .int), Cond.fieldLink RX0 37 "CrowdReports$Crowd" "known" "[I", Cond.methodLink RX0 65 yJ6_bitCount_0f7a4, Cond.static yJ6_bitCount_0f7a4, Cond.initialized RJ6]
def wsX1_member_r2 : List Cond := [Cond.code yJ6_bitCount_0f7a4 cJ6_bitCount_0f7a4 1 (some .int), Cond.constant RJ6 265 (1431655765), Cond.constant RJ6 266 (858993459), Cond.constant RJ6 267 (252645135)]
def wsX1_member : List Cond := .code yX1_member cX1_member 3 (some .int) :: ((wsX1_member_r1 ++ wsX1_member_r2) ++ wsX10 ++ wsX00)
def wsX1_heard : List Cond := .code yX1_heard cX1_heard 3 (some .int) :: ([.fieldLink RX1 10 "CrowdReports" "now" "LCrowdReports$Crowd;", .fieldLink RX1 118 "CrowdReports$Crowd" "lastHeard" "[I", .methodLink RX1 92 yX1_isMember, .static yX1_isMember, .initialized RX1, .code yX1_isMember cX1_isMember 1 (some .boolean), .methodLink RX1 114 yX0_knows, .instanceMethod yX0_knows, .selects RX0 yX0_knows yX0_knows, .initialized RX0, .code yX0_knows cX0_knows 3 (some .boolean), .fieldLink RX0 37 "CrowdReports$Crowd" "known" "[I"] ++ wsX10 ++ wsX00)
def wsX1_way : List Cond := .code yX1_way cX1_way 3 (some .int) :: ([.fieldLink RX1 10 "CrowdReports" "now" "LCrowdReports$Crowd;", .methodLink RX1 92 yX1_isMember, .static yX1_isMember, .initialized RX1, .code yX1_isMember cX1_isMember 1 (some .boolean), .methodLink RX1 121 yX0_isOpen, .instanceMethod yX0_isOpen, .selects RX0 yX0_isOpen yX0_isOpen, .initialized RX0, .code yX0_isOpen cX0_isOpen 3 (some .boolean), .fieldLink RX0 49 "CrowdReports$Crowd" "shut" "[I"] ++ wsX10 ++ wsX00)
def wsX1_remember_r1 : List Cond := [Cond.fieldLink RX1 23 "CrowdReports" "acts" "I", Cond.fieldLink RX1 19 "CrowdReports" "past" "[LCrowdReports$Crowd;", Cond.fieldLink RX1 10 "CrowdReports" "now" "LCrowdReports$Crowd;", Cond.methodLink RX1 60 yX0_takeFrom, Cond.instanceMethod yX0_takeFrom, Cond.selects RX0 yX0_takeFrom yX0_takeFrom, Cond.initialized RX0, Cond.code yX0_takeFrom cX0_takeFrom 2 none, Cond.fieldLink RX0 9 "CrowdReports$Crowd" "size" "I", Cond.fieldLink RX0 15 "CrowdReports$Crowd" "rate" "I", Cond.fieldLink RX0 18 "CrowdReports$Crowd" "min" "I", Cond.fieldLink RX0 21 "CrowdReports$Crowd" "clock" "I", Cond.fieldLink RX0 24 "CrowdReports$Crowd" "lot" "I", Cond.fieldLink RX0 27 "CrowdReports$Crowd" "reports" "I", Cond.fieldLink RX0 30 "CrowdReports$Crowd" "byes" "I", Cond.fieldLink RX0 33 "CrowdReports$Crowd" "kind" "[I", Cond.methodLink RX0 59 arraycopyName, Cond.native arraycopyName, Cond.static arraycopyName, Cond.initialized "java/lang/System", Cond.fieldLink RX0 37 "CrowdReports$Crowd" "known" "[I", Cond.fieldLink RX0 40 "CrowdReports$Crowd" "begun" "[I", Cond.fieldLink RX0 43 "CrowdReports$Crowd" "due" "[I", Cond.fieldLink RX0 46 "CrowdReports$Crowd" "goers" "[I"]
def wsX1_remember_r2 : List Cond := [Cond.fieldLink RX0 49 "CrowdReports$Crowd" "shut" "[I", Cond.fieldLink RX0 52 "CrowdReports$Crowd" "lastHeard" "[I"]
def wsX1_remember : List Cond := .code yX1_remember cX1_remember 3 none :: ((wsX1_remember_r1 ++ wsX1_remember_r2) ++ wsX10 ++ wsX00)
def wsX1_join_r1 : List Cond := [Cond.fieldLink RX1 10 "CrowdReports" "now" "LCrowdReports$Crowd;", Cond.fieldLink RX1 96 "CrowdReports$Crowd" "kind" "[I", Cond.fieldLink RX1 108 "CrowdReports$Crowd" "due" "[I", Cond.methodLink RX1 92 yX1_isMember, Cond.static yX1_isMember, Cond.initialized RX1, Cond.code yX1_isMember cX1_isMember 1 (some .boolean), Cond.methodLink RX1 124 yX1_remember, Cond.instanceMethod yX1_remember, Cond.selects RX1 yX1_remember yX1_remember, Cond.code yX1_remember cX1_remember 3 none, Cond.fieldLink RX1 23 "CrowdReports" "acts" "I", Cond.fieldLink RX1 19 "CrowdReports" "past" "[LCrowdReports$Crowd;", Cond.methodLink RX1 60 yX0_takeFrom, Cond.instanceMethod yX0_takeFrom, Cond.selects RX0 yX0_takeFrom yX0_takeFrom, Cond.initialized RX0, Cond.code yX0_takeFrom cX0_takeFrom 2 none, Cond.fieldLink RX0 9 "CrowdReports$Crowd" "size" "I", Cond.fieldLink RX0 15 "CrowdReports$Crowd" "rate" "I", Cond.fieldLink RX0 18 "CrowdReports$Crowd" "min" "I", Cond.fieldLink RX0 21 "CrowdReports$Crowd" "clock" "I", Cond.fieldLink RX0 24 "CrowdReports$Crowd" "lot" "I", Cond.fieldLink RX0 27 "CrowdReports$Crowd" "reports" "I"]
def wsX1_join_r2 : List Cond := [Cond.fieldLink RX0 30 "CrowdReports$Crowd" "byes" "I", Cond.fieldLink RX0 33 "CrowdReports$Crowd" "kind" "[I", Cond.methodLink RX0 59 arraycopyName, Cond.native arraycopyName, Cond.static arraycopyName, Cond.initialized "java/lang/System", Cond.fieldLink RX0 37 "CrowdReports$Crowd" "known" "[I", Cond.fieldLink RX0 40 "CrowdReports$Crowd" "begun" "[I", Cond.fieldLink RX0 43 "CrowdReports$Crowd" "due" "[I", Cond.fieldLink RX0 46 "CrowdReports$Crowd" "goers" "[I", Cond.fieldLink RX0 49 "CrowdReports$Crowd" "shut" "[I", Cond.fieldLink RX0 52 "CrowdReports$Crowd" "lastHeard" "[I", Cond.methodLink RX1 127 yX0_enter, Cond.instanceMethod yX0_enter, Cond.selects RX0 yX0_enter yX0_enter, Cond.code yX0_enter cX0_enter 2 (some .boolean), Cond.methodLink RX0 94 yX0_begin, Cond.instanceMethod yX0_begin, Cond.selects RX0 yX0_begin yX0_begin, Cond.code yX0_begin cX0_begin 2 none, Cond.methodLink RX0 87 yX0_waitOf, Cond.instanceMethod yX0_waitOf, Cond.selects RX0 yX0_waitOf yX0_waitOf, Cond.code yX0_waitOf cX0_waitOf 3 (some .int)]
def wsX1_join_r3 : List Cond := [Cond.constant RX0 83 (65536), Cond.methodLink RX0 77 Lib.Math.max.name, Cond.static Lib.Math.max.name, Cond.initialized "java/lang/Math", Cond.code Lib.Math.max.name Lib.Math.max.code 2 (some .int), Cond.methodLink RX0 84 yX0_spanOf, Cond.instanceMethod yX0_spanOf, Cond.selects RX0 yX0_spanOf yX0_spanOf, Cond.code yX0_spanOf cX0_spanOf 3 (some .int)]
def wsX1_join : List Cond := .code yX1_join cX1_join 2 (some .int) :: ((wsX1_join_r1 ++ (wsX1_join_r2 ++ wsX1_join_r3)) ++ wsX10 ++ wsX00)
def wsX1_leave_r1 : List Cond := [Cond.fieldLink RX1 10 "CrowdReports" "now" "LCrowdReports$Crowd;", Cond.fieldLink RX1 96 "CrowdReports$Crowd" "kind" "[I", Cond.fieldLink RX1 108 "CrowdReports$Crowd" "due" "[I", Cond.methodLink RX1 92 yX1_isMember, Cond.static yX1_isMember, Cond.initialized RX1, Cond.code yX1_isMember cX1_isMember 1 (some .boolean), Cond.methodLink RX1 124 yX1_remember, Cond.instanceMethod yX1_remember, Cond.selects RX1 yX1_remember yX1_remember, Cond.code yX1_remember cX1_remember 3 none, Cond.fieldLink RX1 23 "CrowdReports" "acts" "I", Cond.fieldLink RX1 19 "CrowdReports" "past" "[LCrowdReports$Crowd;", Cond.methodLink RX1 60 yX0_takeFrom, Cond.instanceMethod yX0_takeFrom, Cond.selects RX0 yX0_takeFrom yX0_takeFrom, Cond.initialized RX0, Cond.code yX0_takeFrom cX0_takeFrom 2 none, Cond.fieldLink RX0 9 "CrowdReports$Crowd" "size" "I", Cond.fieldLink RX0 15 "CrowdReports$Crowd" "rate" "I", Cond.fieldLink RX0 18 "CrowdReports$Crowd" "min" "I", Cond.fieldLink RX0 21 "CrowdReports$Crowd" "clock" "I", Cond.fieldLink RX0 24 "CrowdReports$Crowd" "lot" "I", Cond.fieldLink RX0 27 "CrowdReports$Crowd" "reports" "I"]
def wsX1_leave_r2 : List Cond := [Cond.fieldLink RX0 30 "CrowdReports$Crowd" "byes" "I", Cond.fieldLink RX0 33 "CrowdReports$Crowd" "kind" "[I", Cond.methodLink RX0 59 arraycopyName, Cond.native arraycopyName, Cond.static arraycopyName, Cond.initialized "java/lang/System", Cond.fieldLink RX0 37 "CrowdReports$Crowd" "known" "[I", Cond.fieldLink RX0 40 "CrowdReports$Crowd" "begun" "[I", Cond.fieldLink RX0 43 "CrowdReports$Crowd" "due" "[I", Cond.fieldLink RX0 46 "CrowdReports$Crowd" "goers" "[I", Cond.fieldLink RX0 49 "CrowdReports$Crowd" "shut" "[I", Cond.fieldLink RX0 52 "CrowdReports$Crowd" "lastHeard" "[I", Cond.methodLink RX1 130 yX0_depart, Cond.instanceMethod yX0_depart, Cond.selects RX0 yX0_depart yX0_depart, Cond.code yX0_depart cX0_depart 2 (some .boolean), Cond.methodLink RX0 71 yX0_countOf, Cond.instanceMethod yX0_countOf, Cond.selects RX0 yX0_countOf yX0_countOf, Cond.code yX0_countOf cX0_countOf 2 (some .int), Cond.methodLink RX0 65 yJ6_bitCount_0f7a4, Cond.static yJ6_bitCount_0f7a4, Cond.initialized RJ6, Cond.code yJ6_bitCount_0f7a4 cJ6_bitCount_0f7a4 1 (some .int)]
def wsX1_leave_r3 : List Cond := [Cond.constant RJ6 265 (1431655765), Cond.constant RJ6 266 (858993459), Cond.constant RJ6 267 (252645135), Cond.methodLink RX0 97 yX0_sendBye, Cond.instanceMethod yX0_sendBye, Cond.selects RX0 yX0_sendBye yX0_sendBye, Cond.code yX0_sendBye cX0_sendBye 3 none, Cond.methodLink RX0 55 yX0_goAway, Cond.instanceMethod yX0_goAway, Cond.selects RX0 yX0_goAway yX0_goAway, Cond.code yX0_goAway cX0_goAway 2 none, Cond.methodLink RX0 126 yX0_reaches, Cond.instanceMethod yX0_reaches, Cond.selects RX0 yX0_reaches yX0_reaches, Cond.code yX0_reaches cX0_reaches 3 (some .boolean), Cond.methodLink RX0 123 yX0_isOpen, Cond.instanceMethod yX0_isOpen, Cond.selects RX0 yX0_isOpen yX0_isOpen, Cond.code yX0_isOpen cX0_isOpen 3 (some .boolean), Cond.methodLink RX0 129 yX0_hearBye, Cond.instanceMethod yX0_hearBye, Cond.selects RX0 yX0_hearBye yX0_hearBye, Cond.code yX0_hearBye cX0_hearBye 5 none, Cond.methodLink RX0 77 Lib.Math.max.name]
def wsX1_leave_r4 : List Cond := [Cond.static Lib.Math.max.name, Cond.initialized "java/lang/Math", Cond.code Lib.Math.max.name Lib.Math.max.code 2 (some .int), Cond.methodLink RX0 119 yX0_knows, Cond.instanceMethod yX0_knows, Cond.selects RX0 yX0_knows yX0_knows, Cond.code yX0_knows cX0_knows 3 (some .boolean), Cond.methodLink RX0 94 yX0_begin, Cond.instanceMethod yX0_begin, Cond.selects RX0 yX0_begin yX0_begin, Cond.code yX0_begin cX0_begin 2 none, Cond.methodLink RX0 87 yX0_waitOf, Cond.instanceMethod yX0_waitOf, Cond.selects RX0 yX0_waitOf yX0_waitOf, Cond.code yX0_waitOf cX0_waitOf 3 (some .int), Cond.constant RX0 83 (65536), Cond.methodLink RX0 84 yX0_spanOf, Cond.instanceMethod yX0_spanOf, Cond.selects RX0 yX0_spanOf yX0_spanOf, Cond.code yX0_spanOf cX0_spanOf 3 (some .int)]
def wsX1_leave : List Cond := .code yX1_leave cX1_leave 2 (some .int) :: ((wsX1_leave_r1 ++ (wsX1_leave_r2 ++ (wsX1_leave_r3 ++ wsX1_leave_r4))) ++ wsX10 ++ wsX00)
def wsX1_pass_r1 : List Cond := [Cond.fieldLink RX1 10 "CrowdReports" "now" "LCrowdReports$Crowd;", Cond.methodLink RX1 124 yX1_remember, Cond.instanceMethod yX1_remember, Cond.selects RX1 yX1_remember yX1_remember, Cond.initialized RX1, Cond.code yX1_remember cX1_remember 3 none, Cond.fieldLink RX1 23 "CrowdReports" "acts" "I", Cond.fieldLink RX1 19 "CrowdReports" "past" "[LCrowdReports$Crowd;", Cond.methodLink RX1 60 yX0_takeFrom, Cond.instanceMethod yX0_takeFrom, Cond.selects RX0 yX0_takeFrom yX0_takeFrom, Cond.initialized RX0, Cond.code yX0_takeFrom cX0_takeFrom 2 none, Cond.fieldLink RX0 9 "CrowdReports$Crowd" "size" "I", Cond.fieldLink RX0 15 "CrowdReports$Crowd" "rate" "I", Cond.fieldLink RX0 18 "CrowdReports$Crowd" "min" "I", Cond.fieldLink RX0 21 "CrowdReports$Crowd" "clock" "I", Cond.fieldLink RX0 24 "CrowdReports$Crowd" "lot" "I", Cond.fieldLink RX0 27 "CrowdReports$Crowd" "reports" "I", Cond.fieldLink RX0 30 "CrowdReports$Crowd" "byes" "I", Cond.fieldLink RX0 33 "CrowdReports$Crowd" "kind" "[I", Cond.methodLink RX0 59 arraycopyName, Cond.native arraycopyName, Cond.static arraycopyName]
def wsX1_pass_r2 : List Cond := [Cond.initialized "java/lang/System", Cond.fieldLink RX0 37 "CrowdReports$Crowd" "known" "[I", Cond.fieldLink RX0 40 "CrowdReports$Crowd" "begun" "[I", Cond.fieldLink RX0 43 "CrowdReports$Crowd" "due" "[I", Cond.fieldLink RX0 46 "CrowdReports$Crowd" "goers" "[I", Cond.fieldLink RX0 49 "CrowdReports$Crowd" "shut" "[I", Cond.fieldLink RX0 52 "CrowdReports$Crowd" "lastHeard" "[I", Cond.methodLink RX1 133 yX0_run, Cond.instanceMethod yX0_run, Cond.selects RX0 yX0_run yX0_run, Cond.code yX0_run cX0_run 5 (some .int), Cond.methodLink RX0 106 yX0_sent, Cond.instanceMethod yX0_sent, Cond.selects RX0 yX0_sent yX0_sent, Cond.code yX0_sent cX0_sent 1 (some .int), Cond.methodLink RX0 110 yX0_comeDue, Cond.instanceMethod yX0_comeDue, Cond.selects RX0 yX0_comeDue yX0_comeDue, Cond.code yX0_comeDue cX0_comeDue 4 none, Cond.methodLink RX0 71 yX0_countOf, Cond.instanceMethod yX0_countOf, Cond.selects RX0 yX0_countOf yX0_countOf, Cond.code yX0_countOf cX0_countOf 2 (some .int), Cond.methodLink RX0 65 yJ6_bitCount_0f7a4]
def wsX1_pass_r3 : List Cond := [Cond.static yJ6_bitCount_0f7a4, Cond.initialized RJ6, Cond.code yJ6_bitCount_0f7a4 cJ6_bitCount_0f7a4 1 (some .int), Cond.constant RJ6 265 (1431655765), Cond.constant RJ6 266 (858993459), Cond.constant RJ6 267 (252645135), Cond.methodLink RX0 87 yX0_waitOf, Cond.instanceMethod yX0_waitOf, Cond.selects RX0 yX0_waitOf yX0_waitOf, Cond.code yX0_waitOf cX0_waitOf 3 (some .int), Cond.constant RX0 83 (65536), Cond.methodLink RX0 77 Lib.Math.max.name, Cond.static Lib.Math.max.name, Cond.initialized "java/lang/Math", Cond.code Lib.Math.max.name Lib.Math.max.code 2 (some .int), Cond.methodLink RX0 84 yX0_spanOf, Cond.instanceMethod yX0_spanOf, Cond.selects RX0 yX0_spanOf yX0_spanOf, Cond.code yX0_spanOf cX0_spanOf 3 (some .int), Cond.methodLink RX0 97 yX0_sendBye, Cond.instanceMethod yX0_sendBye, Cond.selects RX0 yX0_sendBye yX0_sendBye, Cond.code yX0_sendBye cX0_sendBye 3 none, Cond.methodLink RX0 55 yX0_goAway]
def wsX1_pass_r4 : List Cond := [Cond.instanceMethod yX0_goAway, Cond.selects RX0 yX0_goAway yX0_goAway, Cond.code yX0_goAway cX0_goAway 2 none, Cond.methodLink RX0 126 yX0_reaches, Cond.instanceMethod yX0_reaches, Cond.selects RX0 yX0_reaches yX0_reaches, Cond.code yX0_reaches cX0_reaches 3 (some .boolean), Cond.methodLink RX0 123 yX0_isOpen, Cond.instanceMethod yX0_isOpen, Cond.selects RX0 yX0_isOpen yX0_isOpen, Cond.code yX0_isOpen cX0_isOpen 3 (some .boolean), Cond.methodLink RX0 129 yX0_hearBye, Cond.instanceMethod yX0_hearBye, Cond.selects RX0 yX0_hearBye yX0_hearBye, Cond.code yX0_hearBye cX0_hearBye 5 none, Cond.methodLink RX0 119 yX0_knows, Cond.instanceMethod yX0_knows, Cond.selects RX0 yX0_knows yX0_knows, Cond.code yX0_knows cX0_knows 3 (some .boolean), Cond.methodLink RX0 116 yX0_sendReport, Cond.instanceMethod yX0_sendReport, Cond.selects RX0 yX0_sendReport yX0_sendReport, Cond.code yX0_sendReport cX0_sendReport 3 none, Cond.methodLink RX0 113 yX0_forgetOld]
def wsX1_pass_r5 : List Cond := [Cond.instanceMethod yX0_forgetOld, Cond.selects RX0 yX0_forgetOld yX0_forgetOld, Cond.code yX0_forgetOld cX0_forgetOld 5 none]
def wsX1_pass : List Cond := .code yX1_pass cX1_pass 2 (some .int) :: ((wsX1_pass_r1 ++ (wsX1_pass_r2 ++ (wsX1_pass_r3 ++ (wsX1_pass_r4 ++ wsX1_pass_r5)))) ++ wsX10 ++ wsX00)
def wsX1_turn_r1 : List Cond := [Cond.fieldLink RX1 10 "CrowdReports" "now" "LCrowdReports$Crowd;", Cond.methodLink RX1 92 yX1_isMember, Cond.static yX1_isMember, Cond.initialized RX1, Cond.code yX1_isMember cX1_isMember 1 (some .boolean), Cond.methodLink RX1 124 yX1_remember, Cond.instanceMethod yX1_remember, Cond.selects RX1 yX1_remember yX1_remember, Cond.code yX1_remember cX1_remember 3 none, Cond.fieldLink RX1 23 "CrowdReports" "acts" "I", Cond.fieldLink RX1 19 "CrowdReports" "past" "[LCrowdReports$Crowd;", Cond.methodLink RX1 60 yX0_takeFrom, Cond.instanceMethod yX0_takeFrom, Cond.selects RX0 yX0_takeFrom yX0_takeFrom, Cond.initialized RX0, Cond.code yX0_takeFrom cX0_takeFrom 2 none, Cond.fieldLink RX0 9 "CrowdReports$Crowd" "size" "I", Cond.fieldLink RX0 15 "CrowdReports$Crowd" "rate" "I", Cond.fieldLink RX0 18 "CrowdReports$Crowd" "min" "I", Cond.fieldLink RX0 21 "CrowdReports$Crowd" "clock" "I", Cond.fieldLink RX0 24 "CrowdReports$Crowd" "lot" "I", Cond.fieldLink RX0 27 "CrowdReports$Crowd" "reports" "I", Cond.fieldLink RX0 30 "CrowdReports$Crowd" "byes" "I", Cond.fieldLink RX0 33 "CrowdReports$Crowd" "kind" "[I"]
def wsX1_turn_r2 : List Cond := [Cond.methodLink RX0 59 arraycopyName, Cond.native arraycopyName, Cond.static arraycopyName, Cond.initialized "java/lang/System", Cond.fieldLink RX0 37 "CrowdReports$Crowd" "known" "[I", Cond.fieldLink RX0 40 "CrowdReports$Crowd" "begun" "[I", Cond.fieldLink RX0 43 "CrowdReports$Crowd" "due" "[I", Cond.fieldLink RX0 46 "CrowdReports$Crowd" "goers" "[I", Cond.fieldLink RX0 49 "CrowdReports$Crowd" "shut" "[I", Cond.fieldLink RX0 52 "CrowdReports$Crowd" "lastHeard" "[I", Cond.methodLink RX1 136 yX0_turnWay, Cond.instanceMethod yX0_turnWay, Cond.selects RX0 yX0_turnWay yX0_turnWay, Cond.code yX0_turnWay cX0_turnWay 3 (some .boolean), Cond.methodLink RX1 121 yX0_isOpen, Cond.instanceMethod yX0_isOpen, Cond.selects RX0 yX0_isOpen yX0_isOpen, Cond.code yX0_isOpen cX0_isOpen 3 (some .boolean)]
def wsX1_turn : List Cond := .code yX1_turn cX1_turn 3 (some .int) :: ((wsX1_turn_r1 ++ wsX1_turn_r2) ++ wsX10 ++ wsX00)
def wsX1_set_r1 : List Cond := [Cond.fieldLink RX1 10 "CrowdReports" "now" "LCrowdReports$Crowd;", Cond.methodLink RX1 124 yX1_remember, Cond.instanceMethod yX1_remember, Cond.selects RX1 yX1_remember yX1_remember, Cond.initialized RX1, Cond.code yX1_remember cX1_remember 3 none, Cond.fieldLink RX1 23 "CrowdReports" "acts" "I", Cond.fieldLink RX1 19 "CrowdReports" "past" "[LCrowdReports$Crowd;", Cond.methodLink RX1 60 yX0_takeFrom, Cond.instanceMethod yX0_takeFrom, Cond.selects RX0 yX0_takeFrom yX0_takeFrom, Cond.initialized RX0, Cond.code yX0_takeFrom cX0_takeFrom 2 none, Cond.fieldLink RX0 9 "CrowdReports$Crowd" "size" "I", Cond.fieldLink RX0 15 "CrowdReports$Crowd" "rate" "I", Cond.fieldLink RX0 18 "CrowdReports$Crowd" "min" "I", Cond.fieldLink RX0 21 "CrowdReports$Crowd" "clock" "I", Cond.fieldLink RX0 24 "CrowdReports$Crowd" "lot" "I", Cond.fieldLink RX0 27 "CrowdReports$Crowd" "reports" "I", Cond.fieldLink RX0 30 "CrowdReports$Crowd" "byes" "I", Cond.fieldLink RX0 33 "CrowdReports$Crowd" "kind" "[I", Cond.methodLink RX0 59 arraycopyName, Cond.native arraycopyName, Cond.static arraycopyName]
def wsX1_set_r2 : List Cond := [Cond.initialized "java/lang/System", Cond.fieldLink RX0 37 "CrowdReports$Crowd" "known" "[I", Cond.fieldLink RX0 40 "CrowdReports$Crowd" "begun" "[I", Cond.fieldLink RX0 43 "CrowdReports$Crowd" "due" "[I", Cond.fieldLink RX0 46 "CrowdReports$Crowd" "goers" "[I", Cond.fieldLink RX0 49 "CrowdReports$Crowd" "shut" "[I", Cond.fieldLink RX0 52 "CrowdReports$Crowd" "lastHeard" "[I", Cond.methodLink RX1 139 yX0_tellAnew, Cond.instanceMethod yX0_tellAnew, Cond.selects RX0 yX0_tellAnew yX0_tellAnew, Cond.code yX0_tellAnew cX0_tellAnew 4 (some .int)]
def wsX1_set : List Cond := .code yX1_set cX1_set 3 (some .int) :: ((wsX1_set_r1 ++ wsX1_set_r2) ++ wsX10 ++ wsX00)
def wsX1_undo_r1 : List Cond := [Cond.fieldLink RX1 23 "CrowdReports" "acts" "I", Cond.fieldLink RX1 10 "CrowdReports" "now" "LCrowdReports$Crowd;", Cond.fieldLink RX1 19 "CrowdReports" "past" "[LCrowdReports$Crowd;", Cond.methodLink RX1 60 yX0_takeFrom, Cond.instanceMethod yX0_takeFrom, Cond.selects RX0 yX0_takeFrom yX0_takeFrom, Cond.initialized RX0, Cond.code yX0_takeFrom cX0_takeFrom 2 none, Cond.fieldLink RX0 9 "CrowdReports$Crowd" "size" "I", Cond.fieldLink RX0 15 "CrowdReports$Crowd" "rate" "I", Cond.fieldLink RX0 18 "CrowdReports$Crowd" "min" "I", Cond.fieldLink RX0 21 "CrowdReports$Crowd" "clock" "I", Cond.fieldLink RX0 24 "CrowdReports$Crowd" "lot" "I", Cond.fieldLink RX0 27 "CrowdReports$Crowd" "reports" "I", Cond.fieldLink RX0 30 "CrowdReports$Crowd" "byes" "I", Cond.fieldLink RX0 33 "CrowdReports$Crowd" "kind" "[I", Cond.methodLink RX0 59 arraycopyName, Cond.native arraycopyName, Cond.static arraycopyName, Cond.initialized "java/lang/System", Cond.fieldLink RX0 37 "CrowdReports$Crowd" "known" "[I", Cond.fieldLink RX0 40 "CrowdReports$Crowd" "begun" "[I", Cond.fieldLink RX0 43 "CrowdReports$Crowd" "due" "[I", Cond.fieldLink RX0 46 "CrowdReports$Crowd" "goers" "[I"]
def wsX1_undo_r2 : List Cond := [Cond.fieldLink RX0 49 "CrowdReports$Crowd" "shut" "[I", Cond.fieldLink RX0 52 "CrowdReports$Crowd" "lastHeard" "[I"]
def wsX1_undo : List Cond := .code yX1_undo cX1_undo 1 (some .int) :: ((wsX1_undo_r1 ++ wsX1_undo_r2) ++ wsX10 ++ wsX00)
def wsX1_ahead_r1 : List Cond := [Cond.fieldLink RX1 16 "CrowdReports" "trial" "LCrowdReports$Crowd;", Cond.fieldLink RX1 10 "CrowdReports" "now" "LCrowdReports$Crowd;", Cond.fieldLink RX1 79 "CrowdReports$Crowd" "reports" "I", Cond.fieldLink RX1 82 "CrowdReports$Crowd" "byes" "I", Cond.fieldLink RX1 76 "CrowdReports$Crowd" "lot" "I", Cond.methodLink RX1 60 yX0_takeFrom, Cond.instanceMethod yX0_takeFrom, Cond.selects RX0 yX0_takeFrom yX0_takeFrom, Cond.initialized RX0, Cond.code yX0_takeFrom cX0_takeFrom 2 none, Cond.fieldLink RX0 9 "CrowdReports$Crowd" "size" "I", Cond.fieldLink RX0 15 "CrowdReports$Crowd" "rate" "I", Cond.fieldLink RX0 18 "CrowdReports$Crowd" "min" "I", Cond.fieldLink RX0 21 "CrowdReports$Crowd" "clock" "I", Cond.fieldLink RX0 24 "CrowdReports$Crowd" "lot" "I", Cond.fieldLink RX0 27 "CrowdReports$Crowd" "reports" "I", Cond.fieldLink RX0 30 "CrowdReports$Crowd" "byes" "I", Cond.fieldLink RX0 33 "CrowdReports$Crowd" "kind" "[I", Cond.methodLink RX0 59 arraycopyName, Cond.native arraycopyName, Cond.static arraycopyName, Cond.initialized "java/lang/System", Cond.fieldLink RX0 37 "CrowdReports$Crowd" "known" "[I", Cond.fieldLink RX0 40 "CrowdReports$Crowd" "begun" "[I"]
def wsX1_ahead_r2 : List Cond := [Cond.fieldLink RX0 43 "CrowdReports$Crowd" "due" "[I", Cond.fieldLink RX0 46 "CrowdReports$Crowd" "goers" "[I", Cond.fieldLink RX0 49 "CrowdReports$Crowd" "shut" "[I", Cond.fieldLink RX0 52 "CrowdReports$Crowd" "lastHeard" "[I", Cond.methodLink RX1 133 yX0_run, Cond.instanceMethod yX0_run, Cond.selects RX0 yX0_run yX0_run, Cond.code yX0_run cX0_run 5 (some .int), Cond.methodLink RX0 106 yX0_sent, Cond.instanceMethod yX0_sent, Cond.selects RX0 yX0_sent yX0_sent, Cond.code yX0_sent cX0_sent 1 (some .int), Cond.methodLink RX0 110 yX0_comeDue, Cond.instanceMethod yX0_comeDue, Cond.selects RX0 yX0_comeDue yX0_comeDue, Cond.code yX0_comeDue cX0_comeDue 4 none, Cond.methodLink RX0 71 yX0_countOf, Cond.instanceMethod yX0_countOf, Cond.selects RX0 yX0_countOf yX0_countOf, Cond.code yX0_countOf cX0_countOf 2 (some .int), Cond.methodLink RX0 65 yJ6_bitCount_0f7a4, Cond.static yJ6_bitCount_0f7a4, Cond.initialized RJ6, Cond.code yJ6_bitCount_0f7a4 cJ6_bitCount_0f7a4 1 (some .int)]
def wsX1_ahead_r3 : List Cond := [Cond.constant RJ6 265 (1431655765), Cond.constant RJ6 266 (858993459), Cond.constant RJ6 267 (252645135), Cond.methodLink RX0 87 yX0_waitOf, Cond.instanceMethod yX0_waitOf, Cond.selects RX0 yX0_waitOf yX0_waitOf, Cond.code yX0_waitOf cX0_waitOf 3 (some .int), Cond.constant RX0 83 (65536), Cond.methodLink RX0 77 Lib.Math.max.name, Cond.static Lib.Math.max.name, Cond.initialized "java/lang/Math", Cond.code Lib.Math.max.name Lib.Math.max.code 2 (some .int), Cond.methodLink RX0 84 yX0_spanOf, Cond.instanceMethod yX0_spanOf, Cond.selects RX0 yX0_spanOf yX0_spanOf, Cond.code yX0_spanOf cX0_spanOf 3 (some .int), Cond.methodLink RX0 97 yX0_sendBye, Cond.instanceMethod yX0_sendBye, Cond.selects RX0 yX0_sendBye yX0_sendBye, Cond.code yX0_sendBye cX0_sendBye 3 none, Cond.methodLink RX0 55 yX0_goAway, Cond.instanceMethod yX0_goAway, Cond.selects RX0 yX0_goAway yX0_goAway, Cond.code yX0_goAway cX0_goAway 2 none]
def wsX1_ahead_r4 : List Cond := [Cond.methodLink RX0 126 yX0_reaches, Cond.instanceMethod yX0_reaches, Cond.selects RX0 yX0_reaches yX0_reaches, Cond.code yX0_reaches cX0_reaches 3 (some .boolean), Cond.methodLink RX0 123 yX0_isOpen, Cond.instanceMethod yX0_isOpen, Cond.selects RX0 yX0_isOpen yX0_isOpen, Cond.code yX0_isOpen cX0_isOpen 3 (some .boolean), Cond.methodLink RX0 129 yX0_hearBye, Cond.instanceMethod yX0_hearBye, Cond.selects RX0 yX0_hearBye yX0_hearBye, Cond.code yX0_hearBye cX0_hearBye 5 none, Cond.methodLink RX0 119 yX0_knows, Cond.instanceMethod yX0_knows, Cond.selects RX0 yX0_knows yX0_knows, Cond.code yX0_knows cX0_knows 3 (some .boolean), Cond.methodLink RX0 116 yX0_sendReport, Cond.instanceMethod yX0_sendReport, Cond.selects RX0 yX0_sendReport yX0_sendReport, Cond.code yX0_sendReport cX0_sendReport 3 none, Cond.methodLink RX0 113 yX0_forgetOld, Cond.instanceMethod yX0_forgetOld, Cond.selects RX0 yX0_forgetOld yX0_forgetOld, Cond.code yX0_forgetOld cX0_forgetOld 5 none]
def wsX1_ahead_r5 : List Cond := [Cond.methodLink RX1 85 yX0_bitsOf, Cond.instanceMethod yX0_bitsOf, Cond.selects RX0 yX0_bitsOf yX0_bitsOf, Cond.code yX0_bitsOf cX0_bitsOf 4 (some .int)]
def wsX1_ahead : List Cond := .code yX1_ahead cX1_ahead 3 (some .int) :: ((wsX1_ahead_r1 ++ (wsX1_ahead_r2 ++ (wsX1_ahead_r3 ++ (wsX1_ahead_r4 ++ wsX1_ahead_r5)))) ++ wsX10 ++ wsX00)
def wsX1_crowd_r1 : List Cond := [Cond.fieldLink RX1 16 "CrowdReports" "trial" "LCrowdReports$Crowd;", Cond.fieldLink RX1 10 "CrowdReports" "now" "LCrowdReports$Crowd;", Cond.methodLink RX1 143 Lib.Math.max.name, Cond.static Lib.Math.max.name, Cond.initialized "java/lang/Math", Cond.code Lib.Math.max.name Lib.Math.max.code 2 (some .int), Cond.methodLink RX1 60 yX0_takeFrom, Cond.instanceMethod yX0_takeFrom, Cond.selects RX0 yX0_takeFrom yX0_takeFrom, Cond.initialized RX0, Cond.code yX0_takeFrom cX0_takeFrom 2 none, Cond.fieldLink RX0 9 "CrowdReports$Crowd" "size" "I", Cond.fieldLink RX0 15 "CrowdReports$Crowd" "rate" "I", Cond.fieldLink RX0 18 "CrowdReports$Crowd" "min" "I", Cond.fieldLink RX0 21 "CrowdReports$Crowd" "clock" "I", Cond.fieldLink RX0 24 "CrowdReports$Crowd" "lot" "I", Cond.fieldLink RX0 27 "CrowdReports$Crowd" "reports" "I", Cond.fieldLink RX0 30 "CrowdReports$Crowd" "byes" "I", Cond.fieldLink RX0 33 "CrowdReports$Crowd" "kind" "[I", Cond.methodLink RX0 59 arraycopyName, Cond.native arraycopyName, Cond.static arraycopyName, Cond.initialized "java/lang/System", Cond.fieldLink RX0 37 "CrowdReports$Crowd" "known" "[I"]
def wsX1_crowd_r2 : List Cond := [Cond.fieldLink RX0 40 "CrowdReports$Crowd" "begun" "[I", Cond.fieldLink RX0 43 "CrowdReports$Crowd" "due" "[I", Cond.fieldLink RX0 46 "CrowdReports$Crowd" "goers" "[I", Cond.fieldLink RX0 49 "CrowdReports$Crowd" "shut" "[I", Cond.fieldLink RX0 52 "CrowdReports$Crowd" "lastHeard" "[I", Cond.methodLink RX1 133 yX0_run, Cond.instanceMethod yX0_run, Cond.selects RX0 yX0_run yX0_run, Cond.code yX0_run cX0_run 5 (some .int), Cond.methodLink RX0 106 yX0_sent, Cond.instanceMethod yX0_sent, Cond.selects RX0 yX0_sent yX0_sent, Cond.code yX0_sent cX0_sent 1 (some .int), Cond.methodLink RX0 110 yX0_comeDue, Cond.instanceMethod yX0_comeDue, Cond.selects RX0 yX0_comeDue yX0_comeDue, Cond.code yX0_comeDue cX0_comeDue 4 none, Cond.methodLink RX0 71 yX0_countOf, Cond.instanceMethod yX0_countOf, Cond.selects RX0 yX0_countOf yX0_countOf, Cond.code yX0_countOf cX0_countOf 2 (some .int), Cond.methodLink RX0 65 yJ6_bitCount_0f7a4, Cond.static yJ6_bitCount_0f7a4, Cond.initialized RJ6]
def wsX1_crowd_r3 : List Cond := [Cond.code yJ6_bitCount_0f7a4 cJ6_bitCount_0f7a4 1 (some .int), Cond.constant RJ6 265 (1431655765), Cond.constant RJ6 266 (858993459), Cond.constant RJ6 267 (252645135), Cond.methodLink RX0 87 yX0_waitOf, Cond.instanceMethod yX0_waitOf, Cond.selects RX0 yX0_waitOf yX0_waitOf, Cond.code yX0_waitOf cX0_waitOf 3 (some .int), Cond.constant RX0 83 (65536), Cond.methodLink RX0 77 Lib.Math.max.name, Cond.methodLink RX0 84 yX0_spanOf, Cond.instanceMethod yX0_spanOf, Cond.selects RX0 yX0_spanOf yX0_spanOf, Cond.code yX0_spanOf cX0_spanOf 3 (some .int), Cond.methodLink RX0 97 yX0_sendBye, Cond.instanceMethod yX0_sendBye, Cond.selects RX0 yX0_sendBye yX0_sendBye, Cond.code yX0_sendBye cX0_sendBye 3 none, Cond.methodLink RX0 55 yX0_goAway, Cond.instanceMethod yX0_goAway, Cond.selects RX0 yX0_goAway yX0_goAway, Cond.code yX0_goAway cX0_goAway 2 none, Cond.methodLink RX0 126 yX0_reaches, Cond.instanceMethod yX0_reaches]
def wsX1_crowd_r4 : List Cond := [Cond.selects RX0 yX0_reaches yX0_reaches, Cond.code yX0_reaches cX0_reaches 3 (some .boolean), Cond.methodLink RX0 123 yX0_isOpen, Cond.instanceMethod yX0_isOpen, Cond.selects RX0 yX0_isOpen yX0_isOpen, Cond.code yX0_isOpen cX0_isOpen 3 (some .boolean), Cond.methodLink RX0 129 yX0_hearBye, Cond.instanceMethod yX0_hearBye, Cond.selects RX0 yX0_hearBye yX0_hearBye, Cond.code yX0_hearBye cX0_hearBye 5 none, Cond.methodLink RX0 119 yX0_knows, Cond.instanceMethod yX0_knows, Cond.selects RX0 yX0_knows yX0_knows, Cond.code yX0_knows cX0_knows 3 (some .boolean), Cond.methodLink RX0 116 yX0_sendReport, Cond.instanceMethod yX0_sendReport, Cond.selects RX0 yX0_sendReport yX0_sendReport, Cond.code yX0_sendReport cX0_sendReport 3 none, Cond.methodLink RX0 113 yX0_forgetOld, Cond.instanceMethod yX0_forgetOld, Cond.selects RX0 yX0_forgetOld yX0_forgetOld, Cond.code yX0_forgetOld cX0_forgetOld 5 none]
def wsX1_crowd : List Cond := .code yX1_crowd cX1_crowd 4 (some .int) :: ((wsX1_crowd_r1 ++ (wsX1_crowd_r2 ++ (wsX1_crowd_r3 ++ wsX1_crowd_r4))) ++ wsX10 ++ wsX00)
def wsX1_tenTo : List Cond := .code yX1_tenTo cX1_tenTo 4 (some .long) :: ([.constantLong RX1 198 (10)])
def wsX1_part : List Cond := .code yX1_part cX1_part 4 (some .int) :: ([.methodLink RX1 148 yX1_tenTo, .static yX1_tenTo, .initialized RX1, .code yX1_tenTo cX1_tenTo 4 (some .long), .constantLong RX1 198 (10)])
def wsX1_jitter : List Cond := .code yX1_jitter cX1_jitter 7 (some .int) :: ([.methodLink RX1 156 Lib.Math.abs.name, .static Lib.Math.abs.name, .initialized "java/lang/Math", .code Lib.Math.abs.name Lib.Math.abs.code 1 (some .int), .methodLink RX1 148 yX1_tenTo, .static yX1_tenTo, .initialized RX1, .code yX1_tenTo cX1_tenTo 4 (some .long), .constantLong RX1 198 (10), .methodLink RX1 152 yX1_part, .static yX1_part, .code yX1_part cX1_part 4 (some .int)])
def wsX1_isTime : List Cond := .code yX1_isTime cX1_isTime 1 (some .boolean) :: ([])
def wsX1_round : List Cond := .code yX1_round cX1_round 5 (some .int) :: ([.methodLink RX1 159 yX1_isTime, .static yX1_isTime, .initialized RX1, .code yX1_isTime cX1_isTime 1 (some .boolean)])
def wsX1_canBe_r1 : List Cond := [Cond.fieldLink RX1 16 "CrowdReports" "trial" "LCrowdReports$Crowd;", Cond.fieldLink RX1 96 "CrowdReports$Crowd" "kind" "[I", Cond.methodLink RX1 127 yX0_enter, Cond.instanceMethod yX0_enter, Cond.selects RX0 yX0_enter yX0_enter, Cond.initialized RX0, Cond.code yX0_enter cX0_enter 2 (some .boolean), Cond.fieldLink RX0 33 "CrowdReports$Crowd" "kind" "[I", Cond.static yX1_isMember, Cond.initialized RX1, Cond.code yX1_isMember cX1_isMember 1 (some .boolean), Cond.methodLink RX0 94 yX0_begin, Cond.instanceMethod yX0_begin, Cond.selects RX0 yX0_begin yX0_begin, Cond.code yX0_begin cX0_begin 2 none, Cond.fieldLink RX0 40 "CrowdReports$Crowd" "begun" "[I", Cond.fieldLink RX0 21 "CrowdReports$Crowd" "clock" "I", Cond.fieldLink RX0 43 "CrowdReports$Crowd" "due" "[I", Cond.methodLink RX0 87 yX0_waitOf, Cond.instanceMethod yX0_waitOf, Cond.selects RX0 yX0_waitOf yX0_waitOf, Cond.code yX0_waitOf cX0_waitOf 3 (some .int), Cond.fieldLink RX0 24 "CrowdReports$Crowd" "lot" "I", Cond.constant RX0 83 (65536)]
def wsX1_canBe_r2 : List Cond := [Cond.methodLink RX0 77 Lib.Math.max.name, Cond.static Lib.Math.max.name, Cond.initialized "java/lang/Math", Cond.code Lib.Math.max.name Lib.Math.max.code 2 (some .int), Cond.methodLink RX0 84 yX0_spanOf, Cond.instanceMethod yX0_spanOf, Cond.selects RX0 yX0_spanOf yX0_spanOf, Cond.code yX0_spanOf cX0_spanOf 3 (some .int), Cond.fieldLink RX0 15 "CrowdReports$Crowd" "rate" "I", Cond.fieldLink RX0 18 "CrowdReports$Crowd" "min" "I", Cond.fieldLink RX0 9 "CrowdReports$Crowd" "size" "I", Cond.methodLink RX1 130 yX0_depart, Cond.instanceMethod yX0_depart, Cond.selects RX0 yX0_depart yX0_depart, Cond.code yX0_depart cX0_depart 2 (some .boolean), Cond.fieldLink RX0 46 "CrowdReports$Crowd" "goers" "[I", Cond.methodLink RX0 71 yX0_countOf, Cond.instanceMethod yX0_countOf, Cond.selects RX0 yX0_countOf yX0_countOf, Cond.code yX0_countOf cX0_countOf 2 (some .int), Cond.fieldLink RX0 37 "CrowdReports$Crowd" "known" "[I", Cond.methodLink RX0 65 yJ6_bitCount_0f7a4, Cond.static yJ6_bitCount_0f7a4, Cond.initialized RJ6]
def wsX1_canBe_r3 : List Cond := [Cond.code yJ6_bitCount_0f7a4 cJ6_bitCount_0f7a4 1 (some .int), Cond.constant RJ6 265 (1431655765), Cond.constant RJ6 266 (858993459), Cond.constant RJ6 267 (252645135), Cond.methodLink RX0 97 yX0_sendBye, Cond.instanceMethod yX0_sendBye, Cond.selects RX0 yX0_sendBye yX0_sendBye, Cond.code yX0_sendBye cX0_sendBye 3 none, Cond.fieldLink RX0 30 "CrowdReports$Crowd" "byes" "I", Cond.methodLink RX0 55 yX0_goAway, Cond.instanceMethod yX0_goAway, Cond.selects RX0 yX0_goAway yX0_goAway, Cond.code yX0_goAway cX0_goAway 2 none, Cond.methodLink RX0 126 yX0_reaches, Cond.instanceMethod yX0_reaches, Cond.selects RX0 yX0_reaches yX0_reaches, Cond.code yX0_reaches cX0_reaches 3 (some .boolean), Cond.methodLink RX0 123 yX0_isOpen, Cond.instanceMethod yX0_isOpen, Cond.selects RX0 yX0_isOpen yX0_isOpen, Cond.code yX0_isOpen cX0_isOpen 3 (some .boolean), Cond.fieldLink RX0 49 "CrowdReports$Crowd" "shut" "[I", Cond.methodLink RX0 129 yX0_hearBye, Cond.instanceMethod yX0_hearBye]
def wsX1_canBe_r4 : List Cond := [Cond.selects RX0 yX0_hearBye yX0_hearBye, Cond.code yX0_hearBye cX0_hearBye 5 none, Cond.methodLink RX0 119 yX0_knows, Cond.instanceMethod yX0_knows, Cond.selects RX0 yX0_knows yX0_knows, Cond.code yX0_knows cX0_knows 3 (some .boolean), Cond.methodLink RX1 133 yX0_run, Cond.instanceMethod yX0_run, Cond.selects RX0 yX0_run yX0_run, Cond.code yX0_run cX0_run 5 (some .int), Cond.methodLink RX0 106 yX0_sent, Cond.instanceMethod yX0_sent, Cond.selects RX0 yX0_sent yX0_sent, Cond.code yX0_sent cX0_sent 1 (some .int), Cond.fieldLink RX0 27 "CrowdReports$Crowd" "reports" "I", Cond.methodLink RX0 110 yX0_comeDue, Cond.instanceMethod yX0_comeDue, Cond.selects RX0 yX0_comeDue yX0_comeDue, Cond.code yX0_comeDue cX0_comeDue 4 none, Cond.methodLink RX0 116 yX0_sendReport, Cond.instanceMethod yX0_sendReport, Cond.selects RX0 yX0_sendReport yX0_sendReport, Cond.code yX0_sendReport cX0_sendReport 3 none, Cond.fieldLink RX0 52 "CrowdReports$Crowd" "lastHeard" "[I"]
def wsX1_canBe_r5 : List Cond := [Cond.methodLink RX0 113 yX0_forgetOld, Cond.instanceMethod yX0_forgetOld, Cond.selects RX0 yX0_forgetOld yX0_forgetOld, Cond.code yX0_forgetOld cX0_forgetOld 5 none, Cond.methodLink RX1 92 yX1_isMember, Cond.methodLink RX1 114 yX0_knows, Cond.methodLink RX1 102 yX0_countTold, Cond.instanceMethod yX0_countTold, Cond.selects RX0 yX0_countTold yX0_countTold, Cond.code yX0_countTold cX0_countTold 2 (some .int), Cond.methodLink RX1 136 yX0_turnWay, Cond.instanceMethod yX0_turnWay, Cond.selects RX0 yX0_turnWay yX0_turnWay, Cond.code yX0_turnWay cX0_turnWay 3 (some .boolean)]
def wsX1_canBe : List Cond := .code yX1_canBe cX1_canBe 5 (some .boolean) :: ((wsX1_canBe_r1 ++ (wsX1_canBe_r2 ++ (wsX1_canBe_r3 ++ (wsX1_canBe_r4 ++ wsX1_canBe_r5)))) ++ wsX10 ++ wsX00)
def wsX1_judge_r1 : List Cond := [Cond.fieldLink RX1 16 "CrowdReports" "trial" "LCrowdReports$Crowd;", Cond.fieldLink RX1 10 "CrowdReports" "now" "LCrowdReports$Crowd;", Cond.methodLink RX1 148 yX1_tenTo, Cond.static yX1_tenTo, Cond.initialized RX1, Cond.code yX1_tenTo cX1_tenTo 4 (some .long), Cond.constantLong RX1 198 (10), Cond.methodLink RX1 60 yX0_takeFrom, Cond.instanceMethod yX0_takeFrom, Cond.selects RX0 yX0_takeFrom yX0_takeFrom, Cond.initialized RX0, Cond.code yX0_takeFrom cX0_takeFrom 2 none, Cond.fieldLink RX0 9 "CrowdReports$Crowd" "size" "I", Cond.fieldLink RX0 15 "CrowdReports$Crowd" "rate" "I", Cond.fieldLink RX0 18 "CrowdReports$Crowd" "min" "I", Cond.fieldLink RX0 21 "CrowdReports$Crowd" "clock" "I", Cond.fieldLink RX0 24 "CrowdReports$Crowd" "lot" "I", Cond.fieldLink RX0 27 "CrowdReports$Crowd" "reports" "I", Cond.fieldLink RX0 30 "CrowdReports$Crowd" "byes" "I", Cond.fieldLink RX0 33 "CrowdReports$Crowd" "kind" "[I", Cond.methodLink RX0 59 arraycopyName, Cond.native arraycopyName, Cond.static arraycopyName, Cond.initialized "java/lang/System"]
def wsX1_judge_r2 : List Cond := [Cond.fieldLink RX0 37 "CrowdReports$Crowd" "known" "[I", Cond.fieldLink RX0 40 "CrowdReports$Crowd" "begun" "[I", Cond.fieldLink RX0 43 "CrowdReports$Crowd" "due" "[I", Cond.fieldLink RX0 46 "CrowdReports$Crowd" "goers" "[I", Cond.fieldLink RX0 49 "CrowdReports$Crowd" "shut" "[I", Cond.fieldLink RX0 52 "CrowdReports$Crowd" "lastHeard" "[I", Cond.methodLink RX1 152 yX1_part, Cond.static yX1_part, Cond.code yX1_part cX1_part 4 (some .int), Cond.methodLink RX1 162 yX1_canBe, Cond.instanceMethod yX1_canBe, Cond.selects RX1 yX1_canBe yX1_canBe, Cond.code yX1_canBe cX1_canBe 5 (some .boolean), Cond.fieldLink RX1 96 "CrowdReports$Crowd" "kind" "[I", Cond.methodLink RX1 127 yX0_enter, Cond.instanceMethod yX0_enter, Cond.selects RX0 yX0_enter yX0_enter, Cond.code yX0_enter cX0_enter 2 (some .boolean), Cond.static yX1_isMember, Cond.code yX1_isMember cX1_isMember 1 (some .boolean), Cond.methodLink RX0 94 yX0_begin, Cond.instanceMethod yX0_begin, Cond.selects RX0 yX0_begin yX0_begin, Cond.code yX0_begin cX0_begin 2 none]
def wsX1_judge_r3 : List Cond := [Cond.methodLink RX0 87 yX0_waitOf, Cond.instanceMethod yX0_waitOf, Cond.selects RX0 yX0_waitOf yX0_waitOf, Cond.code yX0_waitOf cX0_waitOf 3 (some .int), Cond.constant RX0 83 (65536), Cond.methodLink RX0 77 Lib.Math.max.name, Cond.static Lib.Math.max.name, Cond.initialized "java/lang/Math", Cond.code Lib.Math.max.name Lib.Math.max.code 2 (some .int), Cond.methodLink RX0 84 yX0_spanOf, Cond.instanceMethod yX0_spanOf, Cond.selects RX0 yX0_spanOf yX0_spanOf, Cond.code yX0_spanOf cX0_spanOf 3 (some .int), Cond.methodLink RX1 130 yX0_depart, Cond.instanceMethod yX0_depart, Cond.selects RX0 yX0_depart yX0_depart, Cond.code yX0_depart cX0_depart 2 (some .boolean), Cond.methodLink RX0 71 yX0_countOf, Cond.instanceMethod yX0_countOf, Cond.selects RX0 yX0_countOf yX0_countOf, Cond.code yX0_countOf cX0_countOf 2 (some .int), Cond.methodLink RX0 65 yJ6_bitCount_0f7a4, Cond.static yJ6_bitCount_0f7a4, Cond.initialized RJ6]
def wsX1_judge_r4 : List Cond := [Cond.code yJ6_bitCount_0f7a4 cJ6_bitCount_0f7a4 1 (some .int), Cond.constant RJ6 265 (1431655765), Cond.constant RJ6 266 (858993459), Cond.constant RJ6 267 (252645135), Cond.methodLink RX0 97 yX0_sendBye, Cond.instanceMethod yX0_sendBye, Cond.selects RX0 yX0_sendBye yX0_sendBye, Cond.code yX0_sendBye cX0_sendBye 3 none, Cond.methodLink RX0 55 yX0_goAway, Cond.instanceMethod yX0_goAway, Cond.selects RX0 yX0_goAway yX0_goAway, Cond.code yX0_goAway cX0_goAway 2 none, Cond.methodLink RX0 126 yX0_reaches, Cond.instanceMethod yX0_reaches, Cond.selects RX0 yX0_reaches yX0_reaches, Cond.code yX0_reaches cX0_reaches 3 (some .boolean), Cond.methodLink RX0 123 yX0_isOpen, Cond.instanceMethod yX0_isOpen, Cond.selects RX0 yX0_isOpen yX0_isOpen, Cond.code yX0_isOpen cX0_isOpen 3 (some .boolean), Cond.methodLink RX0 129 yX0_hearBye, Cond.instanceMethod yX0_hearBye, Cond.selects RX0 yX0_hearBye yX0_hearBye, Cond.code yX0_hearBye cX0_hearBye 5 none]
def wsX1_judge_r5 : List Cond := [Cond.methodLink RX0 119 yX0_knows, Cond.instanceMethod yX0_knows, Cond.selects RX0 yX0_knows yX0_knows, Cond.code yX0_knows cX0_knows 3 (some .boolean), Cond.methodLink RX1 133 yX0_run, Cond.instanceMethod yX0_run, Cond.selects RX0 yX0_run yX0_run, Cond.code yX0_run cX0_run 5 (some .int), Cond.methodLink RX0 106 yX0_sent, Cond.instanceMethod yX0_sent, Cond.selects RX0 yX0_sent yX0_sent, Cond.code yX0_sent cX0_sent 1 (some .int), Cond.methodLink RX0 110 yX0_comeDue, Cond.instanceMethod yX0_comeDue, Cond.selects RX0 yX0_comeDue yX0_comeDue, Cond.code yX0_comeDue cX0_comeDue 4 none, Cond.methodLink RX0 116 yX0_sendReport, Cond.instanceMethod yX0_sendReport, Cond.selects RX0 yX0_sendReport yX0_sendReport, Cond.code yX0_sendReport cX0_sendReport 3 none, Cond.methodLink RX0 113 yX0_forgetOld, Cond.instanceMethod yX0_forgetOld, Cond.selects RX0 yX0_forgetOld yX0_forgetOld, Cond.code yX0_forgetOld cX0_forgetOld 5 none]
def wsX1_judge_r6 : List Cond := [Cond.methodLink RX1 92 yX1_isMember, Cond.methodLink RX1 114 yX0_knows, Cond.methodLink RX1 102 yX0_countTold, Cond.instanceMethod yX0_countTold, Cond.selects RX0 yX0_countTold yX0_countTold, Cond.code yX0_countTold cX0_countTold 2 (some .int), Cond.methodLink RX1 136 yX0_turnWay, Cond.instanceMethod yX0_turnWay, Cond.selects RX0 yX0_turnWay yX0_turnWay, Cond.code yX0_turnWay cX0_turnWay 3 (some .boolean)]
def wsX1_judge : List Cond := .code yX1_judge cX1_judge 5 (some .int) :: ((wsX1_judge_r1 ++ (wsX1_judge_r2 ++ (wsX1_judge_r3 ++ (wsX1_judge_r4 ++ (wsX1_judge_r5 ++ wsX1_judge_r6))))) ++ wsX10 ++ wsX00)
def wsX1_see : List Cond := .code yX1_see cX1_see 3 (some .int) :: ([.fieldLink RX1 46 "CrowdReports" "seen" "I", .fieldLink RX1 40 "CrowdReports" "seenTicks" "[I", .fieldLink RX1 43 "CrowdReports" "seenLetters" "[I"] ++ wsX10)
def wsX1_unsee : List Cond := .code yX1_unsee cX1_unsee 2 (some .int) :: ([.fieldLink RX1 46 "CrowdReports" "seen" "I"] ++ wsX10)
def wsX1_fitsSeen_r1 : List Cond := [Cond.fieldLink RX1 16 "CrowdReports" "trial" "LCrowdReports$Crowd;", Cond.fieldLink RX1 10 "CrowdReports" "now" "LCrowdReports$Crowd;", Cond.fieldLink RX1 70 "CrowdReports$Crowd" "rate" "I", Cond.fieldLink RX1 46 "CrowdReports" "seen" "I", Cond.fieldLink RX1 40 "CrowdReports" "seenTicks" "[I", Cond.fieldLink RX1 43 "CrowdReports" "seenLetters" "[I", Cond.methodLink RX1 60 yX0_takeFrom, Cond.instanceMethod yX0_takeFrom, Cond.selects RX0 yX0_takeFrom yX0_takeFrom, Cond.initialized RX0, Cond.code yX0_takeFrom cX0_takeFrom 2 none, Cond.fieldLink RX0 9 "CrowdReports$Crowd" "size" "I", Cond.fieldLink RX0 15 "CrowdReports$Crowd" "rate" "I", Cond.fieldLink RX0 18 "CrowdReports$Crowd" "min" "I", Cond.fieldLink RX0 21 "CrowdReports$Crowd" "clock" "I", Cond.fieldLink RX0 24 "CrowdReports$Crowd" "lot" "I", Cond.fieldLink RX0 27 "CrowdReports$Crowd" "reports" "I", Cond.fieldLink RX0 30 "CrowdReports$Crowd" "byes" "I", Cond.fieldLink RX0 33 "CrowdReports$Crowd" "kind" "[I", Cond.methodLink RX0 59 arraycopyName, Cond.native arraycopyName, Cond.static arraycopyName, Cond.initialized "java/lang/System", Cond.fieldLink RX0 37 "CrowdReports$Crowd" "known" "[I"]
def wsX1_fitsSeen_r2 : List Cond := [Cond.fieldLink RX0 40 "CrowdReports$Crowd" "begun" "[I", Cond.fieldLink RX0 43 "CrowdReports$Crowd" "due" "[I", Cond.fieldLink RX0 46 "CrowdReports$Crowd" "goers" "[I", Cond.fieldLink RX0 49 "CrowdReports$Crowd" "shut" "[I", Cond.fieldLink RX0 52 "CrowdReports$Crowd" "lastHeard" "[I", Cond.methodLink RX1 133 yX0_run, Cond.instanceMethod yX0_run, Cond.selects RX0 yX0_run yX0_run, Cond.code yX0_run cX0_run 5 (some .int), Cond.methodLink RX0 106 yX0_sent, Cond.instanceMethod yX0_sent, Cond.selects RX0 yX0_sent yX0_sent, Cond.code yX0_sent cX0_sent 1 (some .int), Cond.methodLink RX0 110 yX0_comeDue, Cond.instanceMethod yX0_comeDue, Cond.selects RX0 yX0_comeDue yX0_comeDue, Cond.code yX0_comeDue cX0_comeDue 4 none, Cond.methodLink RX0 71 yX0_countOf, Cond.instanceMethod yX0_countOf, Cond.selects RX0 yX0_countOf yX0_countOf, Cond.code yX0_countOf cX0_countOf 2 (some .int), Cond.methodLink RX0 65 yJ6_bitCount_0f7a4, Cond.static yJ6_bitCount_0f7a4, Cond.initialized RJ6]
def wsX1_fitsSeen_r3 : List Cond := [Cond.code yJ6_bitCount_0f7a4 cJ6_bitCount_0f7a4 1 (some .int), Cond.constant RJ6 265 (1431655765), Cond.constant RJ6 266 (858993459), Cond.constant RJ6 267 (252645135), Cond.methodLink RX0 87 yX0_waitOf, Cond.instanceMethod yX0_waitOf, Cond.selects RX0 yX0_waitOf yX0_waitOf, Cond.code yX0_waitOf cX0_waitOf 3 (some .int), Cond.constant RX0 83 (65536), Cond.methodLink RX0 77 Lib.Math.max.name, Cond.static Lib.Math.max.name, Cond.initialized "java/lang/Math", Cond.code Lib.Math.max.name Lib.Math.max.code 2 (some .int), Cond.methodLink RX0 84 yX0_spanOf, Cond.instanceMethod yX0_spanOf, Cond.selects RX0 yX0_spanOf yX0_spanOf, Cond.code yX0_spanOf cX0_spanOf 3 (some .int), Cond.methodLink RX0 97 yX0_sendBye, Cond.instanceMethod yX0_sendBye, Cond.selects RX0 yX0_sendBye yX0_sendBye, Cond.code yX0_sendBye cX0_sendBye 3 none, Cond.methodLink RX0 55 yX0_goAway, Cond.instanceMethod yX0_goAway, Cond.selects RX0 yX0_goAway yX0_goAway]
def wsX1_fitsSeen_r4 : List Cond := [Cond.code yX0_goAway cX0_goAway 2 none, Cond.methodLink RX0 126 yX0_reaches, Cond.instanceMethod yX0_reaches, Cond.selects RX0 yX0_reaches yX0_reaches, Cond.code yX0_reaches cX0_reaches 3 (some .boolean), Cond.methodLink RX0 123 yX0_isOpen, Cond.instanceMethod yX0_isOpen, Cond.selects RX0 yX0_isOpen yX0_isOpen, Cond.code yX0_isOpen cX0_isOpen 3 (some .boolean), Cond.methodLink RX0 129 yX0_hearBye, Cond.instanceMethod yX0_hearBye, Cond.selects RX0 yX0_hearBye yX0_hearBye, Cond.code yX0_hearBye cX0_hearBye 5 none, Cond.methodLink RX0 119 yX0_knows, Cond.instanceMethod yX0_knows, Cond.selects RX0 yX0_knows yX0_knows, Cond.code yX0_knows cX0_knows 3 (some .boolean), Cond.methodLink RX0 116 yX0_sendReport, Cond.instanceMethod yX0_sendReport, Cond.selects RX0 yX0_sendReport yX0_sendReport, Cond.code yX0_sendReport cX0_sendReport 3 none, Cond.methodLink RX0 113 yX0_forgetOld, Cond.instanceMethod yX0_forgetOld, Cond.selects RX0 yX0_forgetOld yX0_forgetOld]
def wsX1_fitsSeen_r5 : List Cond := [Cond.code yX0_forgetOld cX0_forgetOld 5 none]
def wsX1_fitsSeen : List Cond := .code yX1_fitsSeen cX1_fitsSeen 5 (some .boolean) :: ((wsX1_fitsSeen_r1 ++ (wsX1_fitsSeen_r2 ++ (wsX1_fitsSeen_r3 ++ (wsX1_fitsSeen_r4 ++ wsX1_fitsSeen_r5)))) ++ wsX10 ++ wsX00)
def wsX1_which_r1 : List Cond := [Cond.methodLink RX1 165 yX1_fitsSeen, Cond.instanceMethod yX1_fitsSeen, Cond.selects RX1 yX1_fitsSeen yX1_fitsSeen, Cond.initialized RX1, Cond.code yX1_fitsSeen cX1_fitsSeen 5 (some .boolean), Cond.fieldLink RX1 16 "CrowdReports" "trial" "LCrowdReports$Crowd;", Cond.fieldLink RX1 10 "CrowdReports" "now" "LCrowdReports$Crowd;", Cond.fieldLink RX1 70 "CrowdReports$Crowd" "rate" "I", Cond.fieldLink RX1 46 "CrowdReports" "seen" "I", Cond.fieldLink RX1 40 "CrowdReports" "seenTicks" "[I", Cond.fieldLink RX1 43 "CrowdReports" "seenLetters" "[I", Cond.methodLink RX1 60 yX0_takeFrom, Cond.instanceMethod yX0_takeFrom, Cond.selects RX0 yX0_takeFrom yX0_takeFrom, Cond.initialized RX0, Cond.code yX0_takeFrom cX0_takeFrom 2 none, Cond.fieldLink RX0 9 "CrowdReports$Crowd" "size" "I", Cond.fieldLink RX0 15 "CrowdReports$Crowd" "rate" "I", Cond.fieldLink RX0 18 "CrowdReports$Crowd" "min" "I", Cond.fieldLink RX0 21 "CrowdReports$Crowd" "clock" "I", Cond.fieldLink RX0 24 "CrowdReports$Crowd" "lot" "I", Cond.fieldLink RX0 27 "CrowdReports$Crowd" "reports" "I", Cond.fieldLink RX0 30 "CrowdReports$Crowd" "byes" "I", Cond.fieldLink RX0 33 "CrowdReports$Crowd" "kind" "[I"]
def wsX1_which_r2 : List Cond := [Cond.methodLink RX0 59 arraycopyName, Cond.native arraycopyName, Cond.static arraycopyName, Cond.initialized "java/lang/System", Cond.fieldLink RX0 37 "CrowdReports$Crowd" "known" "[I", Cond.fieldLink RX0 40 "CrowdReports$Crowd" "begun" "[I", Cond.fieldLink RX0 43 "CrowdReports$Crowd" "due" "[I", Cond.fieldLink RX0 46 "CrowdReports$Crowd" "goers" "[I", Cond.fieldLink RX0 49 "CrowdReports$Crowd" "shut" "[I", Cond.fieldLink RX0 52 "CrowdReports$Crowd" "lastHeard" "[I", Cond.methodLink RX1 133 yX0_run, Cond.instanceMethod yX0_run, Cond.selects RX0 yX0_run yX0_run, Cond.code yX0_run cX0_run 5 (some .int), Cond.methodLink RX0 106 yX0_sent, Cond.instanceMethod yX0_sent, Cond.selects RX0 yX0_sent yX0_sent, Cond.code yX0_sent cX0_sent 1 (some .int), Cond.methodLink RX0 110 yX0_comeDue, Cond.instanceMethod yX0_comeDue, Cond.selects RX0 yX0_comeDue yX0_comeDue, Cond.code yX0_comeDue cX0_comeDue 4 none, Cond.methodLink RX0 71 yX0_countOf, Cond.instanceMethod yX0_countOf]
def wsX1_which_r3 : List Cond := [Cond.selects RX0 yX0_countOf yX0_countOf, Cond.code yX0_countOf cX0_countOf 2 (some .int), Cond.methodLink RX0 65 yJ6_bitCount_0f7a4, Cond.static yJ6_bitCount_0f7a4, Cond.initialized RJ6, Cond.code yJ6_bitCount_0f7a4 cJ6_bitCount_0f7a4 1 (some .int), Cond.constant RJ6 265 (1431655765), Cond.constant RJ6 266 (858993459), Cond.constant RJ6 267 (252645135), Cond.methodLink RX0 87 yX0_waitOf, Cond.instanceMethod yX0_waitOf, Cond.selects RX0 yX0_waitOf yX0_waitOf, Cond.code yX0_waitOf cX0_waitOf 3 (some .int), Cond.constant RX0 83 (65536), Cond.methodLink RX0 77 Lib.Math.max.name, Cond.static Lib.Math.max.name, Cond.initialized "java/lang/Math", Cond.code Lib.Math.max.name Lib.Math.max.code 2 (some .int), Cond.methodLink RX0 84 yX0_spanOf, Cond.instanceMethod yX0_spanOf, Cond.selects RX0 yX0_spanOf yX0_spanOf, Cond.code yX0_spanOf cX0_spanOf 3 (some .int), Cond.methodLink RX0 97 yX0_sendBye, Cond.instanceMethod yX0_sendBye]
def wsX1_which_r4 : List Cond := [Cond.selects RX0 yX0_sendBye yX0_sendBye, Cond.code yX0_sendBye cX0_sendBye 3 none, Cond.methodLink RX0 55 yX0_goAway, Cond.instanceMethod yX0_goAway, Cond.selects RX0 yX0_goAway yX0_goAway, Cond.code yX0_goAway cX0_goAway 2 none, Cond.methodLink RX0 126 yX0_reaches, Cond.instanceMethod yX0_reaches, Cond.selects RX0 yX0_reaches yX0_reaches, Cond.code yX0_reaches cX0_reaches 3 (some .boolean), Cond.methodLink RX0 123 yX0_isOpen, Cond.instanceMethod yX0_isOpen, Cond.selects RX0 yX0_isOpen yX0_isOpen, Cond.code yX0_isOpen cX0_isOpen 3 (some .boolean), Cond.methodLink RX0 129 yX0_hearBye, Cond.instanceMethod yX0_hearBye, Cond.selects RX0 yX0_hearBye yX0_hearBye, Cond.code yX0_hearBye cX0_hearBye 5 none, Cond.methodLink RX0 119 yX0_knows, Cond.instanceMethod yX0_knows, Cond.selects RX0 yX0_knows yX0_knows, Cond.code yX0_knows cX0_knows 3 (some .boolean), Cond.methodLink RX0 116 yX0_sendReport, Cond.instanceMethod yX0_sendReport]
def wsX1_which_r5 : List Cond := [Cond.selects RX0 yX0_sendReport yX0_sendReport, Cond.code yX0_sendReport cX0_sendReport 3 none, Cond.methodLink RX0 113 yX0_forgetOld, Cond.instanceMethod yX0_forgetOld, Cond.selects RX0 yX0_forgetOld yX0_forgetOld, Cond.code yX0_forgetOld cX0_forgetOld 5 none]
def wsX1_which : List Cond := .code yX1_which cX1_which 3 (some .int) :: ((wsX1_which_r1 ++ (wsX1_which_r2 ++ (wsX1_which_r3 ++ (wsX1_which_r4 ++ wsX1_which_r5)))) ++ wsX10 ++ wsX00)
def wsX1_runSubsets_r1 : List Cond := [Cond.fieldLink RX1 10 "CrowdReports" "now" "LCrowdReports$Crowd;", Cond.fieldLink RX1 53 "CrowdReports" "sentBy" "[I", Cond.fieldLink RX1 16 "CrowdReports" "trial" "LCrowdReports$Crowd;", Cond.methodLink RX1 219 yX0_feltBits, Cond.instanceMethod yX0_feltBits, Cond.selects RX0 yX0_feltBits yX0_feltBits, Cond.initialized RX0, Cond.code yX0_feltBits cX0_feltBits 3 (some .int), Cond.fieldLink RX0 37 "CrowdReports$Crowd" "known" "[I", Cond.fieldLink RX0 33 "CrowdReports$Crowd" "kind" "[I", Cond.methodLink RX1 60 yX0_takeFrom, Cond.instanceMethod yX0_takeFrom, Cond.selects RX0 yX0_takeFrom yX0_takeFrom, Cond.code yX0_takeFrom cX0_takeFrom 2 none, Cond.fieldLink RX0 9 "CrowdReports$Crowd" "size" "I", Cond.fieldLink RX0 15 "CrowdReports$Crowd" "rate" "I", Cond.fieldLink RX0 18 "CrowdReports$Crowd" "min" "I", Cond.fieldLink RX0 21 "CrowdReports$Crowd" "clock" "I", Cond.fieldLink RX0 24 "CrowdReports$Crowd" "lot" "I", Cond.fieldLink RX0 27 "CrowdReports$Crowd" "reports" "I", Cond.fieldLink RX0 30 "CrowdReports$Crowd" "byes" "I", Cond.methodLink RX0 59 arraycopyName, Cond.native arraycopyName, Cond.static arraycopyName]
def wsX1_runSubsets_r2 : List Cond := [Cond.initialized "java/lang/System", Cond.fieldLink RX0 40 "CrowdReports$Crowd" "begun" "[I", Cond.fieldLink RX0 43 "CrowdReports$Crowd" "due" "[I", Cond.fieldLink RX0 46 "CrowdReports$Crowd" "goers" "[I", Cond.fieldLink RX0 49 "CrowdReports$Crowd" "shut" "[I", Cond.fieldLink RX0 52 "CrowdReports$Crowd" "lastHeard" "[I", Cond.methodLink RX1 222 yX0_leaveOnly, Cond.instanceMethod yX0_leaveOnly, Cond.selects RX0 yX0_leaveOnly yX0_leaveOnly, Cond.code yX0_leaveOnly cX0_leaveOnly 3 none, Cond.methodLink RX0 55 yX0_goAway, Cond.instanceMethod yX0_goAway, Cond.selects RX0 yX0_goAway yX0_goAway, Cond.code yX0_goAway cX0_goAway 2 none, Cond.methodLink RX1 133 yX0_run, Cond.instanceMethod yX0_run, Cond.selects RX0 yX0_run yX0_run, Cond.code yX0_run cX0_run 5 (some .int), Cond.methodLink RX0 106 yX0_sent, Cond.instanceMethod yX0_sent, Cond.selects RX0 yX0_sent yX0_sent, Cond.code yX0_sent cX0_sent 1 (some .int), Cond.methodLink RX0 110 yX0_comeDue, Cond.instanceMethod yX0_comeDue]
def wsX1_runSubsets_r3 : List Cond := [Cond.selects RX0 yX0_comeDue yX0_comeDue, Cond.code yX0_comeDue cX0_comeDue 4 none, Cond.methodLink RX0 71 yX0_countOf, Cond.instanceMethod yX0_countOf, Cond.selects RX0 yX0_countOf yX0_countOf, Cond.code yX0_countOf cX0_countOf 2 (some .int), Cond.methodLink RX0 65 yJ6_bitCount_0f7a4, Cond.static yJ6_bitCount_0f7a4, Cond.initialized RJ6, Cond.code yJ6_bitCount_0f7a4 cJ6_bitCount_0f7a4 1 (some .int), Cond.constant RJ6 265 (1431655765), Cond.constant RJ6 266 (858993459), Cond.constant RJ6 267 (252645135), Cond.methodLink RX0 87 yX0_waitOf, Cond.instanceMethod yX0_waitOf, Cond.selects RX0 yX0_waitOf yX0_waitOf, Cond.code yX0_waitOf cX0_waitOf 3 (some .int), Cond.constant RX0 83 (65536), Cond.methodLink RX0 77 Lib.Math.max.name, Cond.static Lib.Math.max.name, Cond.initialized "java/lang/Math", Cond.code Lib.Math.max.name Lib.Math.max.code 2 (some .int), Cond.methodLink RX0 84 yX0_spanOf, Cond.instanceMethod yX0_spanOf]
def wsX1_runSubsets_r4 : List Cond := [Cond.selects RX0 yX0_spanOf yX0_spanOf, Cond.code yX0_spanOf cX0_spanOf 3 (some .int), Cond.methodLink RX0 97 yX0_sendBye, Cond.instanceMethod yX0_sendBye, Cond.selects RX0 yX0_sendBye yX0_sendBye, Cond.code yX0_sendBye cX0_sendBye 3 none, Cond.methodLink RX0 126 yX0_reaches, Cond.instanceMethod yX0_reaches, Cond.selects RX0 yX0_reaches yX0_reaches, Cond.code yX0_reaches cX0_reaches 3 (some .boolean), Cond.methodLink RX0 123 yX0_isOpen, Cond.instanceMethod yX0_isOpen, Cond.selects RX0 yX0_isOpen yX0_isOpen, Cond.code yX0_isOpen cX0_isOpen 3 (some .boolean), Cond.methodLink RX0 129 yX0_hearBye, Cond.instanceMethod yX0_hearBye, Cond.selects RX0 yX0_hearBye yX0_hearBye, Cond.code yX0_hearBye cX0_hearBye 5 none, Cond.methodLink RX0 119 yX0_knows, Cond.instanceMethod yX0_knows, Cond.selects RX0 yX0_knows yX0_knows, Cond.code yX0_knows cX0_knows 3 (some .boolean), Cond.methodLink RX0 116 yX0_sendReport, Cond.instanceMethod yX0_sendReport]
def wsX1_runSubsets_r5 : List Cond := [Cond.selects RX0 yX0_sendReport yX0_sendReport, Cond.code yX0_sendReport cX0_sendReport 3 none, Cond.methodLink RX0 113 yX0_forgetOld, Cond.instanceMethod yX0_forgetOld, Cond.selects RX0 yX0_forgetOld yX0_forgetOld, Cond.code yX0_forgetOld cX0_forgetOld 5 none]
def wsX1_runSubsets : List Cond := .code yX1_runSubsets cX1_runSubsets 5 none :: ((wsX1_runSubsets_r1 ++ (wsX1_runSubsets_r2 ++ (wsX1_runSubsets_r3 ++ (wsX1_runSubsets_r4 ++ wsX1_runSubsets_r5)))) ++ wsX10 ++ wsX00)
def wsX1_greatestDivisor : List Cond := .code yX1_greatestDivisor cX1_greatestDivisor 6 (some .int) :: ([.methodLink RX1 143 Lib.Math.max.name, .static Lib.Math.max.name, .initialized "java/lang/Math", .code Lib.Math.max.name Lib.Math.max.code 2 (some .int)])
def wsX1_fraction : List Cond := .code yX1_fraction cX1_fraction 4 (some .int) :: ([.methodLink RX1 156 Lib.Math.abs.name, .static Lib.Math.abs.name, .initialized "java/lang/Math", .code Lib.Math.abs.name Lib.Math.abs.code 1 (some .int), .methodLink RX1 200 yX1_greatestDivisor, .static yX1_greatestDivisor, .initialized RX1, .code yX1_greatestDivisor cX1_greatestDivisor 6 (some .int), .methodLink RX1 143 Lib.Math.max.name, .static Lib.Math.max.name, .code Lib.Math.max.name Lib.Math.max.code 2 (some .int)])
def wsX1_share_r1 : List Cond := [Cond.fieldLink RX1 53 "CrowdReports" "sentBy" "[I", Cond.fieldLink RX1 172 "CrowdReports" "ORDERS" "[I", Cond.methodLink RX1 92 yX1_isMember, Cond.static yX1_isMember, Cond.initialized RX1, Cond.code yX1_isMember cX1_isMember 1 (some .boolean), Cond.methodLink RX1 168 yX1_runSubsets, Cond.instanceMethod yX1_runSubsets, Cond.selects RX1 yX1_runSubsets yX1_runSubsets, Cond.code yX1_runSubsets cX1_runSubsets 5 none, Cond.fieldLink RX1 10 "CrowdReports" "now" "LCrowdReports$Crowd;", Cond.fieldLink RX1 16 "CrowdReports" "trial" "LCrowdReports$Crowd;", Cond.methodLink RX1 219 yX0_feltBits, Cond.instanceMethod yX0_feltBits, Cond.selects RX0 yX0_feltBits yX0_feltBits, Cond.initialized RX0, Cond.code yX0_feltBits cX0_feltBits 3 (some .int), Cond.fieldLink RX0 37 "CrowdReports$Crowd" "known" "[I", Cond.fieldLink RX0 33 "CrowdReports$Crowd" "kind" "[I", Cond.methodLink RX1 60 yX0_takeFrom, Cond.instanceMethod yX0_takeFrom, Cond.selects RX0 yX0_takeFrom yX0_takeFrom, Cond.code yX0_takeFrom cX0_takeFrom 2 none, Cond.fieldLink RX0 9 "CrowdReports$Crowd" "size" "I"]
def wsX1_share_r2 : List Cond := [Cond.fieldLink RX0 15 "CrowdReports$Crowd" "rate" "I", Cond.fieldLink RX0 18 "CrowdReports$Crowd" "min" "I", Cond.fieldLink RX0 21 "CrowdReports$Crowd" "clock" "I", Cond.fieldLink RX0 24 "CrowdReports$Crowd" "lot" "I", Cond.fieldLink RX0 27 "CrowdReports$Crowd" "reports" "I", Cond.fieldLink RX0 30 "CrowdReports$Crowd" "byes" "I", Cond.methodLink RX0 59 arraycopyName, Cond.native arraycopyName, Cond.static arraycopyName, Cond.initialized "java/lang/System", Cond.fieldLink RX0 40 "CrowdReports$Crowd" "begun" "[I", Cond.fieldLink RX0 43 "CrowdReports$Crowd" "due" "[I", Cond.fieldLink RX0 46 "CrowdReports$Crowd" "goers" "[I", Cond.fieldLink RX0 49 "CrowdReports$Crowd" "shut" "[I", Cond.fieldLink RX0 52 "CrowdReports$Crowd" "lastHeard" "[I", Cond.methodLink RX1 222 yX0_leaveOnly, Cond.instanceMethod yX0_leaveOnly, Cond.selects RX0 yX0_leaveOnly yX0_leaveOnly, Cond.code yX0_leaveOnly cX0_leaveOnly 3 none, Cond.methodLink RX0 55 yX0_goAway, Cond.instanceMethod yX0_goAway, Cond.selects RX0 yX0_goAway yX0_goAway, Cond.code yX0_goAway cX0_goAway 2 none, Cond.methodLink RX1 133 yX0_run]
def wsX1_share_r3 : List Cond := [Cond.instanceMethod yX0_run, Cond.selects RX0 yX0_run yX0_run, Cond.code yX0_run cX0_run 5 (some .int), Cond.methodLink RX0 106 yX0_sent, Cond.instanceMethod yX0_sent, Cond.selects RX0 yX0_sent yX0_sent, Cond.code yX0_sent cX0_sent 1 (some .int), Cond.methodLink RX0 110 yX0_comeDue, Cond.instanceMethod yX0_comeDue, Cond.selects RX0 yX0_comeDue yX0_comeDue, Cond.code yX0_comeDue cX0_comeDue 4 none, Cond.methodLink RX0 71 yX0_countOf, Cond.instanceMethod yX0_countOf, Cond.selects RX0 yX0_countOf yX0_countOf, Cond.code yX0_countOf cX0_countOf 2 (some .int), Cond.methodLink RX0 65 yJ6_bitCount_0f7a4, Cond.static yJ6_bitCount_0f7a4, Cond.initialized RJ6, Cond.code yJ6_bitCount_0f7a4 cJ6_bitCount_0f7a4 1 (some .int), Cond.constant RJ6 265 (1431655765), Cond.constant RJ6 266 (858993459), Cond.constant RJ6 267 (252645135), Cond.methodLink RX0 87 yX0_waitOf, Cond.instanceMethod yX0_waitOf]
def wsX1_share_r4 : List Cond := [Cond.selects RX0 yX0_waitOf yX0_waitOf, Cond.code yX0_waitOf cX0_waitOf 3 (some .int), Cond.constant RX0 83 (65536), Cond.methodLink RX0 77 Lib.Math.max.name, Cond.static Lib.Math.max.name, Cond.initialized "java/lang/Math", Cond.code Lib.Math.max.name Lib.Math.max.code 2 (some .int), Cond.methodLink RX0 84 yX0_spanOf, Cond.instanceMethod yX0_spanOf, Cond.selects RX0 yX0_spanOf yX0_spanOf, Cond.code yX0_spanOf cX0_spanOf 3 (some .int), Cond.methodLink RX0 97 yX0_sendBye, Cond.instanceMethod yX0_sendBye, Cond.selects RX0 yX0_sendBye yX0_sendBye, Cond.code yX0_sendBye cX0_sendBye 3 none, Cond.methodLink RX0 126 yX0_reaches, Cond.instanceMethod yX0_reaches, Cond.selects RX0 yX0_reaches yX0_reaches, Cond.code yX0_reaches cX0_reaches 3 (some .boolean), Cond.methodLink RX0 123 yX0_isOpen, Cond.instanceMethod yX0_isOpen, Cond.selects RX0 yX0_isOpen yX0_isOpen, Cond.code yX0_isOpen cX0_isOpen 3 (some .boolean), Cond.methodLink RX0 129 yX0_hearBye]
def wsX1_share_r5 : List Cond := [Cond.instanceMethod yX0_hearBye, Cond.selects RX0 yX0_hearBye yX0_hearBye, Cond.code yX0_hearBye cX0_hearBye 5 none, Cond.methodLink RX0 119 yX0_knows, Cond.instanceMethod yX0_knows, Cond.selects RX0 yX0_knows yX0_knows, Cond.code yX0_knows cX0_knows 3 (some .boolean), Cond.methodLink RX0 116 yX0_sendReport, Cond.instanceMethod yX0_sendReport, Cond.selects RX0 yX0_sendReport yX0_sendReport, Cond.code yX0_sendReport cX0_sendReport 3 none, Cond.methodLink RX0 113 yX0_forgetOld, Cond.instanceMethod yX0_forgetOld, Cond.selects RX0 yX0_forgetOld yX0_forgetOld, Cond.code yX0_forgetOld cX0_forgetOld 5 none, Cond.methodLink RX1 175 yJ6_bitCount_0f7a4, Cond.methodLink RX1 180 yX1_fraction, Cond.static yX1_fraction, Cond.code yX1_fraction cX1_fraction 4 (some .int), Cond.methodLink RX1 156 Lib.Math.abs.name, Cond.static Lib.Math.abs.name, Cond.code Lib.Math.abs.name Lib.Math.abs.code 1 (some .int), Cond.methodLink RX1 200 yX1_greatestDivisor, Cond.static yX1_greatestDivisor]
def wsX1_share_r6 : List Cond := [Cond.code yX1_greatestDivisor cX1_greatestDivisor 6 (some .int), Cond.methodLink RX1 143 Lib.Math.max.name]
def wsX1_share : List Cond := .code yX1_share cX1_share 6 (some .int) :: ((wsX1_share_r1 ++ (wsX1_share_r2 ++ (wsX1_share_r3 ++ (wsX1_share_r4 ++ (wsX1_share_r5 ++ wsX1_share_r6))))) ++ wsX10 ++ wsX00)
def wsX1_likelihood : List Cond := .code yX1_likelihood cX1_likelihood 4 (some .int) :: ([])
def wsX1_chance_r1 : List Cond := [Cond.fieldLink RX1 53 "CrowdReports" "sentBy" "[I", Cond.constant RX1 187 (1000000), Cond.methodLink RX1 168 yX1_runSubsets, Cond.instanceMethod yX1_runSubsets, Cond.selects RX1 yX1_runSubsets yX1_runSubsets, Cond.initialized RX1, Cond.code yX1_runSubsets cX1_runSubsets 5 none, Cond.fieldLink RX1 10 "CrowdReports" "now" "LCrowdReports$Crowd;", Cond.fieldLink RX1 16 "CrowdReports" "trial" "LCrowdReports$Crowd;", Cond.methodLink RX1 219 yX0_feltBits, Cond.instanceMethod yX0_feltBits, Cond.selects RX0 yX0_feltBits yX0_feltBits, Cond.initialized RX0, Cond.code yX0_feltBits cX0_feltBits 3 (some .int), Cond.fieldLink RX0 37 "CrowdReports$Crowd" "known" "[I", Cond.fieldLink RX0 33 "CrowdReports$Crowd" "kind" "[I", Cond.methodLink RX1 60 yX0_takeFrom, Cond.instanceMethod yX0_takeFrom, Cond.selects RX0 yX0_takeFrom yX0_takeFrom, Cond.code yX0_takeFrom cX0_takeFrom 2 none, Cond.fieldLink RX0 9 "CrowdReports$Crowd" "size" "I", Cond.fieldLink RX0 15 "CrowdReports$Crowd" "rate" "I", Cond.fieldLink RX0 18 "CrowdReports$Crowd" "min" "I", Cond.fieldLink RX0 21 "CrowdReports$Crowd" "clock" "I"]
def wsX1_chance_r2 : List Cond := [Cond.fieldLink RX0 24 "CrowdReports$Crowd" "lot" "I", Cond.fieldLink RX0 27 "CrowdReports$Crowd" "reports" "I", Cond.fieldLink RX0 30 "CrowdReports$Crowd" "byes" "I", Cond.methodLink RX0 59 arraycopyName, Cond.native arraycopyName, Cond.static arraycopyName, Cond.initialized "java/lang/System", Cond.fieldLink RX0 40 "CrowdReports$Crowd" "begun" "[I", Cond.fieldLink RX0 43 "CrowdReports$Crowd" "due" "[I", Cond.fieldLink RX0 46 "CrowdReports$Crowd" "goers" "[I", Cond.fieldLink RX0 49 "CrowdReports$Crowd" "shut" "[I", Cond.fieldLink RX0 52 "CrowdReports$Crowd" "lastHeard" "[I", Cond.methodLink RX1 222 yX0_leaveOnly, Cond.instanceMethod yX0_leaveOnly, Cond.selects RX0 yX0_leaveOnly yX0_leaveOnly, Cond.code yX0_leaveOnly cX0_leaveOnly 3 none, Cond.methodLink RX0 55 yX0_goAway, Cond.instanceMethod yX0_goAway, Cond.selects RX0 yX0_goAway yX0_goAway, Cond.code yX0_goAway cX0_goAway 2 none, Cond.methodLink RX1 133 yX0_run, Cond.instanceMethod yX0_run, Cond.selects RX0 yX0_run yX0_run, Cond.code yX0_run cX0_run 5 (some .int)]
def wsX1_chance_r3 : List Cond := [Cond.methodLink RX0 106 yX0_sent, Cond.instanceMethod yX0_sent, Cond.selects RX0 yX0_sent yX0_sent, Cond.code yX0_sent cX0_sent 1 (some .int), Cond.methodLink RX0 110 yX0_comeDue, Cond.instanceMethod yX0_comeDue, Cond.selects RX0 yX0_comeDue yX0_comeDue, Cond.code yX0_comeDue cX0_comeDue 4 none, Cond.methodLink RX0 71 yX0_countOf, Cond.instanceMethod yX0_countOf, Cond.selects RX0 yX0_countOf yX0_countOf, Cond.code yX0_countOf cX0_countOf 2 (some .int), Cond.methodLink RX0 65 yJ6_bitCount_0f7a4, Cond.static yJ6_bitCount_0f7a4, Cond.initialized RJ6, Cond.code yJ6_bitCount_0f7a4 cJ6_bitCount_0f7a4 1 (some .int), Cond.constant RJ6 265 (1431655765), Cond.constant RJ6 266 (858993459), Cond.constant RJ6 267 (252645135), Cond.methodLink RX0 87 yX0_waitOf, Cond.instanceMethod yX0_waitOf, Cond.selects RX0 yX0_waitOf yX0_waitOf, Cond.code yX0_waitOf cX0_waitOf 3 (some .int), Cond.constant RX0 83 (65536)]
def wsX1_chance_r4 : List Cond := [Cond.methodLink RX0 77 Lib.Math.max.name, Cond.static Lib.Math.max.name, Cond.initialized "java/lang/Math", Cond.code Lib.Math.max.name Lib.Math.max.code 2 (some .int), Cond.methodLink RX0 84 yX0_spanOf, Cond.instanceMethod yX0_spanOf, Cond.selects RX0 yX0_spanOf yX0_spanOf, Cond.code yX0_spanOf cX0_spanOf 3 (some .int), Cond.methodLink RX0 97 yX0_sendBye, Cond.instanceMethod yX0_sendBye, Cond.selects RX0 yX0_sendBye yX0_sendBye, Cond.code yX0_sendBye cX0_sendBye 3 none, Cond.methodLink RX0 126 yX0_reaches, Cond.instanceMethod yX0_reaches, Cond.selects RX0 yX0_reaches yX0_reaches, Cond.code yX0_reaches cX0_reaches 3 (some .boolean), Cond.methodLink RX0 123 yX0_isOpen, Cond.instanceMethod yX0_isOpen, Cond.selects RX0 yX0_isOpen yX0_isOpen, Cond.code yX0_isOpen cX0_isOpen 3 (some .boolean), Cond.methodLink RX0 129 yX0_hearBye, Cond.instanceMethod yX0_hearBye, Cond.selects RX0 yX0_hearBye yX0_hearBye, Cond.code yX0_hearBye cX0_hearBye 5 none]
def wsX1_chance_r5 : List Cond := [Cond.methodLink RX0 119 yX0_knows, Cond.instanceMethod yX0_knows, Cond.selects RX0 yX0_knows yX0_knows, Cond.code yX0_knows cX0_knows 3 (some .boolean), Cond.methodLink RX0 116 yX0_sendReport, Cond.instanceMethod yX0_sendReport, Cond.selects RX0 yX0_sendReport yX0_sendReport, Cond.code yX0_sendReport cX0_sendReport 3 none, Cond.methodLink RX0 113 yX0_forgetOld, Cond.instanceMethod yX0_forgetOld, Cond.selects RX0 yX0_forgetOld yX0_forgetOld, Cond.code yX0_forgetOld cX0_forgetOld 5 none, Cond.methodLink RX1 184 yX1_likelihood, Cond.static yX1_likelihood, Cond.code yX1_likelihood cX1_likelihood 4 (some .int), Cond.methodLink RX1 180 yX1_fraction, Cond.static yX1_fraction, Cond.code yX1_fraction cX1_fraction 4 (some .int), Cond.methodLink RX1 156 Lib.Math.abs.name, Cond.static Lib.Math.abs.name, Cond.code Lib.Math.abs.name Lib.Math.abs.code 1 (some .int), Cond.methodLink RX1 200 yX1_greatestDivisor, Cond.static yX1_greatestDivisor, Cond.code yX1_greatestDivisor cX1_greatestDivisor 6 (some .int)]
def wsX1_chance_r6 : List Cond := [Cond.methodLink RX1 143 Lib.Math.max.name]
def wsX1_chance : List Cond := .code yX1_chance cX1_chance 6 (some .int) :: ((wsX1_chance_r1 ++ (wsX1_chance_r2 ++ (wsX1_chance_r3 ++ (wsX1_chance_r4 ++ (wsX1_chance_r5 ++ wsX1_chance_r6))))) ++ wsX10 ++ wsX00)
def wsX1_seed : List Cond := .code yX1_seed cX1_seed 5 (some .long) :: ([.fieldLink RX1 49 "CrowdReports" "lastSeed" "J"] ++ wsX10)
def wsX1_drawn_r1 : List Cond := [Cond.fieldLink RX1 16 "CrowdReports" "trial" "LCrowdReports$Crowd;", Cond.fieldLink RX1 10 "CrowdReports" "now" "LCrowdReports$Crowd;", Cond.fieldLink RX1 49 "CrowdReports" "lastSeed" "J", Cond.constantLong RX1 191 (6364136223846793005), Cond.constantLong RX1 193 (1442695040888963407), Cond.methodLink RX1 60 yX0_takeFrom, Cond.instanceMethod yX0_takeFrom, Cond.selects RX0 yX0_takeFrom yX0_takeFrom, Cond.initialized RX0, Cond.code yX0_takeFrom cX0_takeFrom 2 none, Cond.fieldLink RX0 9 "CrowdReports$Crowd" "size" "I", Cond.fieldLink RX0 15 "CrowdReports$Crowd" "rate" "I", Cond.fieldLink RX0 18 "CrowdReports$Crowd" "min" "I", Cond.fieldLink RX0 21 "CrowdReports$Crowd" "clock" "I", Cond.fieldLink RX0 24 "CrowdReports$Crowd" "lot" "I", Cond.fieldLink RX0 27 "CrowdReports$Crowd" "reports" "I", Cond.fieldLink RX0 30 "CrowdReports$Crowd" "byes" "I", Cond.fieldLink RX0 33 "CrowdReports$Crowd" "kind" "[I", Cond.methodLink RX0 59 arraycopyName, Cond.native arraycopyName, Cond.static arraycopyName, Cond.initialized "java/lang/System", Cond.fieldLink RX0 37 "CrowdReports$Crowd" "known" "[I", Cond.fieldLink RX0 40 "CrowdReports$Crowd" "begun" "[I"]
def wsX1_drawn_r2 : List Cond := [Cond.fieldLink RX0 43 "CrowdReports$Crowd" "due" "[I", Cond.fieldLink RX0 46 "CrowdReports$Crowd" "goers" "[I", Cond.fieldLink RX0 49 "CrowdReports$Crowd" "shut" "[I", Cond.fieldLink RX0 52 "CrowdReports$Crowd" "lastHeard" "[I", Cond.methodLink RX1 188 yX0_sent, Cond.instanceMethod yX0_sent, Cond.selects RX0 yX0_sent yX0_sent, Cond.code yX0_sent cX0_sent 1 (some .int), Cond.methodLink RX1 195 yX0_enterOrDepart, Cond.instanceMethod yX0_enterOrDepart, Cond.selects RX0 yX0_enterOrDepart yX0_enterOrDepart, Cond.code yX0_enterOrDepart cX0_enterOrDepart 2 none, Cond.methodLink RX0 100 yX0_enter, Cond.instanceMethod yX0_enter, Cond.selects RX0 yX0_enter yX0_enter, Cond.code yX0_enter cX0_enter 2 (some .boolean), Cond.static yX1_isMember, Cond.initialized RX1, Cond.code yX1_isMember cX1_isMember 1 (some .boolean), Cond.methodLink RX0 94 yX0_begin, Cond.instanceMethod yX0_begin, Cond.selects RX0 yX0_begin yX0_begin, Cond.code yX0_begin cX0_begin 2 none, Cond.methodLink RX0 87 yX0_waitOf]
def wsX1_drawn_r3 : List Cond := [Cond.instanceMethod yX0_waitOf, Cond.selects RX0 yX0_waitOf yX0_waitOf, Cond.code yX0_waitOf cX0_waitOf 3 (some .int), Cond.constant RX0 83 (65536), Cond.methodLink RX0 77 Lib.Math.max.name, Cond.static Lib.Math.max.name, Cond.initialized "java/lang/Math", Cond.code Lib.Math.max.name Lib.Math.max.code 2 (some .int), Cond.methodLink RX0 84 yX0_spanOf, Cond.instanceMethod yX0_spanOf, Cond.selects RX0 yX0_spanOf yX0_spanOf, Cond.code yX0_spanOf cX0_spanOf 3 (some .int), Cond.methodLink RX0 103 yX0_depart, Cond.instanceMethod yX0_depart, Cond.selects RX0 yX0_depart yX0_depart, Cond.code yX0_depart cX0_depart 2 (some .boolean), Cond.methodLink RX0 71 yX0_countOf, Cond.instanceMethod yX0_countOf, Cond.selects RX0 yX0_countOf yX0_countOf, Cond.code yX0_countOf cX0_countOf 2 (some .int), Cond.methodLink RX0 65 yJ6_bitCount_0f7a4, Cond.static yJ6_bitCount_0f7a4, Cond.initialized RJ6, Cond.code yJ6_bitCount_0f7a4 cJ6_bitCount_0f7a4 1 (some .int)]
def wsX1_drawn_r4 : List Cond := [Cond.constant RJ6 265 (1431655765), Cond.constant RJ6 266 (858993459), Cond.constant RJ6 267 (252645135), Cond.methodLink RX0 97 yX0_sendBye, Cond.instanceMethod yX0_sendBye, Cond.selects RX0 yX0_sendBye yX0_sendBye, Cond.code yX0_sendBye cX0_sendBye 3 none, Cond.methodLink RX0 55 yX0_goAway, Cond.instanceMethod yX0_goAway, Cond.selects RX0 yX0_goAway yX0_goAway, Cond.code yX0_goAway cX0_goAway 2 none, Cond.methodLink RX0 126 yX0_reaches, Cond.instanceMethod yX0_reaches, Cond.selects RX0 yX0_reaches yX0_reaches, Cond.code yX0_reaches cX0_reaches 3 (some .boolean), Cond.methodLink RX0 123 yX0_isOpen, Cond.instanceMethod yX0_isOpen, Cond.selects RX0 yX0_isOpen yX0_isOpen, Cond.code yX0_isOpen cX0_isOpen 3 (some .boolean), Cond.methodLink RX0 129 yX0_hearBye, Cond.instanceMethod yX0_hearBye, Cond.selects RX0 yX0_hearBye yX0_hearBye, Cond.code yX0_hearBye cX0_hearBye 5 none, Cond.methodLink RX0 119 yX0_knows]
def wsX1_drawn_r5 : List Cond := [Cond.instanceMethod yX0_knows, Cond.selects RX0 yX0_knows yX0_knows, Cond.code yX0_knows cX0_knows 3 (some .boolean), Cond.methodLink RX1 133 yX0_run, Cond.instanceMethod yX0_run, Cond.selects RX0 yX0_run yX0_run, Cond.code yX0_run cX0_run 5 (some .int), Cond.methodLink RX0 106 yX0_sent, Cond.methodLink RX0 110 yX0_comeDue, Cond.instanceMethod yX0_comeDue, Cond.selects RX0 yX0_comeDue yX0_comeDue, Cond.code yX0_comeDue cX0_comeDue 4 none, Cond.methodLink RX0 116 yX0_sendReport, Cond.instanceMethod yX0_sendReport, Cond.selects RX0 yX0_sendReport yX0_sendReport, Cond.code yX0_sendReport cX0_sendReport 3 none, Cond.methodLink RX0 113 yX0_forgetOld, Cond.instanceMethod yX0_forgetOld, Cond.selects RX0 yX0_forgetOld yX0_forgetOld, Cond.code yX0_forgetOld cX0_forgetOld 5 none]
def wsX1_drawn : List Cond := .code yX1_drawn cX1_drawn 5 (some .int) :: ((wsX1_drawn_r1 ++ (wsX1_drawn_r2 ++ (wsX1_drawn_r3 ++ (wsX1_drawn_r4 ++ wsX1_drawn_r5)))) ++ wsX10 ++ wsX00)
def wsX1_keep_r1 : List Cond := [Cond.fieldLink RX1 27 "CrowdReports" "slots" "[LCrowdReports$Crowd;", Cond.fieldLink RX1 10 "CrowdReports" "now" "LCrowdReports$Crowd;", Cond.fieldLink RX1 30 "CrowdReports" "keptBits" "I", Cond.fieldLink RX1 64 "CrowdReports$Crowd" "clock" "I", Cond.methodLink RX1 60 yX0_takeFrom, Cond.instanceMethod yX0_takeFrom, Cond.selects RX0 yX0_takeFrom yX0_takeFrom, Cond.initialized RX0, Cond.code yX0_takeFrom cX0_takeFrom 2 none, Cond.fieldLink RX0 9 "CrowdReports$Crowd" "size" "I", Cond.fieldLink RX0 15 "CrowdReports$Crowd" "rate" "I", Cond.fieldLink RX0 18 "CrowdReports$Crowd" "min" "I", Cond.fieldLink RX0 21 "CrowdReports$Crowd" "clock" "I", Cond.fieldLink RX0 24 "CrowdReports$Crowd" "lot" "I", Cond.fieldLink RX0 27 "CrowdReports$Crowd" "reports" "I", Cond.fieldLink RX0 30 "CrowdReports$Crowd" "byes" "I", Cond.fieldLink RX0 33 "CrowdReports$Crowd" "kind" "[I", Cond.methodLink RX0 59 arraycopyName, Cond.native arraycopyName, Cond.static arraycopyName, Cond.initialized "java/lang/System", Cond.fieldLink RX0 37 "CrowdReports$Crowd" "known" "[I", Cond.fieldLink RX0 40 "CrowdReports$Crowd" "begun" "[I", Cond.fieldLink RX0 43 "CrowdReports$Crowd" "due" "[I"]
def wsX1_keep_r2 : List Cond := [Cond.fieldLink RX0 46 "CrowdReports$Crowd" "goers" "[I", Cond.fieldLink RX0 49 "CrowdReports$Crowd" "shut" "[I", Cond.fieldLink RX0 52 "CrowdReports$Crowd" "lastHeard" "[I"]
def wsX1_keep : List Cond := .code yX1_keep cX1_keep 2 (some .int) :: ((wsX1_keep_r1 ++ wsX1_keep_r2) ++ wsX10 ++ wsX00)
def wsX1_again_r1 : List Cond := [Cond.fieldLink RX1 30 "CrowdReports" "keptBits" "I", Cond.fieldLink RX1 10 "CrowdReports" "now" "LCrowdReports$Crowd;", Cond.fieldLink RX1 27 "CrowdReports" "slots" "[LCrowdReports$Crowd;", Cond.fieldLink RX1 23 "CrowdReports" "acts" "I", Cond.fieldLink RX1 64 "CrowdReports$Crowd" "clock" "I", Cond.methodLink RX1 60 yX0_takeFrom, Cond.instanceMethod yX0_takeFrom, Cond.selects RX0 yX0_takeFrom yX0_takeFrom, Cond.initialized RX0, Cond.code yX0_takeFrom cX0_takeFrom 2 none, Cond.fieldLink RX0 9 "CrowdReports$Crowd" "size" "I", Cond.fieldLink RX0 15 "CrowdReports$Crowd" "rate" "I", Cond.fieldLink RX0 18 "CrowdReports$Crowd" "min" "I", Cond.fieldLink RX0 21 "CrowdReports$Crowd" "clock" "I", Cond.fieldLink RX0 24 "CrowdReports$Crowd" "lot" "I", Cond.fieldLink RX0 27 "CrowdReports$Crowd" "reports" "I", Cond.fieldLink RX0 30 "CrowdReports$Crowd" "byes" "I", Cond.fieldLink RX0 33 "CrowdReports$Crowd" "kind" "[I", Cond.methodLink RX0 59 arraycopyName, Cond.native arraycopyName, Cond.static arraycopyName, Cond.initialized "java/lang/System", Cond.fieldLink RX0 37 "CrowdReports$Crowd" "known" "[I", Cond.fieldLink RX0 40 "CrowdReports$Crowd" "begun" "[I"]
def wsX1_again_r2 : List Cond := [Cond.fieldLink RX0 43 "CrowdReports$Crowd" "due" "[I", Cond.fieldLink RX0 46 "CrowdReports$Crowd" "goers" "[I", Cond.fieldLink RX0 49 "CrowdReports$Crowd" "shut" "[I", Cond.fieldLink RX0 52 "CrowdReports$Crowd" "lastHeard" "[I"]
def wsX1_again : List Cond := .code yX1_again cX1_again 2 (some .int) :: ((wsX1_again_r1 ++ wsX1_again_r2) ++ wsX10 ++ wsX00)
def wsX2_clear : List Cond := .code yX2_clear cX2_clear 2 none :: ([])
def wsX2_init : List Cond := .code yX2_init cX2_init 1 none :: ([.methodLink RX2 1 objectInit, .instanceMethod objectInit, .code objectInit ⟨#[0xb1]⟩ 1 none, .arrayClass .int, .fieldLink RX2 7 "CrowdReportsModel" "text" "[I", .fieldLink RX2 13 "CrowdReportsModel" "now" "[I", .fieldLink RX2 16 "CrowdReportsModel" "trial" "[I", .fieldLink RX2 19 "CrowdReportsModel" "diary" "[I", .fieldLink RX2 22 "CrowdReportsModel" "kept" "[I", .arrayClass .boolean, .fieldLink RX2 25 "CrowdReportsModel" "isKept" "[Z", .fieldLink RX2 29 "CrowdReportsModel" "seenTicks" "[I", .fieldLink RX2 32 "CrowdReportsModel" "seenMany" "[I", .fieldLink RX2 35 "CrowdReportsModel" "worth" "[I", .fieldLink RX2 38 "CrowdReportsModel" "read" "[I", .methodLink RX2 41 yX2_clear, .static yX2_clear, .initialized RX2, .code yX2_clear cX2_clear 2 none] ++ wsX20)
def wsX2_copy : List Cond := .code yX2_copy cX2_copy 3 none :: ([])
def wsX2_in : List Cond := .code yX2_in cX2_in 6 (some .boolean) :: ([])
def wsX2_has : List Cond := .code yX2_has cX2_has 2 (some .boolean) :: ([])
def wsX2_ones : List Cond := .code yX2_ones cX2_ones 3 (some .int) :: ([])
def wsX2_power : List Cond := .code yX2_power cX2_power 4 (some .int) :: ([])
def wsX2_factorial : List Cond := .code yX2_factorial cX2_factorial 3 (some .int) :: ([])
def wsX2_fraction : List Cond := .code yX2_fraction cX2_fraction 6 (some .int) :: ([])
def wsX2_isMember : List Cond := .code yX2_isMember cX2_isMember 1 (some .boolean) :: ([.constantLong RX2 45 (5), .methodLink RX2 47 yX2_in, .static yX2_in, .initialized RX2, .code yX2_in cX2_in 6 (some .boolean)])
def wsX2_countOf : List Cond := .code yX2_countOf cX2_countOf 2 (some .int) :: ([.methodLink RX2 51 yX2_ones, .static yX2_ones, .initialized RX2, .code yX2_ones cX2_ones 3 (some .int)])
def wsX2_spanOf : List Cond := .code yX2_spanOf cX2_spanOf 3 (some .int) :: ([])
def wsX2_draw : List Cond := .code yX2_draw cX2_draw 1 (some .int) :: ([.constant RX2 55 (65536)])
def wsX2_waitOf : List Cond := .code yX2_waitOf cX2_waitOf 4 (some .int) :: ([.methodLink RX2 56 yX2_spanOf, .static yX2_spanOf, .initialized RX2, .code yX2_spanOf cX2_spanOf 3 (some .int), .methodLink RX2 60 yX2_draw, .static yX2_draw, .code yX2_draw cX2_draw 1 (some .int), .constant RX2 55 (65536)])
def wsX2_lettersOf : List Cond := .code yX2_lettersOf cX2_lettersOf 1 (some .int) :: ([])
def wsX2_reaches : List Cond := .code yX2_reaches cX2_reaches 3 (some .boolean) :: ([.methodLink RX2 64 yX2_has, .static yX2_has, .initialized RX2, .code yX2_has cX2_has 2 (some .boolean)])
def wsX2_report : List Cond := .code yX2_report cX2_report 3 none :: ([.methodLink RX2 68 yX2_reaches, .static yX2_reaches, .initialized RX2, .code yX2_reaches cX2_reaches 3 (some .boolean), .methodLink RX2 64 yX2_has, .static yX2_has, .code yX2_has cX2_has 2 (some .boolean)])
def wsX2_goAway : List Cond := .code yX2_goAway cX2_goAway 2 none :: ([])
def wsX2_bye : List Cond := .code yX2_bye cX2_bye 7 none :: ([.methodLink RX2 72 yX2_goAway, .static yX2_goAway, .initialized RX2, .code yX2_goAway cX2_goAway 2 none, .methodLink RX2 68 yX2_reaches, .static yX2_reaches, .code yX2_reaches cX2_reaches 3 (some .boolean), .methodLink RX2 64 yX2_has, .static yX2_has, .code yX2_has cX2_has 2 (some .boolean), .methodLink RX2 76 yX2_countOf, .static yX2_countOf, .code yX2_countOf cX2_countOf 2 (some .int), .methodLink RX2 51 yX2_ones, .static yX2_ones, .code yX2_ones cX2_ones 3 (some .int)])
def wsX2_joins : List Cond := .code yX2_joins cX2_joins 2 none :: ([.methodLink RX2 79 yX2_waitOf, .static yX2_waitOf, .initialized RX2, .code yX2_waitOf cX2_waitOf 4 (some .int), .methodLink RX2 56 yX2_spanOf, .static yX2_spanOf, .code yX2_spanOf cX2_spanOf 3 (some .int), .methodLink RX2 60 yX2_draw, .static yX2_draw, .code yX2_draw cX2_draw 1 (some .int), .constant RX2 55 (65536)])
def wsX2_leaves_r1 : List Cond := [Cond.methodLink RX2 76 yX2_countOf, Cond.static yX2_countOf, Cond.initialized RX2, Cond.code yX2_countOf cX2_countOf 2 (some .int), Cond.methodLink RX2 51 yX2_ones, Cond.static yX2_ones, Cond.code yX2_ones cX2_ones 3 (some .int), Cond.methodLink RX2 82 yX2_bye, Cond.static yX2_bye, Cond.code yX2_bye cX2_bye 7 none, Cond.methodLink RX2 72 yX2_goAway, Cond.static yX2_goAway, Cond.code yX2_goAway cX2_goAway 2 none, Cond.methodLink RX2 68 yX2_reaches, Cond.static yX2_reaches, Cond.code yX2_reaches cX2_reaches 3 (some .boolean), Cond.methodLink RX2 64 yX2_has, Cond.static yX2_has, Cond.code yX2_has cX2_has 2 (some .boolean), Cond.methodLink RX2 79 yX2_waitOf, Cond.static yX2_waitOf, Cond.code yX2_waitOf cX2_waitOf 4 (some .int), Cond.methodLink RX2 56 yX2_spanOf, Cond.static yX2_spanOf]
def wsX2_leaves_r2 : List Cond := [Cond.code yX2_spanOf cX2_spanOf 3 (some .int), Cond.methodLink RX2 60 yX2_draw, Cond.static yX2_draw, Cond.code yX2_draw cX2_draw 1 (some .int), Cond.constant RX2 55 (65536)]
def wsX2_leaves : List Cond := .code yX2_leaves cX2_leaves 2 none :: ((wsX2_leaves_r1 ++ wsX2_leaves_r2))
def wsX2_look_r1 : List Cond := [Cond.methodLink RX2 76 yX2_countOf, Cond.static yX2_countOf, Cond.initialized RX2, Cond.code yX2_countOf cX2_countOf 2 (some .int), Cond.methodLink RX2 51 yX2_ones, Cond.static yX2_ones, Cond.code yX2_ones cX2_ones 3 (some .int), Cond.methodLink RX2 79 yX2_waitOf, Cond.static yX2_waitOf, Cond.code yX2_waitOf cX2_waitOf 4 (some .int), Cond.methodLink RX2 56 yX2_spanOf, Cond.static yX2_spanOf, Cond.code yX2_spanOf cX2_spanOf 3 (some .int), Cond.methodLink RX2 60 yX2_draw, Cond.static yX2_draw, Cond.code yX2_draw cX2_draw 1 (some .int), Cond.constant RX2 55 (65536), Cond.methodLink RX2 85 yX2_report, Cond.static yX2_report, Cond.code yX2_report cX2_report 3 none, Cond.methodLink RX2 68 yX2_reaches, Cond.static yX2_reaches, Cond.code yX2_reaches cX2_reaches 3 (some .boolean), Cond.methodLink RX2 64 yX2_has]
def wsX2_look_r2 : List Cond := [Cond.static yX2_has, Cond.code yX2_has cX2_has 2 (some .boolean), Cond.methodLink RX2 82 yX2_bye, Cond.static yX2_bye, Cond.code yX2_bye cX2_bye 7 none, Cond.methodLink RX2 72 yX2_goAway, Cond.static yX2_goAway, Cond.code yX2_goAway cX2_goAway 2 none]
def wsX2_look : List Cond := .code yX2_look cX2_look 4 none :: ((wsX2_look_r1 ++ wsX2_look_r2))
def wsX2_forget : List Cond := .code yX2_forget cX2_forget 5 none :: ([.methodLink RX2 76 yX2_countOf, .static yX2_countOf, .initialized RX2, .code yX2_countOf cX2_countOf 2 (some .int), .methodLink RX2 51 yX2_ones, .static yX2_ones, .code yX2_ones cX2_ones 3 (some .int), .methodLink RX2 56 yX2_spanOf, .static yX2_spanOf, .code yX2_spanOf cX2_spanOf 3 (some .int), .methodLink RX2 64 yX2_has, .static yX2_has, .code yX2_has cX2_has 2 (some .boolean)])
def wsX2_tick_r1 : List Cond := [Cond.methodLink RX2 88 yX2_look, Cond.static yX2_look, Cond.initialized RX2, Cond.code yX2_look cX2_look 4 none, Cond.methodLink RX2 76 yX2_countOf, Cond.static yX2_countOf, Cond.code yX2_countOf cX2_countOf 2 (some .int), Cond.methodLink RX2 51 yX2_ones, Cond.static yX2_ones, Cond.code yX2_ones cX2_ones 3 (some .int), Cond.methodLink RX2 79 yX2_waitOf, Cond.static yX2_waitOf, Cond.code yX2_waitOf cX2_waitOf 4 (some .int), Cond.methodLink RX2 56 yX2_spanOf, Cond.static yX2_spanOf, Cond.code yX2_spanOf cX2_spanOf 3 (some .int), Cond.methodLink RX2 60 yX2_draw, Cond.static yX2_draw, Cond.code yX2_draw cX2_draw 1 (some .int), Cond.constant RX2 55 (65536), Cond.methodLink RX2 85 yX2_report, Cond.static yX2_report, Cond.code yX2_report cX2_report 3 none, Cond.methodLink RX2 68 yX2_reaches]
def wsX2_tick_r2 : List Cond := [Cond.static yX2_reaches, Cond.code yX2_reaches cX2_reaches 3 (some .boolean), Cond.methodLink RX2 64 yX2_has, Cond.static yX2_has, Cond.code yX2_has cX2_has 2 (some .boolean), Cond.methodLink RX2 82 yX2_bye, Cond.static yX2_bye, Cond.code yX2_bye cX2_bye 7 none, Cond.methodLink RX2 72 yX2_goAway, Cond.static yX2_goAway, Cond.code yX2_goAway cX2_goAway 2 none, Cond.methodLink RX2 91 yX2_forget, Cond.static yX2_forget, Cond.code yX2_forget cX2_forget 5 none]
def wsX2_tick : List Cond := .code yX2_tick cX2_tick 2 none :: ((wsX2_tick_r1 ++ wsX2_tick_r2))
def wsX2_passOn_r1 : List Cond := [Cond.methodLink RX2 94 yX2_lettersOf, Cond.static yX2_lettersOf, Cond.initialized RX2, Cond.code yX2_lettersOf cX2_lettersOf 1 (some .int), Cond.methodLink RX2 97 yX2_tick, Cond.static yX2_tick, Cond.code yX2_tick cX2_tick 2 none, Cond.methodLink RX2 88 yX2_look, Cond.static yX2_look, Cond.code yX2_look cX2_look 4 none, Cond.methodLink RX2 76 yX2_countOf, Cond.static yX2_countOf, Cond.code yX2_countOf cX2_countOf 2 (some .int), Cond.methodLink RX2 51 yX2_ones, Cond.static yX2_ones, Cond.code yX2_ones cX2_ones 3 (some .int), Cond.methodLink RX2 79 yX2_waitOf, Cond.static yX2_waitOf, Cond.code yX2_waitOf cX2_waitOf 4 (some .int), Cond.methodLink RX2 56 yX2_spanOf, Cond.static yX2_spanOf, Cond.code yX2_spanOf cX2_spanOf 3 (some .int), Cond.methodLink RX2 60 yX2_draw, Cond.static yX2_draw]
def wsX2_passOn_r2 : List Cond := [Cond.code yX2_draw cX2_draw 1 (some .int), Cond.constant RX2 55 (65536), Cond.methodLink RX2 85 yX2_report, Cond.static yX2_report, Cond.code yX2_report cX2_report 3 none, Cond.methodLink RX2 68 yX2_reaches, Cond.static yX2_reaches, Cond.code yX2_reaches cX2_reaches 3 (some .boolean), Cond.methodLink RX2 64 yX2_has, Cond.static yX2_has, Cond.code yX2_has cX2_has 2 (some .boolean), Cond.methodLink RX2 82 yX2_bye, Cond.static yX2_bye, Cond.code yX2_bye cX2_bye 7 none, Cond.methodLink RX2 72 yX2_goAway, Cond.static yX2_goAway, Cond.code yX2_goAway cX2_goAway 2 none, Cond.methodLink RX2 91 yX2_forget, Cond.static yX2_forget, Cond.code yX2_forget cX2_forget 5 none]
def wsX2_passOn : List Cond := .code yX2_passOn cX2_passOn 4 (some .int) :: ((wsX2_passOn_r1 ++ wsX2_passOn_r2))
def wsX2_write : List Cond := .code yX2_write cX2_write 2 (some .int) :: ([.constantLong RX2 100 (255), .fieldLink RX2 102 "CrowdReportsModel" "length" "I", .fieldLink RX2 7 "CrowdReportsModel" "text" "[I", .methodLink RX2 47 yX2_in, .static yX2_in, .initialized RX2, .code yX2_in cX2_in 6 (some .boolean)] ++ wsX20)
def wsX2_wipe : List Cond := .code yX2_wipe cX2_wipe 2 (some .int) :: ([.fieldLink RX2 102 "CrowdReportsModel" "length" "I"] ++ wsX20)
def wsX2_those : List Cond := .code yX2_those cX2_those 4 (some .int) :: ([])
def wsX2_readText_r1 : List Cond := [Cond.fieldLink RX2 38 "CrowdReportsModel" "read" "[I", Cond.fieldLink RX2 102 "CrowdReportsModel" "length" "I", Cond.fieldLink RX2 7 "CrowdReportsModel" "text" "[I", Cond.constantLong RX2 106 (9), Cond.methodLink RX2 41 yX2_clear, Cond.static yX2_clear, Cond.initialized RX2, Cond.code yX2_clear cX2_clear 2 none, Cond.methodLink RX2 47 yX2_in, Cond.static yX2_in, Cond.code yX2_in cX2_in 6 (some .boolean), Cond.methodLink RX2 108 yX2_passOn, Cond.static yX2_passOn, Cond.code yX2_passOn cX2_passOn 4 (some .int), Cond.methodLink RX2 94 yX2_lettersOf, Cond.static yX2_lettersOf, Cond.code yX2_lettersOf cX2_lettersOf 1 (some .int), Cond.methodLink RX2 97 yX2_tick, Cond.static yX2_tick, Cond.code yX2_tick cX2_tick 2 none, Cond.methodLink RX2 88 yX2_look, Cond.static yX2_look, Cond.code yX2_look cX2_look 4 none, Cond.methodLink RX2 76 yX2_countOf]
def wsX2_readText_r2 : List Cond := [Cond.static yX2_countOf, Cond.code yX2_countOf cX2_countOf 2 (some .int), Cond.methodLink RX2 51 yX2_ones, Cond.static yX2_ones, Cond.code yX2_ones cX2_ones 3 (some .int), Cond.methodLink RX2 79 yX2_waitOf, Cond.static yX2_waitOf, Cond.code yX2_waitOf cX2_waitOf 4 (some .int), Cond.methodLink RX2 56 yX2_spanOf, Cond.static yX2_spanOf, Cond.code yX2_spanOf cX2_spanOf 3 (some .int), Cond.methodLink RX2 60 yX2_draw, Cond.static yX2_draw, Cond.code yX2_draw cX2_draw 1 (some .int), Cond.constant RX2 55 (65536), Cond.methodLink RX2 85 yX2_report, Cond.static yX2_report, Cond.code yX2_report cX2_report 3 none, Cond.methodLink RX2 68 yX2_reaches, Cond.static yX2_reaches, Cond.code yX2_reaches cX2_reaches 3 (some .boolean), Cond.methodLink RX2 64 yX2_has, Cond.static yX2_has, Cond.code yX2_has cX2_has 2 (some .boolean)]
def wsX2_readText_r3 : List Cond := [Cond.methodLink RX2 82 yX2_bye, Cond.static yX2_bye, Cond.code yX2_bye cX2_bye 7 none, Cond.methodLink RX2 72 yX2_goAway, Cond.static yX2_goAway, Cond.code yX2_goAway cX2_goAway 2 none, Cond.methodLink RX2 91 yX2_forget, Cond.static yX2_forget, Cond.code yX2_forget cX2_forget 5 none, Cond.methodLink RX2 111 yX2_those, Cond.static yX2_those, Cond.code yX2_those cX2_those 4 (some .int), Cond.methodLink RX2 114 yX2_isMember, Cond.static yX2_isMember, Cond.code yX2_isMember cX2_isMember 1 (some .boolean), Cond.constantLong RX2 45 (5), Cond.methodLink RX2 118 yX2_joins, Cond.static yX2_joins, Cond.code yX2_joins cX2_joins 2 none, Cond.methodLink RX2 121 yX2_leaves, Cond.static yX2_leaves, Cond.code yX2_leaves cX2_leaves 2 none]
def wsX2_readText : List Cond := .code yX2_readText cX2_readText 7 (some .int) :: ((wsX2_readText_r1 ++ (wsX2_readText_r2 ++ wsX2_readText_r3)) ++ wsX20)
def wsX2_fault_r1 : List Cond := [Cond.methodLink RX2 124 yX2_readText, Cond.instanceMethod yX2_readText, Cond.selects RX2 yX2_readText yX2_readText, Cond.initialized RX2, Cond.code yX2_readText cX2_readText 7 (some .int), Cond.fieldLink RX2 38 "CrowdReportsModel" "read" "[I", Cond.fieldLink RX2 102 "CrowdReportsModel" "length" "I", Cond.fieldLink RX2 7 "CrowdReportsModel" "text" "[I", Cond.constantLong RX2 106 (9), Cond.methodLink RX2 41 yX2_clear, Cond.static yX2_clear, Cond.code yX2_clear cX2_clear 2 none, Cond.methodLink RX2 47 yX2_in, Cond.static yX2_in, Cond.code yX2_in cX2_in 6 (some .boolean), Cond.methodLink RX2 108 yX2_passOn, Cond.static yX2_passOn, Cond.code yX2_passOn cX2_passOn 4 (some .int), Cond.methodLink RX2 94 yX2_lettersOf, Cond.static yX2_lettersOf, Cond.code yX2_lettersOf cX2_lettersOf 1 (some .int), Cond.methodLink RX2 97 yX2_tick, Cond.static yX2_tick, Cond.code yX2_tick cX2_tick 2 none]
def wsX2_fault_r2 : List Cond := [Cond.methodLink RX2 88 yX2_look, Cond.static yX2_look, Cond.code yX2_look cX2_look 4 none, Cond.methodLink RX2 76 yX2_countOf, Cond.static yX2_countOf, Cond.code yX2_countOf cX2_countOf 2 (some .int), Cond.methodLink RX2 51 yX2_ones, Cond.static yX2_ones, Cond.code yX2_ones cX2_ones 3 (some .int), Cond.methodLink RX2 79 yX2_waitOf, Cond.static yX2_waitOf, Cond.code yX2_waitOf cX2_waitOf 4 (some .int), Cond.methodLink RX2 56 yX2_spanOf, Cond.static yX2_spanOf, Cond.code yX2_spanOf cX2_spanOf 3 (some .int), Cond.methodLink RX2 60 yX2_draw, Cond.static yX2_draw, Cond.code yX2_draw cX2_draw 1 (some .int), Cond.constant RX2 55 (65536), Cond.methodLink RX2 85 yX2_report, Cond.static yX2_report, Cond.code yX2_report cX2_report 3 none, Cond.methodLink RX2 68 yX2_reaches, Cond.static yX2_reaches]
def wsX2_fault_r3 : List Cond := [Cond.code yX2_reaches cX2_reaches 3 (some .boolean), Cond.methodLink RX2 64 yX2_has, Cond.static yX2_has, Cond.code yX2_has cX2_has 2 (some .boolean), Cond.methodLink RX2 82 yX2_bye, Cond.static yX2_bye, Cond.code yX2_bye cX2_bye 7 none, Cond.methodLink RX2 72 yX2_goAway, Cond.static yX2_goAway, Cond.code yX2_goAway cX2_goAway 2 none, Cond.methodLink RX2 91 yX2_forget, Cond.static yX2_forget, Cond.code yX2_forget cX2_forget 5 none, Cond.methodLink RX2 111 yX2_those, Cond.static yX2_those, Cond.code yX2_those cX2_those 4 (some .int), Cond.methodLink RX2 114 yX2_isMember, Cond.static yX2_isMember, Cond.code yX2_isMember cX2_isMember 1 (some .boolean), Cond.constantLong RX2 45 (5), Cond.methodLink RX2 118 yX2_joins, Cond.static yX2_joins, Cond.code yX2_joins cX2_joins 2 none, Cond.methodLink RX2 121 yX2_leaves]
def wsX2_fault_r4 : List Cond := [Cond.static yX2_leaves, Cond.code yX2_leaves cX2_leaves 2 none]
def wsX2_fault : List Cond := .code yX2_fault cX2_fault 1 (some .int) :: ((wsX2_fault_r1 ++ (wsX2_fault_r2 ++ (wsX2_fault_r3 ++ wsX2_fault_r4))) ++ wsX20)
def wsX2_meeting_r1 : List Cond := [Cond.fieldLink RX2 38 "CrowdReportsModel" "read" "[I", Cond.fieldLink RX2 13 "CrowdReportsModel" "now" "[I", Cond.fieldLink RX2 132 "CrowdReportsModel" "acts" "I", Cond.fieldLink RX2 25 "CrowdReportsModel" "isKept" "[Z", Cond.methodLink RX2 124 yX2_readText, Cond.instanceMethod yX2_readText, Cond.selects RX2 yX2_readText yX2_readText, Cond.initialized RX2, Cond.code yX2_readText cX2_readText 7 (some .int), Cond.fieldLink RX2 102 "CrowdReportsModel" "length" "I", Cond.fieldLink RX2 7 "CrowdReportsModel" "text" "[I", Cond.constantLong RX2 106 (9), Cond.methodLink RX2 41 yX2_clear, Cond.static yX2_clear, Cond.code yX2_clear cX2_clear 2 none, Cond.methodLink RX2 47 yX2_in, Cond.static yX2_in, Cond.code yX2_in cX2_in 6 (some .boolean), Cond.methodLink RX2 108 yX2_passOn, Cond.static yX2_passOn, Cond.code yX2_passOn cX2_passOn 4 (some .int), Cond.methodLink RX2 94 yX2_lettersOf, Cond.static yX2_lettersOf, Cond.code yX2_lettersOf cX2_lettersOf 1 (some .int)]
def wsX2_meeting_r2 : List Cond := [Cond.methodLink RX2 97 yX2_tick, Cond.static yX2_tick, Cond.code yX2_tick cX2_tick 2 none, Cond.methodLink RX2 88 yX2_look, Cond.static yX2_look, Cond.code yX2_look cX2_look 4 none, Cond.methodLink RX2 76 yX2_countOf, Cond.static yX2_countOf, Cond.code yX2_countOf cX2_countOf 2 (some .int), Cond.methodLink RX2 51 yX2_ones, Cond.static yX2_ones, Cond.code yX2_ones cX2_ones 3 (some .int), Cond.methodLink RX2 79 yX2_waitOf, Cond.static yX2_waitOf, Cond.code yX2_waitOf cX2_waitOf 4 (some .int), Cond.methodLink RX2 56 yX2_spanOf, Cond.static yX2_spanOf, Cond.code yX2_spanOf cX2_spanOf 3 (some .int), Cond.methodLink RX2 60 yX2_draw, Cond.static yX2_draw, Cond.code yX2_draw cX2_draw 1 (some .int), Cond.constant RX2 55 (65536), Cond.methodLink RX2 85 yX2_report, Cond.static yX2_report]
def wsX2_meeting_r3 : List Cond := [Cond.code yX2_report cX2_report 3 none, Cond.methodLink RX2 68 yX2_reaches, Cond.static yX2_reaches, Cond.code yX2_reaches cX2_reaches 3 (some .boolean), Cond.methodLink RX2 64 yX2_has, Cond.static yX2_has, Cond.code yX2_has cX2_has 2 (some .boolean), Cond.methodLink RX2 82 yX2_bye, Cond.static yX2_bye, Cond.code yX2_bye cX2_bye 7 none, Cond.methodLink RX2 72 yX2_goAway, Cond.static yX2_goAway, Cond.code yX2_goAway cX2_goAway 2 none, Cond.methodLink RX2 91 yX2_forget, Cond.static yX2_forget, Cond.code yX2_forget cX2_forget 5 none, Cond.methodLink RX2 111 yX2_those, Cond.static yX2_those, Cond.code yX2_those cX2_those 4 (some .int), Cond.methodLink RX2 114 yX2_isMember, Cond.static yX2_isMember, Cond.code yX2_isMember cX2_isMember 1 (some .boolean), Cond.constantLong RX2 45 (5), Cond.methodLink RX2 118 yX2_joins]
def wsX2_meeting_r4 : List Cond := [Cond.static yX2_joins, Cond.code yX2_joins cX2_joins 2 none, Cond.methodLink RX2 121 yX2_leaves, Cond.static yX2_leaves, Cond.code yX2_leaves cX2_leaves 2 none, Cond.methodLink RX2 128 yX2_copy, Cond.static yX2_copy, Cond.code yX2_copy cX2_copy 3 none]
def wsX2_meeting : List Cond := .code yX2_meeting cX2_meeting 1 (some .int) :: ((wsX2_meeting_r1 ++ (wsX2_meeting_r2 ++ (wsX2_meeting_r3 ++ wsX2_meeting_r4))) ++ wsX20)
def wsX2_rest_r1 : List Cond := [Cond.fieldLink RX2 13 "CrowdReportsModel" "now" "[I", Cond.fieldLink RX2 16 "CrowdReportsModel" "trial" "[I", Cond.methodLink RX2 128 yX2_copy, Cond.static yX2_copy, Cond.initialized RX2, Cond.code yX2_copy cX2_copy 3 none, Cond.methodLink RX2 111 yX2_those, Cond.static yX2_those, Cond.code yX2_those cX2_those 4 (some .int), Cond.methodLink RX2 97 yX2_tick, Cond.static yX2_tick, Cond.code yX2_tick cX2_tick 2 none, Cond.methodLink RX2 88 yX2_look, Cond.static yX2_look, Cond.code yX2_look cX2_look 4 none, Cond.methodLink RX2 76 yX2_countOf, Cond.static yX2_countOf, Cond.code yX2_countOf cX2_countOf 2 (some .int), Cond.methodLink RX2 51 yX2_ones, Cond.static yX2_ones, Cond.code yX2_ones cX2_ones 3 (some .int), Cond.methodLink RX2 79 yX2_waitOf, Cond.static yX2_waitOf, Cond.code yX2_waitOf cX2_waitOf 4 (some .int)]
def wsX2_rest_r2 : List Cond := [Cond.methodLink RX2 56 yX2_spanOf, Cond.static yX2_spanOf, Cond.code yX2_spanOf cX2_spanOf 3 (some .int), Cond.methodLink RX2 60 yX2_draw, Cond.static yX2_draw, Cond.code yX2_draw cX2_draw 1 (some .int), Cond.constant RX2 55 (65536), Cond.methodLink RX2 85 yX2_report, Cond.static yX2_report, Cond.code yX2_report cX2_report 3 none, Cond.methodLink RX2 68 yX2_reaches, Cond.static yX2_reaches, Cond.code yX2_reaches cX2_reaches 3 (some .boolean), Cond.methodLink RX2 64 yX2_has, Cond.static yX2_has, Cond.code yX2_has cX2_has 2 (some .boolean), Cond.methodLink RX2 82 yX2_bye, Cond.static yX2_bye, Cond.code yX2_bye cX2_bye 7 none, Cond.methodLink RX2 72 yX2_goAway, Cond.static yX2_goAway, Cond.code yX2_goAway cX2_goAway 2 none, Cond.methodLink RX2 91 yX2_forget, Cond.static yX2_forget]
def wsX2_rest_r3 : List Cond := [Cond.code yX2_forget cX2_forget 5 none]
def wsX2_rest : List Cond := .code yX2_rest cX2_rest 5 (some .int) :: ((wsX2_rest_r1 ++ (wsX2_rest_r2 ++ wsX2_rest_r3)) ++ wsX20)
def wsX2_about_r1 : List Cond := [Cond.fieldLink RX2 13 "CrowdReportsModel" "now" "[I", Cond.fieldLink RX2 132 "CrowdReportsModel" "acts" "I", Cond.fieldLink RX2 138 "CrowdReportsModel" "seen" "I", Cond.fieldLink RX2 102 "CrowdReportsModel" "length" "I", Cond.methodLink RX2 111 yX2_those, Cond.static yX2_those, Cond.initialized RX2, Cond.code yX2_those cX2_those 4 (some .int), Cond.methodLink RX2 135 yX2_rest, Cond.instanceMethod yX2_rest, Cond.selects RX2 yX2_rest yX2_rest, Cond.code yX2_rest cX2_rest 5 (some .int), Cond.fieldLink RX2 16 "CrowdReportsModel" "trial" "[I", Cond.methodLink RX2 128 yX2_copy, Cond.static yX2_copy, Cond.code yX2_copy cX2_copy 3 none, Cond.methodLink RX2 97 yX2_tick, Cond.static yX2_tick, Cond.code yX2_tick cX2_tick 2 none, Cond.methodLink RX2 88 yX2_look, Cond.static yX2_look, Cond.code yX2_look cX2_look 4 none, Cond.methodLink RX2 76 yX2_countOf, Cond.static yX2_countOf]
def wsX2_about_r2 : List Cond := [Cond.code yX2_countOf cX2_countOf 2 (some .int), Cond.methodLink RX2 51 yX2_ones, Cond.static yX2_ones, Cond.code yX2_ones cX2_ones 3 (some .int), Cond.methodLink RX2 79 yX2_waitOf, Cond.static yX2_waitOf, Cond.code yX2_waitOf cX2_waitOf 4 (some .int), Cond.methodLink RX2 56 yX2_spanOf, Cond.static yX2_spanOf, Cond.code yX2_spanOf cX2_spanOf 3 (some .int), Cond.methodLink RX2 60 yX2_draw, Cond.static yX2_draw, Cond.code yX2_draw cX2_draw 1 (some .int), Cond.constant RX2 55 (65536), Cond.methodLink RX2 85 yX2_report, Cond.static yX2_report, Cond.code yX2_report cX2_report 3 none, Cond.methodLink RX2 68 yX2_reaches, Cond.static yX2_reaches, Cond.code yX2_reaches cX2_reaches 3 (some .boolean), Cond.methodLink RX2 64 yX2_has, Cond.static yX2_has, Cond.code yX2_has cX2_has 2 (some .boolean), Cond.methodLink RX2 82 yX2_bye]
def wsX2_about_r3 : List Cond := [Cond.static yX2_bye, Cond.code yX2_bye cX2_bye 7 none, Cond.methodLink RX2 72 yX2_goAway, Cond.static yX2_goAway, Cond.code yX2_goAway cX2_goAway 2 none, Cond.methodLink RX2 91 yX2_forget, Cond.static yX2_forget, Cond.code yX2_forget cX2_forget 5 none]
def wsX2_about : List Cond := .code yX2_about cX2_about 2 (some .int) :: ((wsX2_about_r1 ++ (wsX2_about_r2 ++ wsX2_about_r3)) ++ wsX20)
def wsX2_member : List Cond := .code yX2_member cX2_member 3 (some .int) :: ([.fieldLink RX2 13 "CrowdReportsModel" "now" "[I", .methodLink RX2 114 yX2_isMember, .static yX2_isMember, .initialized RX2, .code yX2_isMember cX2_isMember 1 (some .boolean), .constantLong RX2 45 (5), .methodLink RX2 47 yX2_in, .static yX2_in, .code yX2_in cX2_in 6 (some .boolean), .methodLink RX2 76 yX2_countOf, .static yX2_countOf, .code yX2_countOf cX2_countOf 2 (some .int), .methodLink RX2 51 yX2_ones, .static yX2_ones, .code yX2_ones cX2_ones 3 (some .int)] ++ wsX20)
def wsX2_heard : List Cond := .code yX2_heard cX2_heard 3 (some .int) :: ([.fieldLink RX2 13 "CrowdReportsModel" "now" "[I", .methodLink RX2 114 yX2_isMember, .static yX2_isMember, .initialized RX2, .code yX2_isMember cX2_isMember 1 (some .boolean), .constantLong RX2 45 (5), .methodLink RX2 47 yX2_in, .static yX2_in, .code yX2_in cX2_in 6 (some .boolean), .methodLink RX2 64 yX2_has, .static yX2_has, .code yX2_has cX2_has 2 (some .boolean)] ++ wsX20)
def wsX2_way : List Cond := .code yX2_way cX2_way 3 (some .int) :: ([.fieldLink RX2 13 "CrowdReportsModel" "now" "[I", .methodLink RX2 114 yX2_isMember, .static yX2_isMember, .initialized RX2, .code yX2_isMember cX2_isMember 1 (some .boolean), .constantLong RX2 45 (5), .methodLink RX2 47 yX2_in, .static yX2_in, .code yX2_in cX2_in 6 (some .boolean), .methodLink RX2 64 yX2_has, .static yX2_has, .code yX2_has cX2_has 2 (some .boolean)] ++ wsX20)
def wsX2_note : List Cond := .code yX2_note cX2_note 2 none :: ([.fieldLink RX2 19 "CrowdReportsModel" "diary" "[I", .fieldLink RX2 141 "CrowdReportsModel" "next" "I", .fieldLink RX2 13 "CrowdReportsModel" "now" "[I", .fieldLink RX2 132 "CrowdReportsModel" "acts" "I"] ++ wsX20)
def wsX2_join_r1 : List Cond := [Cond.fieldLink RX2 13 "CrowdReportsModel" "now" "[I", Cond.methodLink RX2 114 yX2_isMember, Cond.static yX2_isMember, Cond.initialized RX2, Cond.code yX2_isMember cX2_isMember 1 (some .boolean), Cond.constantLong RX2 45 (5), Cond.methodLink RX2 47 yX2_in, Cond.static yX2_in, Cond.code yX2_in cX2_in 6 (some .boolean), Cond.methodLink RX2 144 yX2_note, Cond.instanceMethod yX2_note, Cond.selects RX2 yX2_note yX2_note, Cond.code yX2_note cX2_note 2 none, Cond.fieldLink RX2 19 "CrowdReportsModel" "diary" "[I", Cond.fieldLink RX2 141 "CrowdReportsModel" "next" "I", Cond.fieldLink RX2 132 "CrowdReportsModel" "acts" "I", Cond.methodLink RX2 118 yX2_joins, Cond.static yX2_joins, Cond.code yX2_joins cX2_joins 2 none, Cond.methodLink RX2 79 yX2_waitOf, Cond.static yX2_waitOf, Cond.code yX2_waitOf cX2_waitOf 4 (some .int), Cond.methodLink RX2 56 yX2_spanOf, Cond.static yX2_spanOf]
def wsX2_join_r2 : List Cond := [Cond.code yX2_spanOf cX2_spanOf 3 (some .int), Cond.methodLink RX2 60 yX2_draw, Cond.static yX2_draw, Cond.code yX2_draw cX2_draw 1 (some .int), Cond.constant RX2 55 (65536)]
def wsX2_join : List Cond := .code yX2_join cX2_join 2 (some .int) :: ((wsX2_join_r1 ++ wsX2_join_r2) ++ wsX20)
def wsX2_leave_r1 : List Cond := [Cond.fieldLink RX2 13 "CrowdReportsModel" "now" "[I", Cond.methodLink RX2 114 yX2_isMember, Cond.static yX2_isMember, Cond.initialized RX2, Cond.code yX2_isMember cX2_isMember 1 (some .boolean), Cond.constantLong RX2 45 (5), Cond.methodLink RX2 47 yX2_in, Cond.static yX2_in, Cond.code yX2_in cX2_in 6 (some .boolean), Cond.methodLink RX2 144 yX2_note, Cond.instanceMethod yX2_note, Cond.selects RX2 yX2_note yX2_note, Cond.code yX2_note cX2_note 2 none, Cond.fieldLink RX2 19 "CrowdReportsModel" "diary" "[I", Cond.fieldLink RX2 141 "CrowdReportsModel" "next" "I", Cond.fieldLink RX2 132 "CrowdReportsModel" "acts" "I", Cond.methodLink RX2 121 yX2_leaves, Cond.static yX2_leaves, Cond.code yX2_leaves cX2_leaves 2 none, Cond.methodLink RX2 76 yX2_countOf, Cond.static yX2_countOf, Cond.code yX2_countOf cX2_countOf 2 (some .int), Cond.methodLink RX2 51 yX2_ones, Cond.static yX2_ones]
def wsX2_leave_r2 : List Cond := [Cond.code yX2_ones cX2_ones 3 (some .int), Cond.methodLink RX2 82 yX2_bye, Cond.static yX2_bye, Cond.code yX2_bye cX2_bye 7 none, Cond.methodLink RX2 72 yX2_goAway, Cond.static yX2_goAway, Cond.code yX2_goAway cX2_goAway 2 none, Cond.methodLink RX2 68 yX2_reaches, Cond.static yX2_reaches, Cond.code yX2_reaches cX2_reaches 3 (some .boolean), Cond.methodLink RX2 64 yX2_has, Cond.static yX2_has, Cond.code yX2_has cX2_has 2 (some .boolean), Cond.methodLink RX2 79 yX2_waitOf, Cond.static yX2_waitOf, Cond.code yX2_waitOf cX2_waitOf 4 (some .int), Cond.methodLink RX2 56 yX2_spanOf, Cond.static yX2_spanOf, Cond.code yX2_spanOf cX2_spanOf 3 (some .int), Cond.methodLink RX2 60 yX2_draw, Cond.static yX2_draw, Cond.code yX2_draw cX2_draw 1 (some .int), Cond.constant RX2 55 (65536)]
def wsX2_leave : List Cond := .code yX2_leave cX2_leave 2 (some .int) :: ((wsX2_leave_r1 ++ wsX2_leave_r2) ++ wsX20)
def wsX2_pass_r1 : List Cond := [Cond.constantLong RX2 147 (30), Cond.fieldLink RX2 13 "CrowdReportsModel" "now" "[I", Cond.methodLink RX2 47 yX2_in, Cond.static yX2_in, Cond.initialized RX2, Cond.code yX2_in cX2_in 6 (some .boolean), Cond.methodLink RX2 144 yX2_note, Cond.instanceMethod yX2_note, Cond.selects RX2 yX2_note yX2_note, Cond.code yX2_note cX2_note 2 none, Cond.fieldLink RX2 19 "CrowdReportsModel" "diary" "[I", Cond.fieldLink RX2 141 "CrowdReportsModel" "next" "I", Cond.fieldLink RX2 132 "CrowdReportsModel" "acts" "I", Cond.methodLink RX2 108 yX2_passOn, Cond.static yX2_passOn, Cond.code yX2_passOn cX2_passOn 4 (some .int), Cond.methodLink RX2 94 yX2_lettersOf, Cond.static yX2_lettersOf, Cond.code yX2_lettersOf cX2_lettersOf 1 (some .int), Cond.methodLink RX2 97 yX2_tick, Cond.static yX2_tick, Cond.code yX2_tick cX2_tick 2 none, Cond.methodLink RX2 88 yX2_look, Cond.static yX2_look]
def wsX2_pass_r2 : List Cond := [Cond.code yX2_look cX2_look 4 none, Cond.methodLink RX2 76 yX2_countOf, Cond.static yX2_countOf, Cond.code yX2_countOf cX2_countOf 2 (some .int), Cond.methodLink RX2 51 yX2_ones, Cond.static yX2_ones, Cond.code yX2_ones cX2_ones 3 (some .int), Cond.methodLink RX2 79 yX2_waitOf, Cond.static yX2_waitOf, Cond.code yX2_waitOf cX2_waitOf 4 (some .int), Cond.methodLink RX2 56 yX2_spanOf, Cond.static yX2_spanOf, Cond.code yX2_spanOf cX2_spanOf 3 (some .int), Cond.methodLink RX2 60 yX2_draw, Cond.static yX2_draw, Cond.code yX2_draw cX2_draw 1 (some .int), Cond.constant RX2 55 (65536), Cond.methodLink RX2 85 yX2_report, Cond.static yX2_report, Cond.code yX2_report cX2_report 3 none, Cond.methodLink RX2 68 yX2_reaches, Cond.static yX2_reaches, Cond.code yX2_reaches cX2_reaches 3 (some .boolean), Cond.methodLink RX2 64 yX2_has]
def wsX2_pass_r3 : List Cond := [Cond.static yX2_has, Cond.code yX2_has cX2_has 2 (some .boolean), Cond.methodLink RX2 82 yX2_bye, Cond.static yX2_bye, Cond.code yX2_bye cX2_bye 7 none, Cond.methodLink RX2 72 yX2_goAway, Cond.static yX2_goAway, Cond.code yX2_goAway cX2_goAway 2 none, Cond.methodLink RX2 91 yX2_forget, Cond.static yX2_forget, Cond.code yX2_forget cX2_forget 5 none]
def wsX2_pass : List Cond := .code yX2_pass cX2_pass 2 (some .int) :: ((wsX2_pass_r1 ++ (wsX2_pass_r2 ++ wsX2_pass_r3)) ++ wsX20)
def wsX2_turn : List Cond := .code yX2_turn cX2_turn 3 (some .int) :: ([.fieldLink RX2 13 "CrowdReportsModel" "now" "[I", .methodLink RX2 114 yX2_isMember, .static yX2_isMember, .initialized RX2, .code yX2_isMember cX2_isMember 1 (some .boolean), .constantLong RX2 45 (5), .methodLink RX2 47 yX2_in, .static yX2_in, .code yX2_in cX2_in 6 (some .boolean), .methodLink RX2 144 yX2_note, .instanceMethod yX2_note, .selects RX2 yX2_note yX2_note, .code yX2_note cX2_note 2 none, .fieldLink RX2 19 "CrowdReportsModel" "diary" "[I", .fieldLink RX2 141 "CrowdReportsModel" "next" "I", .fieldLink RX2 132 "CrowdReportsModel" "acts" "I", .methodLink RX2 64 yX2_has, .static yX2_has, .code yX2_has cX2_has 2 (some .boolean)] ++ wsX20)
def wsX2_set : List Cond := .code yX2_set cX2_set 4 (some .int) :: ([.constantLong RX2 149 (2), .constantLong RX2 106 (9), .fieldLink RX2 13 "CrowdReportsModel" "now" "[I", .methodLink RX2 47 yX2_in, .static yX2_in, .initialized RX2, .code yX2_in cX2_in 6 (some .boolean), .methodLink RX2 144 yX2_note, .instanceMethod yX2_note, .selects RX2 yX2_note yX2_note, .code yX2_note cX2_note 2 none, .fieldLink RX2 19 "CrowdReportsModel" "diary" "[I", .fieldLink RX2 141 "CrowdReportsModel" "next" "I", .fieldLink RX2 132 "CrowdReportsModel" "acts" "I"] ++ wsX20)
def wsX2_undo : List Cond := .code yX2_undo cX2_undo 2 (some .int) :: ([.fieldLink RX2 132 "CrowdReportsModel" "acts" "I", .fieldLink RX2 141 "CrowdReportsModel" "next" "I", .fieldLink RX2 13 "CrowdReportsModel" "now" "[I", .fieldLink RX2 19 "CrowdReportsModel" "diary" "[I"] ++ wsX20)
def wsX2_ahead_r1 : List Cond := [Cond.constantLong RX2 151 (99), Cond.constantLong RX2 153 (3), Cond.fieldLink RX2 13 "CrowdReportsModel" "now" "[I", Cond.fieldLink RX2 16 "CrowdReportsModel" "trial" "[I", Cond.methodLink RX2 47 yX2_in, Cond.static yX2_in, Cond.initialized RX2, Cond.code yX2_in cX2_in 6 (some .boolean), Cond.methodLink RX2 128 yX2_copy, Cond.static yX2_copy, Cond.code yX2_copy cX2_copy 3 none, Cond.methodLink RX2 108 yX2_passOn, Cond.static yX2_passOn, Cond.code yX2_passOn cX2_passOn 4 (some .int), Cond.methodLink RX2 94 yX2_lettersOf, Cond.static yX2_lettersOf, Cond.code yX2_lettersOf cX2_lettersOf 1 (some .int), Cond.methodLink RX2 97 yX2_tick, Cond.static yX2_tick, Cond.code yX2_tick cX2_tick 2 none, Cond.methodLink RX2 88 yX2_look, Cond.static yX2_look, Cond.code yX2_look cX2_look 4 none, Cond.methodLink RX2 76 yX2_countOf]
def wsX2_ahead_r2 : List Cond := [Cond.static yX2_countOf, Cond.code yX2_countOf cX2_countOf 2 (some .int), Cond.methodLink RX2 51 yX2_ones, Cond.static yX2_ones, Cond.code yX2_ones cX2_ones 3 (some .int), Cond.methodLink RX2 79 yX2_waitOf, Cond.static yX2_waitOf, Cond.code yX2_waitOf cX2_waitOf 4 (some .int), Cond.methodLink RX2 56 yX2_spanOf, Cond.static yX2_spanOf, Cond.code yX2_spanOf cX2_spanOf 3 (some .int), Cond.methodLink RX2 60 yX2_draw, Cond.static yX2_draw, Cond.code yX2_draw cX2_draw 1 (some .int), Cond.constant RX2 55 (65536), Cond.methodLink RX2 85 yX2_report, Cond.static yX2_report, Cond.code yX2_report cX2_report 3 none, Cond.methodLink RX2 68 yX2_reaches, Cond.static yX2_reaches, Cond.code yX2_reaches cX2_reaches 3 (some .boolean), Cond.methodLink RX2 64 yX2_has, Cond.static yX2_has, Cond.code yX2_has cX2_has 2 (some .boolean)]
def wsX2_ahead_r3 : List Cond := [Cond.methodLink RX2 82 yX2_bye, Cond.static yX2_bye, Cond.code yX2_bye cX2_bye 7 none, Cond.methodLink RX2 72 yX2_goAway, Cond.static yX2_goAway, Cond.code yX2_goAway cX2_goAway 2 none, Cond.methodLink RX2 91 yX2_forget, Cond.static yX2_forget, Cond.code yX2_forget cX2_forget 5 none, Cond.methodLink RX2 111 yX2_those, Cond.static yX2_those, Cond.code yX2_those cX2_those 4 (some .int)]
def wsX2_ahead : List Cond := .code yX2_ahead cX2_ahead 4 (some .int) :: ((wsX2_ahead_r1 ++ (wsX2_ahead_r2 ++ wsX2_ahead_r3)) ++ wsX20)
def wsX2_crowd_r1 : List Cond := [Cond.constantLong RX2 151 (99), Cond.fieldLink RX2 13 "CrowdReportsModel" "now" "[I", Cond.fieldLink RX2 16 "CrowdReportsModel" "trial" "[I", Cond.methodLink RX2 47 yX2_in, Cond.static yX2_in, Cond.initialized RX2, Cond.code yX2_in cX2_in 6 (some .boolean), Cond.methodLink RX2 128 yX2_copy, Cond.static yX2_copy, Cond.code yX2_copy cX2_copy 3 none, Cond.methodLink RX2 108 yX2_passOn, Cond.static yX2_passOn, Cond.code yX2_passOn cX2_passOn 4 (some .int), Cond.methodLink RX2 94 yX2_lettersOf, Cond.static yX2_lettersOf, Cond.code yX2_lettersOf cX2_lettersOf 1 (some .int), Cond.methodLink RX2 97 yX2_tick, Cond.static yX2_tick, Cond.code yX2_tick cX2_tick 2 none, Cond.methodLink RX2 88 yX2_look, Cond.static yX2_look, Cond.code yX2_look cX2_look 4 none, Cond.methodLink RX2 76 yX2_countOf, Cond.static yX2_countOf]
def wsX2_crowd_r2 : List Cond := [Cond.code yX2_countOf cX2_countOf 2 (some .int), Cond.methodLink RX2 51 yX2_ones, Cond.static yX2_ones, Cond.code yX2_ones cX2_ones 3 (some .int), Cond.methodLink RX2 79 yX2_waitOf, Cond.static yX2_waitOf, Cond.code yX2_waitOf cX2_waitOf 4 (some .int), Cond.methodLink RX2 56 yX2_spanOf, Cond.static yX2_spanOf, Cond.code yX2_spanOf cX2_spanOf 3 (some .int), Cond.methodLink RX2 60 yX2_draw, Cond.static yX2_draw, Cond.code yX2_draw cX2_draw 1 (some .int), Cond.constant RX2 55 (65536), Cond.methodLink RX2 85 yX2_report, Cond.static yX2_report, Cond.code yX2_report cX2_report 3 none, Cond.methodLink RX2 68 yX2_reaches, Cond.static yX2_reaches, Cond.code yX2_reaches cX2_reaches 3 (some .boolean), Cond.methodLink RX2 64 yX2_has, Cond.static yX2_has, Cond.code yX2_has cX2_has 2 (some .boolean), Cond.methodLink RX2 82 yX2_bye]
def wsX2_crowd_r3 : List Cond := [Cond.static yX2_bye, Cond.code yX2_bye cX2_bye 7 none, Cond.methodLink RX2 72 yX2_goAway, Cond.static yX2_goAway, Cond.code yX2_goAway cX2_goAway 2 none, Cond.methodLink RX2 91 yX2_forget, Cond.static yX2_forget, Cond.code yX2_forget cX2_forget 5 none]
def wsX2_crowd : List Cond := .code yX2_crowd cX2_crowd 5 (some .int) :: ((wsX2_crowd_r1 ++ (wsX2_crowd_r2 ++ wsX2_crowd_r3)) ++ wsX20)
def wsX2_longPower : List Cond := .code yX2_longPower cX2_longPower 6 (some .long) :: ([])
def wsX2_jitter : List Cond := .code yX2_jitter cX2_jitter 9 (some .int) :: ([.constantLong RX2 155 (6), .constantLong RX2 157 (100), .methodLink RX2 47 yX2_in, .static yX2_in, .initialized RX2, .code yX2_in cX2_in 6 (some .boolean), .methodLink RX2 159 yX2_longPower, .static yX2_longPower, .code yX2_longPower cX2_longPower 6 (some .long)])
def wsX2_round : List Cond := .code yX2_round cX2_round 5 (some .int) :: ([.constantLong RX2 163 (9999), .methodLink RX2 47 yX2_in, .static yX2_in, .initialized RX2, .code yX2_in cX2_in 6 (some .boolean)])
def wsX2_judged_r1 : List Cond := [Cond.fieldLink RX2 16 "CrowdReportsModel" "trial" "[I", Cond.constantLong RX2 147 (30), Cond.methodLink RX2 114 yX2_isMember, Cond.static yX2_isMember, Cond.initialized RX2, Cond.code yX2_isMember cX2_isMember 1 (some .boolean), Cond.constantLong RX2 45 (5), Cond.methodLink RX2 47 yX2_in, Cond.static yX2_in, Cond.code yX2_in cX2_in 6 (some .boolean), Cond.methodLink RX2 118 yX2_joins, Cond.static yX2_joins, Cond.code yX2_joins cX2_joins 2 none, Cond.methodLink RX2 79 yX2_waitOf, Cond.static yX2_waitOf, Cond.code yX2_waitOf cX2_waitOf 4 (some .int), Cond.methodLink RX2 56 yX2_spanOf, Cond.static yX2_spanOf, Cond.code yX2_spanOf cX2_spanOf 3 (some .int), Cond.methodLink RX2 60 yX2_draw, Cond.static yX2_draw, Cond.code yX2_draw cX2_draw 1 (some .int), Cond.constant RX2 55 (65536), Cond.methodLink RX2 121 yX2_leaves]
def wsX2_judged_r2 : List Cond := [Cond.static yX2_leaves, Cond.code yX2_leaves cX2_leaves 2 none, Cond.methodLink RX2 76 yX2_countOf, Cond.static yX2_countOf, Cond.code yX2_countOf cX2_countOf 2 (some .int), Cond.methodLink RX2 51 yX2_ones, Cond.static yX2_ones, Cond.code yX2_ones cX2_ones 3 (some .int), Cond.methodLink RX2 82 yX2_bye, Cond.static yX2_bye, Cond.code yX2_bye cX2_bye 7 none, Cond.methodLink RX2 72 yX2_goAway, Cond.static yX2_goAway, Cond.code yX2_goAway cX2_goAway 2 none, Cond.methodLink RX2 68 yX2_reaches, Cond.static yX2_reaches, Cond.code yX2_reaches cX2_reaches 3 (some .boolean), Cond.methodLink RX2 64 yX2_has, Cond.static yX2_has, Cond.code yX2_has cX2_has 2 (some .boolean), Cond.methodLink RX2 108 yX2_passOn, Cond.static yX2_passOn, Cond.code yX2_passOn cX2_passOn 4 (some .int), Cond.methodLink RX2 94 yX2_lettersOf]
def wsX2_judged_r3 : List Cond := [Cond.static yX2_lettersOf, Cond.code yX2_lettersOf cX2_lettersOf 1 (some .int), Cond.methodLink RX2 97 yX2_tick, Cond.static yX2_tick, Cond.code yX2_tick cX2_tick 2 none, Cond.methodLink RX2 88 yX2_look, Cond.static yX2_look, Cond.code yX2_look cX2_look 4 none, Cond.methodLink RX2 85 yX2_report, Cond.static yX2_report, Cond.code yX2_report cX2_report 3 none, Cond.methodLink RX2 91 yX2_forget, Cond.static yX2_forget, Cond.code yX2_forget cX2_forget 5 none]
def wsX2_judged : List Cond := .code yX2_judged cX2_judged 6 (some .boolean) :: ((wsX2_judged_r1 ++ (wsX2_judged_r2 ++ wsX2_judged_r3)) ++ wsX20)
def wsX2_judge_r1 : List Cond := [Cond.constantLong RX2 165 (4), Cond.constantLong RX2 167 (1000), Cond.fieldLink RX2 13 "CrowdReportsModel" "now" "[I", Cond.fieldLink RX2 16 "CrowdReportsModel" "trial" "[I", Cond.methodLink RX2 47 yX2_in, Cond.static yX2_in, Cond.initialized RX2, Cond.code yX2_in cX2_in 6 (some .boolean), Cond.methodLink RX2 159 yX2_longPower, Cond.static yX2_longPower, Cond.code yX2_longPower cX2_longPower 6 (some .long), Cond.methodLink RX2 128 yX2_copy, Cond.static yX2_copy, Cond.code yX2_copy cX2_copy 3 none, Cond.methodLink RX2 169 yX2_judged, Cond.instanceMethod yX2_judged, Cond.selects RX2 yX2_judged yX2_judged, Cond.code yX2_judged cX2_judged 6 (some .boolean), Cond.constantLong RX2 147 (30), Cond.methodLink RX2 114 yX2_isMember, Cond.static yX2_isMember, Cond.code yX2_isMember cX2_isMember 1 (some .boolean), Cond.constantLong RX2 45 (5), Cond.methodLink RX2 118 yX2_joins]
def wsX2_judge_r2 : List Cond := [Cond.static yX2_joins, Cond.code yX2_joins cX2_joins 2 none, Cond.methodLink RX2 79 yX2_waitOf, Cond.static yX2_waitOf, Cond.code yX2_waitOf cX2_waitOf 4 (some .int), Cond.methodLink RX2 56 yX2_spanOf, Cond.static yX2_spanOf, Cond.code yX2_spanOf cX2_spanOf 3 (some .int), Cond.methodLink RX2 60 yX2_draw, Cond.static yX2_draw, Cond.code yX2_draw cX2_draw 1 (some .int), Cond.constant RX2 55 (65536), Cond.methodLink RX2 121 yX2_leaves, Cond.static yX2_leaves, Cond.code yX2_leaves cX2_leaves 2 none, Cond.methodLink RX2 76 yX2_countOf, Cond.static yX2_countOf, Cond.code yX2_countOf cX2_countOf 2 (some .int), Cond.methodLink RX2 51 yX2_ones, Cond.static yX2_ones, Cond.code yX2_ones cX2_ones 3 (some .int), Cond.methodLink RX2 82 yX2_bye, Cond.static yX2_bye, Cond.code yX2_bye cX2_bye 7 none]
def wsX2_judge_r3 : List Cond := [Cond.methodLink RX2 72 yX2_goAway, Cond.static yX2_goAway, Cond.code yX2_goAway cX2_goAway 2 none, Cond.methodLink RX2 68 yX2_reaches, Cond.static yX2_reaches, Cond.code yX2_reaches cX2_reaches 3 (some .boolean), Cond.methodLink RX2 64 yX2_has, Cond.static yX2_has, Cond.code yX2_has cX2_has 2 (some .boolean), Cond.methodLink RX2 108 yX2_passOn, Cond.static yX2_passOn, Cond.code yX2_passOn cX2_passOn 4 (some .int), Cond.methodLink RX2 94 yX2_lettersOf, Cond.static yX2_lettersOf, Cond.code yX2_lettersOf cX2_lettersOf 1 (some .int), Cond.methodLink RX2 97 yX2_tick, Cond.static yX2_tick, Cond.code yX2_tick cX2_tick 2 none, Cond.methodLink RX2 88 yX2_look, Cond.static yX2_look, Cond.code yX2_look cX2_look 4 none, Cond.methodLink RX2 85 yX2_report, Cond.static yX2_report, Cond.code yX2_report cX2_report 3 none]
def wsX2_judge_r4 : List Cond := [Cond.methodLink RX2 91 yX2_forget, Cond.static yX2_forget, Cond.code yX2_forget cX2_forget 5 none]
def wsX2_judge : List Cond := .code yX2_judge cX2_judge 6 (some .int) :: ((wsX2_judge_r1 ++ (wsX2_judge_r2 ++ (wsX2_judge_r3 ++ wsX2_judge_r4))) ++ wsX20)
def wsX2_see : List Cond := .code yX2_see cX2_see 3 (some .int) :: ([.constantLong RX2 173 (60), .constantLong RX2 151 (99), .fieldLink RX2 138 "CrowdReportsModel" "seen" "I", .fieldLink RX2 29 "CrowdReportsModel" "seenTicks" "[I", .fieldLink RX2 32 "CrowdReportsModel" "seenMany" "[I", .methodLink RX2 47 yX2_in, .static yX2_in, .initialized RX2, .code yX2_in cX2_in 6 (some .boolean)] ++ wsX20)
def wsX2_unsee : List Cond := .code yX2_unsee cX2_unsee 2 (some .int) :: ([.fieldLink RX2 138 "CrowdReportsModel" "seen" "I"] ++ wsX20)
def wsX2_which_r1 : List Cond := [Cond.fieldLink RX2 138 "CrowdReportsModel" "seen" "I", Cond.fieldLink RX2 13 "CrowdReportsModel" "now" "[I", Cond.fieldLink RX2 16 "CrowdReportsModel" "trial" "[I", Cond.fieldLink RX2 29 "CrowdReportsModel" "seenTicks" "[I", Cond.fieldLink RX2 32 "CrowdReportsModel" "seenMany" "[I", Cond.methodLink RX2 128 yX2_copy, Cond.static yX2_copy, Cond.initialized RX2, Cond.code yX2_copy cX2_copy 3 none, Cond.methodLink RX2 108 yX2_passOn, Cond.static yX2_passOn, Cond.code yX2_passOn cX2_passOn 4 (some .int), Cond.methodLink RX2 94 yX2_lettersOf, Cond.static yX2_lettersOf, Cond.code yX2_lettersOf cX2_lettersOf 1 (some .int), Cond.methodLink RX2 97 yX2_tick, Cond.static yX2_tick, Cond.code yX2_tick cX2_tick 2 none, Cond.methodLink RX2 88 yX2_look, Cond.static yX2_look, Cond.code yX2_look cX2_look 4 none, Cond.methodLink RX2 76 yX2_countOf, Cond.static yX2_countOf, Cond.code yX2_countOf cX2_countOf 2 (some .int)]
def wsX2_which_r2 : List Cond := [Cond.methodLink RX2 51 yX2_ones, Cond.static yX2_ones, Cond.code yX2_ones cX2_ones 3 (some .int), Cond.methodLink RX2 79 yX2_waitOf, Cond.static yX2_waitOf, Cond.code yX2_waitOf cX2_waitOf 4 (some .int), Cond.methodLink RX2 56 yX2_spanOf, Cond.static yX2_spanOf, Cond.code yX2_spanOf cX2_spanOf 3 (some .int), Cond.methodLink RX2 60 yX2_draw, Cond.static yX2_draw, Cond.code yX2_draw cX2_draw 1 (some .int), Cond.constant RX2 55 (65536), Cond.methodLink RX2 85 yX2_report, Cond.static yX2_report, Cond.code yX2_report cX2_report 3 none, Cond.methodLink RX2 68 yX2_reaches, Cond.static yX2_reaches, Cond.code yX2_reaches cX2_reaches 3 (some .boolean), Cond.methodLink RX2 64 yX2_has, Cond.static yX2_has, Cond.code yX2_has cX2_has 2 (some .boolean), Cond.methodLink RX2 82 yX2_bye, Cond.static yX2_bye]
def wsX2_which_r3 : List Cond := [Cond.code yX2_bye cX2_bye 7 none, Cond.methodLink RX2 72 yX2_goAway, Cond.static yX2_goAway, Cond.code yX2_goAway cX2_goAway 2 none, Cond.methodLink RX2 91 yX2_forget, Cond.static yX2_forget, Cond.code yX2_forget cX2_forget 5 none]
def wsX2_which : List Cond := .code yX2_which cX2_which 5 (some .int) :: ((wsX2_which_r1 ++ (wsX2_which_r2 ++ wsX2_which_r3)) ++ wsX20)
def wsX2_lettersBy_r1 : List Cond := [Cond.fieldLink RX2 13 "CrowdReportsModel" "now" "[I", Cond.fieldLink RX2 16 "CrowdReportsModel" "trial" "[I", Cond.methodLink RX2 128 yX2_copy, Cond.static yX2_copy, Cond.initialized RX2, Cond.code yX2_copy cX2_copy 3 none, Cond.methodLink RX2 64 yX2_has, Cond.static yX2_has, Cond.code yX2_has cX2_has 2 (some .boolean), Cond.methodLink RX2 72 yX2_goAway, Cond.static yX2_goAway, Cond.code yX2_goAway cX2_goAway 2 none, Cond.methodLink RX2 108 yX2_passOn, Cond.static yX2_passOn, Cond.code yX2_passOn cX2_passOn 4 (some .int), Cond.methodLink RX2 94 yX2_lettersOf, Cond.static yX2_lettersOf, Cond.code yX2_lettersOf cX2_lettersOf 1 (some .int), Cond.methodLink RX2 97 yX2_tick, Cond.static yX2_tick, Cond.code yX2_tick cX2_tick 2 none, Cond.methodLink RX2 88 yX2_look, Cond.static yX2_look, Cond.code yX2_look cX2_look 4 none]
def wsX2_lettersBy_r2 : List Cond := [Cond.methodLink RX2 76 yX2_countOf, Cond.static yX2_countOf, Cond.code yX2_countOf cX2_countOf 2 (some .int), Cond.methodLink RX2 51 yX2_ones, Cond.static yX2_ones, Cond.code yX2_ones cX2_ones 3 (some .int), Cond.methodLink RX2 79 yX2_waitOf, Cond.static yX2_waitOf, Cond.code yX2_waitOf cX2_waitOf 4 (some .int), Cond.methodLink RX2 56 yX2_spanOf, Cond.static yX2_spanOf, Cond.code yX2_spanOf cX2_spanOf 3 (some .int), Cond.methodLink RX2 60 yX2_draw, Cond.static yX2_draw, Cond.code yX2_draw cX2_draw 1 (some .int), Cond.constant RX2 55 (65536), Cond.methodLink RX2 85 yX2_report, Cond.static yX2_report, Cond.code yX2_report cX2_report 3 none, Cond.methodLink RX2 68 yX2_reaches, Cond.static yX2_reaches, Cond.code yX2_reaches cX2_reaches 3 (some .boolean), Cond.methodLink RX2 82 yX2_bye, Cond.static yX2_bye]
def wsX2_lettersBy_r3 : List Cond := [Cond.code yX2_bye cX2_bye 7 none, Cond.methodLink RX2 91 yX2_forget, Cond.static yX2_forget, Cond.code yX2_forget cX2_forget 5 none]
def wsX2_lettersBy : List Cond := .code yX2_lettersBy cX2_lettersBy 4 (some .int) :: ((wsX2_lettersBy_r1 ++ (wsX2_lettersBy_r2 ++ wsX2_lettersBy_r3)) ++ wsX20)
def wsX2_share_r1 : List Cond := [Cond.fieldLink RX2 35 "CrowdReportsModel" "worth" "[I", Cond.methodLink RX2 114 yX2_isMember, Cond.static yX2_isMember, Cond.initialized RX2, Cond.code yX2_isMember cX2_isMember 1 (some .boolean), Cond.constantLong RX2 45 (5), Cond.methodLink RX2 47 yX2_in, Cond.static yX2_in, Cond.code yX2_in cX2_in 6 (some .boolean), Cond.methodLink RX2 175 yX2_lettersBy, Cond.instanceMethod yX2_lettersBy, Cond.selects RX2 yX2_lettersBy yX2_lettersBy, Cond.code yX2_lettersBy cX2_lettersBy 4 (some .int), Cond.fieldLink RX2 13 "CrowdReportsModel" "now" "[I", Cond.fieldLink RX2 16 "CrowdReportsModel" "trial" "[I", Cond.methodLink RX2 128 yX2_copy, Cond.static yX2_copy, Cond.code yX2_copy cX2_copy 3 none, Cond.methodLink RX2 64 yX2_has, Cond.static yX2_has, Cond.code yX2_has cX2_has 2 (some .boolean), Cond.methodLink RX2 72 yX2_goAway, Cond.static yX2_goAway, Cond.code yX2_goAway cX2_goAway 2 none]
def wsX2_share_r2 : List Cond := [Cond.methodLink RX2 108 yX2_passOn, Cond.static yX2_passOn, Cond.code yX2_passOn cX2_passOn 4 (some .int), Cond.methodLink RX2 94 yX2_lettersOf, Cond.static yX2_lettersOf, Cond.code yX2_lettersOf cX2_lettersOf 1 (some .int), Cond.methodLink RX2 97 yX2_tick, Cond.static yX2_tick, Cond.code yX2_tick cX2_tick 2 none, Cond.methodLink RX2 88 yX2_look, Cond.static yX2_look, Cond.code yX2_look cX2_look 4 none, Cond.methodLink RX2 76 yX2_countOf, Cond.static yX2_countOf, Cond.code yX2_countOf cX2_countOf 2 (some .int), Cond.methodLink RX2 51 yX2_ones, Cond.static yX2_ones, Cond.code yX2_ones cX2_ones 3 (some .int), Cond.methodLink RX2 79 yX2_waitOf, Cond.static yX2_waitOf, Cond.code yX2_waitOf cX2_waitOf 4 (some .int), Cond.methodLink RX2 56 yX2_spanOf, Cond.static yX2_spanOf, Cond.code yX2_spanOf cX2_spanOf 3 (some .int)]
def wsX2_share_r3 : List Cond := [Cond.methodLink RX2 60 yX2_draw, Cond.static yX2_draw, Cond.code yX2_draw cX2_draw 1 (some .int), Cond.constant RX2 55 (65536), Cond.methodLink RX2 85 yX2_report, Cond.static yX2_report, Cond.code yX2_report cX2_report 3 none, Cond.methodLink RX2 68 yX2_reaches, Cond.static yX2_reaches, Cond.code yX2_reaches cX2_reaches 3 (some .boolean), Cond.methodLink RX2 82 yX2_bye, Cond.static yX2_bye, Cond.code yX2_bye cX2_bye 7 none, Cond.methodLink RX2 91 yX2_forget, Cond.static yX2_forget, Cond.code yX2_forget cX2_forget 5 none, Cond.methodLink RX2 179 yX2_factorial, Cond.static yX2_factorial, Cond.code yX2_factorial cX2_factorial 3 (some .int), Cond.methodLink RX2 182 yX2_fraction, Cond.static yX2_fraction, Cond.code yX2_fraction cX2_fraction 6 (some .int)]
def wsX2_share : List Cond := .code yX2_share cX2_share 6 (some .int) :: ((wsX2_share_r1 ++ (wsX2_share_r2 ++ wsX2_share_r3)) ++ wsX20)
def wsX2_chance_r1 : List Cond := [Cond.constantLong RX2 151 (99), Cond.constantLong RX2 186 (10), Cond.methodLink RX2 47 yX2_in, Cond.static yX2_in, Cond.initialized RX2, Cond.code yX2_in cX2_in 6 (some .boolean), Cond.methodLink RX2 51 yX2_ones, Cond.static yX2_ones, Cond.code yX2_ones cX2_ones 3 (some .int), Cond.methodLink RX2 175 yX2_lettersBy, Cond.instanceMethod yX2_lettersBy, Cond.selects RX2 yX2_lettersBy yX2_lettersBy, Cond.code yX2_lettersBy cX2_lettersBy 4 (some .int), Cond.fieldLink RX2 13 "CrowdReportsModel" "now" "[I", Cond.fieldLink RX2 16 "CrowdReportsModel" "trial" "[I", Cond.methodLink RX2 128 yX2_copy, Cond.static yX2_copy, Cond.code yX2_copy cX2_copy 3 none, Cond.methodLink RX2 64 yX2_has, Cond.static yX2_has, Cond.code yX2_has cX2_has 2 (some .boolean), Cond.methodLink RX2 72 yX2_goAway, Cond.static yX2_goAway, Cond.code yX2_goAway cX2_goAway 2 none]
def wsX2_chance_r2 : List Cond := [Cond.methodLink RX2 108 yX2_passOn, Cond.static yX2_passOn, Cond.code yX2_passOn cX2_passOn 4 (some .int), Cond.methodLink RX2 94 yX2_lettersOf, Cond.static yX2_lettersOf, Cond.code yX2_lettersOf cX2_lettersOf 1 (some .int), Cond.methodLink RX2 97 yX2_tick, Cond.static yX2_tick, Cond.code yX2_tick cX2_tick 2 none, Cond.methodLink RX2 88 yX2_look, Cond.static yX2_look, Cond.code yX2_look cX2_look 4 none, Cond.methodLink RX2 76 yX2_countOf, Cond.static yX2_countOf, Cond.code yX2_countOf cX2_countOf 2 (some .int), Cond.methodLink RX2 79 yX2_waitOf, Cond.static yX2_waitOf, Cond.code yX2_waitOf cX2_waitOf 4 (some .int), Cond.methodLink RX2 56 yX2_spanOf, Cond.static yX2_spanOf, Cond.code yX2_spanOf cX2_spanOf 3 (some .int), Cond.methodLink RX2 60 yX2_draw, Cond.static yX2_draw, Cond.code yX2_draw cX2_draw 1 (some .int)]
def wsX2_chance_r3 : List Cond := [Cond.constant RX2 55 (65536), Cond.methodLink RX2 85 yX2_report, Cond.static yX2_report, Cond.code yX2_report cX2_report 3 none, Cond.methodLink RX2 68 yX2_reaches, Cond.static yX2_reaches, Cond.code yX2_reaches cX2_reaches 3 (some .boolean), Cond.methodLink RX2 82 yX2_bye, Cond.static yX2_bye, Cond.code yX2_bye cX2_bye 7 none, Cond.methodLink RX2 91 yX2_forget, Cond.static yX2_forget, Cond.code yX2_forget cX2_forget 5 none, Cond.methodLink RX2 188 yX2_power, Cond.static yX2_power, Cond.code yX2_power cX2_power 4 (some .int), Cond.methodLink RX2 182 yX2_fraction, Cond.static yX2_fraction, Cond.code yX2_fraction cX2_fraction 6 (some .int)]
def wsX2_chance : List Cond := .code yX2_chance cX2_chance 7 (some .int) :: ((wsX2_chance_r1 ++ (wsX2_chance_r2 ++ wsX2_chance_r3)) ++ wsX20)
def wsX2_seed : List Cond := .code yX2_seed cX2_seed 5 (some .long) :: ([.fieldLink RX2 191 "CrowdReportsModel" "seed" "J"] ++ wsX20)
def wsX2_drawn_r1 : List Cond := [Cond.constantLong RX2 195 (40), Cond.fieldLink RX2 13 "CrowdReportsModel" "now" "[I", Cond.fieldLink RX2 16 "CrowdReportsModel" "trial" "[I", Cond.fieldLink RX2 191 "CrowdReportsModel" "seed" "J", Cond.constantLong RX2 197 (6364136223846793005), Cond.constantLong RX2 199 (1442695040888963407), Cond.methodLink RX2 47 yX2_in, Cond.static yX2_in, Cond.initialized RX2, Cond.code yX2_in cX2_in 6 (some .boolean), Cond.methodLink RX2 128 yX2_copy, Cond.static yX2_copy, Cond.code yX2_copy cX2_copy 3 none, Cond.methodLink RX2 118 yX2_joins, Cond.static yX2_joins, Cond.code yX2_joins cX2_joins 2 none, Cond.methodLink RX2 79 yX2_waitOf, Cond.static yX2_waitOf, Cond.code yX2_waitOf cX2_waitOf 4 (some .int), Cond.methodLink RX2 56 yX2_spanOf, Cond.static yX2_spanOf, Cond.code yX2_spanOf cX2_spanOf 3 (some .int), Cond.methodLink RX2 60 yX2_draw, Cond.static yX2_draw]
def wsX2_drawn_r2 : List Cond := [Cond.code yX2_draw cX2_draw 1 (some .int), Cond.constant RX2 55 (65536), Cond.methodLink RX2 121 yX2_leaves, Cond.static yX2_leaves, Cond.code yX2_leaves cX2_leaves 2 none, Cond.methodLink RX2 76 yX2_countOf, Cond.static yX2_countOf, Cond.code yX2_countOf cX2_countOf 2 (some .int), Cond.methodLink RX2 51 yX2_ones, Cond.static yX2_ones, Cond.code yX2_ones cX2_ones 3 (some .int), Cond.methodLink RX2 82 yX2_bye, Cond.static yX2_bye, Cond.code yX2_bye cX2_bye 7 none, Cond.methodLink RX2 72 yX2_goAway, Cond.static yX2_goAway, Cond.code yX2_goAway cX2_goAway 2 none, Cond.methodLink RX2 68 yX2_reaches, Cond.static yX2_reaches, Cond.code yX2_reaches cX2_reaches 3 (some .boolean), Cond.methodLink RX2 64 yX2_has, Cond.static yX2_has, Cond.code yX2_has cX2_has 2 (some .boolean), Cond.methodLink RX2 97 yX2_tick]
def wsX2_drawn_r3 : List Cond := [Cond.static yX2_tick, Cond.code yX2_tick cX2_tick 2 none, Cond.methodLink RX2 88 yX2_look, Cond.static yX2_look, Cond.code yX2_look cX2_look 4 none, Cond.methodLink RX2 85 yX2_report, Cond.static yX2_report, Cond.code yX2_report cX2_report 3 none, Cond.methodLink RX2 91 yX2_forget, Cond.static yX2_forget, Cond.code yX2_forget cX2_forget 5 none, Cond.methodLink RX2 94 yX2_lettersOf, Cond.static yX2_lettersOf, Cond.code yX2_lettersOf cX2_lettersOf 1 (some .int)]
def wsX2_drawn : List Cond := .code yX2_drawn cX2_drawn 5 (some .int) :: ((wsX2_drawn_r1 ++ (wsX2_drawn_r2 ++ wsX2_drawn_r3)) ++ wsX20)
def wsX2_keep : List Cond := .code yX2_keep cX2_keep 3 (some .int) :: ([.fieldLink RX2 25 "CrowdReportsModel" "isKept" "[Z", .fieldLink RX2 22 "CrowdReportsModel" "kept" "[I", .fieldLink RX2 13 "CrowdReportsModel" "now" "[I", .methodLink RX2 47 yX2_in, .static yX2_in, .initialized RX2, .code yX2_in cX2_in 6 (some .boolean)] ++ wsX20)
def wsX2_again : List Cond := .code yX2_again cX2_again 3 (some .int) :: ([.fieldLink RX2 25 "CrowdReportsModel" "isKept" "[Z", .fieldLink RX2 13 "CrowdReportsModel" "now" "[I", .fieldLink RX2 22 "CrowdReportsModel" "kept" "[I", .fieldLink RX2 132 "CrowdReportsModel" "acts" "I", .methodLink RX2 47 yX2_in, .static yX2_in, .initialized RX2, .code yX2_in cX2_in 6 (some .boolean)] ++ wsX20)
def wsJ9_abs_0f7a4 : List Cond := .code yJ9_abs_0f7a4 cJ9_abs_0f7a4 1 (some .int) :: ([])
def wsJ9_max_7cf53 : List Cond := .code yJ9_max_7cf53 cJ9_max_7cf53 2 (some .int) :: ([])
def wsL_law_r1 : List Cond := [Cond.classLink RL 7 RX1, Cond.instantiable RX1 13, Cond.initialized RX1, Cond.classLink RL 10 RX2, Cond.instantiable RX2 15, Cond.initialized RX2, Cond.constantLong RL 80 (4294967295), Cond.methodLink RL 9 yX1_init, Cond.instanceMethod yX1_init, Cond.code yX1_init cX1_init 2 none, Cond.methodLink RX1 1 objectInit, Cond.instanceMethod objectInit, Cond.code objectInit ⟨#[0xb1]⟩ 1 none, Cond.classLink RX1 7 RX0, Cond.instantiable RX0 14, Cond.initialized RX0, Cond.fieldLink RX1 10 "CrowdReports" "now" "LCrowdReports$Crowd;", Cond.fieldLink RX1 16 "CrowdReports" "trial" "LCrowdReports$Crowd;", Cond.fieldLink RX1 19 "CrowdReports" "past" "[LCrowdReports$Crowd;", Cond.fieldLink RX1 23 "CrowdReports" "acts" "I", Cond.fieldLink RX1 27 "CrowdReports" "slots" "[LCrowdReports$Crowd;", Cond.fieldLink RX1 30 "CrowdReports" "keptBits" "I", Cond.arrayClass .int, Cond.fieldLink RX1 33 "CrowdReports" "text" "[I"]
def wsL_law_r2 : List Cond := [Cond.fieldLink RX1 37 "CrowdReports" "letters" "I", Cond.fieldLink RX1 40 "CrowdReports" "seenTicks" "[I", Cond.fieldLink RX1 43 "CrowdReports" "seenLetters" "[I", Cond.fieldLink RX1 46 "CrowdReports" "seen" "I", Cond.fieldLink RX1 49 "CrowdReports" "lastSeed" "J", Cond.fieldLink RX1 53 "CrowdReports" "sentBy" "[I", Cond.instanceMethod yX0_init, Cond.code yX0_init cX0_init 1 none, Cond.methodLink RX0 3 objectInit, Cond.fieldLink RX0 9 "CrowdReports$Crowd" "size" "I", Cond.fieldLink RX0 15 "CrowdReports$Crowd" "rate" "I", Cond.fieldLink RX0 18 "CrowdReports$Crowd" "min" "I", Cond.fieldLink RX0 21 "CrowdReports$Crowd" "clock" "I", Cond.fieldLink RX0 24 "CrowdReports$Crowd" "lot" "I", Cond.fieldLink RX0 27 "CrowdReports$Crowd" "reports" "I", Cond.fieldLink RX0 30 "CrowdReports$Crowd" "byes" "I", Cond.fieldLink RX0 33 "CrowdReports$Crowd" "kind" "[I", Cond.fieldLink RX0 37 "CrowdReports$Crowd" "known" "[I", Cond.fieldLink RX0 40 "CrowdReports$Crowd" "begun" "[I", Cond.fieldLink RX0 43 "CrowdReports$Crowd" "due" "[I", Cond.fieldLink RX0 46 "CrowdReports$Crowd" "goers" "[I", Cond.fieldLink RX0 49 "CrowdReports$Crowd" "shut" "[I", Cond.fieldLink RX0 52 "CrowdReports$Crowd" "lastHeard" "[I", Cond.methodLink RL 12 yX2_init]
def wsL_law_r3 : List Cond := [Cond.instanceMethod yX2_init, Cond.code yX2_init cX2_init 1 none, Cond.methodLink RX2 1 objectInit, Cond.fieldLink RX2 7 "CrowdReportsModel" "text" "[I", Cond.fieldLink RX2 13 "CrowdReportsModel" "now" "[I", Cond.fieldLink RX2 16 "CrowdReportsModel" "trial" "[I", Cond.fieldLink RX2 19 "CrowdReportsModel" "diary" "[I", Cond.fieldLink RX2 22 "CrowdReportsModel" "kept" "[I", Cond.arrayClass .boolean, Cond.fieldLink RX2 25 "CrowdReportsModel" "isKept" "[Z", Cond.fieldLink RX2 29 "CrowdReportsModel" "seenTicks" "[I", Cond.fieldLink RX2 32 "CrowdReportsModel" "seenMany" "[I", Cond.fieldLink RX2 35 "CrowdReportsModel" "worth" "[I", Cond.fieldLink RX2 38 "CrowdReportsModel" "read" "[I", Cond.methodLink RX2 41 yX2_clear, Cond.static yX2_clear, Cond.code yX2_clear cX2_clear 2 none, Cond.methodLink RL 13 yX1_write, Cond.instanceMethod yX1_write, Cond.selects RX1 yX1_write yX1_write, Cond.code yX1_write cX1_write 2 (some .int), Cond.methodLink RL 17 yX2_write, Cond.instanceMethod yX2_write, Cond.selects RX2 yX2_write yX2_write]
def wsL_law_r4 : List Cond := [Cond.code yX2_write cX2_write 2 (some .int), Cond.constantLong RX2 100 (255), Cond.fieldLink RX2 102 "CrowdReportsModel" "length" "I", Cond.methodLink RX2 47 yX2_in, Cond.static yX2_in, Cond.code yX2_in cX2_in 6 (some .boolean), Cond.methodLink RL 18 yX1_wipe, Cond.instanceMethod yX1_wipe, Cond.selects RX1 yX1_wipe yX1_wipe, Cond.code yX1_wipe cX1_wipe 2 (some .int), Cond.methodLink RL 22 yX2_wipe, Cond.instanceMethod yX2_wipe, Cond.selects RX2 yX2_wipe yX2_wipe, Cond.code yX2_wipe cX2_wipe 2 (some .int), Cond.methodLink RL 23 yX1_fault, Cond.instanceMethod yX1_fault, Cond.selects RX1 yX1_fault yX1_fault, Cond.code yX1_fault cX1_fault 1 (some .int), Cond.methodLink RX1 56 yX1_readText, Cond.instanceMethod yX1_readText, Cond.selects RX1 yX1_readText yX1_readText, Cond.code yX1_readText cX1_readText 7 (some .int), Cond.methodLink RX1 203 yX1_readHead, Cond.instanceMethod yX1_readHead]
def wsL_law_r5 : List Cond := [Cond.selects RX1 yX1_readHead yX1_readHead, Cond.code yX1_readHead cX1_readHead 3 (some .int), Cond.fieldLink RX1 67 "CrowdReports$Crowd" "size" "I", Cond.fieldLink RX1 70 "CrowdReports$Crowd" "rate" "I", Cond.fieldLink RX1 73 "CrowdReports$Crowd" "min" "I", Cond.fieldLink RX1 76 "CrowdReports$Crowd" "lot" "I", Cond.methodLink RX1 206 yX1_isFigure, Cond.static yX1_isFigure, Cond.code yX1_isFigure cX1_isFigure 2 (some .boolean), Cond.methodLink RX1 212 yX0_restart, Cond.instanceMethod yX0_restart, Cond.selects RX0 yX0_restart yX0_restart, Cond.code yX0_restart cX0_restart 2 none, Cond.methodLink RX0 55 yX0_goAway, Cond.instanceMethod yX0_goAway, Cond.selects RX0 yX0_goAway yX0_goAway, Cond.code yX0_goAway cX0_goAway 2 none, Cond.methodLink RX1 127 yX0_enter, Cond.instanceMethod yX0_enter, Cond.selects RX0 yX0_enter yX0_enter, Cond.code yX0_enter cX0_enter 2 (some .boolean), Cond.static yX1_isMember, Cond.code yX1_isMember cX1_isMember 1 (some .boolean), Cond.methodLink RX0 94 yX0_begin]
def wsL_law_r6 : List Cond := [Cond.instanceMethod yX0_begin, Cond.selects RX0 yX0_begin yX0_begin, Cond.code yX0_begin cX0_begin 2 none, Cond.methodLink RX0 87 yX0_waitOf, Cond.instanceMethod yX0_waitOf, Cond.selects RX0 yX0_waitOf yX0_waitOf, Cond.code yX0_waitOf cX0_waitOf 3 (some .int), Cond.constant RX0 83 (65536), Cond.methodLink RX0 77 Lib.Math.max.name, Cond.static Lib.Math.max.name, Cond.initialized "java/lang/Math", Cond.code Lib.Math.max.name Lib.Math.max.code 2 (some .int), Cond.methodLink RX0 84 yX0_spanOf, Cond.instanceMethod yX0_spanOf, Cond.selects RX0 yX0_spanOf yX0_spanOf, Cond.code yX0_spanOf cX0_spanOf 3 (some .int), Cond.methodLink RX1 130 yX0_depart, Cond.instanceMethod yX0_depart, Cond.selects RX0 yX0_depart yX0_depart, Cond.code yX0_depart cX0_depart 2 (some .boolean), Cond.methodLink RX0 71 yX0_countOf, Cond.instanceMethod yX0_countOf, Cond.selects RX0 yX0_countOf yX0_countOf, Cond.code yX0_countOf cX0_countOf 2 (some .int)]
def wsL_law_r7 : List Cond := [Cond.methodLink RX0 65 yJ6_bitCount_0f7a4, Cond.static yJ6_bitCount_0f7a4, Cond.initialized RJ6, Cond.code yJ6_bitCount_0f7a4 cJ6_bitCount_0f7a4 1 (some .int), Cond.constant RJ6 265 (1431655765), Cond.constant RJ6 266 (858993459), Cond.constant RJ6 267 (252645135), Cond.methodLink RX0 97 yX0_sendBye, Cond.instanceMethod yX0_sendBye, Cond.selects RX0 yX0_sendBye yX0_sendBye, Cond.code yX0_sendBye cX0_sendBye 3 none, Cond.methodLink RX0 126 yX0_reaches, Cond.instanceMethod yX0_reaches, Cond.selects RX0 yX0_reaches yX0_reaches, Cond.code yX0_reaches cX0_reaches 3 (some .boolean), Cond.methodLink RX0 123 yX0_isOpen, Cond.instanceMethod yX0_isOpen, Cond.selects RX0 yX0_isOpen yX0_isOpen, Cond.code yX0_isOpen cX0_isOpen 3 (some .boolean), Cond.methodLink RX0 129 yX0_hearBye, Cond.instanceMethod yX0_hearBye, Cond.selects RX0 yX0_hearBye yX0_hearBye, Cond.code yX0_hearBye cX0_hearBye 5 none, Cond.methodLink RX0 119 yX0_knows]
def wsL_law_r8 : List Cond := [Cond.instanceMethod yX0_knows, Cond.selects RX0 yX0_knows yX0_knows, Cond.code yX0_knows cX0_knows 3 (some .boolean), Cond.methodLink RX1 133 yX0_run, Cond.instanceMethod yX0_run, Cond.selects RX0 yX0_run yX0_run, Cond.code yX0_run cX0_run 5 (some .int), Cond.methodLink RX0 106 yX0_sent, Cond.instanceMethod yX0_sent, Cond.selects RX0 yX0_sent yX0_sent, Cond.code yX0_sent cX0_sent 1 (some .int), Cond.methodLink RX0 110 yX0_comeDue, Cond.instanceMethod yX0_comeDue, Cond.selects RX0 yX0_comeDue yX0_comeDue, Cond.code yX0_comeDue cX0_comeDue 4 none, Cond.methodLink RX0 116 yX0_sendReport, Cond.instanceMethod yX0_sendReport, Cond.selects RX0 yX0_sendReport yX0_sendReport, Cond.code yX0_sendReport cX0_sendReport 3 none, Cond.methodLink RX0 113 yX0_forgetOld, Cond.instanceMethod yX0_forgetOld, Cond.selects RX0 yX0_forgetOld yX0_forgetOld, Cond.code yX0_forgetOld cX0_forgetOld 5 none, Cond.methodLink RX1 209 yX1_canBegin]
def wsL_law_r9 : List Cond := [Cond.instanceMethod yX1_canBegin, Cond.selects RX1 yX1_canBegin yX1_canBegin, Cond.code yX1_canBegin cX1_canBegin 2 (some .boolean), Cond.methodLink RX1 85 yX0_bitsOf, Cond.instanceMethod yX0_bitsOf, Cond.selects RX0 yX0_bitsOf yX0_bitsOf, Cond.code yX0_bitsOf cX0_bitsOf 4 (some .int), Cond.methodLink RL 26 yX2_fault, Cond.instanceMethod yX2_fault, Cond.selects RX2 yX2_fault yX2_fault, Cond.code yX2_fault cX2_fault 1 (some .int), Cond.methodLink RX2 124 yX2_readText, Cond.instanceMethod yX2_readText, Cond.selects RX2 yX2_readText yX2_readText, Cond.code yX2_readText cX2_readText 7 (some .int), Cond.constantLong RX2 106 (9), Cond.methodLink RX2 108 yX2_passOn, Cond.static yX2_passOn, Cond.code yX2_passOn cX2_passOn 4 (some .int), Cond.methodLink RX2 94 yX2_lettersOf, Cond.static yX2_lettersOf, Cond.code yX2_lettersOf cX2_lettersOf 1 (some .int), Cond.methodLink RX2 97 yX2_tick, Cond.static yX2_tick]
def wsL_law_r10 : List Cond := [Cond.code yX2_tick cX2_tick 2 none, Cond.methodLink RX2 88 yX2_look, Cond.static yX2_look, Cond.code yX2_look cX2_look 4 none, Cond.methodLink RX2 76 yX2_countOf, Cond.static yX2_countOf, Cond.code yX2_countOf cX2_countOf 2 (some .int), Cond.methodLink RX2 51 yX2_ones, Cond.static yX2_ones, Cond.code yX2_ones cX2_ones 3 (some .int), Cond.methodLink RX2 79 yX2_waitOf, Cond.static yX2_waitOf, Cond.code yX2_waitOf cX2_waitOf 4 (some .int), Cond.methodLink RX2 56 yX2_spanOf, Cond.static yX2_spanOf, Cond.code yX2_spanOf cX2_spanOf 3 (some .int), Cond.methodLink RX2 60 yX2_draw, Cond.static yX2_draw, Cond.code yX2_draw cX2_draw 1 (some .int), Cond.constant RX2 55 (65536), Cond.methodLink RX2 85 yX2_report, Cond.static yX2_report, Cond.code yX2_report cX2_report 3 none, Cond.methodLink RX2 68 yX2_reaches]
def wsL_law_r11 : List Cond := [Cond.static yX2_reaches, Cond.code yX2_reaches cX2_reaches 3 (some .boolean), Cond.methodLink RX2 64 yX2_has, Cond.static yX2_has, Cond.code yX2_has cX2_has 2 (some .boolean), Cond.methodLink RX2 82 yX2_bye, Cond.static yX2_bye, Cond.code yX2_bye cX2_bye 7 none, Cond.methodLink RX2 72 yX2_goAway, Cond.static yX2_goAway, Cond.code yX2_goAway cX2_goAway 2 none, Cond.methodLink RX2 91 yX2_forget, Cond.static yX2_forget, Cond.code yX2_forget cX2_forget 5 none, Cond.methodLink RX2 111 yX2_those, Cond.static yX2_those, Cond.code yX2_those cX2_those 4 (some .int), Cond.methodLink RX2 114 yX2_isMember, Cond.static yX2_isMember, Cond.code yX2_isMember cX2_isMember 1 (some .boolean), Cond.constantLong RX2 45 (5), Cond.methodLink RX2 118 yX2_joins, Cond.static yX2_joins, Cond.code yX2_joins cX2_joins 2 none]
def wsL_law_r12 : List Cond := [Cond.methodLink RX2 121 yX2_leaves, Cond.static yX2_leaves, Cond.code yX2_leaves cX2_leaves 2 none, Cond.methodLink RL 27 yX1_meeting, Cond.instanceMethod yX1_meeting, Cond.selects RX1 yX1_meeting yX1_meeting, Cond.code yX1_meeting cX1_meeting 1 (some .int), Cond.fieldLink RX1 64 "CrowdReports$Crowd" "clock" "I", Cond.methodLink RX1 60 yX0_takeFrom, Cond.instanceMethod yX0_takeFrom, Cond.selects RX0 yX0_takeFrom yX0_takeFrom, Cond.code yX0_takeFrom cX0_takeFrom 2 none, Cond.methodLink RX0 59 arraycopyName, Cond.native arraycopyName, Cond.static arraycopyName, Cond.initialized "java/lang/System", Cond.methodLink RL 30 yX2_meeting, Cond.instanceMethod yX2_meeting, Cond.selects RX2 yX2_meeting yX2_meeting, Cond.code yX2_meeting cX2_meeting 1 (some .int), Cond.fieldLink RX2 132 "CrowdReportsModel" "acts" "I", Cond.methodLink RX2 128 yX2_copy, Cond.static yX2_copy, Cond.code yX2_copy cX2_copy 3 none]
def wsL_law_r13 : List Cond := [Cond.methodLink RL 31 yX1_about, Cond.instanceMethod yX1_about, Cond.selects RX1 yX1_about yX1_about, Cond.code yX1_about cX1_about 2 (some .int), Cond.fieldLink RX1 79 "CrowdReports$Crowd" "reports" "I", Cond.fieldLink RX1 82 "CrowdReports$Crowd" "byes" "I", Cond.methodLink RX1 89 yX1_restAt, Cond.instanceMethod yX1_restAt, Cond.selects RX1 yX1_restAt yX1_restAt, Cond.code yX1_restAt cX1_restAt 2 (some .int), Cond.methodLink RX1 215 yX0_isAtRest, Cond.instanceMethod yX0_isAtRest, Cond.selects RX0 yX0_isAtRest yX0_isAtRest, Cond.code yX0_isAtRest cX0_isAtRest 3 (some .boolean), Cond.methodLink RX0 74 yX0_bitsOf, Cond.methodLink RL 34 yX2_about, Cond.instanceMethod yX2_about, Cond.selects RX2 yX2_about yX2_about, Cond.code yX2_about cX2_about 2 (some .int), Cond.fieldLink RX2 138 "CrowdReportsModel" "seen" "I", Cond.methodLink RX2 135 yX2_rest, Cond.instanceMethod yX2_rest, Cond.selects RX2 yX2_rest yX2_rest, Cond.code yX2_rest cX2_rest 5 (some .int)]
def wsL_law_r14 : List Cond := [Cond.methodLink RL 35 yX1_member, Cond.instanceMethod yX1_member, Cond.selects RX1 yX1_member yX1_member, Cond.code yX1_member cX1_member 3 (some .int), Cond.fieldLink RX1 96 "CrowdReports$Crowd" "kind" "[I", Cond.fieldLink RX1 99 "CrowdReports$Crowd" "known" "[I", Cond.fieldLink RX1 105 "CrowdReports$Crowd" "begun" "[I", Cond.fieldLink RX1 108 "CrowdReports$Crowd" "due" "[I", Cond.fieldLink RX1 111 "CrowdReports$Crowd" "goers" "[I", Cond.methodLink RX1 92 yX1_isMember, Cond.methodLink RX1 102 yX0_countTold, Cond.instanceMethod yX0_countTold, Cond.selects RX0 yX0_countTold yX0_countTold, Cond.code yX0_countTold cX0_countTold 2 (some .int), Cond.methodLink RL 39 yX2_member, Cond.instanceMethod yX2_member, Cond.selects RX2 yX2_member yX2_member, Cond.code yX2_member cX2_member 3 (some .int), Cond.methodLink RL 40 yX1_heard, Cond.instanceMethod yX1_heard, Cond.selects RX1 yX1_heard yX1_heard, Cond.code yX1_heard cX1_heard 3 (some .int), Cond.fieldLink RX1 118 "CrowdReports$Crowd" "lastHeard" "[I", Cond.methodLink RX1 114 yX0_knows]
def wsL_law_r15 : List Cond := [Cond.methodLink RL 43 yX2_heard, Cond.instanceMethod yX2_heard, Cond.selects RX2 yX2_heard yX2_heard, Cond.code yX2_heard cX2_heard 3 (some .int), Cond.methodLink RL 44 yX1_way, Cond.instanceMethod yX1_way, Cond.selects RX1 yX1_way yX1_way, Cond.code yX1_way cX1_way 3 (some .int), Cond.methodLink RX1 121 yX0_isOpen, Cond.methodLink RL 47 yX2_way, Cond.instanceMethod yX2_way, Cond.selects RX2 yX2_way yX2_way, Cond.code yX2_way cX2_way 3 (some .int), Cond.methodLink RL 48 yX1_join, Cond.instanceMethod yX1_join, Cond.selects RX1 yX1_join yX1_join, Cond.code yX1_join cX1_join 2 (some .int), Cond.methodLink RX1 124 yX1_remember, Cond.instanceMethod yX1_remember, Cond.selects RX1 yX1_remember yX1_remember, Cond.code yX1_remember cX1_remember 3 none, Cond.methodLink RL 51 yX2_join, Cond.instanceMethod yX2_join, Cond.selects RX2 yX2_join yX2_join]
def wsL_law_r16 : List Cond := [Cond.code yX2_join cX2_join 2 (some .int), Cond.methodLink RX2 144 yX2_note, Cond.instanceMethod yX2_note, Cond.selects RX2 yX2_note yX2_note, Cond.code yX2_note cX2_note 2 none, Cond.fieldLink RX2 141 "CrowdReportsModel" "next" "I", Cond.methodLink RL 52 yX1_leave, Cond.instanceMethod yX1_leave, Cond.selects RX1 yX1_leave yX1_leave, Cond.code yX1_leave cX1_leave 2 (some .int), Cond.methodLink RL 55 yX2_leave, Cond.instanceMethod yX2_leave, Cond.selects RX2 yX2_leave yX2_leave, Cond.code yX2_leave cX2_leave 2 (some .int), Cond.methodLink RL 56 yX1_pass, Cond.instanceMethod yX1_pass, Cond.selects RX1 yX1_pass yX1_pass, Cond.code yX1_pass cX1_pass 2 (some .int), Cond.methodLink RL 59 yX2_pass, Cond.instanceMethod yX2_pass, Cond.selects RX2 yX2_pass yX2_pass, Cond.code yX2_pass cX2_pass 2 (some .int), Cond.constantLong RX2 147 (30), Cond.methodLink RL 60 yX1_turn]
def wsL_law_r17 : List Cond := [Cond.instanceMethod yX1_turn, Cond.selects RX1 yX1_turn yX1_turn, Cond.code yX1_turn cX1_turn 3 (some .int), Cond.methodLink RX1 136 yX0_turnWay, Cond.instanceMethod yX0_turnWay, Cond.selects RX0 yX0_turnWay yX0_turnWay, Cond.code yX0_turnWay cX0_turnWay 3 (some .boolean), Cond.methodLink RL 63 yX2_turn, Cond.instanceMethod yX2_turn, Cond.selects RX2 yX2_turn yX2_turn, Cond.code yX2_turn cX2_turn 3 (some .int), Cond.methodLink RL 64 yX1_set, Cond.instanceMethod yX1_set, Cond.selects RX1 yX1_set yX1_set, Cond.code yX1_set cX1_set 3 (some .int), Cond.methodLink RX1 139 yX0_tellAnew, Cond.instanceMethod yX0_tellAnew, Cond.selects RX0 yX0_tellAnew yX0_tellAnew, Cond.code yX0_tellAnew cX0_tellAnew 4 (some .int), Cond.methodLink RL 67 yX2_set, Cond.instanceMethod yX2_set, Cond.selects RX2 yX2_set yX2_set, Cond.code yX2_set cX2_set 4 (some .int), Cond.constantLong RX2 149 (2)]
def wsL_law_r18 : List Cond := [Cond.methodLink RL 68 yX1_undo, Cond.instanceMethod yX1_undo, Cond.selects RX1 yX1_undo yX1_undo, Cond.code yX1_undo cX1_undo 1 (some .int), Cond.methodLink RL 71 yX2_undo, Cond.instanceMethod yX2_undo, Cond.selects RX2 yX2_undo yX2_undo, Cond.code yX2_undo cX2_undo 2 (some .int), Cond.methodLink RL 72 yX1_ahead, Cond.instanceMethod yX1_ahead, Cond.selects RX1 yX1_ahead yX1_ahead, Cond.code yX1_ahead cX1_ahead 3 (some .int), Cond.methodLink RL 75 yX2_ahead, Cond.instanceMethod yX2_ahead, Cond.selects RX2 yX2_ahead yX2_ahead, Cond.code yX2_ahead cX2_ahead 4 (some .int), Cond.constantLong RX2 151 (99), Cond.constantLong RX2 153 (3), Cond.methodLink RL 76 yX1_crowd, Cond.instanceMethod yX1_crowd, Cond.selects RX1 yX1_crowd yX1_crowd, Cond.code yX1_crowd cX1_crowd 4 (some .int), Cond.methodLink RX1 143 Lib.Math.max.name, Cond.methodLink RL 79 yX2_crowd]
def wsL_law_r19 : List Cond := [Cond.instanceMethod yX2_crowd, Cond.selects RX2 yX2_crowd yX2_crowd, Cond.code yX2_crowd cX2_crowd 5 (some .int), Cond.methodLink RL 82 yX1_jitter, Cond.instanceMethod yX1_jitter, Cond.selects RX1 yX1_jitter yX1_jitter, Cond.code yX1_jitter cX1_jitter 7 (some .int), Cond.methodLink RX1 156 Lib.Math.abs.name, Cond.static Lib.Math.abs.name, Cond.code Lib.Math.abs.name Lib.Math.abs.code 1 (some .int), Cond.methodLink RX1 148 yX1_tenTo, Cond.static yX1_tenTo, Cond.code yX1_tenTo cX1_tenTo 4 (some .long), Cond.constantLong RX1 198 (10), Cond.methodLink RX1 152 yX1_part, Cond.static yX1_part, Cond.code yX1_part cX1_part 4 (some .int), Cond.methodLink RL 86 yX2_jitter, Cond.instanceMethod yX2_jitter, Cond.selects RX2 yX2_jitter yX2_jitter, Cond.code yX2_jitter cX2_jitter 9 (some .int), Cond.constantLong RX2 155 (6), Cond.constantLong RX2 157 (100), Cond.methodLink RX2 159 yX2_longPower]
def wsL_law_r20 : List Cond := [Cond.static yX2_longPower, Cond.code yX2_longPower cX2_longPower 6 (some .long), Cond.methodLink RL 87 yX1_round, Cond.instanceMethod yX1_round, Cond.selects RX1 yX1_round yX1_round, Cond.code yX1_round cX1_round 5 (some .int), Cond.methodLink RX1 159 yX1_isTime, Cond.static yX1_isTime, Cond.code yX1_isTime cX1_isTime 1 (some .boolean), Cond.methodLink RL 91 yX2_round, Cond.instanceMethod yX2_round, Cond.selects RX2 yX2_round yX2_round, Cond.code yX2_round cX2_round 5 (some .int), Cond.constantLong RX2 163 (9999), Cond.methodLink RL 92 yX1_judge, Cond.instanceMethod yX1_judge, Cond.selects RX1 yX1_judge yX1_judge, Cond.code yX1_judge cX1_judge 5 (some .int), Cond.methodLink RX1 162 yX1_canBe, Cond.instanceMethod yX1_canBe, Cond.selects RX1 yX1_canBe yX1_canBe, Cond.code yX1_canBe cX1_canBe 5 (some .boolean), Cond.methodLink RL 95 yX2_judge, Cond.instanceMethod yX2_judge]
def wsL_law_r21 : List Cond := [Cond.selects RX2 yX2_judge yX2_judge, Cond.code yX2_judge cX2_judge 6 (some .int), Cond.constantLong RX2 165 (4), Cond.constantLong RX2 167 (1000), Cond.methodLink RX2 169 yX2_judged, Cond.instanceMethod yX2_judged, Cond.selects RX2 yX2_judged yX2_judged, Cond.code yX2_judged cX2_judged 6 (some .boolean), Cond.methodLink RL 96 yX1_see, Cond.instanceMethod yX1_see, Cond.selects RX1 yX1_see yX1_see, Cond.code yX1_see cX1_see 3 (some .int), Cond.methodLink RL 99 yX2_see, Cond.instanceMethod yX2_see, Cond.selects RX2 yX2_see yX2_see, Cond.code yX2_see cX2_see 3 (some .int), Cond.constantLong RX2 173 (60), Cond.methodLink RL 100 yX1_unsee, Cond.instanceMethod yX1_unsee, Cond.selects RX1 yX1_unsee yX1_unsee, Cond.code yX1_unsee cX1_unsee 2 (some .int), Cond.methodLink RL 103 yX2_unsee, Cond.instanceMethod yX2_unsee, Cond.selects RX2 yX2_unsee yX2_unsee]
def wsL_law_r22 : List Cond := [Cond.code yX2_unsee cX2_unsee 2 (some .int), Cond.methodLink RL 104 yX1_which, Cond.instanceMethod yX1_which, Cond.selects RX1 yX1_which yX1_which, Cond.code yX1_which cX1_which 3 (some .int), Cond.methodLink RX1 165 yX1_fitsSeen, Cond.instanceMethod yX1_fitsSeen, Cond.selects RX1 yX1_fitsSeen yX1_fitsSeen, Cond.code yX1_fitsSeen cX1_fitsSeen 5 (some .boolean), Cond.methodLink RL 107 yX2_which, Cond.instanceMethod yX2_which, Cond.selects RX2 yX2_which yX2_which, Cond.code yX2_which cX2_which 5 (some .int), Cond.methodLink RL 108 yX1_share, Cond.instanceMethod yX1_share, Cond.selects RX1 yX1_share yX1_share, Cond.code yX1_share cX1_share 6 (some .int), Cond.fieldLink RX1 172 "CrowdReports" "ORDERS" "[I", Cond.methodLink RX1 168 yX1_runSubsets, Cond.instanceMethod yX1_runSubsets, Cond.selects RX1 yX1_runSubsets yX1_runSubsets, Cond.code yX1_runSubsets cX1_runSubsets 5 none, Cond.methodLink RX1 219 yX0_feltBits, Cond.instanceMethod yX0_feltBits]
def wsL_law_r23 : List Cond := [Cond.selects RX0 yX0_feltBits yX0_feltBits, Cond.code yX0_feltBits cX0_feltBits 3 (some .int), Cond.methodLink RX1 222 yX0_leaveOnly, Cond.instanceMethod yX0_leaveOnly, Cond.selects RX0 yX0_leaveOnly yX0_leaveOnly, Cond.code yX0_leaveOnly cX0_leaveOnly 3 none, Cond.methodLink RX1 175 yJ6_bitCount_0f7a4, Cond.methodLink RX1 180 yX1_fraction, Cond.static yX1_fraction, Cond.code yX1_fraction cX1_fraction 4 (some .int), Cond.methodLink RX1 200 yX1_greatestDivisor, Cond.static yX1_greatestDivisor, Cond.code yX1_greatestDivisor cX1_greatestDivisor 6 (some .int), Cond.methodLink RL 112 yX2_share, Cond.instanceMethod yX2_share, Cond.selects RX2 yX2_share yX2_share, Cond.code yX2_share cX2_share 6 (some .int), Cond.methodLink RX2 175 yX2_lettersBy, Cond.instanceMethod yX2_lettersBy, Cond.selects RX2 yX2_lettersBy yX2_lettersBy, Cond.code yX2_lettersBy cX2_lettersBy 4 (some .int), Cond.methodLink RX2 179 yX2_factorial, Cond.static yX2_factorial, Cond.code yX2_factorial cX2_factorial 3 (some .int)]
def wsL_law_r24 : List Cond := [Cond.methodLink RX2 182 yX2_fraction, Cond.static yX2_fraction, Cond.code yX2_fraction cX2_fraction 6 (some .int), Cond.methodLink RL 113 yX1_chance, Cond.instanceMethod yX1_chance, Cond.selects RX1 yX1_chance yX1_chance, Cond.code yX1_chance cX1_chance 6 (some .int), Cond.constant RX1 187 (1000000), Cond.methodLink RX1 184 yX1_likelihood, Cond.static yX1_likelihood, Cond.code yX1_likelihood cX1_likelihood 4 (some .int), Cond.methodLink RL 117 yX2_chance, Cond.instanceMethod yX2_chance, Cond.selects RX2 yX2_chance yX2_chance, Cond.code yX2_chance cX2_chance 7 (some .int), Cond.constantLong RX2 186 (10), Cond.methodLink RX2 188 yX2_power, Cond.static yX2_power, Cond.code yX2_power cX2_power 4 (some .int), Cond.methodLink RL 118 yX1_seed, Cond.instanceMethod yX1_seed, Cond.selects RX1 yX1_seed yX1_seed, Cond.code yX1_seed cX1_seed 5 (some .long), Cond.methodLink RL 122 yX2_seed]
def wsL_law_r25 : List Cond := [Cond.instanceMethod yX2_seed, Cond.selects RX2 yX2_seed yX2_seed, Cond.code yX2_seed cX2_seed 5 (some .long), Cond.fieldLink RX2 191 "CrowdReportsModel" "seed" "J", Cond.methodLink RL 123 yX1_drawn, Cond.instanceMethod yX1_drawn, Cond.selects RX1 yX1_drawn yX1_drawn, Cond.code yX1_drawn cX1_drawn 5 (some .int), Cond.constantLong RX1 191 (6364136223846793005), Cond.constantLong RX1 193 (1442695040888963407), Cond.methodLink RX1 188 yX0_sent, Cond.methodLink RX1 195 yX0_enterOrDepart, Cond.instanceMethod yX0_enterOrDepart, Cond.selects RX0 yX0_enterOrDepart yX0_enterOrDepart, Cond.code yX0_enterOrDepart cX0_enterOrDepart 2 none, Cond.methodLink RX0 100 yX0_enter, Cond.methodLink RX0 103 yX0_depart, Cond.methodLink RL 126 yX2_drawn, Cond.instanceMethod yX2_drawn, Cond.selects RX2 yX2_drawn yX2_drawn, Cond.code yX2_drawn cX2_drawn 5 (some .int), Cond.constantLong RX2 195 (40), Cond.constantLong RX2 197 (6364136223846793005), Cond.constantLong RX2 199 (1442695040888963407)]
def wsL_law_r26 : List Cond := [Cond.methodLink RL 127 yX1_keep, Cond.instanceMethod yX1_keep, Cond.selects RX1 yX1_keep yX1_keep, Cond.code yX1_keep cX1_keep 2 (some .int), Cond.methodLink RL 130 yX2_keep, Cond.instanceMethod yX2_keep, Cond.selects RX2 yX2_keep yX2_keep, Cond.code yX2_keep cX2_keep 3 (some .int), Cond.methodLink RL 131 yX1_again, Cond.instanceMethod yX1_again, Cond.selects RX1 yX1_again yX1_again, Cond.code yX1_again cX1_again 2 (some .int), Cond.methodLink RL 134 yX2_again, Cond.instanceMethod yX2_again, Cond.selects RX2 yX2_again yX2_again, Cond.code yX2_again cX2_again 3 (some .int)]
def wsL_law : List Cond := (wsL_law_r1 ++ (wsL_law_r2 ++ (wsL_law_r3 ++ (wsL_law_r4 ++ (wsL_law_r5 ++ (wsL_law_r6 ++ (wsL_law_r7 ++ (wsL_law_r8 ++ (wsL_law_r9 ++ (wsL_law_r10 ++ (wsL_law_r11 ++ (wsL_law_r12 ++ (wsL_law_r13 ++ (wsL_law_r14 ++ (wsL_law_r15 ++ (wsL_law_r16 ++ (wsL_law_r17 ++ (wsL_law_r18 ++ (wsL_law_r19 ++ (wsL_law_r20 ++ (wsL_law_r21 ++ (wsL_law_r22 ++ (wsL_law_r23 ++ (wsL_law_r24 ++ (wsL_law_r25 ++ wsL_law_r26))))))))))))))))))))))))) ++ wsX10 ++ wsX20 ++ wsX00 ++ ([] : List Cond)
abbrev vwCl : List vw_C := [(RX0, TX0, 14), (RX1, TX1, 13), (RX2, TX2, 15)]
end
section
/-! what the rows of numbers become: the reference's own steps, as functions -/
abbrev Row := Nat → Int32
abbrev gTy (cI cZ cQ : ClassId) : List (ClassId × FieldType) := [(cI, .int), (cZ, .boolean), (cQ, .object RX0)]
def bI (b : Bool) : Int32 := if b then 1 else 0
theorem bI_nar (b : Bool) : narrow .boolean (.int (bI b)) = .int (bI b) := by cases b <;> rfl
theorem bI_0 {b : Bool} : bI b = 0 ↔ b = false := by cases b <;> simp [bI]
theorem bI_n0 {b : Bool} : ¬ bI b = 0 ↔ b = true := by cases b <;> simp [bI]
def it {α : Type} (b : Nat → α → α) : Nat → α → α
  | 0, a => a
  | n + 1, a => b n (it b n a)
theorem it_0 {α : Type} (b : Nat → α → α) (a : α) : it b 0 a = a := rfl
theorem it_s {α : Type} (b : Nat → α → α) (n : Nat) (a : α) : it b (n + 1) a = b n (it b n a) := rfl
theorem it_ind {α : Type} {P : α → Prop} {b : Nat → α → α} {N : Nat} {a : α} (h0 : P a) (hs : ∀ i x, i < N → P x → P (b i x)) : ∀ n, n ≤ N → P (it b n a)
  | 0, _ => h0
  | n + 1, h => hs n _ (by omega) (it_ind h0 hs n (by omega))
theorem lp_ge {i N : Nat} (hi : i ≤ N) (hN : N < 2 ^ 31) (h : nI N ≤ nI i) : N = i := by
  have := (nI_leI hN (by omega)).mp h
  omega
theorem lp_lt {i N : Nat} (hi : i ≤ N) (hN : N < 2 ^ 31) (h : ¬ nI N ≤ nI i) : i < N := by
  rcases Nat.lt_or_ge i N with q | q
  · exact q
  · exact absurd (nI_le q (by omega)) h
def jrem (x y : Int32) : Int32 := x - x / y * y
def S_in (v lo hi : Int64) : Bool := if v < lo then false else if hi < v then false else true
def S_has (set k : Int32) : Bool := if (set >>> (k &&& 31)) &&& 1 = 1 then true else false
def S_onesStep (set : Int32) (k : Nat) (n : Int32) : Int32 := n + ((set >>> (nI k &&& 31)) &&& 1)
def S_ones (set : Int32) : Int32 := it (S_onesStep set) 6 0
def S_isM (v : Int32) : Bool := S_in (Int32.toInt64 v) 0 5
def S_count (f : Row) (k : Nat) : Int32 := if f k = 0 then 0 else 1 + S_ones (f (6 + k))
def S_up (f : Row) (v : Int32) : Int32 := (v * f 66 + f 67 - 1) / f 67
def S_span (f : Row) (v : Int32) : Int32 := if S_up f v ≤ f 68 then f 68 else S_up f v
def S_draw (f : Row) : Row := upd f 69 (jrem (25173 * f 69 + 13849) 65536)
def S_drawV (f : Row) : Int32 := jrem (S_draw f 69 / 16) 5
def S_wait0 (f : Row) (v : Int32) : Int32 := S_span f v * (2 + S_drawV f) / 4
def S_waitV (f : Row) (v : Int32) : Int32 := if S_wait0 f v ≤ 1 then 1 else S_wait0 f v
def S_letters (f : Row) : Int32 := f 71 + f 72
def S_reaches (f : Row) (k o : Nat) : Bool := if nI o = nI k then false else if f o = 0 then false else if S_has (f (73 + k)) (nI o) then false else true
def S_kn (g : Row) (k o : Nat) : Row := upd g (6 + o) (g (6 + o) ||| (1 <<< (nI k &&& 31)))
def S_repStep (k o : Nat) (g : Row) : Row := if S_reaches g k o then upd (S_kn g k o) (12 + 6 * o + k) (S_kn g k o 70) else g
def S_rep0 (f : Row) : Row := upd f 71 (f 71 + 1)
def S_report (f : Row) (k : Nat) : Row := it (S_repStep k) 6 (S_rep0 f)
def S_goAway (f : Row) (k : Nat) : Row := upd (upd (upd (upd (upd f k 0) (6 + k) 0) (48 + k) 0) (54 + k) 0) (60 + k) 0
def S_bg (g : Row) (o : Nat) : Row := upd g (60 + o) (g (60 + o) + (if g o = 2 then 1 else 0))
def S_bk (g : Row) (k o : Nat) : Row := upd (S_bg g o) (6 + o) (S_bg g o (6 + o) &&& ((1 <<< (nI k &&& 31)) ^^^ (-1)))
def S_bleft (h : Row) (o : Nat) : Int32 := if h (54 + o) ≤ h 70 then 0 else h (54 + o) - h 70
def S_bdue (h : Row) (o : Nat) (was : Int32) : Row := upd h (54 + o) (h 70 + S_bleft h o * (was - 1) / was)
def S_bbeg (h : Row) (o : Nat) (was ck : Int32) : Row := upd h (48 + o) (ck - (ck - h (48 + o)) * (was - 1) / was)
def S_byeStep (k o : Nat) (g : Row) : Row := if S_reaches g k o then (if S_has (S_bg g o (6 + o)) (nI k) then (if S_bk g k o o = 1 then S_bbeg (S_bdue (S_bk g k o) o (S_count (S_bg g o) o)) o (S_count (S_bg g o) o) (S_bk g k o 70) else S_bk g k o) else S_bk g k o) else g
theorem S_byeStep_a {k o : Nat} {g : Row} (h1 : S_reaches g k o = false) : S_byeStep k o g = g := by unfold S_byeStep; rw [h1]; exact if_neg (by decide)
theorem S_byeStep_b {k o : Nat} {g : Row} (h1 : S_reaches g k o = true) (h2 : S_has (S_bg g o (6 + o)) (nI k) = false) : S_byeStep k o g = S_bk g k o := by unfold S_byeStep; rw [if_pos h1, h2]; exact if_neg (by decide)
theorem S_byeStep_c {k o : Nat} {g : Row} (h1 : S_reaches g k o = true) (h2 : S_has (S_bg g o (6 + o)) (nI k) = true) (h3 : ¬ S_bk g k o o = 1) : S_byeStep k o g = S_bk g k o := by unfold S_byeStep; rw [if_pos h1, if_pos h2, if_neg h3]
theorem S_byeStep_d {k o : Nat} {g : Row} (h1 : S_reaches g k o = true) (h2 : S_has (S_bg g o (6 + o)) (nI k) = true) (h3 : S_bk g k o o = 1) : S_byeStep k o g = S_bbeg (S_bdue (S_bk g k o) o (S_count (S_bg g o) o)) o (S_count (S_bg g o) o) (S_bk g k o 70) := by unfold S_byeStep; rw [if_pos h1, if_pos h2, if_pos h3]
def S_bye0 (f : Row) (k : Nat) : Row := S_goAway (upd f 72 (f 72 + 1)) k
def S_bye (f : Row) (k : Nat) : Row := it (S_byeStep k) 6 (S_bye0 f k)
def S_joins0 (f : Row) (k : Nat) : Row := upd (upd (upd (upd f k 1) (6 + k) 0) (60 + k) 0) (48 + k) ((upd (upd (upd f k 1) (6 + k) 0) (60 + k) 0) 70)
def S_joins (f : Row) (k : Nat) : Row := upd (S_draw (S_joins0 f k)) (54 + k) (S_joins0 f k 70 + S_waitV (S_joins0 f k) 1)
def S_leaves0 (f : Row) (k : Nat) : Row := upd (upd (upd f k 2) (60 + k) 1) (48 + k) ((upd (upd f k 2) (60 + k) 1) 70)
def S_leaves1 (f : Row) (k : Nat) : Row := upd (S_draw (S_leaves0 f k)) (54 + k) (S_leaves0 f k 70 + S_waitV (S_leaves0 f k) 1)
def S_leaves (f : Row) (k : Nat) : Row := if 3 < S_count f k then S_leaves1 f k else S_bye f k
def S_lw (f : Row) (k : Nat) : Int32 := if f k = 1 then S_waitV f (S_count f k) else S_waitV f (f (60 + k))
def S_lrep (f : Row) (k : Nat) : Row := upd (S_report f k) (48 + k) (S_report f k 70)
def S_look (f : Row) (k : Nat) : Row :=
  if S_draw f (48 + k) + S_lw f k ≤ S_draw f 70 then
    (if f k = 1 then upd (S_draw (S_lrep (S_draw f) k)) (54 + k) (S_lrep (S_draw f) k 70 + S_waitV (S_lrep (S_draw f) k) (S_count (S_lrep (S_draw f) k) k)) else S_bye (S_draw f) k)
  else upd (S_draw f) (54 + k) (S_draw f (48 + k) + S_lw f k)
def S_old (g : Row) (k o : Nat) (most : Int32) : Bool := if S_has (g (6 + k)) (nI o) then (if g 70 - g (12 + 6 * k + o) ≤ most then false else true) else false
def S_forStep (k : Nat) (most : Int32) (o : Nat) (g : Row) : Row := upd g (6 + k) (g (6 + k) &&& (if S_old g k o most then (1 <<< (nI o &&& 31)) ^^^ (-1) else -1))
def S_most (f : Row) (k : Nat) : Int32 := 5 * S_span f (S_count f k)
def S_forget (f : Row) (k : Nat) : Row := it (S_forStep k (S_most f k)) 6 f
def S_tick0 (f : Row) : Row := upd f 70 (f 70 + 1)
def S_dueStep (k : Nat) (g : Row) : Row := if g k = 0 then g else if g 70 < g (54 + k) then g else S_look g k
def S_fgStep (k : Nat) (g : Row) : Row := if g k = 1 then S_forget g k else g
def S_tick1 (f : Row) : Row := it S_dueStep 6 (S_tick0 f)
def S_tick (f : Row) : Row := it S_fgStep 6 (S_tick1 f)
def S_ticks (f : Row) (n : Nat) : Row := it (fun _ g => S_tick g) n f
theorem S_ticks_s (f : Row) (n : Nat) : S_ticks f (n + 1) = S_tick (S_ticks f n) := by unfold S_ticks; rw [it_s]
def S_pass (f : Row) (n : Nat) : Int32 := S_letters (S_ticks f n) - S_letters f
def S_thoseStep (f : Row) (what : Int32) (k : Nat) (x : Int32) : Int32 := x ||| (if f k = what then 1 <<< (nI k &&& 31) else 0)
def S_those (f : Row) (what : Int32) : Int32 := it (S_thoseStep f what) 6 0
/-! a divisor that is not 0 stays so -/
def Z67 (f : Row) : Prop := 1 ≤ f 67
theorem Z67.ne {f : Row} (h : Z67 f) : ¬ f 67 = 0 := fun q => by unfold Z67 at h; rw [q] at h; exact absurd h (by decide)
theorem Z_upd {f : Row} {j : Nat} {x : Int32} (h : Z67 f) (hj : ¬ j = 67) : Z67 (upd f j x) := by
  unfold Z67 at *
  rw [pk_un (fun q => hj q.symm)]
  exact h
theorem Z_draw {f : Row} (h : Z67 f) : Z67 (S_draw f) := Z_upd h (by decide)
theorem Z_goAway {f : Row} {k : Nat} (h : Z67 f) (hk : k < 6) : Z67 (S_goAway f k) := Z_upd (Z_upd (Z_upd (Z_upd (Z_upd h (by omega)) (by omega)) (by omega)) (by omega)) (by omega)
theorem Z_repStep {k o : Nat} {g : Row} (h : Z67 g) (hk : k < 6) (ho : o < 6) : Z67 (S_repStep k o g) := by
  unfold S_repStep
  split
  · exact Z_upd (Z_upd h (by omega)) (by omega)
  · exact h
theorem Z_report {f : Row} {k : Nat} (h : Z67 f) (hk : k < 6) : Z67 (S_report f k) := it_ind (P := Z67) (Z_upd h (by decide)) (fun i x hi hx => Z_repStep hx hk hi) 6 (Nat.le_refl 6)
theorem Z_byeStep {k o : Nat} {g : Row} (h : Z67 g) (ho : o < 6) : Z67 (S_byeStep k o g) := by
  have hk : Z67 (S_bk g k o) := Z_upd (Z_upd h (by omega)) (by omega)
  unfold S_byeStep
  split
  · split
    · split
      · exact Z_upd (Z_upd hk (by omega)) (by omega)
      · exact hk
    · exact hk
  · exact h
theorem Z_bye0 {f : Row} {k : Nat} (h : Z67 f) (hk : k < 6) : Z67 (S_bye0 f k) := Z_goAway (Z_upd h (by decide)) hk
theorem Z_bye {f : Row} {k : Nat} (h : Z67 f) (hk : k < 6) : Z67 (S_bye f k) := it_ind (P := Z67) (Z_bye0 h hk) (fun i x hi hx => Z_byeStep hx hi) 6 (Nat.le_refl 6)
theorem Z_joins0 {f : Row} {k : Nat} (h : Z67 f) (hk : k < 6) : Z67 (S_joins0 f k) := Z_upd (Z_upd (Z_upd (Z_upd h (by omega)) (by omega)) (by omega)) (by omega)
theorem Z_joins {f : Row} {k : Nat} (h : Z67 f) (hk : k < 6) : Z67 (S_joins f k) := Z_upd (Z_draw (Z_joins0 h hk)) (by omega)
theorem Z_leaves0 {f : Row} {k : Nat} (h : Z67 f) (hk : k < 6) : Z67 (S_leaves0 f k) := Z_upd (Z_upd (Z_upd h (by omega)) (by omega)) (by omega)
theorem Z_leaves {f : Row} {k : Nat} (h : Z67 f) (hk : k < 6) : Z67 (S_leaves f k) := by
  unfold S_leaves
  split
  · exact Z_upd (Z_draw (Z_leaves0 h hk)) (by omega)
  · exact Z_bye h hk
theorem Z_lrep {f : Row} {k : Nat} (h : Z67 f) (hk : k < 6) : Z67 (S_lrep f k) := Z_upd (Z_report h hk) (by omega)
theorem Z_look {f : Row} {k : Nat} (h : Z67 f) (hk : k < 6) : Z67 (S_look f k) := by
  unfold S_look
  split
  · split
    · exact Z_upd (Z_draw (Z_lrep (Z_draw h) hk)) (by omega)
    · exact Z_bye (Z_draw h) hk
  · exact Z_upd (Z_draw h) (by omega)
theorem Z_forStep {k o : Nat} {most : Int32} {g : Row} (h : Z67 g) (hk : k < 6) : Z67 (S_forStep k most o g) := Z_upd h (by omega)
theorem Z_forget {f : Row} {k : Nat} (h : Z67 f) (hk : k < 6) : Z67 (S_forget f k) := it_ind (P := Z67) h (fun i x hi hx => Z_forStep hx hk) 6 (Nat.le_refl 6)
theorem Z_dueStep {k : Nat} {g : Row} (h : Z67 g) (hk : k < 6) : Z67 (S_dueStep k g) := by
  unfold S_dueStep
  split
  · exact h
  · split
    · exact h
    · exact Z_look h hk
theorem Z_fgStep {k : Nat} {g : Row} (h : Z67 g) (hk : k < 6) : Z67 (S_fgStep k g) := by
  unfold S_fgStep
  split
  · exact Z_forget h hk
  · exact h
theorem Z_tick0 {f : Row} (h : Z67 f) : Z67 (S_tick0 f) := Z_upd h (by decide)
theorem Z_dues {f : Row} (h : Z67 f) (n : Nat) (hn : n ≤ 6) : Z67 (it S_dueStep n (S_tick0 f)) := it_ind (P := Z67) (Z_tick0 h) (fun i x hi hx => Z_dueStep hx hi) n hn
theorem Z_tick1 {f : Row} (h : Z67 f) : Z67 (S_tick1 f) := Z_dues h 6 (Nat.le_refl 6)
theorem Z_fgs {f : Row} (h : Z67 f) (n : Nat) (hn : n ≤ 6) : Z67 (it S_fgStep n (S_tick1 f)) := it_ind (P := Z67) (Z_tick1 h) (fun i x hi hx => Z_fgStep hx hi) n hn
theorem Z_tick {f : Row} (h : Z67 f) : Z67 (S_tick f) := Z_fgs h 6 (Nat.le_refl 6)
theorem Z_ticks {f : Row} (h : Z67 f) (n : Nat) : Z67 (S_ticks f n) := it_ind (P := Z67) (N := n) h (fun i x hi hx => Z_tick hx) n (Nat.le_refl n)
theorem Z_byes {f : Row} {k : Nat} (h : Z67 f) (hk : k < 6) (n : Nat) (hn : n ≤ 6) : Z67 (it (S_byeStep k) n (S_bye0 f k)) := it_ind (P := Z67) (Z_bye0 h hk) (fun i x hi hx => Z_byeStep hx hi) n hn
theorem S_reaches_o {f : Row} {k o : Nat} (h : S_reaches f k o = true) : ¬ f o = 0 := by
  intro q
  unfold S_reaches at h
  rw [if_pos q] at h
  split at h <;> cases h
theorem and1 (x : Int32) : x &&& 1 = 0 ∨ x &&& 1 = 1 := by
  obtain ⟨j, hj, e⟩ := pk_andE x (m := 1) 1 (by decide)
  have h2 : j = 0 ∨ j = 1 := by omega
  rcases h2 with rfl | rfl
  · exact Or.inl e
  · exact Or.inr e
theorem S_ones_n (set : Int32) : ∀ n, ∃ j : Nat, j ≤ n ∧ it (S_onesStep set) n 0 = nI j
  | 0 => ⟨0, Nat.le_refl 0, rfl⟩
  | n + 1 => by
    obtain ⟨j, hj, e⟩ := S_ones_n set n
    rw [it_s, e]
    unfold S_onesStep
    rcases and1 (set >>> (nI n &&& 31)) with h | h
    · rw [h]; exact ⟨j, by omega, by rw [show (0 : Int32) = nI 0 from rfl, nI_add]; rfl⟩
    · rw [h]; exact ⟨j + 1, by omega, by rw [show (1 : Int32) = nI 1 from rfl, nI_add]⟩
theorem S_count_ne {f : Row} {k : Nat} (h : ¬ f k = 0) : ¬ S_count f k = 0 := by
  unfold S_count
  rw [if_neg h]
  obtain ⟨j, hj, e⟩ := S_ones_n (f (6 + k)) 6
  unfold S_ones
  rw [e, show (1 : Int32) = nI 1 from rfl, nI_add]
  exact nI_ne0 (by omega) (by omega)
theorem S_bg_o {g : Row} {o : Nat} (ho : o < 6) : S_bg g o o = g o := pk_un (by omega)
theorem S_bye_nz {g : Row} {k o : Nat} (h : S_reaches g k o = true) (ho : o < 6) : ¬ S_count (S_bg g o) o = 0 := S_count_ne (by rw [S_bg_o ho]; exact S_reaches_o h)
/-! a switch's number: one of its rows, or outside -/
theorem tb_cases (x : Int32) (lo : Int) (N : Nat) (h : -2147483648 ≤ lo ∧ lo + N ≤ 2147483647) : (x.toInt < lo ∨ lo + N ≤ x.toInt) ∨ ∃ n : Nat, n < N ∧ x.toInt = lo + n := by
  by_cases q : x.toInt < lo
  · exact Or.inl (Or.inl q)
  · by_cases q2 : x.toInt < lo + N
    · exact Or.inr ⟨(x.toInt - lo).toNat, by omega, by omega⟩
    · exact Or.inl (Or.inr (by omega))
end
section
section GOL
variable {p : Program} {l : Launch} {e : Env} {R : Room} {s : State} {m : MethodId} {args : Array Value} {below : List Frame} {meth : Method} {c : Code} {Q : State → Prop} {D : va_G} {A : Nat → Prop} {nL : Nat} {Ts : List Cond} {own : String} {cc : ByteArray} {tys : List (ClassId × FieldType)} {cells slots : Nat} {w : va_W} {pc : Nat} {lv lv' : List (Nat × Value)} {st : List Value}
/-- what stays true through a run: the classes, the array classes, and the two links among nest mates -/
def gKF (D : va_G) (tys : List (ClassId × FieldType)) (U : State) : Prop := va_K D vwCl tys U ∧ va_Nw (.methodLinkNest RX0 90 yX1_isMember RX1) U ∧ va_Nw (.methodLinkNest RX1 9 yX0_init RX1) U
theorem gKF.moved {D : va_G} {tys : List (ClassId × FieldType)} {u U : State} (hW : u.WarmedH U.vm) (h : gKF D tys u) : gKF D tys U := ⟨va_K.moved hW.alike h.1, va_Nw.warmM hW h.2.1, va_Nw.warmM hW h.2.2⟩
theorem gKF.same {D : va_G} {tys : List (ClassId × FieldType)} {u U : State} (hv : u.vm = U.vm) (h : gKF D tys u) : gKF D tys U := ⟨va_K.moved (by rw [← hv]; exact Vm.Alike.refl u.vm) h.1, va_Nw.same rfl hv h.2.1, va_Nw.same rfl hv h.2.2⟩
def gFx (p : Program) (m : MethodId) (c : Code) (cc : ByteArray) (nL : Nat) (s : State) (args : Array Value) (Ts : List Cond) (own : String) (D : va_G) (tys : List (ClassId × FieldType)) (A : Nat → Prop) : Prop :=
  p.tables.exec = Jvm.exec ∧ c.code = cc ∧ c.maxLocals = nL ∧ s.vm.findClass own = some m.cls ∧ (∀ w ∈ Ts, w.before args s = true) ∧ gKF D tys s ∧ ∀ q, s.heap.size ≤ q → A q
/-- the machine at pc, with locals lv and operand stack st, over the world w, comes to Q -/
def Go (p : Program) (l : Launch) (e : Env) (R : Room) (s : State) (m : MethodId) (args : Array Value) (below : List Frame) (meth : Method) (c : Code) (Q : State → Prop) (D : va_G) (A : Nat → Prop) (nL cells slots : Nat) (w : va_W) (pc : Nat) (lv : List (Nat × Value)) (st : List Value) : Prop :=
  ∀ (H : Heap) (locs : List Loc) (ls : Array Slot), va_P D vwCl w H → va_D A w → va_S A s.heap H locs → lv_has ls nL lv → W p l e R s m args below meth c H locs cells slots Q (F0 m pc ls st)

theorem g_iconst (F : gFx p m c cc nL s args Ts own D tys A) {n : Int} {v : Int32} (d : decode cc pc = .ok (.iconst n, 1)) (hv : Int32.ofInt n = v) (k : Go p l e R s m args below meth c Q D A nL cells slots w (pc + 1) lv (.int v :: st)) : Go p l e R s m args below meth c Q D A nL cells slots w pc lv st := fun H locs ls hP hD hS hl => lv_iconst F.1 F.2.1 d hv (k H locs ls hP hD hS hl)
theorem g_bipush (F : gFx p m c cc nL s args Ts own D tys A) {n : Int} {v : Int32} (d : decode cc pc = .ok (.bipush n, 2)) (hv : (Int8.ofInt n).toInt32 = v) (k : Go p l e R s m args below meth c Q D A nL cells slots w (pc + 2) lv (.int v :: st)) : Go p l e R s m args below meth c Q D A nL cells slots w pc lv st := fun H locs ls hP hD hS hl => lv_bipush F.1 F.2.1 d hv (k H locs ls hP hD hS hl)
theorem g_sipush (F : gFx p m c cc nL s args Ts own D tys A) {n : Int} {v : Int32} (d : decode cc pc = .ok (.sipush n, 3)) (hv : (Int16.ofInt n).toInt32 = v) (k : Go p l e R s m args below meth c Q D A nL cells slots w (pc + 3) lv (.int v :: st)) : Go p l e R s m args below meth c Q D A nL cells slots w pc lv st := fun H locs ls hP hD hS hl => lv_sipush F.1 F.2.1 d hv (k H locs ls hP hD hS hl)
theorem g_lconst (F : gFx p m c cc nL s args Ts own D tys A) {n : Fin 2} {v : Int64} (d : decode cc pc = .ok (.lconst n, 1)) (hv : Int64.ofNat (n : Nat) = v) (k : Go p l e R s m args below meth c Q D A nL cells slots w (pc + 1) lv (.long v :: st)) : Go p l e R s m args below meth c Q D A nL cells slots w pc lv st := fun H locs ls hP hD hS hl => lv_lconst F.1 F.2.1 d hv (k H locs ls hP hD hS hl)
theorem g_ldc (F : gFx p m c cc nL s args Ts own D tys A) {ix : Nat} {v : Int32} (h : Cond.constant own ix v ∈ Ts) (d : decode cc pc = .ok (.ldc ix, 2)) (k : Go p l e R s m args below meth c Q D A nL cells slots w (pc + 2) lv (.int v :: st)) : Go p l e R s m args below meth c Q D A nL cells slots w pc lv st := fun H locs ls hP hD hS hl => lv_ldc F.1 F.2.1 F.2.2.2.1 (F.2.2.2.2.1 _ h) d (k H locs ls hP hD hS hl)
theorem g_ldcw (F : gFx p m c cc nL s args Ts own D tys A) {ix : Nat} {v : Int32} (h : Cond.constant own ix v ∈ Ts) (d : decode cc pc = .ok (.ldc_w ix, 3)) (k : Go p l e R s m args below meth c Q D A nL cells slots w (pc + 3) lv (.int v :: st)) : Go p l e R s m args below meth c Q D A nL cells slots w pc lv st := fun H locs ls hP hD hS hl => lv_ldcw F.1 F.2.1 F.2.2.2.1 (F.2.2.2.2.1 _ h) d (k H locs ls hP hD hS hl)
theorem g_ldc2 (F : gFx p m c cc nL s args Ts own D tys A) {ix : Nat} {v : Int64} (h : Cond.constantLong own ix v ∈ Ts) (d : decode cc pc = .ok (.ldc2_w ix, 3)) (k : Go p l e R s m args below meth c Q D A nL cells slots w (pc + 3) lv (.long v :: st)) : Go p l e R s m args below meth c Q D A nL cells slots w pc lv st := fun H locs ls hP hD hS hl => lv_ldc2 F.1 F.2.1 F.2.2.2.1 (F.2.2.2.2.1 _ h) d (k H locs ls hP hD hS hl)
theorem g_iload_n (F : gFx p m c cc nL s args Ts own D tys A) {k : Fin 4} {i : Nat} {x : Int32} (d : decode cc pc = .ok (.iload_n k, 1)) (hi : (k : Nat) = i) (j : Nat) (h : lv[j]? = some (i, .int x)) (k : Go p l e R s m args below meth c Q D A nL cells slots w (pc + 1) lv (.int x :: st)) : Go p l e R s m args below meth c Q D A nL cells slots w pc lv st := fun H locs ls hP hD hS hl => lv_iload_n F.1 F.2.1 d hi (lv_at hl j h) (k H locs ls hP hD hS hl)
theorem g_iload (F : gFx p m c cc nL s args Ts own D tys A) {i : Nat} {x : Int32} (d : decode cc pc = .ok (.iload i, 2)) (j : Nat) (h : lv[j]? = some (i, .int x)) (k : Go p l e R s m args below meth c Q D A nL cells slots w (pc + 2) lv (.int x :: st)) : Go p l e R s m args below meth c Q D A nL cells slots w pc lv st := fun H locs ls hP hD hS hl => lv_iload F.1 F.2.1 d (lv_at hl j h) (k H locs ls hP hD hS hl)
theorem g_lload_n (F : gFx p m c cc nL s args Ts own D tys A) {k : Fin 4} {i : Nat} {x : Int64} (d : decode cc pc = .ok (.lload_n k, 1)) (hi : (k : Nat) = i) (j : Nat) (h : lv[j]? = some (i, .long x)) (k : Go p l e R s m args below meth c Q D A nL cells slots w (pc + 1) lv (.long x :: st)) : Go p l e R s m args below meth c Q D A nL cells slots w pc lv st := fun H locs ls hP hD hS hl => lv_lload_n F.1 F.2.1 d hi (lv_at hl j h) (k H locs ls hP hD hS hl)
theorem g_lload (F : gFx p m c cc nL s args Ts own D tys A) {i : Nat} {x : Int64} (d : decode cc pc = .ok (.lload i, 2)) (j : Nat) (h : lv[j]? = some (i, .long x)) (k : Go p l e R s m args below meth c Q D A nL cells slots w (pc + 2) lv (.long x :: st)) : Go p l e R s m args below meth c Q D A nL cells slots w pc lv st := fun H locs ls hP hD hS hl => lv_lload F.1 F.2.1 d (lv_at hl j h) (k H locs ls hP hD hS hl)
theorem g_aload_n (F : gFx p m c cc nL s args Ts own D tys A) {k : Fin 4} {i : Nat} {x : Nat} (d : decode cc pc = .ok (.aload_n k, 1)) (hi : (k : Nat) = i) (j : Nat) (h : lv[j]? = some (i, .ref x)) (k : Go p l e R s m args below meth c Q D A nL cells slots w (pc + 1) lv (.ref x :: st)) : Go p l e R s m args below meth c Q D A nL cells slots w pc lv st := fun H locs ls hP hD hS hl => lv_aload_n F.1 F.2.1 d hi (lv_at hl j h) (k H locs ls hP hD hS hl)
theorem g_aload (F : gFx p m c cc nL s args Ts own D tys A) {i : Nat} {x : Nat} (d : decode cc pc = .ok (.aload i, 2)) (j : Nat) (h : lv[j]? = some (i, .ref x)) (k : Go p l e R s m args below meth c Q D A nL cells slots w (pc + 2) lv (.ref x :: st)) : Go p l e R s m args below meth c Q D A nL cells slots w pc lv st := fun H locs ls hP hD hS hl => lv_aload F.1 F.2.1 d (lv_at hl j h) (k H locs ls hP hD hS hl)
theorem g_istore_n (F : gFx p m c cc nL s args Ts own D tys A) {k : Fin 4} {i : Nat} {x : Int32} (d : decode cc pc = .ok (.istore_n k, 1)) (hi : (k : Nat) = i) (hn : i < nL) (is : List Nat) (h : lv_pick ((i, Value.int x) :: lv.filter (fun q => !(q.1 == i) && !(q.1 + 1 == i && q.2.category == 2))) is = lv') (k : Go p l e R s m args below meth c Q D A nL cells slots w (pc + 1) lv' st) : Go p l e R s m args below meth c Q D A nL cells slots w pc lv (.int x :: st) := fun H locs ls hP hD hS hl => lv_istore_n F.1 F.2.1 d hi hl hn rfl (fun ls' hl' => k H locs ls' hP hD hS (lv_sub hl' is h))
theorem g_istore (F : gFx p m c cc nL s args Ts own D tys A) {i : Nat} {x : Int32} (d : decode cc pc = .ok (.istore i, 2)) (hn : i < nL) (is : List Nat) (h : lv_pick ((i, Value.int x) :: lv.filter (fun q => !(q.1 == i) && !(q.1 + 1 == i && q.2.category == 2))) is = lv') (k : Go p l e R s m args below meth c Q D A nL cells slots w (pc + 2) lv' st) : Go p l e R s m args below meth c Q D A nL cells slots w pc lv (.int x :: st) := fun H locs ls hP hD hS hl => lv_istore F.1 F.2.1 d hl hn rfl (fun ls' hl' => k H locs ls' hP hD hS (lv_sub hl' is h))
theorem g_lstore_n (F : gFx p m c cc nL s args Ts own D tys A) {k : Fin 4} {i : Nat} {x : Int64} (d : decode cc pc = .ok (.lstore_n k, 1)) (hi : (k : Nat) = i) (hn : i + 1 < nL) (is : List Nat) (h : lv_pick ((i, Value.long x) :: lv.filter (fun q => !(q.1 == i) && (!(q.1 == i + 1) && !(q.1 + 1 == i && q.2.category == 2)))) is = lv') (k : Go p l e R s m args below meth c Q D A nL cells slots w (pc + 1) lv' st) : Go p l e R s m args below meth c Q D A nL cells slots w pc lv (.long x :: st) := fun H locs ls hP hD hS hl => lv_lstore_n F.1 F.2.1 d hi hl hn rfl (fun ls' hl' => k H locs ls' hP hD hS (lv_sub hl' is h))
theorem g_lstore (F : gFx p m c cc nL s args Ts own D tys A) {i : Nat} {x : Int64} (d : decode cc pc = .ok (.lstore i, 2)) (hn : i + 1 < nL) (is : List Nat) (h : lv_pick ((i, Value.long x) :: lv.filter (fun q => !(q.1 == i) && (!(q.1 == i + 1) && !(q.1 + 1 == i && q.2.category == 2)))) is = lv') (k : Go p l e R s m args below meth c Q D A nL cells slots w (pc + 2) lv' st) : Go p l e R s m args below meth c Q D A nL cells slots w pc lv (.long x :: st) := fun H locs ls hP hD hS hl => lv_lstore F.1 F.2.1 d hl hn rfl (fun ls' hl' => k H locs ls' hP hD hS (lv_sub hl' is h))
theorem g_astore_n (F : gFx p m c cc nL s args Ts own D tys A) {k : Fin 4} {i : Nat} {x : Nat} (d : decode cc pc = .ok (.astore_n k, 1)) (hi : (k : Nat) = i) (hn : i < nL) (is : List Nat) (h : lv_pick ((i, Value.ref x) :: lv.filter (fun q => !(q.1 == i) && !(q.1 + 1 == i && q.2.category == 2))) is = lv') (k : Go p l e R s m args below meth c Q D A nL cells slots w (pc + 1) lv' st) : Go p l e R s m args below meth c Q D A nL cells slots w pc lv (.ref x :: st) := fun H locs ls hP hD hS hl => lv_astore_n F.1 F.2.1 d hi hl hn rfl (fun ls' hl' => k H locs ls' hP hD hS (lv_sub hl' is h))
theorem g_astore (F : gFx p m c cc nL s args Ts own D tys A) {i : Nat} {x : Nat} (d : decode cc pc = .ok (.astore i, 2)) (hn : i < nL) (is : List Nat) (h : lv_pick ((i, Value.ref x) :: lv.filter (fun q => !(q.1 == i) && !(q.1 + 1 == i && q.2.category == 2))) is = lv') (k : Go p l e R s m args below meth c Q D A nL cells slots w (pc + 2) lv' st) : Go p l e R s m args below meth c Q D A nL cells slots w pc lv (.ref x :: st) := fun H locs ls hP hD hS hl => lv_astore F.1 F.2.1 d hl hn rfl (fun ls' hl' => k H locs ls' hP hD hS (lv_sub hl' is h))
theorem g_iinc (F : gFx p m c cc nL s args Ts own D tys A) {i : Nat} {n : Int} {x : Int32} (v : Int32) (d : decode cc pc = .ok (.iinc i n, 3)) (j : Nat) (hj : lv[j]? = some (i, .int x)) (hv : x + Int32.ofInt n = v) (hn : i < nL) (is : List Nat) (h : lv_pick ((i, Value.int v) :: lv.filter (fun q => !(q.1 == i) && !(q.1 + 1 == i && q.2.category == 2))) is = lv') (k : Go p l e R s m args below meth c Q D A nL cells slots w (pc + 3) lv' st) : Go p l e R s m args below meth c Q D A nL cells slots w pc lv st := fun H locs ls hP hD hS hl => lv_iinc F.1 F.2.1 d hl hj hv hn rfl (fun ls' hl' => k H locs ls' hP hD hS (lv_sub hl' is h))
theorem g_iadd (F : gFx p m c cc nL s args Ts own D tys A) {x y : Int32} (d : decode cc pc = .ok (.iadd, 1)) (k : Go p l e R s m args below meth c Q D A nL cells slots w (pc + 1) lv (.int (x + y) :: st)) : Go p l e R s m args below meth c Q D A nL cells slots w pc lv (.int y :: .int x :: st) := fun H locs ls hP hD hS hl => lv_iadd F.1 F.2.1 d (k H locs ls hP hD hS hl)
theorem g_isub (F : gFx p m c cc nL s args Ts own D tys A) {x y : Int32} (d : decode cc pc = .ok (.isub, 1)) (k : Go p l e R s m args below meth c Q D A nL cells slots w (pc + 1) lv (.int (x - y) :: st)) : Go p l e R s m args below meth c Q D A nL cells slots w pc lv (.int y :: .int x :: st) := fun H locs ls hP hD hS hl => lv_isub F.1 F.2.1 d (k H locs ls hP hD hS hl)
theorem g_imul (F : gFx p m c cc nL s args Ts own D tys A) {x y : Int32} (d : decode cc pc = .ok (.imul, 1)) (k : Go p l e R s m args below meth c Q D A nL cells slots w (pc + 1) lv (.int (x * y) :: st)) : Go p l e R s m args below meth c Q D A nL cells slots w pc lv (.int y :: .int x :: st) := fun H locs ls hP hD hS hl => lv_imul F.1 F.2.1 d (k H locs ls hP hD hS hl)
theorem g_iand (F : gFx p m c cc nL s args Ts own D tys A) {x y : Int32} (d : decode cc pc = .ok (.iand, 1)) (k : Go p l e R s m args below meth c Q D A nL cells slots w (pc + 1) lv (.int (x &&& y) :: st)) : Go p l e R s m args below meth c Q D A nL cells slots w pc lv (.int y :: .int x :: st) := fun H locs ls hP hD hS hl => lv_iand F.1 F.2.1 d (k H locs ls hP hD hS hl)
theorem g_ior (F : gFx p m c cc nL s args Ts own D tys A) {x y : Int32} (d : decode cc pc = .ok (.ior, 1)) (k : Go p l e R s m args below meth c Q D A nL cells slots w (pc + 1) lv (.int (x ||| y) :: st)) : Go p l e R s m args below meth c Q D A nL cells slots w pc lv (.int y :: .int x :: st) := fun H locs ls hP hD hS hl => lv_ior F.1 F.2.1 d (k H locs ls hP hD hS hl)
theorem g_ixor (F : gFx p m c cc nL s args Ts own D tys A) {x y : Int32} (d : decode cc pc = .ok (.ixor, 1)) (k : Go p l e R s m args below meth c Q D A nL cells slots w (pc + 1) lv (.int (x ^^^ y) :: st)) : Go p l e R s m args below meth c Q D A nL cells slots w pc lv (.int y :: .int x :: st) := fun H locs ls hP hD hS hl => lv_ixor F.1 F.2.1 d (k H locs ls hP hD hS hl)
theorem g_ishl (F : gFx p m c cc nL s args Ts own D tys A) {x y : Int32} (d : decode cc pc = .ok (.ishl, 1)) (k : Go p l e R s m args below meth c Q D A nL cells slots w (pc + 1) lv (.int (x <<< (y &&& 31)) :: st)) : Go p l e R s m args below meth c Q D A nL cells slots w pc lv (.int y :: .int x :: st) := fun H locs ls hP hD hS hl => lv_ishl F.1 F.2.1 d (k H locs ls hP hD hS hl)
theorem g_ishr (F : gFx p m c cc nL s args Ts own D tys A) {x y : Int32} (d : decode cc pc = .ok (.ishr, 1)) (k : Go p l e R s m args below meth c Q D A nL cells slots w (pc + 1) lv (.int (x >>> (y &&& 31)) :: st)) : Go p l e R s m args below meth c Q D A nL cells slots w pc lv (.int y :: .int x :: st) := fun H locs ls hP hD hS hl => lv_ishr F.1 F.2.1 d (k H locs ls hP hD hS hl)
theorem g_idiv (F : gFx p m c cc nL s args Ts own D tys A) {x y : Int32} (d : decode cc pc = .ok (.idiv, 1)) (h : ¬ y = 0) (k : Go p l e R s m args below meth c Q D A nL cells slots w (pc + 1) lv (.int (x / y) :: st)) : Go p l e R s m args below meth c Q D A nL cells slots w pc lv (.int y :: .int x :: st) := fun H locs ls hP hD hS hl => lv_idiv F.1 F.2.1 d h (k H locs ls hP hD hS hl)
theorem g_irem (F : gFx p m c cc nL s args Ts own D tys A) {x y : Int32} (d : decode cc pc = .ok (.irem, 1)) (h : ¬ y = 0) (k : Go p l e R s m args below meth c Q D A nL cells slots w (pc + 1) lv (.int (x - x / y * y) :: st)) : Go p l e R s m args below meth c Q D A nL cells slots w pc lv (.int y :: .int x :: st) := fun H locs ls hP hD hS hl => lv_irem F.1 F.2.1 d h (k H locs ls hP hD hS hl)
theorem g_ineg (F : gFx p m c cc nL s args Ts own D tys A) {x : Int32} (d : decode cc pc = .ok (.ineg, 1)) (k : Go p l e R s m args below meth c Q D A nL cells slots w (pc + 1) lv (.int (-x) :: st)) : Go p l e R s m args below meth c Q D A nL cells slots w pc lv (.int x :: st) := fun H locs ls hP hD hS hl => lv_ineg F.1 F.2.1 d (k H locs ls hP hD hS hl)
theorem g_iushr (F : gFx p m c cc nL s args Ts own D tys A) {x y : Int32} (v : Int32) (d : decode cc pc = .ok (.iushr, 1)) (hv : (x.toUInt32 >>> (y.toUInt32 &&& Int32.toUInt32 31)).toInt32 = v) (k : Go p l e R s m args below meth c Q D A nL cells slots w (pc + 1) lv (.int v :: st)) : Go p l e R s m args below meth c Q D A nL cells slots w pc lv (.int y :: .int x :: st) := fun H locs ls hP hD hS hl => lv_iushr F.1 F.2.1 d hv (k H locs ls hP hD hS hl)
theorem g_ladd (F : gFx p m c cc nL s args Ts own D tys A) {x y : Int64} (d : decode cc pc = .ok (.ladd, 1)) (k : Go p l e R s m args below meth c Q D A nL cells slots w (pc + 1) lv (.long (x + y) :: st)) : Go p l e R s m args below meth c Q D A nL cells slots w pc lv (.long y :: .long x :: st) := fun H locs ls hP hD hS hl => lv_ladd F.1 F.2.1 d (k H locs ls hP hD hS hl)
theorem g_lsub (F : gFx p m c cc nL s args Ts own D tys A) {x y : Int64} (d : decode cc pc = .ok (.lsub, 1)) (k : Go p l e R s m args below meth c Q D A nL cells slots w (pc + 1) lv (.long (x - y) :: st)) : Go p l e R s m args below meth c Q D A nL cells slots w pc lv (.long y :: .long x :: st) := fun H locs ls hP hD hS hl => lv_lsub F.1 F.2.1 d (k H locs ls hP hD hS hl)
theorem g_lmul (F : gFx p m c cc nL s args Ts own D tys A) {x y : Int64} (d : decode cc pc = .ok (.lmul, 1)) (k : Go p l e R s m args below meth c Q D A nL cells slots w (pc + 1) lv (.long (x * y) :: st)) : Go p l e R s m args below meth c Q D A nL cells slots w pc lv (.long y :: .long x :: st) := fun H locs ls hP hD hS hl => lv_lmul F.1 F.2.1 d (k H locs ls hP hD hS hl)
theorem g_land (F : gFx p m c cc nL s args Ts own D tys A) {x y : Int64} (d : decode cc pc = .ok (.land, 1)) (k : Go p l e R s m args below meth c Q D A nL cells slots w (pc + 1) lv (.long (x &&& y) :: st)) : Go p l e R s m args below meth c Q D A nL cells slots w pc lv (.long y :: .long x :: st) := fun H locs ls hP hD hS hl => lv_land F.1 F.2.1 d (k H locs ls hP hD hS hl)
theorem g_lor (F : gFx p m c cc nL s args Ts own D tys A) {x y : Int64} (d : decode cc pc = .ok (.lor, 1)) (k : Go p l e R s m args below meth c Q D A nL cells slots w (pc + 1) lv (.long (x ||| y) :: st)) : Go p l e R s m args below meth c Q D A nL cells slots w pc lv (.long y :: .long x :: st) := fun H locs ls hP hD hS hl => lv_lor F.1 F.2.1 d (k H locs ls hP hD hS hl)
theorem g_ldiv (F : gFx p m c cc nL s args Ts own D tys A) {x y : Int64} (d : decode cc pc = .ok (.ldiv, 1)) (h : ¬ y = 0) (k : Go p l e R s m args below meth c Q D A nL cells slots w (pc + 1) lv (.long (x / y) :: st)) : Go p l e R s m args below meth c Q D A nL cells slots w pc lv (.long y :: .long x :: st) := fun H locs ls hP hD hS hl => lv_ldiv F.1 F.2.1 d h (k H locs ls hP hD hS hl)
theorem g_lrem (F : gFx p m c cc nL s args Ts own D tys A) {x y : Int64} (d : decode cc pc = .ok (.lrem, 1)) (h : ¬ y = 0) (k : Go p l e R s m args below meth c Q D A nL cells slots w (pc + 1) lv (.long (x - x / y * y) :: st)) : Go p l e R s m args below meth c Q D A nL cells slots w pc lv (.long y :: .long x :: st) := fun H locs ls hP hD hS hl => lv_lrem F.1 F.2.1 d h (k H locs ls hP hD hS hl)
theorem g_lushr (F : gFx p m c cc nL s args Ts own D tys A) {x : Int64} {y : Int32} (v : Int64) (d : decode cc pc = .ok (.lushr, 1)) (hv : (x.toUInt64 >>> (y.toInt64.toUInt64 &&& Int64.toUInt64 63)).toInt64 = v) (k : Go p l e R s m args below meth c Q D A nL cells slots w (pc + 1) lv (.long v :: st)) : Go p l e R s m args below meth c Q D A nL cells slots w pc lv (.int y :: .long x :: st) := fun H locs ls hP hD hS hl => lv_lushr F.1 F.2.1 d hv (k H locs ls hP hD hS hl)
theorem g_lshl (F : gFx p m c cc nL s args Ts own D tys A) {x : Int64} {y : Int32} (v : Int64) (d : decode cc pc = .ok (.lshl, 1)) (hv : x <<< (y.toInt64 &&& 63) = v) (k : Go p l e R s m args below meth c Q D A nL cells slots w (pc + 1) lv (.long v :: st)) : Go p l e R s m args below meth c Q D A nL cells slots w pc lv (.int y :: .long x :: st) := fun H locs ls hP hD hS hl => lv_lshl F.1 F.2.1 d hv (k H locs ls hP hD hS hl)
theorem g_i2l (F : gFx p m c cc nL s args Ts own D tys A) {x : Int32} (d : decode cc pc = .ok (.i2l, 1)) (k : Go p l e R s m args below meth c Q D A nL cells slots w (pc + 1) lv (.long x.toInt64 :: st)) : Go p l e R s m args below meth c Q D A nL cells slots w pc lv (.int x :: st) := fun H locs ls hP hD hS hl => lv_i2l F.1 F.2.1 d rfl (k H locs ls hP hD hS hl)
theorem g_l2i (F : gFx p m c cc nL s args Ts own D tys A) {x : Int64} (d : decode cc pc = .ok (.l2i, 1)) (k : Go p l e R s m args below meth c Q D A nL cells slots w (pc + 1) lv (.int x.toInt32 :: st)) : Go p l e R s m args below meth c Q D A nL cells slots w pc lv (.long x :: st) := fun H locs ls hP hD hS hl => lv_l2i F.1 F.2.1 d rfl (k H locs ls hP hD hS hl)
theorem g_lcmp (F : gFx p m c cc nL s args Ts own D tys A) {x y : Int64} (d : decode cc pc = .ok (.lcmp, 1)) (k : Go p l e R s m args below meth c Q D A nL cells slots w (pc + 1) lv (.int (lg_cmp x y) :: st)) : Go p l e R s m args below meth c Q D A nL cells slots w pc lv (.long y :: .long x :: st) := fun H locs ls hP hD hS hl => W.lcmp F.1 F.2.1 d (k H locs ls hP hD hS hl)
theorem g_dup (F : gFx p m c cc nL s args Ts own D tys A) {a : Value} (d : decode cc pc = .ok (.dup, 1)) (h : a.category = 1) (k : Go p l e R s m args below meth c Q D A nL cells slots w (pc + 1) lv (a :: a :: st)) : Go p l e R s m args below meth c Q D A nL cells slots w pc lv (a :: st) := fun H locs ls hP hD hS hl => lv_dup F.1 F.2.1 d h (k H locs ls hP hD hS hl)
theorem g_pop (F : gFx p m c cc nL s args Ts own D tys A) {a : Value} (d : decode cc pc = .ok (.pop, 1)) (h : a.category = 1) (k : Go p l e R s m args below meth c Q D A nL cells slots w (pc + 1) lv st) : Go p l e R s m args below meth c Q D A nL cells slots w pc lv (a :: st) := fun H locs ls hP hD hS hl => lv_pop F.1 F.2.1 d h (k H locs ls hP hD hS hl)
theorem g_dup2 (F : gFx p m c cc nL s args Ts own D tys A) {a b : Value} (d : decode cc pc = .ok (.dup2, 1)) (h : a.category = 1) (h2 : b.category = 1) (k : Go p l e R s m args below meth c Q D A nL cells slots w (pc + 1) lv (a :: b :: a :: b :: st)) : Go p l e R s m args below meth c Q D A nL cells slots w pc lv (a :: b :: st) := fun H locs ls hP hD hS hl => lv_dup2_11 F.1 F.2.1 d h h2 (k H locs ls hP hD hS hl)
theorem g_if_eq (F : gFx p m c cc nL s args Ts own D tys A) {x : Int32} {off : Int} (tgt : Nat) (d : decode cc pc = .ok (.ifCond .eq off, 3)) (ht : (pc : Int) + off = (tgt : Int)) (kt : x = 0 → Go p l e R s m args below meth c Q D A nL cells slots w tgt lv st) (kf : ¬ x = 0 → Go p l e R s m args below meth c Q D A nL cells slots w (pc + 3) lv st) : Go p l e R s m args below meth c Q D A nL cells slots w pc lv (.int x :: st) := fun H locs ls hP hD hS hl => lv_if_eq F.1 F.2.1 d ht (fun h => kt h H locs ls hP hD hS hl) (fun h => kf h H locs ls hP hD hS hl)
theorem g_if_ne (F : gFx p m c cc nL s args Ts own D tys A) {x : Int32} {off : Int} (tgt : Nat) (d : decode cc pc = .ok (.ifCond .ne off, 3)) (ht : (pc : Int) + off = (tgt : Int)) (kt : ¬ x = 0 → Go p l e R s m args below meth c Q D A nL cells slots w tgt lv st) (kf : x = 0 → Go p l e R s m args below meth c Q D A nL cells slots w (pc + 3) lv st) : Go p l e R s m args below meth c Q D A nL cells slots w pc lv (.int x :: st) := fun H locs ls hP hD hS hl => lv_if_ne F.1 F.2.1 d ht (fun h => kt h H locs ls hP hD hS hl) (fun h => kf h H locs ls hP hD hS hl)
theorem g_if_lt (F : gFx p m c cc nL s args Ts own D tys A) {x : Int32} {off : Int} (tgt : Nat) (d : decode cc pc = .ok (.ifCond .lt off, 3)) (ht : (pc : Int) + off = (tgt : Int)) (kt : x < 0 → Go p l e R s m args below meth c Q D A nL cells slots w tgt lv st) (kf : ¬ x < 0 → Go p l e R s m args below meth c Q D A nL cells slots w (pc + 3) lv st) : Go p l e R s m args below meth c Q D A nL cells slots w pc lv (.int x :: st) := fun H locs ls hP hD hS hl => lv_if_lt F.1 F.2.1 d ht (fun h => kt h H locs ls hP hD hS hl) (fun h => kf h H locs ls hP hD hS hl)
theorem g_if_ge (F : gFx p m c cc nL s args Ts own D tys A) {x : Int32} {off : Int} (tgt : Nat) (d : decode cc pc = .ok (.ifCond .ge off, 3)) (ht : (pc : Int) + off = (tgt : Int)) (kt : 0 ≤ x → Go p l e R s m args below meth c Q D A nL cells slots w tgt lv st) (kf : ¬ 0 ≤ x → Go p l e R s m args below meth c Q D A nL cells slots w (pc + 3) lv st) : Go p l e R s m args below meth c Q D A nL cells slots w pc lv (.int x :: st) := fun H locs ls hP hD hS hl => lv_if_ge F.1 F.2.1 d ht (fun h => kt h H locs ls hP hD hS hl) (fun h => kf h H locs ls hP hD hS hl)
theorem g_if_gt (F : gFx p m c cc nL s args Ts own D tys A) {x : Int32} {off : Int} (tgt : Nat) (d : decode cc pc = .ok (.ifCond .gt off, 3)) (ht : (pc : Int) + off = (tgt : Int)) (kt : 0 < x → Go p l e R s m args below meth c Q D A nL cells slots w tgt lv st) (kf : ¬ 0 < x → Go p l e R s m args below meth c Q D A nL cells slots w (pc + 3) lv st) : Go p l e R s m args below meth c Q D A nL cells slots w pc lv (.int x :: st) := fun H locs ls hP hD hS hl => lv_if_gt F.1 F.2.1 d ht (fun h => kt h H locs ls hP hD hS hl) (fun h => kf h H locs ls hP hD hS hl)
theorem g_if_le (F : gFx p m c cc nL s args Ts own D tys A) {x : Int32} {off : Int} (tgt : Nat) (d : decode cc pc = .ok (.ifCond .le off, 3)) (ht : (pc : Int) + off = (tgt : Int)) (kt : x ≤ 0 → Go p l e R s m args below meth c Q D A nL cells slots w tgt lv st) (kf : ¬ x ≤ 0 → Go p l e R s m args below meth c Q D A nL cells slots w (pc + 3) lv st) : Go p l e R s m args below meth c Q D A nL cells slots w pc lv (.int x :: st) := fun H locs ls hP hD hS hl => lv_if_le F.1 F.2.1 d ht (fun h => kt h H locs ls hP hD hS hl) (fun h => kf h H locs ls hP hD hS hl)
theorem g_icmp_eq (F : gFx p m c cc nL s args Ts own D tys A) {x y : Int32} {off : Int} (tgt : Nat) (d : decode cc pc = .ok (.if_icmp .eq off, 3)) (ht : (pc : Int) + off = (tgt : Int)) (kt : x = y → Go p l e R s m args below meth c Q D A nL cells slots w tgt lv st) (kf : ¬ x = y → Go p l e R s m args below meth c Q D A nL cells slots w (pc + 3) lv st) : Go p l e R s m args below meth c Q D A nL cells slots w pc lv (.int y :: .int x :: st) := fun H locs ls hP hD hS hl => lv_icmp_eq F.1 F.2.1 d ht (fun h => kt h H locs ls hP hD hS hl) (fun h => kf h H locs ls hP hD hS hl)
theorem g_icmp_ne (F : gFx p m c cc nL s args Ts own D tys A) {x y : Int32} {off : Int} (tgt : Nat) (d : decode cc pc = .ok (.if_icmp .ne off, 3)) (ht : (pc : Int) + off = (tgt : Int)) (kt : ¬ x = y → Go p l e R s m args below meth c Q D A nL cells slots w tgt lv st) (kf : x = y → Go p l e R s m args below meth c Q D A nL cells slots w (pc + 3) lv st) : Go p l e R s m args below meth c Q D A nL cells slots w pc lv (.int y :: .int x :: st) := fun H locs ls hP hD hS hl => lv_icmp_ne F.1 F.2.1 d ht (fun h => kt h H locs ls hP hD hS hl) (fun h => kf h H locs ls hP hD hS hl)
theorem g_icmp_lt (F : gFx p m c cc nL s args Ts own D tys A) {x y : Int32} {off : Int} (tgt : Nat) (d : decode cc pc = .ok (.if_icmp .lt off, 3)) (ht : (pc : Int) + off = (tgt : Int)) (kt : x < y → Go p l e R s m args below meth c Q D A nL cells slots w tgt lv st) (kf : ¬ x < y → Go p l e R s m args below meth c Q D A nL cells slots w (pc + 3) lv st) : Go p l e R s m args below meth c Q D A nL cells slots w pc lv (.int y :: .int x :: st) := fun H locs ls hP hD hS hl => lv_icmp_lt F.1 F.2.1 d ht (fun h => kt h H locs ls hP hD hS hl) (fun h => kf h H locs ls hP hD hS hl)
theorem g_icmp_ge (F : gFx p m c cc nL s args Ts own D tys A) {x y : Int32} {off : Int} (tgt : Nat) (d : decode cc pc = .ok (.if_icmp .ge off, 3)) (ht : (pc : Int) + off = (tgt : Int)) (kt : y ≤ x → Go p l e R s m args below meth c Q D A nL cells slots w tgt lv st) (kf : ¬ y ≤ x → Go p l e R s m args below meth c Q D A nL cells slots w (pc + 3) lv st) : Go p l e R s m args below meth c Q D A nL cells slots w pc lv (.int y :: .int x :: st) := fun H locs ls hP hD hS hl => lv_icmp_ge F.1 F.2.1 d ht (fun h => kt h H locs ls hP hD hS hl) (fun h => kf h H locs ls hP hD hS hl)
theorem g_icmp_gt (F : gFx p m c cc nL s args Ts own D tys A) {x y : Int32} {off : Int} (tgt : Nat) (d : decode cc pc = .ok (.if_icmp .gt off, 3)) (ht : (pc : Int) + off = (tgt : Int)) (kt : y < x → Go p l e R s m args below meth c Q D A nL cells slots w tgt lv st) (kf : ¬ y < x → Go p l e R s m args below meth c Q D A nL cells slots w (pc + 3) lv st) : Go p l e R s m args below meth c Q D A nL cells slots w pc lv (.int y :: .int x :: st) := fun H locs ls hP hD hS hl => lv_icmp_gt F.1 F.2.1 d ht (fun h => kt h H locs ls hP hD hS hl) (fun h => kf h H locs ls hP hD hS hl)
theorem g_icmp_le (F : gFx p m c cc nL s args Ts own D tys A) {x y : Int32} {off : Int} (tgt : Nat) (d : decode cc pc = .ok (.if_icmp .le off, 3)) (ht : (pc : Int) + off = (tgt : Int)) (kt : x ≤ y → Go p l e R s m args below meth c Q D A nL cells slots w tgt lv st) (kf : ¬ x ≤ y → Go p l e R s m args below meth c Q D A nL cells slots w (pc + 3) lv st) : Go p l e R s m args below meth c Q D A nL cells slots w pc lv (.int y :: .int x :: st) := fun H locs ls hP hD hS hl => lv_icmp_le F.1 F.2.1 d ht (fun h => kt h H locs ls hP hD hS hl) (fun h => kf h H locs ls hP hD hS hl)
theorem g_beq (F : gFx p m c cc nL s args Ts own D tys A) {b : Bool} {off : Int} (tgt : Nat) (d : decode cc pc = .ok (.ifCond .eq off, 3)) (ht : (pc : Int) + off = (tgt : Int)) (kt : b = false → Go p l e R s m args below meth c Q D A nL cells slots w tgt lv st) (kf : b = true → Go p l e R s m args below meth c Q D A nL cells slots w (pc + 3) lv st) : Go p l e R s m args below meth c Q D A nL cells slots w pc lv (.int (bI b) :: st) := fun H locs ls hP hD hS hl => lv_if_eq F.1 F.2.1 d ht (fun h => kt (bI_0.mp h) H locs ls hP hD hS hl) (fun h => kf (bI_n0.mp h) H locs ls hP hD hS hl)
theorem g_bne (F : gFx p m c cc nL s args Ts own D tys A) {b : Bool} {off : Int} (tgt : Nat) (d : decode cc pc = .ok (.ifCond .ne off, 3)) (ht : (pc : Int) + off = (tgt : Int)) (kt : b = true → Go p l e R s m args below meth c Q D A nL cells slots w tgt lv st) (kf : b = false → Go p l e R s m args below meth c Q D A nL cells slots w (pc + 3) lv st) : Go p l e R s m args below meth c Q D A nL cells slots w pc lv (.int (bI b) :: st) := fun H locs ls hP hD hS hl => lv_if_ne F.1 F.2.1 d ht (fun h => kt (bI_n0.mp h) H locs ls hP hD hS hl) (fun h => kf (bI_0.mp h) H locs ls hP hD hS hl)
theorem g_goto (F : gFx p m c cc nL s args Ts own D tys A) {off : Int} (tgt : Nat) (d : decode cc pc = .ok (.goto off, 3)) (ht : (pc : Int) + off = (tgt : Int)) (k : Go p l e R s m args below meth c Q D A nL cells slots w tgt lv st) : Go p l e R s m args below meth c Q D A nL cells slots w pc lv st := fun H locs ls hP hD hS hl => lv_goto F.1 F.2.1 d ht (k H locs ls hP hD hS hl)
theorem g_tableOut (F : gFx p m c cc nL s args Ts own D tys A) {dflt lo hi : Int} {offs : Array Int} {len : Nat} {x : Int32} (tgt : Nat) (d : decode cc pc = .ok (.tableswitch dflt lo hi offs, len)) (h : x.toInt < lo ∨ hi < x.toInt) (ht : (pc : Int) + dflt = (tgt : Int)) (k : Go p l e R s m args below meth c Q D A nL cells slots w tgt lv st) : Go p l e R s m args below meth c Q D A nL cells slots w pc lv (.int x :: st) := fun H locs ls hP hD hS hl => lv_tableOut F.1 F.2.1 d h ht (k H locs ls hP hD hS hl)
theorem g_tableIn (F : gFx p m c cc nL s args Ts own D tys A) {dflt lo hi : Int} {offs : Array Int} {len : Nat} {x : Int32} {off : Int} (tgt : Nat) (d : decode cc pc = .ok (.tableswitch dflt lo hi offs, len)) (h1 : ¬ x.toInt < lo) (h2 : ¬ hi < x.toInt) (ho : offs[(x.toInt - lo).toNat]? = some off) (ht : (pc : Int) + off = (tgt : Int)) (k : Go p l e R s m args below meth c Q D A nL cells slots w tgt lv st) : Go p l e R s m args below meth c Q D A nL cells slots w pc lv (.int x :: st) := fun H locs ls hP hD hS hl => lv_tableIn F.1 F.2.1 d h1 h2 ho ht (k H locs ls hP hD hS hl)
theorem gD_same {A : Nat → Prop} {w w' : va_W} (h : va_D A w) (e : w'.map (fun q => q.1) = w.map (fun q => q.1)) : va_D A w' := by
  have key : ∀ (k : Nat) (q : Nat × va_E), w'[k]? = some q → ∃ q0, w[k]? = some q0 ∧ q0.1 = q.1 := by
    intro k q hk
    have h1 : (w'.map (fun q => q.1))[k]? = some q.1 := by rw [List.getElem?_map, hk]; rfl
    rw [e, List.getElem?_map] at h1
    cases h2 : w[k]? with
    | none => rw [h2] at h1; cases h1
    | some q0 => rw [h2] at h1; exact ⟨q0, rfl, Option.some.inj h1⟩
  refine ⟨fun i j p q hi hj hpq => ?_, fun k q hk => ?_⟩
  · obtain ⟨p0, hp, hp1⟩ := key i p hi
    obtain ⟨q0, hq, hq1⟩ := key j q hj
    exact h.1 i j p0 q0 hp hq (by rw [hp1, hq1, hpq])
  · obtain ⟨q0, hq, hq1⟩ := key k q hk
    rw [← hq1]
    exact h.2 k q0 hq
theorem g_as {x : Int32} (y : Int32) (h : x = y) (k : Go p l e R s m args below meth c Q D A nL cells slots w pc lv (.int y :: st)) : Go p l e R s m args below meth c Q D A nL cells slots w pc lv (.int x :: st) := by subst h; exact k
theorem g_as2 {z x : Int32} (y : Int32) (h : x = y) (k : Go p l e R s m args below meth c Q D A nL cells slots w pc lv (.int z :: .int y :: st)) : Go p l e R s m args below meth c Q D A nL cells slots w pc lv (.int z :: .int x :: st) := by subst h; exact k
theorem g_asl {x : Int64} (y : Int64) (h : x = y) (k : Go p l e R s m args below meth c Q D A nL cells slots w pc lv (.long y :: st)) : Go p l e R s m args below meth c Q D A nL cells slots w pc lv (.long x :: st) := by subst h; exact k
theorem g_aw (w' : va_W) (h : w = w') (k : Go p l e R s m args below meth c Q D A nL cells slots w' pc lv st) : Go p l e R s m args below meth c Q D A nL cells slots w pc lv st := by subst h; exact k
theorem g_all {w0 : va_W} {lv0 : List (Nat × Value)} {st0 : List Value} (hw : w = w0) (hv : lv = lv0) (hs : st = st0) (k : Go p l e R s m args below meth c Q D A nL cells slots w0 pc lv0 st0) : Go p l e R s m args below meth c Q D A nL cells slots w pc lv st := by subst hw; subst hv; subst hs; exact k
theorem g_lvs (is : List Nat) (h : lv_pick lv is = lv') (k : Go p l e R s m args below meth c Q D A nL cells slots w pc lv' st) : Go p l e R s m args below meth c Q D A nL cells slots w pc lv st := fun H locs ls hP hD hS hl => k H locs ls hP hD hS (lv_sub hl is h)
theorem g_wp {w2 : va_W} (hp : ∀ H : Heap, va_P D vwCl w H → va_P D vwCl w2 H) (ha : w2.map (fun q => q.1) = w.map (fun q => q.1)) (k : Go p l e R s m args below meth c Q D A nL cells slots w2 pc lv st) : Go p l e R s m args below meth c Q D A nL cells slots w pc lv st := fun H locs ls hP hD hS hl => k H locs ls (hp H hP) (gD_same hD ha) hS hl
theorem g_get (F : gFx p m c cc nL s args Ts own D tys A) {C : String} {T : u_T} {N ci a ix : Nat} {fs : List Value} (v : Value) (hin : ∀ w ∈ u_ws C T N, w ∈ Ts) (q0 : Nat) (he : w[q0]? = some (a, .inr (ci, fs))) (hc : vwCl[ci]? = some (C, T, N)) (j : Nat) (hj : j < N) (hv : fs[j]? = some v) (hlink : Cond.fieldLink own ix (T j).1 (T j).2.1 (T j).2.2.1 ∈ Ts) (d : decode cc pc = .ok (.getfield ix, 3)) (k : Go p l e R s m args below meth c Q D A nL cells slots w (pc + 3) lv (v :: st)) : Go p l e R s m args below meth c Q D A nL cells slots w pc lv (.ref a :: st) :=
  fun H locs ls hP hD hS hl => va_get F.1 F.2.1 F.2.2.2.2.1 hin F.2.2.2.1 F.2.2.2.2.2.1.1 hP q0 he hc j hj (F.2.2.2.2.1 _ hlink) (fun _ h => h) hv d (k H locs ls hP hD hS hl)
theorem g_put (F : gFx p m c cc nL s args Ts own D tys A) {C : String} {T : u_T} {N ci a ix : Nat} {fs : List Value} {v : Value} (w' : va_W) (hin : ∀ w ∈ u_ws C T N, w ∈ Ts) (ty0 : Nat → FieldType) (hty : ∀ k, k < N → parseFieldDescriptor (T k).2.2.1 = some (ty0 k)) (hnm : ∀ a, a < N → ∀ b, b < N → a ≠ b → (T a).2.1 ≠ (T b).2.1) (q0 : Nat) (he : w[q0]? = some (a, .inr (ci, fs))) (hc : vwCl[ci]? = some (C, T, N)) (j : Nat) (hj : j < N) (hfin : (T j).2.2.2 = false) (hn : narrow (ty0 j) v = v) (hfit : fits (ty0 j) v = true) (hl : j < fs.length) (hlink : Cond.fieldLink own ix (T j).1 (T j).2.1 (T j).2.2.1 ∈ Ts) (d : decode cc pc = .ok (.putfield ix, 3)) (hw : w.set q0 (a, .inr (ci, fs.set j v)) = w') (k : Go p l e R s m args below meth c Q D A nL cells slots w' (pc + 3) lv st) : Go p l e R s m args below meth c Q D A nL cells slots w pc lv (v :: .ref a :: st) := by
  subst hw
  exact fun H locs ls hP hD hS hl2 => va_put F.1 F.2.1 F.2.2.2.2.1 hin ty0 hty hnm F.2.2.2.1 F.2.2.2.2.2.1.1 hP hD hS q0 he hc j hj (F.2.2.2.2.1 _ hlink) (fun _ h => h) hfin (hty j hj) hn hfit hl d (fun H1 locs1 hP1 hD1 hS1 => k H1 locs1 ls hP1 hD1 hS1 hl2)
theorem g_iald (F : gFx p m c cc nL s args Ts own D tys A) {a : Nat} {cA : ClassId} {n : Nat} {f : Nat → Int32} {j : Nat} (q0 t0 : Nat) (ha : w[q0]? = some (a, .inl (cA, n, .inl f))) (ht : tys[t0]? = some (cA, .int)) (hj : j < n) (hn : n < 2 ^ 31) (d : decode cc pc = .ok (.iaload, 1)) (k : Go p l e R s m args below meth c Q D A nL cells slots w (pc + 1) lv (.int (f j) :: st)) : Go p l e R s m args below meth c Q D A nL cells slots w pc lv (.int (nI j) :: .ref a :: st) :=
  fun H locs ls hP hD hS hl => va_iald F.1 F.2.1 F.2.2.2.2.2.1.1 hP q0 t0 ha ht (vp_in_nI hj hn) d (by rw [nI_clamp (Nat.lt_trans hj hn)]; exact k H locs ls hP hD hS hl)
theorem g_zald (F : gFx p m c cc nL s args Ts own D tys A) {a : Nat} {cA : ClassId} {n : Nat} {f : Nat → Int32} {j : Nat} (q0 t0 : Nat) (ha : w[q0]? = some (a, .inl (cA, n, .inl f))) (ht : tys[t0]? = some (cA, .boolean)) (hj : j < n) (hn : n < 2 ^ 31) (d : decode cc pc = .ok (.baload, 1)) (k : Go p l e R s m args below meth c Q D A nL cells slots w (pc + 1) lv (.int (f j) :: st)) : Go p l e R s m args below meth c Q D A nL cells slots w pc lv (.int (nI j) :: .ref a :: st) :=
  fun H locs ls hP hD hS hl => va_zald F.1 F.2.1 F.2.2.2.2.2.1.1 hP q0 t0 ha ht (vp_in_nI hj hn) d (by rw [nI_clamp (Nat.lt_trans hj hn)]; exact k H locs ls hP hD hS hl)
theorem g_iast (F : gFx p m c cc nL s args Ts own D tys A) {a : Nat} {cA : ClassId} {n : Nat} {f : Nat → Int32} {j : Nat} {x : Int32} (w' : va_W) (q0 t0 : Nat) (ha : w[q0]? = some (a, .inl (cA, n, .inl f))) (ht : tys[t0]? = some (cA, .int)) (hj : j < n) (hn : n < 2 ^ 31) (d : decode cc pc = .ok (.iastore, 1)) (hw : w.set q0 (a, .inl (cA, n, .inl (upd f j x))) = w') (k : Go p l e R s m args below meth c Q D A nL cells slots w' (pc + 1) lv st) : Go p l e R s m args below meth c Q D A nL cells slots w pc lv (.int x :: .int (nI j) :: .ref a :: st) := by
  subst hw
  refine fun H locs ls hP hD hS hl => va_iast F.1 F.2.1 F.2.2.2.2.2.1.1 hP hD hS q0 t0 ha ht (vp_in_nI hj hn) d (fun H1 locs1 hP1 hD1 hS1 => ?_)
  rw [nI_clamp (Nat.lt_trans hj hn)] at hP1 hD1
  exact k H1 locs1 ls hP1 hD1 hS1 hl
theorem g_zast (F : gFx p m c cc nL s args Ts own D tys A) {a : Nat} {cA : ClassId} {n : Nat} {f : Nat → Int32} {j : Nat} {x : Int32} (w' : va_W) (q0 t0 : Nat) (ha : w[q0]? = some (a, .inl (cA, n, .inl f))) (ht : tys[t0]? = some (cA, .boolean)) (hj : j < n) (hn : n < 2 ^ 31) (d : decode cc pc = .ok (.bastore, 1)) (hw : w.set q0 (a, .inl (cA, n, .inl (upd f j (vp_nar .boolean x)))) = w') (k : Go p l e R s m args below meth c Q D A nL cells slots w' (pc + 1) lv st) : Go p l e R s m args below meth c Q D A nL cells slots w pc lv (.int x :: .int (nI j) :: .ref a :: st) := by
  subst hw
  refine fun H locs ls hP hD hS hl => va_zast F.1 F.2.1 F.2.2.2.2.2.1.1 hP hD hS q0 t0 ha ht (vp_in_nI hj hn) d (fun H1 locs1 hP1 hD1 hS1 => ?_)
  rw [nI_clamp (Nat.lt_trans hj hn)] at hP1 hD1
  exact k H1 locs1 ls hP1 hD1 hS1 hl
theorem g_aald (F : gFx p m c cc nL s args Ts own D tys A) {a : Nat} {cA : ClassId} {C : String} {n : Nat} {f : Nat → Option Nat} {j r : Nat} (q0 t0 : Nat) (ha : w[q0]? = some (a, .inl (cA, n, .inr (.inr (.inr (.inr f)))))) (ht : tys[t0]? = some (cA, .object C)) (hj : j < n) (hn : n < 2 ^ 31) (hf : f j = some r) (d : decode cc pc = .ok (.aaload, 1)) (k : Go p l e R s m args below meth c Q D A nL cells slots w (pc + 1) lv (.ref r :: st)) : Go p l e R s m args below meth c Q D A nL cells slots w pc lv (.int (nI j) :: .ref a :: st) :=
  fun H locs ls hP hD hS hl => va_aldq F.1 F.2.1 F.2.2.2.2.2.1.1 hP q0 t0 ha ht (vp_in_nI hj hn) d (by rw [nI_clamp (Nat.lt_trans hj hn), hf]; exact k H locs ls hP hD hS hl)
theorem g_aast (F : gFx p m c cc nL s args Ts own D tys A) {a : Nat} {cA : ClassId} {rc : vw_C} {n v : Nat} {vs : List Value} {f : Nat → Option Nat} {j : Nat} (w' : va_W) (q0 t0 qk ci : Nat) (ha : w[q0]? = some (a, .inl (cA, n, .inr (.inr (.inr (.inr f)))))) (ht : tys[t0]? = some (cA, .object rc.1)) (hv : w[qk]? = some (v, .inr (ci, vs))) (hc : vwCl[ci]? = some rc) (hj : j < n) (hn : n < 2 ^ 31) (d : decode cc pc = .ok (.aastore, 1)) (hw : w.set q0 (a, .inl (cA, n, .inr (.inr (.inr (.inr (va_up f j (some v))))))) = w') (k : Go p l e R s m args below meth c Q D A nL cells slots w' (pc + 1) lv st) : Go p l e R s m args below meth c Q D A nL cells slots w pc lv (.ref v :: .int (nI j) :: .ref a :: st) := by
  subst hw
  refine fun H locs ls hP hD hS hl => va_astq F.1 F.2.1 F.2.2.2.2.2.1.1 hP hD hS q0 t0 qk ci ha ht hv hc (vp_in_nI hj hn) d (fun H1 locs1 hP1 hD1 hS1 => ?_)
  rw [nI_clamp (Nat.lt_trans hj hn)] at hP1 hD1
  exact k H1 locs1 ls hP1 hD1 hS1 hl
theorem g_mmax (F : gFx p m c cc nL s args Ts own D tys A) {x y : Int32} {ix : Nat} (h1 : Cond.methodLink own ix Lib.Math.max.name ∈ Ts) (h2 : Cond.static Lib.Math.max.name ∈ Ts) (h3 : Cond.initialized "java/lang/Math" ∈ Ts) (h4 : Cond.code Lib.Math.max.name Lib.Math.max.code 2 (some .int) ∈ Ts) (hf : 1 ≤ R.frames) (hlo : (st.map fun v => v.category).sum + 13 ≤ R.locals) (hc : cells ≤ R.cells) (hs : slots ≤ R.slots) (d : decode cc pc = .ok (.invokestatic ix, 3)) (k : Go p l e R s m args below meth c Q D A nL cells slots w (pc + 3) lv (.int (if x < y then y else x) :: st)) : Go p l e R s m args below meth c Q D A nL cells slots w pc lv (.int y :: .int x :: st) :=
  fun H locs ls hP hD hS hl => va_mmax F.1 F.2.1 (F.2.2.1.trans hl.1.symm) F.2.2.2.1 (F.2.2.2.2.1 _ h1) (F.2.2.2.2.1 _ h2) (F.2.2.2.2.1 _ h3) (F.2.2.2.2.1 _ h4) hf hlo hc hs d (k H locs ls hP hD hS hl)
theorem g_mabs (F : gFx p m c cc nL s args Ts own D tys A) {x : Int32} {ix : Nat} (h1 : Cond.methodLink own ix Lib.Math.abs.name ∈ Ts) (h2 : Cond.static Lib.Math.abs.name ∈ Ts) (h3 : Cond.initialized "java/lang/Math" ∈ Ts) (h4 : Cond.code Lib.Math.abs.name Lib.Math.abs.code 1 (some .int) ∈ Ts) (hf : 1 ≤ R.frames) (hlo : (st.map fun v => v.category).sum + 13 ≤ R.locals) (hc : cells ≤ R.cells) (hs : slots ≤ R.slots) (d : decode cc pc = .ok (.invokestatic ix, 3)) (k : Go p l e R s m args below meth c Q D A nL cells slots w (pc + 3) lv (.int (if 0 ≤ x then x else 0 - x) :: st)) : Go p l e R s m args below meth c Q D A nL cells slots w pc lv (.int x :: st) :=
  fun H locs ls hP hD hS hl => va_mabs F.1 F.2.1 (F.2.2.1.trans hl.1.symm) F.2.2.2.1 (F.2.2.2.2.1 _ h1) (F.2.2.2.2.1 _ h2) (F.2.2.2.2.1 _ h3) (F.2.2.2.2.1 _ h4) hf hlo hc hs d (k H locs ls hP hD hS hl)
/-- a method's start: its arguments, its world -/
def gPre (D : va_G) (tys : List (ClassId × FieldType)) (av : List Value) (w : va_W) (sz : Nat) : Array Value → State → Prop := va_Pc av (fun U => U.heap.size = sz ∧ va_P D vwCl w U.heap ∧ gKF D tys U ∧ va_D (fun _ => True) w)
/-- its end: the answer, the world behind it, nothing else changed -/
def gPost (D : va_G) (w w' : va_W) (sz : Nat) (rv : Option Value) : Array Value → State → Outcome → State → Prop := fun _ st oc t => oc = .returned rv ∧ va_P D vwCl w' t.heap ∧ va_F (va_A w sz) st t
/-- THE CONTRACT: on the world w with the arguments av the method y answers rv and leaves the world w' -/
def Ct (l : Launch) (D : va_G) (tys : List (ClassId × FieldType)) (y : MethodName) (ws : List Cond) (rm : Room) (av : List Value) (w : va_W) (rv : Option Value) (w' : va_W) : Prop := rm.cells = 0 ∧ rm.slots = 0 ∧ w'.map (fun q => q.1) = w.map (fun q => q.1) ∧ ∀ sz, Met l y ws rm (gPre D tys av w sz) (gPost D w w' sz rv) 0 0 (va_A w sz)
theorem gPre_blind {av : List Value} {sz : Nat} : FrameBlind (gPre D tys av w sz) := fun a U g mk q => ⟨q.1, q.2.1, q.2.2.1, gKF.same (u := U) (U := U.calling g mk a) rfl q.2.2.2.1, q.2.2.2.2⟩
theorem ct_of {y : MethodName} {ws ws' : List Cond} {rm : Room} {av : List Value} {w' : va_W} {rv : Option Value} {ret : Option FieldType} (hy : plainName y.cls = true) (ho : y.cls = own) (hw : ws = .code y cc nL ret :: ws') (hc : rm.cells = 0 ∧ rm.slots = 0) (hsl : (lg_sl av).length ≤ nL) (same : w'.map (fun q => q.1) = w.map (fun q => q.1))
    (body : ∀ (p : Program) (e : Env) (s : State) (m : MethodId) (below : List Frame) (meth : Method) (c : Code) (A : Nat → Prop) (Q : State → Prop), gFx p m c cc nL s av.toArray ws own D tys A → meth.sig.returnType = ret → meth.locks = false → (∀ (t : State) (H : Heap) (locs : List Loc), va_P D vwCl w' H → va_S A s.heap H locs → t.heap = H → gPost D w w' s.heap.size rv av.toArray s (.returned rv) t) → (Q = MQ below (gPost D w w' s.heap.size rv) av.toArray s 0 0 A) → Go p l e rm s m av.toArray below meth c Q D A nL 0 0 w 0 (lv_args 0 av) []) : Ct l D tys y ws rm av w rv w' := by
  refine ⟨hc.1, hc.2, same, fun sz => ?_⟩
  refine Met.ofW (cc := cc) (maxL := nL) (ret := ret) hy hw ?_
  intro p e s m args below meth c s₁ B hml hv
  obtain ⟨rfl, hsz, hP, hK, hD0⟩ := hv
  subst hsz
  subst ho
  have hl := lv_entry av (n := nL) hsl
  rw [lg_entry_eq]
  refine body p e s m below meth c (va_A w s.heap.size) _ ⟨B.exec, B.bytes, hml, findClass_of_methodNamed B.named, atoms_spec (ws := ws) B.pre, hK, fun q h => Or.inr h⟩ B.returns B.notSynchronized ?_ rfl s.heap [] _ hP hD0.self va_S.rf hl
  intro t H locs hP1 hS1 ht
  exact ⟨rfl, by rw [ht]; exact hP1, hS1.F ht⟩

/-- a method that answers an int -/
theorem ct_ofI {y : MethodName} {ws ws' : List Cond} {rm : Room} {av : List Value} {w' : va_W} {r : Int32} (hy : plainName y.cls = true) (ho : y.cls = own) (hw : ws = .code y cc nL (some .int) :: ws') (hc : rm.cells = 0 ∧ rm.slots = 0) (hsl : (lg_sl av).length ≤ nL) (same : w'.map (fun q => q.1) = w.map (fun q => q.1))
    (body : ∀ (p : Program) (e : Env) (s : State) (m : MethodId) (below : List Frame) (meth : Method) (c : Code) (A : Nat → Prop) (Q : State → Prop), gFx p m c cc nL s av.toArray ws own D tys A → (∀ (pc : Nat) (lv : List (Nat × Value)), decode cc pc = .ok (.ireturn, 1) → Go p l e rm s m av.toArray below meth c Q D A nL 0 0 w' pc lv [.int r]) → Go p l e rm s m av.toArray below meth c Q D A nL 0 0 w 0 (lv_args 0 av) []) : Ct l D tys y ws rm av w (some (.int r)) w' := by
  refine ct_of hy ho hw hc hsl same (fun p e s m below meth c A Q F hr hlk hpost hQ => body p e s m below meth c A Q F (fun pc lv d => ?_))
  subst hQ
  exact fun H locs ls hP hD hS hl => W.iret F.1 F.2.1 hr (fun t ht _ => hpost t H locs hP hS ht) hS.2.2 d hlk
/-- a method that answers a boolean -/
theorem ct_ofZ {y : MethodName} {ws ws' : List Cond} {rm : Room} {av : List Value} {w' : va_W} {r : Int32} (hy : plainName y.cls = true) (ho : y.cls = own) (hw : ws = .code y cc nL (some .boolean) :: ws') (hc : rm.cells = 0 ∧ rm.slots = 0) (hsl : (lg_sl av).length ≤ nL) (same : w'.map (fun q => q.1) = w.map (fun q => q.1)) (hb : narrow .boolean (.int r) = .int r)
    (body : ∀ (p : Program) (e : Env) (s : State) (m : MethodId) (below : List Frame) (meth : Method) (c : Code) (A : Nat → Prop) (Q : State → Prop), gFx p m c cc nL s av.toArray ws own D tys A → (∀ (pc : Nat) (lv : List (Nat × Value)), decode cc pc = .ok (.ireturn, 1) → Go p l e rm s m av.toArray below meth c Q D A nL 0 0 w' pc lv [.int r]) → Go p l e rm s m av.toArray below meth c Q D A nL 0 0 w 0 (lv_args 0 av) []) : Ct l D tys y ws rm av w (some (.int r)) w' := by
  refine ct_of hy ho hw hc hsl same (fun p e s m below meth c A Q F hr hlk hpost hQ => body p e s m below meth c A Q F (fun pc lv d => ?_))
  subst hQ
  exact fun H locs ls hP hD hS hl => W.zret F.1 F.2.1 hr hb (fun t ht _ => hpost t H locs hP hS ht) hS.2.2 d hlk
/-- a method that answers a long -/
theorem ct_ofL {y : MethodName} {ws ws' : List Cond} {rm : Room} {av : List Value} {w' : va_W} {r : Int64} (hy : plainName y.cls = true) (ho : y.cls = own) (hw : ws = .code y cc nL (some .long) :: ws') (hc : rm.cells = 0 ∧ rm.slots = 0) (hsl : (lg_sl av).length ≤ nL) (same : w'.map (fun q => q.1) = w.map (fun q => q.1))
    (body : ∀ (p : Program) (e : Env) (s : State) (m : MethodId) (below : List Frame) (meth : Method) (c : Code) (A : Nat → Prop) (Q : State → Prop), gFx p m c cc nL s av.toArray ws own D tys A → (∀ (pc : Nat) (lv : List (Nat × Value)), decode cc pc = .ok (.lreturn, 1) → Go p l e rm s m av.toArray below meth c Q D A nL 0 0 w' pc lv [.long r]) → Go p l e rm s m av.toArray below meth c Q D A nL 0 0 w 0 (lv_args 0 av) []) : Ct l D tys y ws rm av w (some (.long r)) w' := by
  refine ct_of hy ho hw hc hsl same (fun p e s m below meth c A Q F hr hlk hpost hQ => body p e s m below meth c A Q F (fun pc lv d => ?_))
  subst hQ
  exact fun H locs ls hP hD hS hl => W.lret F.1 F.2.1 hr (fun t ht _ => hpost t H locs hP hS ht) hS.2.2 d hlk
/-- a method that answers nothing -/
theorem ct_ofV {y : MethodName} {ws ws' : List Cond} {rm : Room} {av : List Value} {w' : va_W} (hy : plainName y.cls = true) (ho : y.cls = own) (hw : ws = .code y cc nL none :: ws') (hc : rm.cells = 0 ∧ rm.slots = 0) (hsl : (lg_sl av).length ≤ nL) (same : w'.map (fun q => q.1) = w.map (fun q => q.1))
    (body : ∀ (p : Program) (e : Env) (s : State) (m : MethodId) (below : List Frame) (meth : Method) (c : Code) (A : Nat → Prop) (Q : State → Prop), gFx p m c cc nL s av.toArray ws own D tys A → (∀ (pc : Nat) (lv : List (Nat × Value)), decode cc pc = .ok (.return_, 1) → Go p l e rm s m av.toArray below meth c Q D A nL 0 0 w' pc lv []) → Go p l e rm s m av.toArray below meth c Q D A nL 0 0 w 0 (lv_args 0 av) []) : Ct l D tys y ws rm av w none w' := by
  refine ct_of hy ho hw hc hsl same (fun p e s m below meth c A Q F hr hlk hpost hQ => body p e s m below meth c A Q F (fun pc lv d => ?_))
  subst hQ
  exact fun H locs ls hP hD hS hl => W.vret F.1 F.2.1 hr (fun t ht _ => hpost t H locs hP hS ht) hS.2.2 d hlk
theorem g_endI {w' : va_W} {x r : Int32} (h : Go p l e R s m args below meth c Q D A nL cells slots w' pc lv ([.int r])) (hv : x = r) (hw : w = w') : Go p l e R s m args below meth c Q D A nL cells slots w pc lv ([.int x]) := by subst hv; subst hw; exact h
theorem g_endL {w' : va_W} {x r : Int64} (h : Go p l e R s m args below meth c Q D A nL cells slots w' pc lv ([.long r])) (hv : x = r) (hw : w = w') : Go p l e R s m args below meth c Q D A nL cells slots w pc lv ([.long x]) := by subst hv; subst hw; exact h
theorem g_endV {w' : va_W} (h : Go p l e R s m args below meth c Q D A nL cells slots w' pc lv ([])) (hw : w = w') : Go p l e R s m args below meth c Q D A nL cells slots w pc lv ([]) := by subst hw; exact h

/-- behind a call: the callee's part of the world is new, the rest is as it was -/
theorem g_after (F : gFx p m c cc nL s args Ts own D tys A) {wc wc' wr w2 : va_W} {rv : Option Value} {st0 : List Value} {a : Array Value} (isC isR is2 : List Nat) (hC : isC.map (fun i => w[i]?) = wc.map some) (hR : isR.map (fun i => w[i]?) = wr.map some) (hnC : va_nd isC = true) (hn : va_nd isR = true) (hdis : ∀ i ∈ isR, i ∉ isC) (same : wc'.map (fun q => q.1) = wc.map (fun q => q.1)) (h2 : is2.map (fun i => (wr ++ wc')[i]?) = w2.map some) (hn2 : va_nd is2 = true)
    (hr : ∀ (H : Heap) (locs : List Loc) (ls : Array Slot), va_P D vwCl w H → va_D A w → va_S A s.heap H locs → lv_has ls nL lv → va_P D vwCl wc H → va_D (fun _ => True) wc → va_Run p l e R s m args below meth c H locs cells slots 0 0 (F0 m pc ls st0) st (gPost D wc wc' H.size rv a) (va_A wc H.size))
    (k : Go p l e R s m args below meth c Q D A nL cells slots w2 (pc + 3) lv (rv.toList ++ st)) : Go p l e R s m args below meth c Q D A nL cells slots w pc lv st0 := by
  intro H locs ls hP hD hS hl T hT X
  have hPc : va_P D vwCl wc H := by
    intro j q hq
    have h1 : (isC.map (fun i => w[i]?))[j]? = some (some q) := by rw [hC, List.getElem?_map, hq]; rfl
    rw [List.getElem?_map] at h1
    cases hi : isC[j]? with
    | none => rw [hi] at h1; cases h1
    | some i => rw [hi] at h1; exact hP i q (Option.some.inj h1)
  have hDc : va_D A wc := hD.sub isC hnC hC
  have hFc := va_free (wc := wc) hD hS F.2.2.2.2.2.2 isC hC
  obtain ⟨v, st₀, t, T', L, h0, X', hL, e1, e2, ⟨hv, hP1, hz, hk⟩, stp⟩ := hr H locs ls hP hD hS hl hPc (hDc.weaken (fun _ _ _ _ => trivial)) T hT X
  have hv : v = rv := Outcome.returned.inj hv
  subst hv
  rw [h0] at hz hk
  rw [← e1] at hP1 hz hk
  obtain ⟨j1, j2⟩ := va_join hP hD isC isR hC hR hn hdis hk hFc hP1 (gD_same (hDc.self (sz := H.size)) same)
  have jP : va_P D vwCl w2 T'.heap := by
    intro j q hq
    have h1 : (is2.map (fun i => (wr ++ wc')[i]?))[j]? = some (some q) := by rw [h2, List.getElem?_map, hq]; rfl
    rw [List.getElem?_map] at h1
    cases hi : is2[j]? with
    | none => rw [hi] at h1; cases h1
    | some i => rw [hi] at h1; exact j1 i q (Option.some.inj h1)
  obtain ⟨t2, a1, b1⟩ := k T'.heap (locs ++ L) ls jP (j2.sub is2 hn2 h2)
    ⟨Nat.le_trans hS.1 hz, fun q h1 h2 => by rw [hk q (Nat.lt_of_lt_of_le h1 hS.1) (fun z => h2 (hFc q z))]; exact hS.2.1 q h1 h2, fun q hq => by
      rcases List.mem_append.mp hq with h | h
      · exact hS.2.2 q h
      · exact hFc _ (hL q h)⟩ hl T' rfl X'
  exact ⟨t2, stp t2 a1, b1⟩
/-- the same where the callee's world is the caller's whole world -/
theorem g_afterS (F : gFx p m c cc nL s args Ts own D tys A) {w' : va_W} {rv : Option Value} {st0 : List Value} {a : Array Value} (same : w'.map (fun q => q.1) = w.map (fun q => q.1))
    (hr : ∀ (H : Heap) (locs : List Loc) (ls : Array Slot), va_P D vwCl w H → va_D A w → va_S A s.heap H locs → lv_has ls nL lv → va_Run p l e R s m args below meth c H locs cells slots 0 0 (F0 m pc ls st0) st (gPost D w w' H.size rv a) (va_A w H.size))
    (k : Go p l e R s m args below meth c Q D A nL cells slots w' (pc + 3) lv (rv.toList ++ st)) : Go p l e R s m args below meth c Q D A nL cells slots w pc lv st0 := by
  intro H locs ls hP hD hS hl T hT X
  have hFc : ∀ q, va_A w H.size q → A q := fun q h => by
    rcases h with ⟨k, e, h⟩ | h
    · exact hD.2 k (q, e) h
    · exact F.2.2.2.2.2.2 q (Nat.le_trans hS.1 h)
  obtain ⟨v, st₀, t, T', L, h0, X', hL, e1, e2, ⟨hv, hP1, hz, hk⟩, stp⟩ := hr H locs ls hP hD hS hl T hT X
  have hv : v = rv := Outcome.returned.inj hv
  subst hv
  rw [h0] at hz hk
  rw [← e1] at hP1 hz hk
  obtain ⟨t2, a1, b1⟩ := k T'.heap (locs ++ L) ls hP1 (gD_same hD same)
    ⟨Nat.le_trans hS.1 hz, fun q h1 h2 => by rw [hk q (Nat.lt_of_lt_of_le h1 hS.1) (fun z => h2 (hFc q z))]; exact hS.2.1 q h1 h2, fun q hq => by
      rcases List.mem_append.mp hq with h | h
      · exact hS.2.2 q h
      · exact hFc _ (hL q h)⟩ hl T' rfl X'
  exact ⟨t2, stp t2 a1, b1⟩
/-- the same where the callee has no world -/
theorem g_afterN (F : gFx p m c cc nL s args Ts own D tys A) {rv : Option Value} {st0 : List Value} {a : Array Value}
    (hr : ∀ (H : Heap) (locs : List Loc) (ls : Array Slot), lv_has ls nL lv → va_Run p l e R s m args below meth c H locs cells slots 0 0 (F0 m pc ls st0) st (gPost D [] [] H.size rv a) (va_A [] H.size))
    (k : Go p l e R s m args below meth c Q D A nL cells slots w (pc + 3) lv (rv.toList ++ st)) : Go p l e R s m args below meth c Q D A nL cells slots w pc lv st0 := by
  intro H locs ls hP hD hS hl T hT X
  have hFc : ∀ q, va_A [] H.size q → A q := fun q h => by
    rcases h with ⟨k, e, h⟩ | h
    · simp at h
    · exact F.2.2.2.2.2.2 q (Nat.le_trans hS.1 h)
  obtain ⟨v, st₀, t, T', L, h0, X', hL, e1, e2, ⟨hv, hP1, hz, hk⟩, stp⟩ := hr H locs ls hl T hT X
  have hv : v = rv := Outcome.returned.inj hv
  subst hv
  rw [h0] at hz hk
  rw [← e1] at hP1 hz hk
  have hPn : va_P D vwCl w T'.heap := fun k q hq => (hP k q hq).kept (hk q.1 (hP k q hq).lt (fun h => by
    rcases h with ⟨k, e, h⟩ | h
    · simp at h
    · exact absurd (hP _ q hq).lt (Nat.not_lt.mpr h)))
  obtain ⟨t2, a1, b1⟩ := k T'.heap (locs ++ L) ls hPn hD
    ⟨Nat.le_trans hS.1 hz, fun q h1 h2 => by rw [hk q (Nat.lt_of_lt_of_le h1 hS.1) (fun z => h2 (hFc q z))]; exact hS.2.1 q h1 h2, fun q hq => by
      rcases List.mem_append.mp hq with h | h
      · exact hS.2.2 q h
      · exact hFc _ (hL q h)⟩ hl T' rfl X'
  exact ⟨t2, stp t2 a1, b1⟩
theorem g_preS {av : List Value} {wc : va_W} {H : Heap} (F : gFx p m c cc nL s args Ts own D tys A) (hPc : va_P D vwCl wc H) (hDc : va_D (fun _ => True) wc) : PreS s H (gPre D tys av wc H.size) av := ⟨gPre_blind, fun U hU hW => ⟨rfl, by rw [hU], by rw [hU]; exact hPc, gKF.moved hW F.2.2.2.2.2.1, hDc⟩⟩
theorem g_preV {av : List Value} {wc : va_W} {H : Heap} (F : gFx p m c cc nL s args Ts own D tys A) {b ci q0 : Nat} {rc : vw_C} {fs : List Value} (hPc : va_P D vwCl wc H) (hDc : va_D (fun _ => True) wc) (he : wc[q0]? = some (b, .inr (ci, fs))) (hc : vwCl[ci]? = some rc) : PreV s H rc.1 b (gPre D tys (.ref b :: av) wc H.size) av := ⟨gPre_blind, va_recv F.2.2.2.2.2.1.1 hPc hc he, fun U hU hW => ⟨rfl, by rw [hU], by rw [hU]; exact hPc, gKF.moved hW F.2.2.2.2.2.1, hDc⟩⟩
theorem g_fx (F : gFx p m c cc nL s args Ts own D tys A) : CallFix p m c cc nL s args Ts own := ⟨F.1, F.2.1, F.2.2.1, F.2.2.2.1, F.2.2.2.2.1⟩
theorem g_callS (F : gFx p m c cc nL s args Ts own D tys A) {y : MethodName} {ws : List Cond} {rm : Room} {bytes : ByteArray} {maxL ix n : Nat} {ret : Option FieldType} {As : List Value} {wc wc' : va_W} {rv : Option Value} {st0 : List Value} (wr w2 : va_W) (isC isR is2 : List Nat) (hM : Ct l D tys y ws rm As wc rv wc') (cw : CallB R s args own ix y bytes maxL ret ws rm 0 0 n ∧ (Cond.static y).before args s = true) (hn : As.length = n) (hst : st0 = As.reverse ++ st) (hC : isC.map (fun i => w[i]?) = wc.map some) (hR : isR.map (fun i => w[i]?) = wr.map some) (hnC : va_nd isC = true) (hnR : va_nd isR = true) (hdis : ∀ i ∈ isR, i ∉ isC) (h2 : is2.map (fun i => (wr ++ wc')[i]?) = w2.map some) (hn2 : va_nd is2 = true) (hroom : (st.map fun v => v.category).sum ≤ 8) (hf : cells ≤ R.cells ∧ slots ≤ R.slots) (d : decode cc pc = .ok (.invokestatic ix, 3)) (k : Go p l e R s m args below meth c Q D A nL cells slots w2 (pc + 3) lv (rv.toList ++ st)) : Go p l e R s m args below meth c Q D A nL cells slots w pc lv st0 :=
  g_after F isC isR is2 hC hR hnC hnR hdis hM.2.2.1 h2 hn2 (fun H locs ls hP hD hS hl hPc hDc => va_runS (g_fx F) (hM.2.2.2 H.size) cw (g_preS F hPc hDc) rfl hn hl.1 hst (lv_room hroom) d hf) k
theorem g_callSs (F : gFx p m c cc nL s args Ts own D tys A) {y : MethodName} {ws : List Cond} {rm : Room} {bytes : ByteArray} {maxL ix n : Nat} {ret : Option FieldType} {As : List Value} {w' : va_W} {rv : Option Value} {st0 : List Value} (hM : Ct l D tys y ws rm As w rv w') (cw : CallB R s args own ix y bytes maxL ret ws rm 0 0 n ∧ (Cond.static y).before args s = true) (hn : As.length = n) (hst : st0 = As.reverse ++ st) (hroom : (st.map fun v => v.category).sum ≤ 8) (hf : cells ≤ R.cells ∧ slots ≤ R.slots) (d : decode cc pc = .ok (.invokestatic ix, 3)) (k : Go p l e R s m args below meth c Q D A nL cells slots w' (pc + 3) lv (rv.toList ++ st)) : Go p l e R s m args below meth c Q D A nL cells slots w pc lv st0 :=
  g_afterS F hM.2.2.1 (fun H locs ls hP hD hS hl => va_runS (g_fx F) (hM.2.2.2 H.size) cw (g_preS F hP (hD.weaken (fun _ _ _ _ => trivial))) rfl hn hl.1 hst (lv_room hroom) d hf) k
theorem g_callSn (F : gFx p m c cc nL s args Ts own D tys A) {y : MethodName} {ws : List Cond} {rm : Room} {bytes : ByteArray} {maxL ix n : Nat} {ret : Option FieldType} {As : List Value} {rv : Option Value} {st0 : List Value} (hM : Ct l D tys y ws rm As [] rv []) (cw : CallB R s args own ix y bytes maxL ret ws rm 0 0 n ∧ (Cond.static y).before args s = true) (hn : As.length = n) (hst : st0 = As.reverse ++ st) (hroom : (st.map fun v => v.category).sum ≤ 8) (hf : cells ≤ R.cells ∧ slots ≤ R.slots) (d : decode cc pc = .ok (.invokestatic ix, 3)) (k : Go p l e R s m args below meth c Q D A nL cells slots w (pc + 3) lv (rv.toList ++ st)) : Go p l e R s m args below meth c Q D A nL cells slots w pc lv st0 :=
  g_afterN F (fun H locs ls hl => va_runS (g_fx F) (hM.2.2.2 H.size) cw (g_preS F (fun k q h => by simp at h) ⟨fun i j p q h => by simp at h, fun k q h => by simp at h⟩) rfl hn hl.1 hst (lv_room hroom) d hf) k
theorem g_callSN (F : gFx p m c cc nL s args Ts own D tys A) {y : MethodName} {ws : List Cond} {rm : Room} {bytes : ByteArray} {maxL ix n : Nat} {ret : Option FieldType} {host : String} {As : List Value} {wc wc' : va_W} {rv : Option Value} {st0 : List Value} (wr w2 : va_W) (isC isR is2 : List Nat) (hM : Ct l D tys y ws rm As wc rv wc') (cw : va_CN R s args own ix y host bytes maxL ret ws rm 0 0 n ∧ (Cond.static y).before args s = true ∧ True) (hn : As.length = n) (hst : st0 = As.reverse ++ st) (hC : isC.map (fun i => w[i]?) = wc.map some) (hR : isR.map (fun i => w[i]?) = wr.map some) (hnC : va_nd isC = true) (hnR : va_nd isR = true) (hdis : ∀ i ∈ isR, i ∉ isC) (h2 : is2.map (fun i => (wr ++ wc')[i]?) = w2.map some) (hn2 : va_nd is2 = true) (hroom : (st.map fun v => v.category).sum ≤ 8) (hf : cells ≤ R.cells ∧ slots ≤ R.slots) (d : decode cc pc = .ok (.invokestatic ix, 3)) (k : Go p l e R s m args below meth c Q D A nL cells slots w2 (pc + 3) lv (rv.toList ++ st)) : Go p l e R s m args below meth c Q D A nL cells slots w pc lv st0 :=
  g_after F isC isR is2 hC hR hnC hnR hdis hM.2.2.1 h2 hn2 (fun H locs ls hP hD hS hl hPc hDc => va_runSN (g_fx F) (hM.2.2.2 H.size) cw (g_preS F hPc hDc) rfl hn hl.1 hst (lv_room hroom) d hf) k
theorem g_callSNs (F : gFx p m c cc nL s args Ts own D tys A) {y : MethodName} {ws : List Cond} {rm : Room} {bytes : ByteArray} {maxL ix n : Nat} {ret : Option FieldType} {host : String} {As : List Value} {w' : va_W} {rv : Option Value} {st0 : List Value} (hM : Ct l D tys y ws rm As w rv w') (cw : va_CN R s args own ix y host bytes maxL ret ws rm 0 0 n ∧ (Cond.static y).before args s = true ∧ True) (hn : As.length = n) (hst : st0 = As.reverse ++ st) (hroom : (st.map fun v => v.category).sum ≤ 8) (hf : cells ≤ R.cells ∧ slots ≤ R.slots) (d : decode cc pc = .ok (.invokestatic ix, 3)) (k : Go p l e R s m args below meth c Q D A nL cells slots w' (pc + 3) lv (rv.toList ++ st)) : Go p l e R s m args below meth c Q D A nL cells slots w pc lv st0 :=
  g_afterS F hM.2.2.1 (fun H locs ls hP hD hS hl => va_runSN (g_fx F) (hM.2.2.2 H.size) cw (g_preS F hP (hD.weaken (fun _ _ _ _ => trivial))) rfl hn hl.1 hst (lv_room hroom) d hf) k
theorem g_callSNn (F : gFx p m c cc nL s args Ts own D tys A) {y : MethodName} {ws : List Cond} {rm : Room} {bytes : ByteArray} {maxL ix n : Nat} {ret : Option FieldType} {host : String} {As : List Value} {rv : Option Value} {st0 : List Value} (hM : Ct l D tys y ws rm As [] rv []) (cw : va_CN R s args own ix y host bytes maxL ret ws rm 0 0 n ∧ (Cond.static y).before args s = true ∧ True) (hn : As.length = n) (hst : st0 = As.reverse ++ st) (hroom : (st.map fun v => v.category).sum ≤ 8) (hf : cells ≤ R.cells ∧ slots ≤ R.slots) (d : decode cc pc = .ok (.invokestatic ix, 3)) (k : Go p l e R s m args below meth c Q D A nL cells slots w (pc + 3) lv (rv.toList ++ st)) : Go p l e R s m args below meth c Q D A nL cells slots w pc lv st0 :=
  g_afterN F (fun H locs ls hl => va_runSN (g_fx F) (hM.2.2.2 H.size) cw (g_preS F (fun k q h => by simp at h) ⟨fun i j p q h => by simp at h, fun k q h => by simp at h⟩) rfl hn hl.1 hst (lv_room hroom) d hf) k
theorem g_callV (F : gFx p m c cc nL s args Ts own D tys A) {y : MethodName} {ws : List Cond} {rm : Room} {bytes : ByteArray} {maxL ix n : Nat} {ret : Option FieldType} {b ci : Nat} {rc : vw_C} {fs : List Value} {As : List Value} {wc wc' : va_W} {rv : Option Value} {st0 : List Value} (wr w2 : va_W) (isC isR is2 : List Nat) (hM : Ct l D tys y ws rm (.ref b :: As) wc rv wc') (qb : Nat) (hb : wc[qb]? = some (b, .inr (ci, fs))) (hrc : vwCl[ci]? = some rc) (cw : CallW R s args own rc.1 ix y bytes maxL ret ws rm 0 0 n) (hn : As.length = n) (hst : st0 = As.reverse ++ .ref b :: st) (hC : isC.map (fun i => w[i]?) = wc.map some) (hR : isR.map (fun i => w[i]?) = wr.map some) (hnC : va_nd isC = true) (hnR : va_nd isR = true) (hdis : ∀ i ∈ isR, i ∉ isC) (h2 : is2.map (fun i => (wr ++ wc')[i]?) = w2.map some) (hn2 : va_nd is2 = true) (hroom : (st.map fun v => v.category).sum ≤ 8) (hf : cells ≤ R.cells ∧ slots ≤ R.slots) (d : decode cc pc = .ok (.invokevirtual ix, 3)) (k : Go p l e R s m args below meth c Q D A nL cells slots w2 (pc + 3) lv (rv.toList ++ st)) : Go p l e R s m args below meth c Q D A nL cells slots w pc lv st0 :=
  g_after F isC isR is2 hC hR hnC hnR hdis hM.2.2.1 h2 hn2 (fun H locs ls hP hD hS hl hPc hDc => va_runV (g_fx F) (hM.2.2.2 H.size) cw (g_preV F hPc hDc hb hrc) rfl hn hl.1 hst (lv_room hroom) d hf) k
theorem g_callVs (F : gFx p m c cc nL s args Ts own D tys A) {y : MethodName} {ws : List Cond} {rm : Room} {bytes : ByteArray} {maxL ix n : Nat} {ret : Option FieldType} {b ci : Nat} {rc : vw_C} {fs : List Value} {As : List Value} {w' : va_W} {rv : Option Value} {st0 : List Value} (hM : Ct l D tys y ws rm (.ref b :: As) w rv w') (qb : Nat) (hb : w[qb]? = some (b, .inr (ci, fs))) (hrc : vwCl[ci]? = some rc) (cw : CallW R s args own rc.1 ix y bytes maxL ret ws rm 0 0 n) (hn : As.length = n) (hst : st0 = As.reverse ++ .ref b :: st) (hroom : (st.map fun v => v.category).sum ≤ 8) (hf : cells ≤ R.cells ∧ slots ≤ R.slots) (d : decode cc pc = .ok (.invokevirtual ix, 3)) (k : Go p l e R s m args below meth c Q D A nL cells slots w' (pc + 3) lv (rv.toList ++ st)) : Go p l e R s m args below meth c Q D A nL cells slots w pc lv st0 :=
  g_afterS F hM.2.2.1 (fun H locs ls hP hD hS hl => va_runV (g_fx F) (hM.2.2.2 H.size) cw (g_preV F hP (hD.weaken (fun _ _ _ _ => trivial)) hb hrc) rfl hn hl.1 hst (lv_room hroom) d hf) k
/-- a counted loop: from the head at i < N to the head at i + 1 -/
theorem g_loop {σ : Type} (N : Nat) (I : Nat → σ → Prop) (wf : Nat → σ → va_W) (lf : Nat → σ → List (Nat × Value)) (step : ∀ (i : Nat) (x : σ), i ≤ N → I i x → (i < N → ∀ y, I (i + 1) y → Go p l e R s m args below meth c Q D A nL cells slots (wf (i + 1) y) pc (lf (i + 1) y) st) → Go p l e R s m args below meth c Q D A nL cells slots (wf i x) pc (lf i x) st) : ∀ (i : Nat) (x : σ), i ≤ N → I i x → Go p l e R s m args below meth c Q D A nL cells slots (wf i x) pc (lf i x) st := by
  have key : ∀ (n i : Nat) (x : σ), N - i = n → i ≤ N → I i x → Go p l e R s m args below meth c Q D A nL cells slots (wf i x) pc (lf i x) st := by
    intro n
    induction n with
    | zero => intro i x hn hi hI; exact step i x hi hI (fun h => absurd h (by omega))
    | succ n ih => intro i x hn hi hI; exact step i x hi hI (fun h y hy => ih (i + 1) y (by omega) (by omega) hy)
  exact fun i x hi hI => key _ i x rfl hi hI
theorem g_for (N : Nat) (I : Nat → Prop) (wf : Nat → va_W) (lf : Nat → List (Nat × Value)) (step : ∀ (i : Nat), i ≤ N → I i → (i < N → I (i + 1) → Go p l e R s m args below meth c Q D A nL cells slots (wf (i + 1)) pc (lf (i + 1)) st) → Go p l e R s m args below meth c Q D A nL cells slots (wf i) pc (lf i) st) (i : Nat) (hi : i ≤ N) (hI : I i) : Go p l e R s m args below meth c Q D A nL cells slots (wf i) pc (lf i) st :=
  g_loop (σ := Unit) N (fun i _ => I i) (fun i _ => wf i) (fun i _ => lf i) (fun i _ h1 h2 h3 => step i h1 h2 (fun h4 h5 => h3 h4 () h5)) i () hi hI
end GOL
end
section
set_option maxRecDepth 20000 in
theorem ggX2_init_X2_clear : GoodIn wsX2_init wsX2_clear := goodIn_r _ [19] (by decide +kernel) (by decide +kernel)
set_option maxRecDepth 20000 in
theorem gX2_init_X2_clear : GoodIn wsX2_init (va_wsS RX2 41 yX2_clear wsX2_clear) := goodIn_app (goodIn_of _ (by decide +kernel)) ggX2_init_X2_clear
theorem dX2_init_0 : decode cX2_init 0 = .ok (.aload_n 0, 1) := by decide +kernel
theorem dX2_init_1 : decode cX2_init 1 = .ok (.invokespecial 1, 3) := by decide +kernel
theorem dX2_init_4 : decode cX2_init 4 = .ok (.aload_n 0, 1) := by decide +kernel
theorem dX2_init_5 : decode cX2_init 5 = .ok (.bipush 60, 2) := by decide +kernel
theorem dX2_init_7 : decode cX2_init 7 = .ok (.newarray .int, 2) := by decide +kernel
theorem dX2_init_9 : decode cX2_init 9 = .ok (.putfield 7, 3) := by decide +kernel
theorem dX2_init_12 : decode cX2_init 12 = .ok (.aload_n 0, 1) := by decide +kernel
theorem dX2_init_13 : decode cX2_init 13 = .ok (.bipush 79, 2) := by decide +kernel
theorem dX2_init_15 : decode cX2_init 15 = .ok (.newarray .int, 2) := by decide +kernel
theorem dX2_init_17 : decode cX2_init 17 = .ok (.putfield 13, 3) := by decide +kernel
theorem dX2_init_20 : decode cX2_init 20 = .ok (.aload_n 0, 1) := by decide +kernel
theorem dX2_init_21 : decode cX2_init 21 = .ok (.bipush 79, 2) := by decide +kernel
theorem dX2_init_23 : decode cX2_init 23 = .ok (.newarray .int, 2) := by decide +kernel
theorem dX2_init_25 : decode cX2_init 25 = .ok (.putfield 16, 3) := by decide +kernel
theorem dX2_init_28 : decode cX2_init 28 = .ok (.aload_n 0, 1) := by decide +kernel
theorem dX2_init_29 : decode cX2_init 29 = .ok (.sipush 1106, 3) := by decide +kernel
theorem dX2_init_32 : decode cX2_init 32 = .ok (.newarray .int, 2) := by decide +kernel
theorem dX2_init_34 : decode cX2_init 34 = .ok (.putfield 19, 3) := by decide +kernel
theorem dX2_init_37 : decode cX2_init 37 = .ok (.aload_n 0, 1) := by decide +kernel
theorem dX2_init_38 : decode cX2_init 38 = .ok (.sipush 158, 3) := by decide +kernel
theorem dX2_init_41 : decode cX2_init 41 = .ok (.newarray .int, 2) := by decide +kernel
theorem dX2_init_43 : decode cX2_init 43 = .ok (.putfield 22, 3) := by decide +kernel
theorem dX2_init_46 : decode cX2_init 46 = .ok (.aload_n 0, 1) := by decide +kernel
theorem dX2_init_47 : decode cX2_init 47 = .ok (.iconst 2, 1) := by decide +kernel
theorem dX2_init_48 : decode cX2_init 48 = .ok (.newarray .boolean, 2) := by decide +kernel
theorem dX2_init_50 : decode cX2_init 50 = .ok (.putfield 25, 3) := by decide +kernel
theorem dX2_init_53 : decode cX2_init 53 = .ok (.aload_n 0, 1) := by decide +kernel
theorem dX2_init_54 : decode cX2_init 54 = .ok (.bipush 6, 2) := by decide +kernel
theorem dX2_init_56 : decode cX2_init 56 = .ok (.newarray .int, 2) := by decide +kernel
theorem dX2_init_58 : decode cX2_init 58 = .ok (.putfield 29, 3) := by decide +kernel
theorem dX2_init_61 : decode cX2_init 61 = .ok (.aload_n 0, 1) := by decide +kernel
theorem dX2_init_62 : decode cX2_init 62 = .ok (.bipush 6, 2) := by decide +kernel
theorem dX2_init_64 : decode cX2_init 64 = .ok (.newarray .int, 2) := by decide +kernel
theorem dX2_init_66 : decode cX2_init 66 = .ok (.putfield 32, 3) := by decide +kernel
theorem dX2_init_69 : decode cX2_init 69 = .ok (.aload_n 0, 1) := by decide +kernel
theorem dX2_init_70 : decode cX2_init 70 = .ok (.bipush 64, 2) := by decide +kernel
theorem dX2_init_72 : decode cX2_init 72 = .ok (.newarray .int, 2) := by decide +kernel
theorem dX2_init_74 : decode cX2_init 74 = .ok (.putfield 35, 3) := by decide +kernel
theorem dX2_init_77 : decode cX2_init 77 = .ok (.aload_n 0, 1) := by decide +kernel
theorem dX2_init_78 : decode cX2_init 78 = .ok (.bipush 79, 2) := by decide +kernel
theorem dX2_init_80 : decode cX2_init 80 = .ok (.newarray .int, 2) := by decide +kernel
theorem dX2_init_82 : decode cX2_init 82 = .ok (.putfield 38, 3) := by decide +kernel
theorem dX2_init_85 : decode cX2_init 85 = .ok (.aload_n 0, 1) := by decide +kernel
theorem dX2_init_86 : decode cX2_init 86 = .ok (.getfield 13, 3) := by decide +kernel
theorem dX2_init_89 : decode cX2_init 89 = .ok (.invokestatic 41, 3) := by decide +kernel
theorem dX2_init_92 : decode cX2_init 92 = .ok (.return_, 1) := by decide +kernel
theorem dX2_copy_0 : decode cX2_copy 0 = .ok (.iconst 0, 1) := by decide +kernel
theorem dX2_copy_1 : decode cX2_copy 1 = .ok (.istore_n 2, 1) := by decide +kernel
theorem dX2_copy_2 : decode cX2_copy 2 = .ok (.iload_n 2, 1) := by decide +kernel
theorem dX2_copy_3 : decode cX2_copy 3 = .ok (.bipush 79, 2) := by decide +kernel
theorem dX2_copy_5 : decode cX2_copy 5 = .ok (.if_icmp .ge 15, 3) := by decide +kernel
theorem dX2_copy_8 : decode cX2_copy 8 = .ok (.aload_n 1, 1) := by decide +kernel
theorem dX2_copy_9 : decode cX2_copy 9 = .ok (.iload_n 2, 1) := by decide +kernel
theorem dX2_copy_10 : decode cX2_copy 10 = .ok (.aload_n 0, 1) := by decide +kernel
theorem dX2_copy_11 : decode cX2_copy 11 = .ok (.iload_n 2, 1) := by decide +kernel
theorem dX2_copy_12 : decode cX2_copy 12 = .ok (.iaload, 1) := by decide +kernel
theorem dX2_copy_13 : decode cX2_copy 13 = .ok (.iastore, 1) := by decide +kernel
theorem dX2_copy_14 : decode cX2_copy 14 = .ok (.iinc 2 1, 3) := by decide +kernel
theorem dX2_copy_17 : decode cX2_copy 17 = .ok (.goto (-15), 3) := by decide +kernel
theorem dX2_copy_20 : decode cX2_copy 20 = .ok (.return_, 1) := by decide +kernel
theorem dX2_clear_0 : decode cX2_clear 0 = .ok (.iconst 0, 1) := by decide +kernel
theorem dX2_clear_1 : decode cX2_clear 1 = .ok (.istore_n 1, 1) := by decide +kernel
theorem dX2_clear_2 : decode cX2_clear 2 = .ok (.iload_n 1, 1) := by decide +kernel
theorem dX2_clear_3 : decode cX2_clear 3 = .ok (.bipush 79, 2) := by decide +kernel
theorem dX2_clear_5 : decode cX2_clear 5 = .ok (.if_icmp .ge 13, 3) := by decide +kernel
theorem dX2_clear_8 : decode cX2_clear 8 = .ok (.aload_n 0, 1) := by decide +kernel
theorem dX2_clear_9 : decode cX2_clear 9 = .ok (.iload_n 1, 1) := by decide +kernel
theorem dX2_clear_10 : decode cX2_clear 10 = .ok (.iconst 0, 1) := by decide +kernel
theorem dX2_clear_11 : decode cX2_clear 11 = .ok (.iastore, 1) := by decide +kernel
theorem dX2_clear_12 : decode cX2_clear 12 = .ok (.iinc 1 1, 3) := by decide +kernel
theorem dX2_clear_15 : decode cX2_clear 15 = .ok (.goto (-13), 3) := by decide +kernel
theorem dX2_clear_18 : decode cX2_clear 18 = .ok (.aload_n 0, 1) := by decide +kernel
theorem dX2_clear_19 : decode cX2_clear 19 = .ok (.bipush 66, 2) := by decide +kernel
theorem dX2_clear_21 : decode cX2_clear 21 = .ok (.iconst 1, 1) := by decide +kernel
theorem dX2_clear_22 : decode cX2_clear 22 = .ok (.iastore, 1) := by decide +kernel
theorem dX2_clear_23 : decode cX2_clear 23 = .ok (.aload_n 0, 1) := by decide +kernel
theorem dX2_clear_24 : decode cX2_clear 24 = .ok (.bipush 67, 2) := by decide +kernel
theorem dX2_clear_26 : decode cX2_clear 26 = .ok (.iconst 1, 1) := by decide +kernel
theorem dX2_clear_27 : decode cX2_clear 27 = .ok (.iastore, 1) := by decide +kernel
theorem dX2_clear_28 : decode cX2_clear 28 = .ok (.aload_n 0, 1) := by decide +kernel
theorem dX2_clear_29 : decode cX2_clear 29 = .ok (.bipush 68, 2) := by decide +kernel
theorem dX2_clear_31 : decode cX2_clear 31 = .ok (.iconst 1, 1) := by decide +kernel
theorem dX2_clear_32 : decode cX2_clear 32 = .ok (.iastore, 1) := by decide +kernel
theorem dX2_clear_33 : decode cX2_clear 33 = .ok (.return_, 1) := by decide +kernel
theorem dX2_in_0 : decode cX2_in 0 = .ok (.lload_n 0, 1) := by decide +kernel
theorem dX2_in_1 : decode cX2_in 1 = .ok (.lload_n 2, 1) := by decide +kernel
theorem dX2_in_2 : decode cX2_in 2 = .ok (.lcmp, 1) := by decide +kernel
theorem dX2_in_3 : decode cX2_in 3 = .ok (.ifCond .lt 14, 3) := by decide +kernel
theorem dX2_in_6 : decode cX2_in 6 = .ok (.lload_n 0, 1) := by decide +kernel
theorem dX2_in_7 : decode cX2_in 7 = .ok (.lload 4, 2) := by decide +kernel
theorem dX2_in_9 : decode cX2_in 9 = .ok (.lcmp, 1) := by decide +kernel
theorem dX2_in_10 : decode cX2_in 10 = .ok (.ifCond .gt 7, 3) := by decide +kernel
theorem dX2_in_13 : decode cX2_in 13 = .ok (.iconst 1, 1) := by decide +kernel
theorem dX2_in_14 : decode cX2_in 14 = .ok (.goto 4, 3) := by decide +kernel
theorem dX2_in_17 : decode cX2_in 17 = .ok (.iconst 0, 1) := by decide +kernel
theorem dX2_in_18 : decode cX2_in 18 = .ok (.ireturn, 1) := by decide +kernel
theorem dX2_has_0 : decode cX2_has 0 = .ok (.iload_n 0, 1) := by decide +kernel
theorem dX2_has_1 : decode cX2_has 1 = .ok (.iload_n 1, 1) := by decide +kernel
theorem dX2_has_2 : decode cX2_has 2 = .ok (.ishr, 1) := by decide +kernel
theorem dX2_has_3 : decode cX2_has 3 = .ok (.iconst 1, 1) := by decide +kernel
theorem dX2_has_4 : decode cX2_has 4 = .ok (.iand, 1) := by decide +kernel
theorem dX2_has_5 : decode cX2_has 5 = .ok (.iconst 1, 1) := by decide +kernel
theorem dX2_has_6 : decode cX2_has 6 = .ok (.if_icmp .ne 7, 3) := by decide +kernel
theorem dX2_has_9 : decode cX2_has 9 = .ok (.iconst 1, 1) := by decide +kernel
theorem dX2_has_10 : decode cX2_has 10 = .ok (.goto 4, 3) := by decide +kernel
theorem dX2_has_13 : decode cX2_has 13 = .ok (.iconst 0, 1) := by decide +kernel
theorem dX2_has_14 : decode cX2_has 14 = .ok (.ireturn, 1) := by decide +kernel
theorem dX2_ones_0 : decode cX2_ones 0 = .ok (.iconst 0, 1) := by decide +kernel
theorem dX2_ones_1 : decode cX2_ones 1 = .ok (.istore_n 1, 1) := by decide +kernel
theorem dX2_ones_2 : decode cX2_ones 2 = .ok (.iconst 0, 1) := by decide +kernel
theorem dX2_ones_3 : decode cX2_ones 3 = .ok (.istore_n 2, 1) := by decide +kernel
theorem dX2_ones_4 : decode cX2_ones 4 = .ok (.iload_n 2, 1) := by decide +kernel
theorem dX2_ones_5 : decode cX2_ones 5 = .ok (.bipush 6, 2) := by decide +kernel
theorem dX2_ones_7 : decode cX2_ones 7 = .ok (.if_icmp .ge 17, 3) := by decide +kernel
theorem dX2_ones_10 : decode cX2_ones 10 = .ok (.iload_n 1, 1) := by decide +kernel
theorem dX2_ones_11 : decode cX2_ones 11 = .ok (.iload_n 0, 1) := by decide +kernel
theorem dX2_ones_12 : decode cX2_ones 12 = .ok (.iload_n 2, 1) := by decide +kernel
theorem dX2_ones_13 : decode cX2_ones 13 = .ok (.ishr, 1) := by decide +kernel
theorem dX2_ones_14 : decode cX2_ones 14 = .ok (.iconst 1, 1) := by decide +kernel
theorem dX2_ones_15 : decode cX2_ones 15 = .ok (.iand, 1) := by decide +kernel
theorem dX2_ones_16 : decode cX2_ones 16 = .ok (.iadd, 1) := by decide +kernel
theorem dX2_ones_17 : decode cX2_ones 17 = .ok (.istore_n 1, 1) := by decide +kernel
theorem dX2_ones_18 : decode cX2_ones 18 = .ok (.iinc 2 1, 3) := by decide +kernel
theorem dX2_ones_21 : decode cX2_ones 21 = .ok (.goto (-17), 3) := by decide +kernel
theorem dX2_ones_24 : decode cX2_ones 24 = .ok (.iload_n 1, 1) := by decide +kernel
theorem dX2_ones_25 : decode cX2_ones 25 = .ok (.ireturn, 1) := by decide +kernel
theorem dX2_power_0 : decode cX2_power 0 = .ok (.iconst 1, 1) := by decide +kernel
theorem dX2_power_1 : decode cX2_power 1 = .ok (.istore_n 2, 1) := by decide +kernel
theorem dX2_power_2 : decode cX2_power 2 = .ok (.iconst 0, 1) := by decide +kernel
theorem dX2_power_3 : decode cX2_power 3 = .ok (.istore_n 3, 1) := by decide +kernel
theorem dX2_power_4 : decode cX2_power 4 = .ok (.iload_n 3, 1) := by decide +kernel
theorem dX2_power_5 : decode cX2_power 5 = .ok (.iload_n 1, 1) := by decide +kernel
theorem dX2_power_6 : decode cX2_power 6 = .ok (.if_icmp .ge 13, 3) := by decide +kernel
theorem dX2_power_9 : decode cX2_power 9 = .ok (.iload_n 2, 1) := by decide +kernel
theorem dX2_power_10 : decode cX2_power 10 = .ok (.iload_n 0, 1) := by decide +kernel
theorem dX2_power_11 : decode cX2_power 11 = .ok (.imul, 1) := by decide +kernel
theorem dX2_power_12 : decode cX2_power 12 = .ok (.istore_n 2, 1) := by decide +kernel
theorem dX2_power_13 : decode cX2_power 13 = .ok (.iinc 3 1, 3) := by decide +kernel
theorem dX2_power_16 : decode cX2_power 16 = .ok (.goto (-12), 3) := by decide +kernel
theorem dX2_power_19 : decode cX2_power 19 = .ok (.iload_n 2, 1) := by decide +kernel
theorem dX2_power_20 : decode cX2_power 20 = .ok (.ireturn, 1) := by decide +kernel
theorem dX2_factorial_0 : decode cX2_factorial 0 = .ok (.iconst 1, 1) := by decide +kernel
theorem dX2_factorial_1 : decode cX2_factorial 1 = .ok (.istore_n 1, 1) := by decide +kernel
theorem dX2_factorial_2 : decode cX2_factorial 2 = .ok (.iconst 2, 1) := by decide +kernel
theorem dX2_factorial_3 : decode cX2_factorial 3 = .ok (.istore_n 2, 1) := by decide +kernel
theorem dX2_factorial_4 : decode cX2_factorial 4 = .ok (.iload_n 2, 1) := by decide +kernel
theorem dX2_factorial_5 : decode cX2_factorial 5 = .ok (.iload_n 0, 1) := by decide +kernel
theorem dX2_factorial_6 : decode cX2_factorial 6 = .ok (.if_icmp .gt 13, 3) := by decide +kernel
theorem dX2_factorial_9 : decode cX2_factorial 9 = .ok (.iload_n 1, 1) := by decide +kernel
theorem dX2_factorial_10 : decode cX2_factorial 10 = .ok (.iload_n 2, 1) := by decide +kernel
theorem dX2_factorial_11 : decode cX2_factorial 11 = .ok (.imul, 1) := by decide +kernel
theorem dX2_factorial_12 : decode cX2_factorial 12 = .ok (.istore_n 1, 1) := by decide +kernel
theorem dX2_factorial_13 : decode cX2_factorial 13 = .ok (.iinc 2 1, 3) := by decide +kernel
theorem dX2_factorial_16 : decode cX2_factorial 16 = .ok (.goto (-12), 3) := by decide +kernel
theorem dX2_factorial_19 : decode cX2_factorial 19 = .ok (.iload_n 1, 1) := by decide +kernel
theorem dX2_factorial_20 : decode cX2_factorial 20 = .ok (.ireturn, 1) := by decide +kernel
theorem dX2_fraction_0 : decode cX2_fraction 0 = .ok (.iload_n 0, 1) := by decide +kernel
theorem dX2_fraction_1 : decode cX2_fraction 1 = .ok (.ifCond .ge 8, 3) := by decide +kernel
theorem dX2_fraction_4 : decode cX2_fraction 4 = .ok (.iload_n 0, 1) := by decide +kernel
theorem dX2_fraction_5 : decode cX2_fraction 5 = .ok (.ineg, 1) := by decide +kernel
theorem dX2_fraction_6 : decode cX2_fraction 6 = .ok (.goto 4, 3) := by decide +kernel
theorem dX2_fraction_9 : decode cX2_fraction 9 = .ok (.iload_n 0, 1) := by decide +kernel
theorem dX2_fraction_10 : decode cX2_fraction 10 = .ok (.istore_n 3, 1) := by decide +kernel
theorem dX2_fraction_11 : decode cX2_fraction 11 = .ok (.iload_n 1, 1) := by decide +kernel
theorem dX2_fraction_12 : decode cX2_fraction 12 = .ok (.istore 4, 2) := by decide +kernel
theorem dX2_fraction_14 : decode cX2_fraction 14 = .ok (.iload 4, 2) := by decide +kernel
theorem dX2_fraction_16 : decode cX2_fraction 16 = .ok (.ifCond .eq 19, 3) := by decide +kernel
theorem dX2_fraction_19 : decode cX2_fraction 19 = .ok (.iload_n 3, 1) := by decide +kernel
theorem dX2_fraction_20 : decode cX2_fraction 20 = .ok (.iload 4, 2) := by decide +kernel
theorem dX2_fraction_22 : decode cX2_fraction 22 = .ok (.irem, 1) := by decide +kernel
theorem dX2_fraction_23 : decode cX2_fraction 23 = .ok (.istore 5, 2) := by decide +kernel
theorem dX2_fraction_25 : decode cX2_fraction 25 = .ok (.iload 4, 2) := by decide +kernel
theorem dX2_fraction_27 : decode cX2_fraction 27 = .ok (.istore_n 3, 1) := by decide +kernel
theorem dX2_fraction_28 : decode cX2_fraction 28 = .ok (.iload 5, 2) := by decide +kernel
theorem dX2_fraction_30 : decode cX2_fraction 30 = .ok (.istore 4, 2) := by decide +kernel
theorem dX2_fraction_32 : decode cX2_fraction 32 = .ok (.goto (-18), 3) := by decide +kernel
theorem dX2_fraction_35 : decode cX2_fraction 35 = .ok (.iload_n 2, 1) := by decide +kernel
theorem dX2_fraction_36 : decode cX2_fraction 36 = .ok (.ifCond .eq 9, 3) := by decide +kernel
theorem dX2_fraction_39 : decode cX2_fraction 39 = .ok (.iload_n 0, 1) := by decide +kernel
theorem dX2_fraction_40 : decode cX2_fraction 40 = .ok (.iload_n 3, 1) := by decide +kernel
theorem dX2_fraction_41 : decode cX2_fraction 41 = .ok (.idiv, 1) := by decide +kernel
theorem dX2_fraction_42 : decode cX2_fraction 42 = .ok (.goto 6, 3) := by decide +kernel
theorem dX2_fraction_45 : decode cX2_fraction 45 = .ok (.iload_n 1, 1) := by decide +kernel
theorem dX2_fraction_46 : decode cX2_fraction 46 = .ok (.iload_n 3, 1) := by decide +kernel
theorem dX2_fraction_47 : decode cX2_fraction 47 = .ok (.idiv, 1) := by decide +kernel
theorem dX2_fraction_48 : decode cX2_fraction 48 = .ok (.ireturn, 1) := by decide +kernel
set_option maxRecDepth 20000 in
theorem ggX2_isMember_X2_in : GoodIn wsX2_isMember wsX2_in := goodIn_r _ [5] (by decide +kernel) (by decide +kernel)
set_option maxRecDepth 20000 in
theorem gX2_isMember_X2_in : GoodIn wsX2_isMember (va_wsS RX2 47 yX2_in wsX2_in) := goodIn_app (goodIn_of _ (by decide +kernel)) ggX2_isMember_X2_in
theorem dX2_isMember_0 : decode cX2_isMember 0 = .ok (.iload_n 0, 1) := by decide +kernel
theorem dX2_isMember_1 : decode cX2_isMember 1 = .ok (.i2l, 1) := by decide +kernel
theorem dX2_isMember_2 : decode cX2_isMember 2 = .ok (.lconst 0, 1) := by decide +kernel
theorem dX2_isMember_3 : decode cX2_isMember 3 = .ok (.ldc2_w 45, 3) := by decide +kernel
theorem dX2_isMember_6 : decode cX2_isMember 6 = .ok (.invokestatic 47, 3) := by decide +kernel
theorem dX2_isMember_9 : decode cX2_isMember 9 = .ok (.ireturn, 1) := by decide +kernel
set_option maxRecDepth 20000 in
theorem ggX2_countOf_X2_ones : GoodIn wsX2_countOf wsX2_ones := goodIn_r _ [4] (by decide +kernel) (by decide +kernel)
set_option maxRecDepth 20000 in
theorem gX2_countOf_X2_ones : GoodIn wsX2_countOf (va_wsS RX2 51 yX2_ones wsX2_ones) := goodIn_app (goodIn_of _ (by decide +kernel)) ggX2_countOf_X2_ones
theorem dX2_countOf_0 : decode cX2_countOf 0 = .ok (.aload_n 0, 1) := by decide +kernel
theorem dX2_countOf_1 : decode cX2_countOf 1 = .ok (.iload_n 1, 1) := by decide +kernel
theorem dX2_countOf_2 : decode cX2_countOf 2 = .ok (.iaload, 1) := by decide +kernel
theorem dX2_countOf_3 : decode cX2_countOf 3 = .ok (.ifCond .ne 7, 3) := by decide +kernel
theorem dX2_countOf_6 : decode cX2_countOf 6 = .ok (.iconst 0, 1) := by decide +kernel
theorem dX2_countOf_7 : decode cX2_countOf 7 = .ok (.goto 14, 3) := by decide +kernel
theorem dX2_countOf_10 : decode cX2_countOf 10 = .ok (.iconst 1, 1) := by decide +kernel
theorem dX2_countOf_11 : decode cX2_countOf 11 = .ok (.aload_n 0, 1) := by decide +kernel
theorem dX2_countOf_12 : decode cX2_countOf 12 = .ok (.bipush 6, 2) := by decide +kernel
theorem dX2_countOf_14 : decode cX2_countOf 14 = .ok (.iload_n 1, 1) := by decide +kernel
theorem dX2_countOf_15 : decode cX2_countOf 15 = .ok (.iadd, 1) := by decide +kernel
theorem dX2_countOf_16 : decode cX2_countOf 16 = .ok (.iaload, 1) := by decide +kernel
theorem dX2_countOf_17 : decode cX2_countOf 17 = .ok (.invokestatic 51, 3) := by decide +kernel
theorem dX2_countOf_20 : decode cX2_countOf 20 = .ok (.iadd, 1) := by decide +kernel
theorem dX2_countOf_21 : decode cX2_countOf 21 = .ok (.ireturn, 1) := by decide +kernel
theorem dX2_spanOf_0 : decode cX2_spanOf 0 = .ok (.iload_n 1, 1) := by decide +kernel
theorem dX2_spanOf_1 : decode cX2_spanOf 1 = .ok (.aload_n 0, 1) := by decide +kernel
theorem dX2_spanOf_2 : decode cX2_spanOf 2 = .ok (.bipush 66, 2) := by decide +kernel
theorem dX2_spanOf_4 : decode cX2_spanOf 4 = .ok (.iaload, 1) := by decide +kernel
theorem dX2_spanOf_5 : decode cX2_spanOf 5 = .ok (.imul, 1) := by decide +kernel
theorem dX2_spanOf_6 : decode cX2_spanOf 6 = .ok (.aload_n 0, 1) := by decide +kernel
theorem dX2_spanOf_7 : decode cX2_spanOf 7 = .ok (.bipush 67, 2) := by decide +kernel
theorem dX2_spanOf_9 : decode cX2_spanOf 9 = .ok (.iaload, 1) := by decide +kernel
theorem dX2_spanOf_10 : decode cX2_spanOf 10 = .ok (.iadd, 1) := by decide +kernel
theorem dX2_spanOf_11 : decode cX2_spanOf 11 = .ok (.iconst 1, 1) := by decide +kernel
theorem dX2_spanOf_12 : decode cX2_spanOf 12 = .ok (.isub, 1) := by decide +kernel
theorem dX2_spanOf_13 : decode cX2_spanOf 13 = .ok (.aload_n 0, 1) := by decide +kernel
theorem dX2_spanOf_14 : decode cX2_spanOf 14 = .ok (.bipush 67, 2) := by decide +kernel
theorem dX2_spanOf_16 : decode cX2_spanOf 16 = .ok (.iaload, 1) := by decide +kernel
theorem dX2_spanOf_17 : decode cX2_spanOf 17 = .ok (.idiv, 1) := by decide +kernel
theorem dX2_spanOf_18 : decode cX2_spanOf 18 = .ok (.istore_n 2, 1) := by decide +kernel
theorem dX2_spanOf_19 : decode cX2_spanOf 19 = .ok (.iload_n 2, 1) := by decide +kernel
theorem dX2_spanOf_20 : decode cX2_spanOf 20 = .ok (.aload_n 0, 1) := by decide +kernel
theorem dX2_spanOf_21 : decode cX2_spanOf 21 = .ok (.bipush 68, 2) := by decide +kernel
theorem dX2_spanOf_23 : decode cX2_spanOf 23 = .ok (.iaload, 1) := by decide +kernel
theorem dX2_spanOf_24 : decode cX2_spanOf 24 = .ok (.if_icmp .le 7, 3) := by decide +kernel
theorem dX2_spanOf_27 : decode cX2_spanOf 27 = .ok (.iload_n 2, 1) := by decide +kernel
theorem dX2_spanOf_28 : decode cX2_spanOf 28 = .ok (.goto 7, 3) := by decide +kernel
theorem dX2_spanOf_31 : decode cX2_spanOf 31 = .ok (.aload_n 0, 1) := by decide +kernel
theorem dX2_spanOf_32 : decode cX2_spanOf 32 = .ok (.bipush 68, 2) := by decide +kernel
theorem dX2_spanOf_34 : decode cX2_spanOf 34 = .ok (.iaload, 1) := by decide +kernel
theorem dX2_spanOf_35 : decode cX2_spanOf 35 = .ok (.ireturn, 1) := by decide +kernel
theorem dX2_draw_0 : decode cX2_draw 0 = .ok (.aload_n 0, 1) := by decide +kernel
theorem dX2_draw_1 : decode cX2_draw 1 = .ok (.bipush 69, 2) := by decide +kernel
theorem dX2_draw_3 : decode cX2_draw 3 = .ok (.sipush 25173, 3) := by decide +kernel
theorem dX2_draw_6 : decode cX2_draw 6 = .ok (.aload_n 0, 1) := by decide +kernel
theorem dX2_draw_7 : decode cX2_draw 7 = .ok (.bipush 69, 2) := by decide +kernel
theorem dX2_draw_9 : decode cX2_draw 9 = .ok (.iaload, 1) := by decide +kernel
theorem dX2_draw_10 : decode cX2_draw 10 = .ok (.imul, 1) := by decide +kernel
theorem dX2_draw_11 : decode cX2_draw 11 = .ok (.sipush 13849, 3) := by decide +kernel
theorem dX2_draw_14 : decode cX2_draw 14 = .ok (.iadd, 1) := by decide +kernel
theorem dX2_draw_15 : decode cX2_draw 15 = .ok (.ldc 55, 2) := by decide +kernel
theorem dX2_draw_17 : decode cX2_draw 17 = .ok (.irem, 1) := by decide +kernel
theorem dX2_draw_18 : decode cX2_draw 18 = .ok (.iastore, 1) := by decide +kernel
theorem dX2_draw_19 : decode cX2_draw 19 = .ok (.aload_n 0, 1) := by decide +kernel
theorem dX2_draw_20 : decode cX2_draw 20 = .ok (.bipush 69, 2) := by decide +kernel
theorem dX2_draw_22 : decode cX2_draw 22 = .ok (.iaload, 1) := by decide +kernel
theorem dX2_draw_23 : decode cX2_draw 23 = .ok (.bipush 16, 2) := by decide +kernel
theorem dX2_draw_25 : decode cX2_draw 25 = .ok (.idiv, 1) := by decide +kernel
theorem dX2_draw_26 : decode cX2_draw 26 = .ok (.iconst 5, 1) := by decide +kernel
theorem dX2_draw_27 : decode cX2_draw 27 = .ok (.irem, 1) := by decide +kernel
theorem dX2_draw_28 : decode cX2_draw 28 = .ok (.ireturn, 1) := by decide +kernel
set_option maxRecDepth 20000 in
theorem ggX2_waitOf_X2_spanOf : GoodIn wsX2_waitOf wsX2_spanOf := goodIn_r _ [4] (by decide +kernel) (by decide +kernel)
set_option maxRecDepth 20000 in
theorem gX2_waitOf_X2_spanOf : GoodIn wsX2_waitOf (va_wsS RX2 56 yX2_spanOf wsX2_spanOf) := goodIn_app (goodIn_of _ (by decide +kernel)) ggX2_waitOf_X2_spanOf
set_option maxRecDepth 20000 in
theorem ggX2_waitOf_X2_draw : GoodIn wsX2_waitOf wsX2_draw := goodIn_r _ [7, 8] (by decide +kernel) (by decide +kernel)
set_option maxRecDepth 20000 in
theorem gX2_waitOf_X2_draw : GoodIn wsX2_waitOf (va_wsS RX2 60 yX2_draw wsX2_draw) := goodIn_app (goodIn_of _ (by decide +kernel)) ggX2_waitOf_X2_draw
theorem dX2_waitOf_0 : decode cX2_waitOf 0 = .ok (.aload_n 0, 1) := by decide +kernel
theorem dX2_waitOf_1 : decode cX2_waitOf 1 = .ok (.iload_n 1, 1) := by decide +kernel
theorem dX2_waitOf_2 : decode cX2_waitOf 2 = .ok (.invokestatic 56, 3) := by decide +kernel
theorem dX2_waitOf_5 : decode cX2_waitOf 5 = .ok (.istore_n 2, 1) := by decide +kernel
theorem dX2_waitOf_6 : decode cX2_waitOf 6 = .ok (.iload_n 2, 1) := by decide +kernel
theorem dX2_waitOf_7 : decode cX2_waitOf 7 = .ok (.iconst 2, 1) := by decide +kernel
theorem dX2_waitOf_8 : decode cX2_waitOf 8 = .ok (.aload_n 0, 1) := by decide +kernel
theorem dX2_waitOf_9 : decode cX2_waitOf 9 = .ok (.invokestatic 60, 3) := by decide +kernel
theorem dX2_waitOf_12 : decode cX2_waitOf 12 = .ok (.iadd, 1) := by decide +kernel
theorem dX2_waitOf_13 : decode cX2_waitOf 13 = .ok (.imul, 1) := by decide +kernel
theorem dX2_waitOf_14 : decode cX2_waitOf 14 = .ok (.iconst 4, 1) := by decide +kernel
theorem dX2_waitOf_15 : decode cX2_waitOf 15 = .ok (.idiv, 1) := by decide +kernel
theorem dX2_waitOf_16 : decode cX2_waitOf 16 = .ok (.istore_n 3, 1) := by decide +kernel
theorem dX2_waitOf_17 : decode cX2_waitOf 17 = .ok (.iload_n 3, 1) := by decide +kernel
theorem dX2_waitOf_18 : decode cX2_waitOf 18 = .ok (.iconst 1, 1) := by decide +kernel
theorem dX2_waitOf_19 : decode cX2_waitOf 19 = .ok (.if_icmp .le 7, 3) := by decide +kernel
theorem dX2_waitOf_22 : decode cX2_waitOf 22 = .ok (.iload_n 3, 1) := by decide +kernel
theorem dX2_waitOf_23 : decode cX2_waitOf 23 = .ok (.goto 4, 3) := by decide +kernel
theorem dX2_waitOf_26 : decode cX2_waitOf 26 = .ok (.iconst 1, 1) := by decide +kernel
theorem dX2_waitOf_27 : decode cX2_waitOf 27 = .ok (.ireturn, 1) := by decide +kernel
theorem dX2_lettersOf_0 : decode cX2_lettersOf 0 = .ok (.aload_n 0, 1) := by decide +kernel
theorem dX2_lettersOf_1 : decode cX2_lettersOf 1 = .ok (.bipush 71, 2) := by decide +kernel
theorem dX2_lettersOf_3 : decode cX2_lettersOf 3 = .ok (.iaload, 1) := by decide +kernel
theorem dX2_lettersOf_4 : decode cX2_lettersOf 4 = .ok (.aload_n 0, 1) := by decide +kernel
theorem dX2_lettersOf_5 : decode cX2_lettersOf 5 = .ok (.bipush 72, 2) := by decide +kernel
theorem dX2_lettersOf_7 : decode cX2_lettersOf 7 = .ok (.iaload, 1) := by decide +kernel
theorem dX2_lettersOf_8 : decode cX2_lettersOf 8 = .ok (.iadd, 1) := by decide +kernel
theorem dX2_lettersOf_9 : decode cX2_lettersOf 9 = .ok (.ireturn, 1) := by decide +kernel
set_option maxRecDepth 20000 in
theorem ggX2_reaches_X2_has : GoodIn wsX2_reaches wsX2_has := goodIn_r _ [4] (by decide +kernel) (by decide +kernel)
set_option maxRecDepth 20000 in
theorem gX2_reaches_X2_has : GoodIn wsX2_reaches (va_wsS RX2 64 yX2_has wsX2_has) := goodIn_app (goodIn_of _ (by decide +kernel)) ggX2_reaches_X2_has
theorem dX2_reaches_0 : decode cX2_reaches 0 = .ok (.iload_n 2, 1) := by decide +kernel
theorem dX2_reaches_1 : decode cX2_reaches 1 = .ok (.iload_n 1, 1) := by decide +kernel
theorem dX2_reaches_2 : decode cX2_reaches 2 = .ok (.if_icmp .eq 26, 3) := by decide +kernel
theorem dX2_reaches_5 : decode cX2_reaches 5 = .ok (.aload_n 0, 1) := by decide +kernel
theorem dX2_reaches_6 : decode cX2_reaches 6 = .ok (.iload_n 2, 1) := by decide +kernel
theorem dX2_reaches_7 : decode cX2_reaches 7 = .ok (.iaload, 1) := by decide +kernel
theorem dX2_reaches_8 : decode cX2_reaches 8 = .ok (.ifCond .eq 20, 3) := by decide +kernel
theorem dX2_reaches_11 : decode cX2_reaches 11 = .ok (.aload_n 0, 1) := by decide +kernel
theorem dX2_reaches_12 : decode cX2_reaches 12 = .ok (.bipush 73, 2) := by decide +kernel
theorem dX2_reaches_14 : decode cX2_reaches 14 = .ok (.iload_n 1, 1) := by decide +kernel
theorem dX2_reaches_15 : decode cX2_reaches 15 = .ok (.iadd, 1) := by decide +kernel
theorem dX2_reaches_16 : decode cX2_reaches 16 = .ok (.iaload, 1) := by decide +kernel
theorem dX2_reaches_17 : decode cX2_reaches 17 = .ok (.iload_n 2, 1) := by decide +kernel
theorem dX2_reaches_18 : decode cX2_reaches 18 = .ok (.invokestatic 64, 3) := by decide +kernel
theorem dX2_reaches_21 : decode cX2_reaches 21 = .ok (.ifCond .ne 7, 3) := by decide +kernel
theorem dX2_reaches_24 : decode cX2_reaches 24 = .ok (.iconst 1, 1) := by decide +kernel
theorem dX2_reaches_25 : decode cX2_reaches 25 = .ok (.goto 4, 3) := by decide +kernel
theorem dX2_reaches_28 : decode cX2_reaches 28 = .ok (.iconst 0, 1) := by decide +kernel
theorem dX2_reaches_29 : decode cX2_reaches 29 = .ok (.ireturn, 1) := by decide +kernel
set_option maxRecDepth 20000 in
theorem ggX2_report_X2_reaches : GoodIn wsX2_report wsX2_reaches := goodIn_r _ [4, 5, 6, 3, 7] (by decide +kernel) (by decide +kernel)
set_option maxRecDepth 20000 in
theorem gX2_report_X2_reaches : GoodIn wsX2_report (va_wsS RX2 68 yX2_reaches wsX2_reaches) := goodIn_app (goodIn_of _ (by decide +kernel)) ggX2_report_X2_reaches
theorem dX2_report_0 : decode cX2_report 0 = .ok (.aload_n 0, 1) := by decide +kernel
theorem dX2_report_1 : decode cX2_report 1 = .ok (.bipush 71, 2) := by decide +kernel
theorem dX2_report_3 : decode cX2_report 3 = .ok (.dup2, 1) := by decide +kernel
theorem dX2_report_4 : decode cX2_report 4 = .ok (.iaload, 1) := by decide +kernel
theorem dX2_report_5 : decode cX2_report 5 = .ok (.iconst 1, 1) := by decide +kernel
theorem dX2_report_6 : decode cX2_report 6 = .ok (.iadd, 1) := by decide +kernel
theorem dX2_report_7 : decode cX2_report 7 = .ok (.iastore, 1) := by decide +kernel
theorem dX2_report_8 : decode cX2_report 8 = .ok (.iconst 0, 1) := by decide +kernel
theorem dX2_report_9 : decode cX2_report 9 = .ok (.istore_n 2, 1) := by decide +kernel
theorem dX2_report_10 : decode cX2_report 10 = .ok (.iload_n 2, 1) := by decide +kernel
theorem dX2_report_11 : decode cX2_report 11 = .ok (.bipush 6, 2) := by decide +kernel
theorem dX2_report_13 : decode cX2_report 13 = .ok (.if_icmp .ge 45, 3) := by decide +kernel
theorem dX2_report_16 : decode cX2_report 16 = .ok (.aload_n 0, 1) := by decide +kernel
theorem dX2_report_17 : decode cX2_report 17 = .ok (.iload_n 1, 1) := by decide +kernel
theorem dX2_report_18 : decode cX2_report 18 = .ok (.iload_n 2, 1) := by decide +kernel
theorem dX2_report_19 : decode cX2_report 19 = .ok (.invokestatic 68, 3) := by decide +kernel
theorem dX2_report_22 : decode cX2_report 22 = .ok (.ifCond .eq 30, 3) := by decide +kernel
theorem dX2_report_25 : decode cX2_report 25 = .ok (.aload_n 0, 1) := by decide +kernel
theorem dX2_report_26 : decode cX2_report 26 = .ok (.bipush 6, 2) := by decide +kernel
theorem dX2_report_28 : decode cX2_report 28 = .ok (.iload_n 2, 1) := by decide +kernel
theorem dX2_report_29 : decode cX2_report 29 = .ok (.iadd, 1) := by decide +kernel
theorem dX2_report_30 : decode cX2_report 30 = .ok (.dup2, 1) := by decide +kernel
theorem dX2_report_31 : decode cX2_report 31 = .ok (.iaload, 1) := by decide +kernel
theorem dX2_report_32 : decode cX2_report 32 = .ok (.iconst 1, 1) := by decide +kernel
theorem dX2_report_33 : decode cX2_report 33 = .ok (.iload_n 1, 1) := by decide +kernel
theorem dX2_report_34 : decode cX2_report 34 = .ok (.ishl, 1) := by decide +kernel
theorem dX2_report_35 : decode cX2_report 35 = .ok (.ior, 1) := by decide +kernel
theorem dX2_report_36 : decode cX2_report 36 = .ok (.iastore, 1) := by decide +kernel
theorem dX2_report_37 : decode cX2_report 37 = .ok (.aload_n 0, 1) := by decide +kernel
theorem dX2_report_38 : decode cX2_report 38 = .ok (.bipush 12, 2) := by decide +kernel
theorem dX2_report_40 : decode cX2_report 40 = .ok (.bipush 6, 2) := by decide +kernel
theorem dX2_report_42 : decode cX2_report 42 = .ok (.iload_n 2, 1) := by decide +kernel
theorem dX2_report_43 : decode cX2_report 43 = .ok (.imul, 1) := by decide +kernel
theorem dX2_report_44 : decode cX2_report 44 = .ok (.iadd, 1) := by decide +kernel
theorem dX2_report_45 : decode cX2_report 45 = .ok (.iload_n 1, 1) := by decide +kernel
theorem dX2_report_46 : decode cX2_report 46 = .ok (.iadd, 1) := by decide +kernel
theorem dX2_report_47 : decode cX2_report 47 = .ok (.aload_n 0, 1) := by decide +kernel
theorem dX2_report_48 : decode cX2_report 48 = .ok (.bipush 70, 2) := by decide +kernel
theorem dX2_report_50 : decode cX2_report 50 = .ok (.iaload, 1) := by decide +kernel
theorem dX2_report_51 : decode cX2_report 51 = .ok (.iastore, 1) := by decide +kernel
theorem dX2_report_52 : decode cX2_report 52 = .ok (.iinc 2 1, 3) := by decide +kernel
theorem dX2_report_55 : decode cX2_report 55 = .ok (.goto (-45), 3) := by decide +kernel
theorem dX2_report_58 : decode cX2_report 58 = .ok (.return_, 1) := by decide +kernel
theorem dX2_goAway_0 : decode cX2_goAway 0 = .ok (.aload_n 0, 1) := by decide +kernel
theorem dX2_goAway_1 : decode cX2_goAway 1 = .ok (.iload_n 1, 1) := by decide +kernel
theorem dX2_goAway_2 : decode cX2_goAway 2 = .ok (.iconst 0, 1) := by decide +kernel
theorem dX2_goAway_3 : decode cX2_goAway 3 = .ok (.iastore, 1) := by decide +kernel
theorem dX2_goAway_4 : decode cX2_goAway 4 = .ok (.aload_n 0, 1) := by decide +kernel
theorem dX2_goAway_5 : decode cX2_goAway 5 = .ok (.bipush 6, 2) := by decide +kernel
theorem dX2_goAway_7 : decode cX2_goAway 7 = .ok (.iload_n 1, 1) := by decide +kernel
theorem dX2_goAway_8 : decode cX2_goAway 8 = .ok (.iadd, 1) := by decide +kernel
theorem dX2_goAway_9 : decode cX2_goAway 9 = .ok (.iconst 0, 1) := by decide +kernel
theorem dX2_goAway_10 : decode cX2_goAway 10 = .ok (.iastore, 1) := by decide +kernel
theorem dX2_goAway_11 : decode cX2_goAway 11 = .ok (.aload_n 0, 1) := by decide +kernel
theorem dX2_goAway_12 : decode cX2_goAway 12 = .ok (.bipush 48, 2) := by decide +kernel
theorem dX2_goAway_14 : decode cX2_goAway 14 = .ok (.iload_n 1, 1) := by decide +kernel
theorem dX2_goAway_15 : decode cX2_goAway 15 = .ok (.iadd, 1) := by decide +kernel
theorem dX2_goAway_16 : decode cX2_goAway 16 = .ok (.iconst 0, 1) := by decide +kernel
theorem dX2_goAway_17 : decode cX2_goAway 17 = .ok (.iastore, 1) := by decide +kernel
theorem dX2_goAway_18 : decode cX2_goAway 18 = .ok (.aload_n 0, 1) := by decide +kernel
theorem dX2_goAway_19 : decode cX2_goAway 19 = .ok (.bipush 54, 2) := by decide +kernel
theorem dX2_goAway_21 : decode cX2_goAway 21 = .ok (.iload_n 1, 1) := by decide +kernel
theorem dX2_goAway_22 : decode cX2_goAway 22 = .ok (.iadd, 1) := by decide +kernel
theorem dX2_goAway_23 : decode cX2_goAway 23 = .ok (.iconst 0, 1) := by decide +kernel
theorem dX2_goAway_24 : decode cX2_goAway 24 = .ok (.iastore, 1) := by decide +kernel
theorem dX2_goAway_25 : decode cX2_goAway 25 = .ok (.aload_n 0, 1) := by decide +kernel
theorem dX2_goAway_26 : decode cX2_goAway 26 = .ok (.bipush 60, 2) := by decide +kernel
theorem dX2_goAway_28 : decode cX2_goAway 28 = .ok (.iload_n 1, 1) := by decide +kernel
theorem dX2_goAway_29 : decode cX2_goAway 29 = .ok (.iadd, 1) := by decide +kernel
theorem dX2_goAway_30 : decode cX2_goAway 30 = .ok (.iconst 0, 1) := by decide +kernel
theorem dX2_goAway_31 : decode cX2_goAway 31 = .ok (.iastore, 1) := by decide +kernel
theorem dX2_goAway_32 : decode cX2_goAway 32 = .ok (.return_, 1) := by decide +kernel
set_option maxRecDepth 20000 in
theorem ggX2_bye_X2_goAway : GoodIn wsX2_bye wsX2_goAway := goodIn_r _ [4] (by decide +kernel) (by decide +kernel)
set_option maxRecDepth 20000 in
theorem gX2_bye_X2_goAway : GoodIn wsX2_bye (va_wsS RX2 72 yX2_goAway wsX2_goAway) := goodIn_app (goodIn_of _ (by decide +kernel)) ggX2_bye_X2_goAway
set_option maxRecDepth 20000 in
theorem ggX2_bye_X2_reaches : GoodIn wsX2_bye wsX2_reaches := goodIn_r _ [7, 8, 9, 3, 10] (by decide +kernel) (by decide +kernel)
set_option maxRecDepth 20000 in
theorem gX2_bye_X2_reaches : GoodIn wsX2_bye (va_wsS RX2 68 yX2_reaches wsX2_reaches) := goodIn_app (goodIn_of _ (by decide +kernel)) ggX2_bye_X2_reaches
set_option maxRecDepth 20000 in
theorem ggX2_bye_X2_has : GoodIn wsX2_bye wsX2_has := goodIn_r _ [10] (by decide +kernel) (by decide +kernel)
set_option maxRecDepth 20000 in
theorem gX2_bye_X2_has : GoodIn wsX2_bye (va_wsS RX2 64 yX2_has wsX2_has) := goodIn_app (goodIn_of _ (by decide +kernel)) ggX2_bye_X2_has
set_option maxRecDepth 20000 in
theorem ggX2_bye_X2_countOf : GoodIn wsX2_bye wsX2_countOf := goodIn_r _ [13, 14, 15, 3, 16] (by decide +kernel) (by decide +kernel)
set_option maxRecDepth 20000 in
theorem gX2_bye_X2_countOf : GoodIn wsX2_bye (va_wsS RX2 76 yX2_countOf wsX2_countOf) := goodIn_app (goodIn_of _ (by decide +kernel)) ggX2_bye_X2_countOf
theorem dX2_bye_0 : decode cX2_bye 0 = .ok (.aload_n 0, 1) := by decide +kernel
theorem dX2_bye_1 : decode cX2_bye 1 = .ok (.bipush 72, 2) := by decide +kernel
theorem dX2_bye_3 : decode cX2_bye 3 = .ok (.dup2, 1) := by decide +kernel
theorem dX2_bye_4 : decode cX2_bye 4 = .ok (.iaload, 1) := by decide +kernel
theorem dX2_bye_5 : decode cX2_bye 5 = .ok (.iconst 1, 1) := by decide +kernel
theorem dX2_bye_6 : decode cX2_bye 6 = .ok (.iadd, 1) := by decide +kernel
theorem dX2_bye_7 : decode cX2_bye 7 = .ok (.iastore, 1) := by decide +kernel
theorem dX2_bye_8 : decode cX2_bye 8 = .ok (.aload_n 0, 1) := by decide +kernel
theorem dX2_bye_9 : decode cX2_bye 9 = .ok (.iload_n 1, 1) := by decide +kernel
theorem dX2_bye_10 : decode cX2_bye 10 = .ok (.invokestatic 72, 3) := by decide +kernel
theorem dX2_bye_13 : decode cX2_bye 13 = .ok (.iconst 0, 1) := by decide +kernel
theorem dX2_bye_14 : decode cX2_bye 14 = .ok (.istore_n 2, 1) := by decide +kernel
theorem dX2_bye_15 : decode cX2_bye 15 = .ok (.iload_n 2, 1) := by decide +kernel
theorem dX2_bye_16 : decode cX2_bye 16 = .ok (.bipush 6, 2) := by decide +kernel
theorem dX2_bye_18 : decode cX2_bye 18 = .ok (.if_icmp .ge 159, 3) := by decide +kernel
theorem dX2_bye_21 : decode cX2_bye 21 = .ok (.aload_n 0, 1) := by decide +kernel
theorem dX2_bye_22 : decode cX2_bye 22 = .ok (.iload_n 1, 1) := by decide +kernel
theorem dX2_bye_23 : decode cX2_bye 23 = .ok (.iload_n 2, 1) := by decide +kernel
theorem dX2_bye_24 : decode cX2_bye 24 = .ok (.invokestatic 68, 3) := by decide +kernel
theorem dX2_bye_27 : decode cX2_bye 27 = .ok (.ifCond .eq 144, 3) := by decide +kernel
theorem dX2_bye_30 : decode cX2_bye 30 = .ok (.aload_n 0, 1) := by decide +kernel
theorem dX2_bye_31 : decode cX2_bye 31 = .ok (.bipush 60, 2) := by decide +kernel
theorem dX2_bye_33 : decode cX2_bye 33 = .ok (.iload_n 2, 1) := by decide +kernel
theorem dX2_bye_34 : decode cX2_bye 34 = .ok (.iadd, 1) := by decide +kernel
theorem dX2_bye_35 : decode cX2_bye 35 = .ok (.dup2, 1) := by decide +kernel
theorem dX2_bye_36 : decode cX2_bye 36 = .ok (.iaload, 1) := by decide +kernel
theorem dX2_bye_37 : decode cX2_bye 37 = .ok (.aload_n 0, 1) := by decide +kernel
theorem dX2_bye_38 : decode cX2_bye 38 = .ok (.iload_n 2, 1) := by decide +kernel
theorem dX2_bye_39 : decode cX2_bye 39 = .ok (.iaload, 1) := by decide +kernel
theorem dX2_bye_40 : decode cX2_bye 40 = .ok (.iconst 2, 1) := by decide +kernel
theorem dX2_bye_41 : decode cX2_bye 41 = .ok (.if_icmp .ne 7, 3) := by decide +kernel
theorem dX2_bye_44 : decode cX2_bye 44 = .ok (.iconst 1, 1) := by decide +kernel
theorem dX2_bye_45 : decode cX2_bye 45 = .ok (.goto 4, 3) := by decide +kernel
theorem dX2_bye_48 : decode cX2_bye 48 = .ok (.iconst 0, 1) := by decide +kernel
theorem dX2_bye_49 : decode cX2_bye 49 = .ok (.iadd, 1) := by decide +kernel
theorem dX2_bye_50 : decode cX2_bye 50 = .ok (.iastore, 1) := by decide +kernel
theorem dX2_bye_51 : decode cX2_bye 51 = .ok (.aload_n 0, 1) := by decide +kernel
theorem dX2_bye_52 : decode cX2_bye 52 = .ok (.bipush 6, 2) := by decide +kernel
theorem dX2_bye_54 : decode cX2_bye 54 = .ok (.iload_n 2, 1) := by decide +kernel
theorem dX2_bye_55 : decode cX2_bye 55 = .ok (.iadd, 1) := by decide +kernel
theorem dX2_bye_56 : decode cX2_bye 56 = .ok (.iaload, 1) := by decide +kernel
theorem dX2_bye_57 : decode cX2_bye 57 = .ok (.iload_n 1, 1) := by decide +kernel
theorem dX2_bye_58 : decode cX2_bye 58 = .ok (.invokestatic 64, 3) := by decide +kernel
theorem dX2_bye_61 : decode cX2_bye 61 = .ok (.istore_n 3, 1) := by decide +kernel
theorem dX2_bye_62 : decode cX2_bye 62 = .ok (.aload_n 0, 1) := by decide +kernel
theorem dX2_bye_63 : decode cX2_bye 63 = .ok (.iload_n 2, 1) := by decide +kernel
theorem dX2_bye_64 : decode cX2_bye 64 = .ok (.invokestatic 76, 3) := by decide +kernel
theorem dX2_bye_67 : decode cX2_bye 67 = .ok (.istore 4, 2) := by decide +kernel
theorem dX2_bye_69 : decode cX2_bye 69 = .ok (.aload_n 0, 1) := by decide +kernel
theorem dX2_bye_70 : decode cX2_bye 70 = .ok (.bipush 6, 2) := by decide +kernel
theorem dX2_bye_72 : decode cX2_bye 72 = .ok (.iload_n 2, 1) := by decide +kernel
theorem dX2_bye_73 : decode cX2_bye 73 = .ok (.iadd, 1) := by decide +kernel
theorem dX2_bye_74 : decode cX2_bye 74 = .ok (.dup2, 1) := by decide +kernel
theorem dX2_bye_75 : decode cX2_bye 75 = .ok (.iaload, 1) := by decide +kernel
theorem dX2_bye_76 : decode cX2_bye 76 = .ok (.iconst 1, 1) := by decide +kernel
theorem dX2_bye_77 : decode cX2_bye 77 = .ok (.iload_n 1, 1) := by decide +kernel
theorem dX2_bye_78 : decode cX2_bye 78 = .ok (.ishl, 1) := by decide +kernel
theorem dX2_bye_79 : decode cX2_bye 79 = .ok (.iconst (-1), 1) := by decide +kernel
theorem dX2_bye_80 : decode cX2_bye 80 = .ok (.ixor, 1) := by decide +kernel
theorem dX2_bye_81 : decode cX2_bye 81 = .ok (.iand, 1) := by decide +kernel
theorem dX2_bye_82 : decode cX2_bye 82 = .ok (.iastore, 1) := by decide +kernel
theorem dX2_bye_83 : decode cX2_bye 83 = .ok (.iload_n 3, 1) := by decide +kernel
theorem dX2_bye_84 : decode cX2_bye 84 = .ok (.ifCond .eq 87, 3) := by decide +kernel
theorem dX2_bye_87 : decode cX2_bye 87 = .ok (.aload_n 0, 1) := by decide +kernel
theorem dX2_bye_88 : decode cX2_bye 88 = .ok (.iload_n 2, 1) := by decide +kernel
theorem dX2_bye_89 : decode cX2_bye 89 = .ok (.iaload, 1) := by decide +kernel
theorem dX2_bye_90 : decode cX2_bye 90 = .ok (.iconst 1, 1) := by decide +kernel
theorem dX2_bye_91 : decode cX2_bye 91 = .ok (.if_icmp .ne 80, 3) := by decide +kernel
theorem dX2_bye_94 : decode cX2_bye 94 = .ok (.aload_n 0, 1) := by decide +kernel
theorem dX2_bye_95 : decode cX2_bye 95 = .ok (.bipush 70, 2) := by decide +kernel
theorem dX2_bye_97 : decode cX2_bye 97 = .ok (.iaload, 1) := by decide +kernel
theorem dX2_bye_98 : decode cX2_bye 98 = .ok (.istore 5, 2) := by decide +kernel
theorem dX2_bye_100 : decode cX2_bye 100 = .ok (.aload_n 0, 1) := by decide +kernel
theorem dX2_bye_101 : decode cX2_bye 101 = .ok (.bipush 54, 2) := by decide +kernel
theorem dX2_bye_103 : decode cX2_bye 103 = .ok (.iload_n 2, 1) := by decide +kernel
theorem dX2_bye_104 : decode cX2_bye 104 = .ok (.iadd, 1) := by decide +kernel
theorem dX2_bye_105 : decode cX2_bye 105 = .ok (.iaload, 1) := by decide +kernel
theorem dX2_bye_106 : decode cX2_bye 106 = .ok (.iload 5, 2) := by decide +kernel
theorem dX2_bye_108 : decode cX2_bye 108 = .ok (.if_icmp .le 15, 3) := by decide +kernel
theorem dX2_bye_111 : decode cX2_bye 111 = .ok (.aload_n 0, 1) := by decide +kernel
theorem dX2_bye_112 : decode cX2_bye 112 = .ok (.bipush 54, 2) := by decide +kernel
theorem dX2_bye_114 : decode cX2_bye 114 = .ok (.iload_n 2, 1) := by decide +kernel
theorem dX2_bye_115 : decode cX2_bye 115 = .ok (.iadd, 1) := by decide +kernel
theorem dX2_bye_116 : decode cX2_bye 116 = .ok (.iaload, 1) := by decide +kernel
theorem dX2_bye_117 : decode cX2_bye 117 = .ok (.iload 5, 2) := by decide +kernel
theorem dX2_bye_119 : decode cX2_bye 119 = .ok (.isub, 1) := by decide +kernel
theorem dX2_bye_120 : decode cX2_bye 120 = .ok (.goto 4, 3) := by decide +kernel
theorem dX2_bye_123 : decode cX2_bye 123 = .ok (.iconst 0, 1) := by decide +kernel
theorem dX2_bye_124 : decode cX2_bye 124 = .ok (.istore 6, 2) := by decide +kernel
theorem dX2_bye_126 : decode cX2_bye 126 = .ok (.aload_n 0, 1) := by decide +kernel
theorem dX2_bye_127 : decode cX2_bye 127 = .ok (.bipush 54, 2) := by decide +kernel
theorem dX2_bye_129 : decode cX2_bye 129 = .ok (.iload_n 2, 1) := by decide +kernel
theorem dX2_bye_130 : decode cX2_bye 130 = .ok (.iadd, 1) := by decide +kernel
theorem dX2_bye_131 : decode cX2_bye 131 = .ok (.iload 5, 2) := by decide +kernel
theorem dX2_bye_133 : decode cX2_bye 133 = .ok (.iload 6, 2) := by decide +kernel
theorem dX2_bye_135 : decode cX2_bye 135 = .ok (.iload 4, 2) := by decide +kernel
theorem dX2_bye_137 : decode cX2_bye 137 = .ok (.iconst 1, 1) := by decide +kernel
theorem dX2_bye_138 : decode cX2_bye 138 = .ok (.isub, 1) := by decide +kernel
theorem dX2_bye_139 : decode cX2_bye 139 = .ok (.imul, 1) := by decide +kernel
theorem dX2_bye_140 : decode cX2_bye 140 = .ok (.iload 4, 2) := by decide +kernel
theorem dX2_bye_142 : decode cX2_bye 142 = .ok (.idiv, 1) := by decide +kernel
theorem dX2_bye_143 : decode cX2_bye 143 = .ok (.iadd, 1) := by decide +kernel
theorem dX2_bye_144 : decode cX2_bye 144 = .ok (.iastore, 1) := by decide +kernel
theorem dX2_bye_145 : decode cX2_bye 145 = .ok (.aload_n 0, 1) := by decide +kernel
theorem dX2_bye_146 : decode cX2_bye 146 = .ok (.bipush 48, 2) := by decide +kernel
theorem dX2_bye_148 : decode cX2_bye 148 = .ok (.iload_n 2, 1) := by decide +kernel
theorem dX2_bye_149 : decode cX2_bye 149 = .ok (.iadd, 1) := by decide +kernel
theorem dX2_bye_150 : decode cX2_bye 150 = .ok (.iload 5, 2) := by decide +kernel
theorem dX2_bye_152 : decode cX2_bye 152 = .ok (.iload 5, 2) := by decide +kernel
theorem dX2_bye_154 : decode cX2_bye 154 = .ok (.aload_n 0, 1) := by decide +kernel
theorem dX2_bye_155 : decode cX2_bye 155 = .ok (.bipush 48, 2) := by decide +kernel
theorem dX2_bye_157 : decode cX2_bye 157 = .ok (.iload_n 2, 1) := by decide +kernel
theorem dX2_bye_158 : decode cX2_bye 158 = .ok (.iadd, 1) := by decide +kernel
theorem dX2_bye_159 : decode cX2_bye 159 = .ok (.iaload, 1) := by decide +kernel
theorem dX2_bye_160 : decode cX2_bye 160 = .ok (.isub, 1) := by decide +kernel
theorem dX2_bye_161 : decode cX2_bye 161 = .ok (.iload 4, 2) := by decide +kernel
theorem dX2_bye_163 : decode cX2_bye 163 = .ok (.iconst 1, 1) := by decide +kernel
theorem dX2_bye_164 : decode cX2_bye 164 = .ok (.isub, 1) := by decide +kernel
theorem dX2_bye_165 : decode cX2_bye 165 = .ok (.imul, 1) := by decide +kernel
theorem dX2_bye_166 : decode cX2_bye 166 = .ok (.iload 4, 2) := by decide +kernel
theorem dX2_bye_168 : decode cX2_bye 168 = .ok (.idiv, 1) := by decide +kernel
theorem dX2_bye_169 : decode cX2_bye 169 = .ok (.isub, 1) := by decide +kernel
theorem dX2_bye_170 : decode cX2_bye 170 = .ok (.iastore, 1) := by decide +kernel
theorem dX2_bye_171 : decode cX2_bye 171 = .ok (.iinc 2 1, 3) := by decide +kernel
theorem dX2_bye_174 : decode cX2_bye 174 = .ok (.goto (-159), 3) := by decide +kernel
theorem dX2_bye_177 : decode cX2_bye 177 = .ok (.return_, 1) := by decide +kernel
set_option maxRecDepth 20000 in
theorem ggX2_joins_X2_waitOf : GoodIn wsX2_joins wsX2_waitOf := goodIn_r _ [4, 5, 6, 3, 7, 8, 9, 10, 11] (by decide +kernel) (by decide +kernel)
set_option maxRecDepth 20000 in
theorem gX2_joins_X2_waitOf : GoodIn wsX2_joins (va_wsS RX2 79 yX2_waitOf wsX2_waitOf) := goodIn_app (goodIn_of _ (by decide +kernel)) ggX2_joins_X2_waitOf
theorem dX2_joins_0 : decode cX2_joins 0 = .ok (.aload_n 0, 1) := by decide +kernel
theorem dX2_joins_1 : decode cX2_joins 1 = .ok (.iload_n 1, 1) := by decide +kernel
theorem dX2_joins_2 : decode cX2_joins 2 = .ok (.iconst 1, 1) := by decide +kernel
theorem dX2_joins_3 : decode cX2_joins 3 = .ok (.iastore, 1) := by decide +kernel
theorem dX2_joins_4 : decode cX2_joins 4 = .ok (.aload_n 0, 1) := by decide +kernel
theorem dX2_joins_5 : decode cX2_joins 5 = .ok (.bipush 6, 2) := by decide +kernel
theorem dX2_joins_7 : decode cX2_joins 7 = .ok (.iload_n 1, 1) := by decide +kernel
theorem dX2_joins_8 : decode cX2_joins 8 = .ok (.iadd, 1) := by decide +kernel
theorem dX2_joins_9 : decode cX2_joins 9 = .ok (.iconst 0, 1) := by decide +kernel
theorem dX2_joins_10 : decode cX2_joins 10 = .ok (.iastore, 1) := by decide +kernel
theorem dX2_joins_11 : decode cX2_joins 11 = .ok (.aload_n 0, 1) := by decide +kernel
theorem dX2_joins_12 : decode cX2_joins 12 = .ok (.bipush 60, 2) := by decide +kernel
theorem dX2_joins_14 : decode cX2_joins 14 = .ok (.iload_n 1, 1) := by decide +kernel
theorem dX2_joins_15 : decode cX2_joins 15 = .ok (.iadd, 1) := by decide +kernel
theorem dX2_joins_16 : decode cX2_joins 16 = .ok (.iconst 0, 1) := by decide +kernel
theorem dX2_joins_17 : decode cX2_joins 17 = .ok (.iastore, 1) := by decide +kernel
theorem dX2_joins_18 : decode cX2_joins 18 = .ok (.aload_n 0, 1) := by decide +kernel
theorem dX2_joins_19 : decode cX2_joins 19 = .ok (.bipush 48, 2) := by decide +kernel
theorem dX2_joins_21 : decode cX2_joins 21 = .ok (.iload_n 1, 1) := by decide +kernel
theorem dX2_joins_22 : decode cX2_joins 22 = .ok (.iadd, 1) := by decide +kernel
theorem dX2_joins_23 : decode cX2_joins 23 = .ok (.aload_n 0, 1) := by decide +kernel
theorem dX2_joins_24 : decode cX2_joins 24 = .ok (.bipush 70, 2) := by decide +kernel
theorem dX2_joins_26 : decode cX2_joins 26 = .ok (.iaload, 1) := by decide +kernel
theorem dX2_joins_27 : decode cX2_joins 27 = .ok (.iastore, 1) := by decide +kernel
theorem dX2_joins_28 : decode cX2_joins 28 = .ok (.aload_n 0, 1) := by decide +kernel
theorem dX2_joins_29 : decode cX2_joins 29 = .ok (.bipush 54, 2) := by decide +kernel
theorem dX2_joins_31 : decode cX2_joins 31 = .ok (.iload_n 1, 1) := by decide +kernel
theorem dX2_joins_32 : decode cX2_joins 32 = .ok (.iadd, 1) := by decide +kernel
theorem dX2_joins_33 : decode cX2_joins 33 = .ok (.aload_n 0, 1) := by decide +kernel
theorem dX2_joins_34 : decode cX2_joins 34 = .ok (.bipush 70, 2) := by decide +kernel
theorem dX2_joins_36 : decode cX2_joins 36 = .ok (.iaload, 1) := by decide +kernel
theorem dX2_joins_37 : decode cX2_joins 37 = .ok (.aload_n 0, 1) := by decide +kernel
theorem dX2_joins_38 : decode cX2_joins 38 = .ok (.iconst 1, 1) := by decide +kernel
theorem dX2_joins_39 : decode cX2_joins 39 = .ok (.invokestatic 79, 3) := by decide +kernel
theorem dX2_joins_42 : decode cX2_joins 42 = .ok (.iadd, 1) := by decide +kernel
theorem dX2_joins_43 : decode cX2_joins 43 = .ok (.iastore, 1) := by decide +kernel
theorem dX2_joins_44 : decode cX2_joins 44 = .ok (.return_, 1) := by decide +kernel
set_option maxRecDepth 20000 in
theorem ggX2_leaves_X2_countOf : GoodIn wsX2_leaves wsX2_countOf := goodIn_r _ [4, 5, 6, 3, 7] (by decide +kernel) (by decide +kernel)
set_option maxRecDepth 20000 in
theorem gX2_leaves_X2_countOf : GoodIn wsX2_leaves (va_wsS RX2 76 yX2_countOf wsX2_countOf) := goodIn_app (goodIn_of _ (by decide +kernel)) ggX2_leaves_X2_countOf
set_option maxRecDepth 20000 in
theorem ggX2_leaves_X2_bye : GoodIn wsX2_leaves wsX2_bye := goodIn_r _ [10, 11, 12, 3, 13, 14, 15, 16, 17, 18, 19, 1, 2, 4, 5, 6, 7] (by decide +kernel) (by decide +kernel)
set_option maxRecDepth 20000 in
theorem gX2_leaves_X2_bye : GoodIn wsX2_leaves (va_wsS RX2 82 yX2_bye wsX2_bye) := goodIn_app (goodIn_of _ (by decide +kernel)) ggX2_leaves_X2_bye
set_option maxRecDepth 20000 in
theorem ggX2_leaves_X2_waitOf : GoodIn wsX2_leaves wsX2_waitOf := goodIn_r _ [22, 23, 24, 3, 25, 26, 27, 28, 29] (by decide +kernel) (by decide +kernel)
set_option maxRecDepth 20000 in
theorem gX2_leaves_X2_waitOf : GoodIn wsX2_leaves (va_wsS RX2 79 yX2_waitOf wsX2_waitOf) := goodIn_app (goodIn_of _ (by decide +kernel)) ggX2_leaves_X2_waitOf
theorem dX2_leaves_0 : decode cX2_leaves 0 = .ok (.aload_n 0, 1) := by decide +kernel
theorem dX2_leaves_1 : decode cX2_leaves 1 = .ok (.iload_n 1, 1) := by decide +kernel
theorem dX2_leaves_2 : decode cX2_leaves 2 = .ok (.invokestatic 76, 3) := by decide +kernel
theorem dX2_leaves_5 : decode cX2_leaves 5 = .ok (.iconst 3, 1) := by decide +kernel
theorem dX2_leaves_6 : decode cX2_leaves 6 = .ok (.if_icmp .gt 9, 3) := by decide +kernel
theorem dX2_leaves_9 : decode cX2_leaves 9 = .ok (.aload_n 0, 1) := by decide +kernel
theorem dX2_leaves_10 : decode cX2_leaves 10 = .ok (.iload_n 1, 1) := by decide +kernel
theorem dX2_leaves_11 : decode cX2_leaves 11 = .ok (.invokestatic 82, 3) := by decide +kernel
theorem dX2_leaves_14 : decode cX2_leaves 14 = .ok (.return_, 1) := by decide +kernel
theorem dX2_leaves_15 : decode cX2_leaves 15 = .ok (.aload_n 0, 1) := by decide +kernel
theorem dX2_leaves_16 : decode cX2_leaves 16 = .ok (.iload_n 1, 1) := by decide +kernel
theorem dX2_leaves_17 : decode cX2_leaves 17 = .ok (.iconst 2, 1) := by decide +kernel
theorem dX2_leaves_18 : decode cX2_leaves 18 = .ok (.iastore, 1) := by decide +kernel
theorem dX2_leaves_19 : decode cX2_leaves 19 = .ok (.aload_n 0, 1) := by decide +kernel
theorem dX2_leaves_20 : decode cX2_leaves 20 = .ok (.bipush 60, 2) := by decide +kernel
theorem dX2_leaves_22 : decode cX2_leaves 22 = .ok (.iload_n 1, 1) := by decide +kernel
theorem dX2_leaves_23 : decode cX2_leaves 23 = .ok (.iadd, 1) := by decide +kernel
theorem dX2_leaves_24 : decode cX2_leaves 24 = .ok (.iconst 1, 1) := by decide +kernel
theorem dX2_leaves_25 : decode cX2_leaves 25 = .ok (.iastore, 1) := by decide +kernel
theorem dX2_leaves_26 : decode cX2_leaves 26 = .ok (.aload_n 0, 1) := by decide +kernel
theorem dX2_leaves_27 : decode cX2_leaves 27 = .ok (.bipush 48, 2) := by decide +kernel
theorem dX2_leaves_29 : decode cX2_leaves 29 = .ok (.iload_n 1, 1) := by decide +kernel
theorem dX2_leaves_30 : decode cX2_leaves 30 = .ok (.iadd, 1) := by decide +kernel
theorem dX2_leaves_31 : decode cX2_leaves 31 = .ok (.aload_n 0, 1) := by decide +kernel
theorem dX2_leaves_32 : decode cX2_leaves 32 = .ok (.bipush 70, 2) := by decide +kernel
theorem dX2_leaves_34 : decode cX2_leaves 34 = .ok (.iaload, 1) := by decide +kernel
theorem dX2_leaves_35 : decode cX2_leaves 35 = .ok (.iastore, 1) := by decide +kernel
theorem dX2_leaves_36 : decode cX2_leaves 36 = .ok (.aload_n 0, 1) := by decide +kernel
theorem dX2_leaves_37 : decode cX2_leaves 37 = .ok (.bipush 54, 2) := by decide +kernel
theorem dX2_leaves_39 : decode cX2_leaves 39 = .ok (.iload_n 1, 1) := by decide +kernel
theorem dX2_leaves_40 : decode cX2_leaves 40 = .ok (.iadd, 1) := by decide +kernel
theorem dX2_leaves_41 : decode cX2_leaves 41 = .ok (.aload_n 0, 1) := by decide +kernel
theorem dX2_leaves_42 : decode cX2_leaves 42 = .ok (.bipush 70, 2) := by decide +kernel
theorem dX2_leaves_44 : decode cX2_leaves 44 = .ok (.iaload, 1) := by decide +kernel
theorem dX2_leaves_45 : decode cX2_leaves 45 = .ok (.aload_n 0, 1) := by decide +kernel
theorem dX2_leaves_46 : decode cX2_leaves 46 = .ok (.iconst 1, 1) := by decide +kernel
theorem dX2_leaves_47 : decode cX2_leaves 47 = .ok (.invokestatic 79, 3) := by decide +kernel
theorem dX2_leaves_50 : decode cX2_leaves 50 = .ok (.iadd, 1) := by decide +kernel
theorem dX2_leaves_51 : decode cX2_leaves 51 = .ok (.iastore, 1) := by decide +kernel
theorem dX2_leaves_52 : decode cX2_leaves 52 = .ok (.return_, 1) := by decide +kernel
set_option maxRecDepth 20000 in
theorem ggX2_look_X2_countOf : GoodIn wsX2_look wsX2_countOf := goodIn_r _ [4, 5, 6, 3, 7] (by decide +kernel) (by decide +kernel)
set_option maxRecDepth 20000 in
theorem gX2_look_X2_countOf : GoodIn wsX2_look (va_wsS RX2 76 yX2_countOf wsX2_countOf) := goodIn_app (goodIn_of _ (by decide +kernel)) ggX2_look_X2_countOf
set_option maxRecDepth 20000 in
theorem ggX2_look_X2_waitOf : GoodIn wsX2_look wsX2_waitOf := goodIn_r _ [10, 11, 12, 3, 13, 14, 15, 16, 17] (by decide +kernel) (by decide +kernel)
set_option maxRecDepth 20000 in
theorem gX2_look_X2_waitOf : GoodIn wsX2_look (va_wsS RX2 79 yX2_waitOf wsX2_waitOf) := goodIn_app (goodIn_of _ (by decide +kernel)) ggX2_look_X2_waitOf
set_option maxRecDepth 20000 in
theorem ggX2_look_X2_report : GoodIn wsX2_look wsX2_report := goodIn_r _ [20, 21, 22, 3, 23, 24, 25, 26] (by decide +kernel) (by decide +kernel)
set_option maxRecDepth 20000 in
theorem gX2_look_X2_report : GoodIn wsX2_look (va_wsS RX2 85 yX2_report wsX2_report) := goodIn_app (goodIn_of _ (by decide +kernel)) ggX2_look_X2_report
set_option maxRecDepth 20000 in
theorem ggX2_look_X2_bye : GoodIn wsX2_look wsX2_bye := goodIn_r _ [29, 30, 31, 3, 32, 21, 22, 23, 24, 25, 26, 1, 2, 4, 5, 6, 7] (by decide +kernel) (by decide +kernel)
set_option maxRecDepth 20000 in
theorem gX2_look_X2_bye : GoodIn wsX2_look (va_wsS RX2 82 yX2_bye wsX2_bye) := goodIn_app (goodIn_of _ (by decide +kernel)) ggX2_look_X2_bye
theorem dX2_look_0 : decode cX2_look 0 = .ok (.aload_n 0, 1) := by decide +kernel
theorem dX2_look_1 : decode cX2_look 1 = .ok (.iload_n 1, 1) := by decide +kernel
theorem dX2_look_2 : decode cX2_look 2 = .ok (.iaload, 1) := by decide +kernel
theorem dX2_look_3 : decode cX2_look 3 = .ok (.iconst 1, 1) := by decide +kernel
theorem dX2_look_4 : decode cX2_look 4 = .ok (.if_icmp .ne 7, 3) := by decide +kernel
theorem dX2_look_7 : decode cX2_look 7 = .ok (.iconst 1, 1) := by decide +kernel
theorem dX2_look_8 : decode cX2_look 8 = .ok (.goto 4, 3) := by decide +kernel
theorem dX2_look_11 : decode cX2_look 11 = .ok (.iconst 0, 1) := by decide +kernel
theorem dX2_look_12 : decode cX2_look 12 = .ok (.istore_n 2, 1) := by decide +kernel
theorem dX2_look_13 : decode cX2_look 13 = .ok (.aload_n 0, 1) := by decide +kernel
theorem dX2_look_14 : decode cX2_look 14 = .ok (.iload_n 2, 1) := by decide +kernel
theorem dX2_look_15 : decode cX2_look 15 = .ok (.ifCond .eq 11, 3) := by decide +kernel
theorem dX2_look_18 : decode cX2_look 18 = .ok (.aload_n 0, 1) := by decide +kernel
theorem dX2_look_19 : decode cX2_look 19 = .ok (.iload_n 1, 1) := by decide +kernel
theorem dX2_look_20 : decode cX2_look 20 = .ok (.invokestatic 76, 3) := by decide +kernel
theorem dX2_look_23 : decode cX2_look 23 = .ok (.goto 9, 3) := by decide +kernel
theorem dX2_look_26 : decode cX2_look 26 = .ok (.aload_n 0, 1) := by decide +kernel
theorem dX2_look_27 : decode cX2_look 27 = .ok (.bipush 60, 2) := by decide +kernel
theorem dX2_look_29 : decode cX2_look 29 = .ok (.iload_n 1, 1) := by decide +kernel
theorem dX2_look_30 : decode cX2_look 30 = .ok (.iadd, 1) := by decide +kernel
theorem dX2_look_31 : decode cX2_look 31 = .ok (.iaload, 1) := by decide +kernel
theorem dX2_look_32 : decode cX2_look 32 = .ok (.invokestatic 79, 3) := by decide +kernel
theorem dX2_look_35 : decode cX2_look 35 = .ok (.istore_n 3, 1) := by decide +kernel
theorem dX2_look_36 : decode cX2_look 36 = .ok (.aload_n 0, 1) := by decide +kernel
theorem dX2_look_37 : decode cX2_look 37 = .ok (.bipush 48, 2) := by decide +kernel
theorem dX2_look_39 : decode cX2_look 39 = .ok (.iload_n 1, 1) := by decide +kernel
theorem dX2_look_40 : decode cX2_look 40 = .ok (.iadd, 1) := by decide +kernel
theorem dX2_look_41 : decode cX2_look 41 = .ok (.iaload, 1) := by decide +kernel
theorem dX2_look_42 : decode cX2_look 42 = .ok (.iload_n 3, 1) := by decide +kernel
theorem dX2_look_43 : decode cX2_look 43 = .ok (.iadd, 1) := by decide +kernel
theorem dX2_look_44 : decode cX2_look 44 = .ok (.aload_n 0, 1) := by decide +kernel
theorem dX2_look_45 : decode cX2_look 45 = .ok (.bipush 70, 2) := by decide +kernel
theorem dX2_look_47 : decode cX2_look 47 = .ok (.iaload, 1) := by decide +kernel
theorem dX2_look_48 : decode cX2_look 48 = .ok (.if_icmp .le 20, 3) := by decide +kernel
theorem dX2_look_51 : decode cX2_look 51 = .ok (.aload_n 0, 1) := by decide +kernel
theorem dX2_look_52 : decode cX2_look 52 = .ok (.bipush 54, 2) := by decide +kernel
theorem dX2_look_54 : decode cX2_look 54 = .ok (.iload_n 1, 1) := by decide +kernel
theorem dX2_look_55 : decode cX2_look 55 = .ok (.iadd, 1) := by decide +kernel
theorem dX2_look_56 : decode cX2_look 56 = .ok (.aload_n 0, 1) := by decide +kernel
theorem dX2_look_57 : decode cX2_look 57 = .ok (.bipush 48, 2) := by decide +kernel
theorem dX2_look_59 : decode cX2_look 59 = .ok (.iload_n 1, 1) := by decide +kernel
theorem dX2_look_60 : decode cX2_look 60 = .ok (.iadd, 1) := by decide +kernel
theorem dX2_look_61 : decode cX2_look 61 = .ok (.iaload, 1) := by decide +kernel
theorem dX2_look_62 : decode cX2_look 62 = .ok (.iload_n 3, 1) := by decide +kernel
theorem dX2_look_63 : decode cX2_look 63 = .ok (.iadd, 1) := by decide +kernel
theorem dX2_look_64 : decode cX2_look 64 = .ok (.iastore, 1) := by decide +kernel
theorem dX2_look_65 : decode cX2_look 65 = .ok (.goto 50, 3) := by decide +kernel
theorem dX2_look_68 : decode cX2_look 68 = .ok (.iload_n 2, 1) := by decide +kernel
theorem dX2_look_69 : decode cX2_look 69 = .ok (.ifCond .eq 41, 3) := by decide +kernel
theorem dX2_look_72 : decode cX2_look 72 = .ok (.aload_n 0, 1) := by decide +kernel
theorem dX2_look_73 : decode cX2_look 73 = .ok (.iload_n 1, 1) := by decide +kernel
theorem dX2_look_74 : decode cX2_look 74 = .ok (.invokestatic 85, 3) := by decide +kernel
theorem dX2_look_77 : decode cX2_look 77 = .ok (.aload_n 0, 1) := by decide +kernel
theorem dX2_look_78 : decode cX2_look 78 = .ok (.bipush 48, 2) := by decide +kernel
theorem dX2_look_80 : decode cX2_look 80 = .ok (.iload_n 1, 1) := by decide +kernel
theorem dX2_look_81 : decode cX2_look 81 = .ok (.iadd, 1) := by decide +kernel
theorem dX2_look_82 : decode cX2_look 82 = .ok (.aload_n 0, 1) := by decide +kernel
theorem dX2_look_83 : decode cX2_look 83 = .ok (.bipush 70, 2) := by decide +kernel
theorem dX2_look_85 : decode cX2_look 85 = .ok (.iaload, 1) := by decide +kernel
theorem dX2_look_86 : decode cX2_look 86 = .ok (.iastore, 1) := by decide +kernel
theorem dX2_look_87 : decode cX2_look 87 = .ok (.aload_n 0, 1) := by decide +kernel
theorem dX2_look_88 : decode cX2_look 88 = .ok (.bipush 54, 2) := by decide +kernel
theorem dX2_look_90 : decode cX2_look 90 = .ok (.iload_n 1, 1) := by decide +kernel
theorem dX2_look_91 : decode cX2_look 91 = .ok (.iadd, 1) := by decide +kernel
theorem dX2_look_92 : decode cX2_look 92 = .ok (.aload_n 0, 1) := by decide +kernel
theorem dX2_look_93 : decode cX2_look 93 = .ok (.bipush 70, 2) := by decide +kernel
theorem dX2_look_95 : decode cX2_look 95 = .ok (.iaload, 1) := by decide +kernel
theorem dX2_look_96 : decode cX2_look 96 = .ok (.aload_n 0, 1) := by decide +kernel
theorem dX2_look_97 : decode cX2_look 97 = .ok (.aload_n 0, 1) := by decide +kernel
theorem dX2_look_98 : decode cX2_look 98 = .ok (.iload_n 1, 1) := by decide +kernel
theorem dX2_look_99 : decode cX2_look 99 = .ok (.invokestatic 76, 3) := by decide +kernel
theorem dX2_look_102 : decode cX2_look 102 = .ok (.invokestatic 79, 3) := by decide +kernel
theorem dX2_look_105 : decode cX2_look 105 = .ok (.iadd, 1) := by decide +kernel
theorem dX2_look_106 : decode cX2_look 106 = .ok (.iastore, 1) := by decide +kernel
theorem dX2_look_107 : decode cX2_look 107 = .ok (.goto 8, 3) := by decide +kernel
theorem dX2_look_110 : decode cX2_look 110 = .ok (.aload_n 0, 1) := by decide +kernel
theorem dX2_look_111 : decode cX2_look 111 = .ok (.iload_n 1, 1) := by decide +kernel
theorem dX2_look_112 : decode cX2_look 112 = .ok (.invokestatic 82, 3) := by decide +kernel
theorem dX2_look_115 : decode cX2_look 115 = .ok (.return_, 1) := by decide +kernel
set_option maxRecDepth 20000 in
theorem ggX2_forget_X2_countOf : GoodIn wsX2_forget wsX2_countOf := goodIn_r _ [4, 5, 6, 3, 7] (by decide +kernel) (by decide +kernel)
set_option maxRecDepth 20000 in
theorem gX2_forget_X2_countOf : GoodIn wsX2_forget (va_wsS RX2 76 yX2_countOf wsX2_countOf) := goodIn_app (goodIn_of _ (by decide +kernel)) ggX2_forget_X2_countOf
set_option maxRecDepth 20000 in
theorem ggX2_forget_X2_spanOf : GoodIn wsX2_forget wsX2_spanOf := goodIn_r _ [10] (by decide +kernel) (by decide +kernel)
set_option maxRecDepth 20000 in
theorem gX2_forget_X2_spanOf : GoodIn wsX2_forget (va_wsS RX2 56 yX2_spanOf wsX2_spanOf) := goodIn_app (goodIn_of _ (by decide +kernel)) ggX2_forget_X2_spanOf
set_option maxRecDepth 20000 in
theorem ggX2_forget_X2_has : GoodIn wsX2_forget wsX2_has := goodIn_r _ [13] (by decide +kernel) (by decide +kernel)
set_option maxRecDepth 20000 in
theorem gX2_forget_X2_has : GoodIn wsX2_forget (va_wsS RX2 64 yX2_has wsX2_has) := goodIn_app (goodIn_of _ (by decide +kernel)) ggX2_forget_X2_has
theorem dX2_forget_0 : decode cX2_forget 0 = .ok (.iconst 5, 1) := by decide +kernel
theorem dX2_forget_1 : decode cX2_forget 1 = .ok (.aload_n 0, 1) := by decide +kernel
theorem dX2_forget_2 : decode cX2_forget 2 = .ok (.aload_n 0, 1) := by decide +kernel
theorem dX2_forget_3 : decode cX2_forget 3 = .ok (.iload_n 1, 1) := by decide +kernel
theorem dX2_forget_4 : decode cX2_forget 4 = .ok (.invokestatic 76, 3) := by decide +kernel
theorem dX2_forget_7 : decode cX2_forget 7 = .ok (.invokestatic 56, 3) := by decide +kernel
theorem dX2_forget_10 : decode cX2_forget 10 = .ok (.imul, 1) := by decide +kernel
theorem dX2_forget_11 : decode cX2_forget 11 = .ok (.istore_n 2, 1) := by decide +kernel
theorem dX2_forget_12 : decode cX2_forget 12 = .ok (.iconst 0, 1) := by decide +kernel
theorem dX2_forget_13 : decode cX2_forget 13 = .ok (.istore_n 3, 1) := by decide +kernel
theorem dX2_forget_14 : decode cX2_forget 14 = .ok (.iload_n 3, 1) := by decide +kernel
theorem dX2_forget_15 : decode cX2_forget 15 = .ok (.bipush 6, 2) := by decide +kernel
theorem dX2_forget_17 : decode cX2_forget 17 = .ok (.if_icmp .ge 72, 3) := by decide +kernel
theorem dX2_forget_20 : decode cX2_forget 20 = .ok (.aload_n 0, 1) := by decide +kernel
theorem dX2_forget_21 : decode cX2_forget 21 = .ok (.bipush 6, 2) := by decide +kernel
theorem dX2_forget_23 : decode cX2_forget 23 = .ok (.iload_n 1, 1) := by decide +kernel
theorem dX2_forget_24 : decode cX2_forget 24 = .ok (.iadd, 1) := by decide +kernel
theorem dX2_forget_25 : decode cX2_forget 25 = .ok (.iaload, 1) := by decide +kernel
theorem dX2_forget_26 : decode cX2_forget 26 = .ok (.iload_n 3, 1) := by decide +kernel
theorem dX2_forget_27 : decode cX2_forget 27 = .ok (.invokestatic 64, 3) := by decide +kernel
theorem dX2_forget_30 : decode cX2_forget 30 = .ok (.ifCond .eq 27, 3) := by decide +kernel
theorem dX2_forget_33 : decode cX2_forget 33 = .ok (.aload_n 0, 1) := by decide +kernel
theorem dX2_forget_34 : decode cX2_forget 34 = .ok (.bipush 70, 2) := by decide +kernel
theorem dX2_forget_36 : decode cX2_forget 36 = .ok (.iaload, 1) := by decide +kernel
theorem dX2_forget_37 : decode cX2_forget 37 = .ok (.aload_n 0, 1) := by decide +kernel
theorem dX2_forget_38 : decode cX2_forget 38 = .ok (.bipush 12, 2) := by decide +kernel
theorem dX2_forget_40 : decode cX2_forget 40 = .ok (.bipush 6, 2) := by decide +kernel
theorem dX2_forget_42 : decode cX2_forget 42 = .ok (.iload_n 1, 1) := by decide +kernel
theorem dX2_forget_43 : decode cX2_forget 43 = .ok (.imul, 1) := by decide +kernel
theorem dX2_forget_44 : decode cX2_forget 44 = .ok (.iadd, 1) := by decide +kernel
theorem dX2_forget_45 : decode cX2_forget 45 = .ok (.iload_n 3, 1) := by decide +kernel
theorem dX2_forget_46 : decode cX2_forget 46 = .ok (.iadd, 1) := by decide +kernel
theorem dX2_forget_47 : decode cX2_forget 47 = .ok (.iaload, 1) := by decide +kernel
theorem dX2_forget_48 : decode cX2_forget 48 = .ok (.isub, 1) := by decide +kernel
theorem dX2_forget_49 : decode cX2_forget 49 = .ok (.iload_n 2, 1) := by decide +kernel
theorem dX2_forget_50 : decode cX2_forget 50 = .ok (.if_icmp .le 7, 3) := by decide +kernel
theorem dX2_forget_53 : decode cX2_forget 53 = .ok (.iconst 1, 1) := by decide +kernel
theorem dX2_forget_54 : decode cX2_forget 54 = .ok (.goto 4, 3) := by decide +kernel
theorem dX2_forget_57 : decode cX2_forget 57 = .ok (.iconst 0, 1) := by decide +kernel
theorem dX2_forget_58 : decode cX2_forget 58 = .ok (.istore 4, 2) := by decide +kernel
theorem dX2_forget_60 : decode cX2_forget 60 = .ok (.aload_n 0, 1) := by decide +kernel
theorem dX2_forget_61 : decode cX2_forget 61 = .ok (.bipush 6, 2) := by decide +kernel
theorem dX2_forget_63 : decode cX2_forget 63 = .ok (.iload_n 1, 1) := by decide +kernel
theorem dX2_forget_64 : decode cX2_forget 64 = .ok (.iadd, 1) := by decide +kernel
theorem dX2_forget_65 : decode cX2_forget 65 = .ok (.dup2, 1) := by decide +kernel
theorem dX2_forget_66 : decode cX2_forget 66 = .ok (.iaload, 1) := by decide +kernel
theorem dX2_forget_67 : decode cX2_forget 67 = .ok (.iload 4, 2) := by decide +kernel
theorem dX2_forget_69 : decode cX2_forget 69 = .ok (.ifCond .eq 11, 3) := by decide +kernel
theorem dX2_forget_72 : decode cX2_forget 72 = .ok (.iconst 1, 1) := by decide +kernel
theorem dX2_forget_73 : decode cX2_forget 73 = .ok (.iload_n 3, 1) := by decide +kernel
theorem dX2_forget_74 : decode cX2_forget 74 = .ok (.ishl, 1) := by decide +kernel
theorem dX2_forget_75 : decode cX2_forget 75 = .ok (.iconst (-1), 1) := by decide +kernel
theorem dX2_forget_76 : decode cX2_forget 76 = .ok (.ixor, 1) := by decide +kernel
theorem dX2_forget_77 : decode cX2_forget 77 = .ok (.goto 4, 3) := by decide +kernel
theorem dX2_forget_80 : decode cX2_forget 80 = .ok (.iconst (-1), 1) := by decide +kernel
theorem dX2_forget_81 : decode cX2_forget 81 = .ok (.iand, 1) := by decide +kernel
theorem dX2_forget_82 : decode cX2_forget 82 = .ok (.iastore, 1) := by decide +kernel
theorem dX2_forget_83 : decode cX2_forget 83 = .ok (.iinc 3 1, 3) := by decide +kernel
theorem dX2_forget_86 : decode cX2_forget 86 = .ok (.goto (-72), 3) := by decide +kernel
theorem dX2_forget_89 : decode cX2_forget 89 = .ok (.return_, 1) := by decide +kernel
set_option maxRecDepth 20000 in
theorem ggX2_tick_X2_look : GoodIn wsX2_tick wsX2_look := goodIn_r _ [4, 5, 6, 3, 7, 8, 9, 10, 11, 12, 13, 14, 15, 16, 17, 18, 19, 20, 21, 22, 23, 24, 25, 26, 27, 28, 29, 30, 31, 32, 33, 34, 35] (by decide +kernel) (by decide +kernel)
set_option maxRecDepth 20000 in
theorem gX2_tick_X2_look : GoodIn wsX2_tick (va_wsS RX2 88 yX2_look wsX2_look) := goodIn_app (goodIn_of _ (by decide +kernel)) ggX2_tick_X2_look
set_option maxRecDepth 20000 in
theorem ggX2_tick_X2_forget : GoodIn wsX2_tick wsX2_forget := goodIn_r _ [38, 5, 6, 3, 7, 8, 9, 10, 14, 15, 16, 27, 28, 29] (by decide +kernel) (by decide +kernel)
set_option maxRecDepth 20000 in
theorem gX2_tick_X2_forget : GoodIn wsX2_tick (va_wsS RX2 91 yX2_forget wsX2_forget) := goodIn_app (goodIn_of _ (by decide +kernel)) ggX2_tick_X2_forget
theorem dX2_tick_0 : decode cX2_tick 0 = .ok (.aload_n 0, 1) := by decide +kernel
theorem dX2_tick_1 : decode cX2_tick 1 = .ok (.bipush 70, 2) := by decide +kernel
theorem dX2_tick_3 : decode cX2_tick 3 = .ok (.dup2, 1) := by decide +kernel
theorem dX2_tick_4 : decode cX2_tick 4 = .ok (.iaload, 1) := by decide +kernel
theorem dX2_tick_5 : decode cX2_tick 5 = .ok (.iconst 1, 1) := by decide +kernel
theorem dX2_tick_6 : decode cX2_tick 6 = .ok (.iadd, 1) := by decide +kernel
theorem dX2_tick_7 : decode cX2_tick 7 = .ok (.iastore, 1) := by decide +kernel
theorem dX2_tick_8 : decode cX2_tick 8 = .ok (.iconst 0, 1) := by decide +kernel
theorem dX2_tick_9 : decode cX2_tick 9 = .ok (.istore_n 1, 1) := by decide +kernel
theorem dX2_tick_10 : decode cX2_tick 10 = .ok (.iload_n 1, 1) := by decide +kernel
theorem dX2_tick_11 : decode cX2_tick 11 = .ok (.bipush 6, 2) := by decide +kernel
theorem dX2_tick_13 : decode cX2_tick 13 = .ok (.if_icmp .ge 33, 3) := by decide +kernel
theorem dX2_tick_16 : decode cX2_tick 16 = .ok (.aload_n 0, 1) := by decide +kernel
theorem dX2_tick_17 : decode cX2_tick 17 = .ok (.iload_n 1, 1) := by decide +kernel
theorem dX2_tick_18 : decode cX2_tick 18 = .ok (.iaload, 1) := by decide +kernel
theorem dX2_tick_19 : decode cX2_tick 19 = .ok (.ifCond .eq 21, 3) := by decide +kernel
theorem dX2_tick_22 : decode cX2_tick 22 = .ok (.aload_n 0, 1) := by decide +kernel
theorem dX2_tick_23 : decode cX2_tick 23 = .ok (.bipush 54, 2) := by decide +kernel
theorem dX2_tick_25 : decode cX2_tick 25 = .ok (.iload_n 1, 1) := by decide +kernel
theorem dX2_tick_26 : decode cX2_tick 26 = .ok (.iadd, 1) := by decide +kernel
theorem dX2_tick_27 : decode cX2_tick 27 = .ok (.iaload, 1) := by decide +kernel
theorem dX2_tick_28 : decode cX2_tick 28 = .ok (.aload_n 0, 1) := by decide +kernel
theorem dX2_tick_29 : decode cX2_tick 29 = .ok (.bipush 70, 2) := by decide +kernel
theorem dX2_tick_31 : decode cX2_tick 31 = .ok (.iaload, 1) := by decide +kernel
theorem dX2_tick_32 : decode cX2_tick 32 = .ok (.if_icmp .gt 8, 3) := by decide +kernel
theorem dX2_tick_35 : decode cX2_tick 35 = .ok (.aload_n 0, 1) := by decide +kernel
theorem dX2_tick_36 : decode cX2_tick 36 = .ok (.iload_n 1, 1) := by decide +kernel
theorem dX2_tick_37 : decode cX2_tick 37 = .ok (.invokestatic 88, 3) := by decide +kernel
theorem dX2_tick_40 : decode cX2_tick 40 = .ok (.iinc 1 1, 3) := by decide +kernel
theorem dX2_tick_43 : decode cX2_tick 43 = .ok (.goto (-33), 3) := by decide +kernel
theorem dX2_tick_46 : decode cX2_tick 46 = .ok (.iconst 0, 1) := by decide +kernel
theorem dX2_tick_47 : decode cX2_tick 47 = .ok (.istore_n 1, 1) := by decide +kernel
theorem dX2_tick_48 : decode cX2_tick 48 = .ok (.iload_n 1, 1) := by decide +kernel
theorem dX2_tick_49 : decode cX2_tick 49 = .ok (.bipush 6, 2) := by decide +kernel
theorem dX2_tick_51 : decode cX2_tick 51 = .ok (.if_icmp .ge 21, 3) := by decide +kernel
theorem dX2_tick_54 : decode cX2_tick 54 = .ok (.aload_n 0, 1) := by decide +kernel
theorem dX2_tick_55 : decode cX2_tick 55 = .ok (.iload_n 1, 1) := by decide +kernel
theorem dX2_tick_56 : decode cX2_tick 56 = .ok (.iaload, 1) := by decide +kernel
theorem dX2_tick_57 : decode cX2_tick 57 = .ok (.iconst 1, 1) := by decide +kernel
theorem dX2_tick_58 : decode cX2_tick 58 = .ok (.if_icmp .ne 8, 3) := by decide +kernel
theorem dX2_tick_61 : decode cX2_tick 61 = .ok (.aload_n 0, 1) := by decide +kernel
theorem dX2_tick_62 : decode cX2_tick 62 = .ok (.iload_n 1, 1) := by decide +kernel
theorem dX2_tick_63 : decode cX2_tick 63 = .ok (.invokestatic 91, 3) := by decide +kernel
theorem dX2_tick_66 : decode cX2_tick 66 = .ok (.iinc 1 1, 3) := by decide +kernel
theorem dX2_tick_69 : decode cX2_tick 69 = .ok (.goto (-21), 3) := by decide +kernel
theorem dX2_tick_72 : decode cX2_tick 72 = .ok (.return_, 1) := by decide +kernel
set_option maxRecDepth 20000 in
theorem ggX2_passOn_X2_lettersOf : GoodIn wsX2_passOn wsX2_lettersOf := goodIn_r _ [4] (by decide +kernel) (by decide +kernel)
set_option maxRecDepth 20000 in
theorem gX2_passOn_X2_lettersOf : GoodIn wsX2_passOn (va_wsS RX2 94 yX2_lettersOf wsX2_lettersOf) := goodIn_app (goodIn_of _ (by decide +kernel)) ggX2_passOn_X2_lettersOf
set_option maxRecDepth 20000 in
theorem ggX2_passOn_X2_tick : GoodIn wsX2_passOn wsX2_tick := goodIn_r _ [7, 8, 9, 3, 10, 11, 12, 13, 14, 15, 16, 17, 18, 19, 20, 21, 22, 23, 24, 25, 26, 27, 28, 29, 30, 31, 32, 33, 34, 35, 36, 37, 38, 39, 40, 41, 42, 43, 44] (by decide +kernel) (by decide +kernel)
set_option maxRecDepth 20000 in
theorem gX2_passOn_X2_tick : GoodIn wsX2_passOn (va_wsS RX2 97 yX2_tick wsX2_tick) := goodIn_app (goodIn_of _ (by decide +kernel)) ggX2_passOn_X2_tick
theorem dX2_passOn_0 : decode cX2_passOn 0 = .ok (.aload_n 0, 1) := by decide +kernel
theorem dX2_passOn_1 : decode cX2_passOn 1 = .ok (.invokestatic 94, 3) := by decide +kernel
theorem dX2_passOn_4 : decode cX2_passOn 4 = .ok (.istore_n 2, 1) := by decide +kernel
theorem dX2_passOn_5 : decode cX2_passOn 5 = .ok (.iconst 0, 1) := by decide +kernel
theorem dX2_passOn_6 : decode cX2_passOn 6 = .ok (.istore_n 3, 1) := by decide +kernel
theorem dX2_passOn_7 : decode cX2_passOn 7 = .ok (.iload_n 3, 1) := by decide +kernel
theorem dX2_passOn_8 : decode cX2_passOn 8 = .ok (.iload_n 1, 1) := by decide +kernel
theorem dX2_passOn_9 : decode cX2_passOn 9 = .ok (.if_icmp .ge 13, 3) := by decide +kernel
theorem dX2_passOn_12 : decode cX2_passOn 12 = .ok (.aload_n 0, 1) := by decide +kernel
theorem dX2_passOn_13 : decode cX2_passOn 13 = .ok (.invokestatic 97, 3) := by decide +kernel
theorem dX2_passOn_16 : decode cX2_passOn 16 = .ok (.iinc 3 1, 3) := by decide +kernel
theorem dX2_passOn_19 : decode cX2_passOn 19 = .ok (.goto (-12), 3) := by decide +kernel
theorem dX2_passOn_22 : decode cX2_passOn 22 = .ok (.aload_n 0, 1) := by decide +kernel
theorem dX2_passOn_23 : decode cX2_passOn 23 = .ok (.invokestatic 94, 3) := by decide +kernel
theorem dX2_passOn_26 : decode cX2_passOn 26 = .ok (.iload_n 2, 1) := by decide +kernel
theorem dX2_passOn_27 : decode cX2_passOn 27 = .ok (.isub, 1) := by decide +kernel
theorem dX2_passOn_28 : decode cX2_passOn 28 = .ok (.ireturn, 1) := by decide +kernel
set_option maxRecDepth 20000 in
theorem ggX2_write_X2_in : GoodIn wsX2_write wsX2_in := goodIn_r _ [7] (by decide +kernel) (by decide +kernel)
set_option maxRecDepth 20000 in
theorem gX2_write_X2_in : GoodIn wsX2_write (va_wsS RX2 47 yX2_in wsX2_in) := goodIn_app (goodIn_of _ (by decide +kernel)) ggX2_write_X2_in
theorem dX2_write_0 : decode cX2_write 0 = .ok (.iload_n 1, 1) := by decide +kernel
theorem dX2_write_1 : decode cX2_write 1 = .ok (.i2l, 1) := by decide +kernel
theorem dX2_write_2 : decode cX2_write 2 = .ok (.lconst 0, 1) := by decide +kernel
theorem dX2_write_3 : decode cX2_write 3 = .ok (.ldc2_w 100, 3) := by decide +kernel
theorem dX2_write_6 : decode cX2_write 6 = .ok (.invokestatic 47, 3) := by decide +kernel
theorem dX2_write_9 : decode cX2_write 9 = .ok (.ifCond .ne 6, 3) := by decide +kernel
theorem dX2_write_12 : decode cX2_write 12 = .ok (.bipush (-2), 2) := by decide +kernel
theorem dX2_write_14 : decode cX2_write 14 = .ok (.ireturn, 1) := by decide +kernel
theorem dX2_write_15 : decode cX2_write 15 = .ok (.aload_n 0, 1) := by decide +kernel
theorem dX2_write_16 : decode cX2_write 16 = .ok (.getfield 102, 3) := by decide +kernel
theorem dX2_write_19 : decode cX2_write 19 = .ok (.bipush 60, 2) := by decide +kernel
theorem dX2_write_21 : decode cX2_write 21 = .ok (.if_icmp .ne 6, 3) := by decide +kernel
theorem dX2_write_24 : decode cX2_write 24 = .ok (.bipush (-4), 2) := by decide +kernel
theorem dX2_write_26 : decode cX2_write 26 = .ok (.ireturn, 1) := by decide +kernel
theorem dX2_write_27 : decode cX2_write 27 = .ok (.aload_n 0, 1) := by decide +kernel
theorem dX2_write_28 : decode cX2_write 28 = .ok (.getfield 7, 3) := by decide +kernel
theorem dX2_write_31 : decode cX2_write 31 = .ok (.aload_n 0, 1) := by decide +kernel
theorem dX2_write_32 : decode cX2_write 32 = .ok (.getfield 102, 3) := by decide +kernel
theorem dX2_write_35 : decode cX2_write 35 = .ok (.iload_n 1, 1) := by decide +kernel
theorem dX2_write_36 : decode cX2_write 36 = .ok (.iastore, 1) := by decide +kernel
theorem dX2_write_37 : decode cX2_write 37 = .ok (.aload_n 0, 1) := by decide +kernel
theorem dX2_write_38 : decode cX2_write 38 = .ok (.dup, 1) := by decide +kernel
theorem dX2_write_39 : decode cX2_write 39 = .ok (.getfield 102, 3) := by decide +kernel
theorem dX2_write_42 : decode cX2_write 42 = .ok (.iconst 1, 1) := by decide +kernel
theorem dX2_write_43 : decode cX2_write 43 = .ok (.iadd, 1) := by decide +kernel
theorem dX2_write_44 : decode cX2_write 44 = .ok (.putfield 102, 3) := by decide +kernel
theorem dX2_write_47 : decode cX2_write 47 = .ok (.aload_n 0, 1) := by decide +kernel
theorem dX2_write_48 : decode cX2_write 48 = .ok (.getfield 102, 3) := by decide +kernel
theorem dX2_write_51 : decode cX2_write 51 = .ok (.ireturn, 1) := by decide +kernel
theorem dX2_wipe_0 : decode cX2_wipe 0 = .ok (.aload_n 0, 1) := by decide +kernel
theorem dX2_wipe_1 : decode cX2_wipe 1 = .ok (.getfield 102, 3) := by decide +kernel
theorem dX2_wipe_4 : decode cX2_wipe 4 = .ok (.istore_n 1, 1) := by decide +kernel
theorem dX2_wipe_5 : decode cX2_wipe 5 = .ok (.aload_n 0, 1) := by decide +kernel
theorem dX2_wipe_6 : decode cX2_wipe 6 = .ok (.iconst 0, 1) := by decide +kernel
theorem dX2_wipe_7 : decode cX2_wipe 7 = .ok (.putfield 102, 3) := by decide +kernel
theorem dX2_wipe_10 : decode cX2_wipe 10 = .ok (.iload_n 1, 1) := by decide +kernel
theorem dX2_wipe_11 : decode cX2_wipe 11 = .ok (.ireturn, 1) := by decide +kernel
theorem dX2_those_0 : decode cX2_those 0 = .ok (.iconst 0, 1) := by decide +kernel
theorem dX2_those_1 : decode cX2_those 1 = .ok (.istore_n 2, 1) := by decide +kernel
theorem dX2_those_2 : decode cX2_those 2 = .ok (.iconst 0, 1) := by decide +kernel
theorem dX2_those_3 : decode cX2_those 3 = .ok (.istore_n 3, 1) := by decide +kernel
theorem dX2_those_4 : decode cX2_those 4 = .ok (.iload_n 3, 1) := by decide +kernel
theorem dX2_those_5 : decode cX2_those 5 = .ok (.bipush 6, 2) := by decide +kernel
theorem dX2_those_7 : decode cX2_those 7 = .ok (.if_icmp .ge 26, 3) := by decide +kernel
theorem dX2_those_10 : decode cX2_those 10 = .ok (.iload_n 2, 1) := by decide +kernel
theorem dX2_those_11 : decode cX2_those 11 = .ok (.aload_n 0, 1) := by decide +kernel
theorem dX2_those_12 : decode cX2_those 12 = .ok (.iload_n 3, 1) := by decide +kernel
theorem dX2_those_13 : decode cX2_those 13 = .ok (.iaload, 1) := by decide +kernel
theorem dX2_those_14 : decode cX2_those 14 = .ok (.iload_n 1, 1) := by decide +kernel
theorem dX2_those_15 : decode cX2_those 15 = .ok (.if_icmp .ne 9, 3) := by decide +kernel
theorem dX2_those_18 : decode cX2_those 18 = .ok (.iconst 1, 1) := by decide +kernel
theorem dX2_those_19 : decode cX2_those 19 = .ok (.iload_n 3, 1) := by decide +kernel
theorem dX2_those_20 : decode cX2_those 20 = .ok (.ishl, 1) := by decide +kernel
theorem dX2_those_21 : decode cX2_those 21 = .ok (.goto 4, 3) := by decide +kernel
theorem dX2_those_24 : decode cX2_those 24 = .ok (.iconst 0, 1) := by decide +kernel
theorem dX2_those_25 : decode cX2_those 25 = .ok (.ior, 1) := by decide +kernel
theorem dX2_those_26 : decode cX2_those 26 = .ok (.istore_n 2, 1) := by decide +kernel
theorem dX2_those_27 : decode cX2_those 27 = .ok (.iinc 3 1, 3) := by decide +kernel
theorem dX2_those_30 : decode cX2_those 30 = .ok (.goto (-26), 3) := by decide +kernel
theorem dX2_those_33 : decode cX2_those 33 = .ok (.iload_n 2, 1) := by decide +kernel
theorem dX2_those_34 : decode cX2_those 34 = .ok (.ireturn, 1) := by decide +kernel
end
section
set_option maxHeartbeats 1000000 in
set_option maxRecDepth 100000 in
theorem kX2_in (l : Launch) (D : va_G) (cI cZ cQ : ClassId) (v lo hi : Int64) : Ct l D (gTy cI cZ cQ) yX2_in wsX2_in ({ frames := 0, cells := 0, slots := 0, locals := 0 }) [.long v, .long lo, .long hi] ([]) (some (.int (bI (S_in v lo hi)))) ([]) := by
  refine ct_ofZ (cc := cX2_in) (nL := 6) (own := RX2) (by decide) rfl rfl ⟨rfl, rfl⟩ (Nat.le_of_ble_eq_true rfl) (by simp only [List.map]) (by first | rfl | exact bI_nar _) (fun p e s m below meth c A Q F hR => ?_)
  refine g_lload_n F dX2_in_0 rfl 0 rfl ?_
  refine g_lload_n F dX2_in_1 rfl 1 rfl ?_
  refine g_lcmp F dX2_in_2 ?_
  refine g_if_lt F 17 dX2_in_3 (by decide) (fun c1 => ?_) (fun c1 => ?_)
  · refine g_iconst F (v := 0) dX2_in_17 (by decide) ?_
    exact g_endI (hR _ _ dX2_in_18) (by have h1 := lg_cmp_lt v lo; have h2 := lg_cmp_gt v hi; simp_all [S_in, bI]) rfl
  · refine g_lload_n F dX2_in_6 rfl 0 rfl ?_
    refine g_lload F dX2_in_7 2 rfl ?_
    refine g_lcmp F dX2_in_9 ?_
    refine g_if_gt F 17 dX2_in_10 (by decide) (fun c2 => ?_) (fun c2 => ?_)
    · refine g_iconst F (v := 0) dX2_in_17 (by decide) ?_
      exact g_endI (hR _ _ dX2_in_18) (by have h1 := lg_cmp_lt v lo; have h2 := lg_cmp_gt v hi; simp_all [S_in, bI]) rfl
    · refine g_iconst F (v := 1) dX2_in_13 (by decide) ?_
      refine g_goto F 18 dX2_in_14 (by decide) ?_
      exact g_endI (hR _ _ dX2_in_18) (by have h1 := lg_cmp_lt v lo; have h2 := lg_cmp_gt v hi; simp_all [S_in, bI]) rfl
set_option maxHeartbeats 1000000 in
set_option maxRecDepth 100000 in
theorem kX2_has (l : Launch) (D : va_G) (cI cZ cQ : ClassId) (set i : Int32) : Ct l D (gTy cI cZ cQ) yX2_has wsX2_has ({ frames := 0, cells := 0, slots := 0, locals := 0 }) [.int set, .int i] ([]) (some (.int (bI (S_has set i)))) ([]) := by
  refine ct_ofZ (cc := cX2_has) (nL := 2) (own := RX2) (by decide) rfl rfl ⟨rfl, rfl⟩ (Nat.le_of_ble_eq_true rfl) (by simp only [List.map]) (by first | rfl | exact bI_nar _) (fun p e s m below meth c A Q F hR => ?_)
  refine g_iload_n F dX2_has_0 rfl 0 rfl ?_
  refine g_iload_n F dX2_has_1 rfl 1 rfl ?_
  refine g_ishr F dX2_has_2 ?_
  refine g_iconst F (v := 1) dX2_has_3 (by decide) ?_
  refine g_iand F dX2_has_4 ?_
  refine g_iconst F (v := 1) dX2_has_5 (by decide) ?_
  refine g_icmp_ne F 13 dX2_has_6 (by decide) (fun c1 => ?_) (fun c1 => ?_)
  · refine g_iconst F (v := 0) dX2_has_13 (by decide) ?_
    exact g_endI (hR _ _ dX2_has_14) (by first | (simp only [S_has, bI, c1, Bool.false_eq_true, ↓reduceIte]; done) | (with_reducible rfl) | (simp [S_has, bI, c1, Bool.false_eq_true, ↓reduceIte]; done)) rfl
  · refine g_iconst F (v := 1) dX2_has_9 (by decide) ?_
    refine g_goto F 14 dX2_has_10 (by decide) ?_
    exact g_endI (hR _ _ dX2_has_14) (by first | (simp only [S_has, bI, c1, Bool.false_eq_true, ↓reduceIte]; done) | (with_reducible rfl) | (simp [S_has, bI, c1, Bool.false_eq_true, ↓reduceIte]; done)) rfl
set_option maxHeartbeats 1000000 in
set_option maxRecDepth 100000 in
theorem kX2_ones (l : Launch) (D : va_G) (cI cZ cQ : ClassId) (set : Int32) : Ct l D (gTy cI cZ cQ) yX2_ones wsX2_ones ({ frames := 0, cells := 0, slots := 0, locals := 0 }) [.int set] ([]) (some (.int (S_ones set))) ([]) := by
  refine ct_ofI (cc := cX2_ones) (nL := 3) (own := RX2) (by decide) rfl rfl ⟨rfl, rfl⟩ (Nat.le_of_ble_eq_true rfl) (by simp only [List.map]) (fun p e s m below meth c A Q F hR => ?_)
  refine g_iconst F (v := 0) dX2_ones_0 (by decide) ?_
  refine g_istore_n F (lv' := [(0, .int set), (1, .int 0)]) dX2_ones_1 rfl (by decide) [1, 0] rfl ?_
  refine g_iconst F (v := 0) dX2_ones_2 (by decide) ?_
  refine g_istore_n F (lv' := [(0, .int set), (1, .int 0), (2, .int 0)]) dX2_ones_3 rfl (by decide) [1, 2, 0] rfl ?_
  refine g_all (w0 := []) (lv0 := [(0, .int set), (1, .int (it (S_onesStep set) 0 0)), (2, .int (nI 0))]) (st0 := []) rfl rfl rfl ?_
  refine g_for 6 (fun i => True) (fun i => []) (fun i => [(0, .int set), (1, .int (it (S_onesStep set) i 0)), (2, .int (nI i))]) (fun i hi hIi ihi => ?_) 0 (Nat.zero_le _) trivial
  refine g_iload_n F dX2_ones_4 rfl 2 rfl ?_
  refine g_bipush F (v := 6) dX2_ones_5 (by decide) ?_
  refine g_icmp_ge F 24 dX2_ones_7 (by decide) (fun c1 => ?_) (fun c1 => ?_)
  · have hx_c1 : 6 = i := lp_ge hi (by decide) c1
    subst hx_c1
    refine g_iload_n F dX2_ones_24 rfl 1 rfl ?_
    exact g_endI (hR _ _ dX2_ones_25) rfl rfl
  · have hlti : i < 6 := lp_lt hi (by decide) c1
    refine g_iload_n F dX2_ones_10 rfl 1 rfl ?_
    refine g_iload_n F dX2_ones_11 rfl 0 rfl ?_
    refine g_iload_n F dX2_ones_12 rfl 2 rfl ?_
    refine g_ishr F dX2_ones_13 ?_
    refine g_iconst F (v := 1) dX2_ones_14 (by decide) ?_
    refine g_iand F dX2_ones_15 ?_
    refine g_iadd F dX2_ones_16 ?_
    refine g_istore_n F (lv' := [(0, .int set), (1, .int ((it (S_onesStep set) i 0) + ((set >>> ((nI i) &&& 31)) &&& 1))), (2, .int (nI i))]) dX2_ones_17 rfl (by decide) [1, 0, 2] rfl ?_
    refine g_iinc F (lv' := [(0, .int set), (1, .int ((it (S_onesStep set) i 0) + ((set >>> ((nI i) &&& 31)) &&& 1))), (2, .int (nI (i + 1)))]) (nI (i + 1)) dX2_ones_18 2 rfl (nI_add i 1) (by decide) [1, 2, 0] rfl ?_
    refine g_goto F 4 dX2_ones_21 (by decide) ?_
    refine g_all (w0 := []) (lv0 := [(0, .int set), (1, .int (it (S_onesStep set) (i + 1) 0)), (2, .int (nI (i + 1)))]) (st0 := []) rfl rfl rfl ?_
    exact ihi hlti trivial
theorem zX2_isMember_c45 : Cond.constantLong RX2 45 (5) ∈ wsX2_isMember := by decide +kernel
set_option maxHeartbeats 1000000 in
set_option maxRecDepth 100000 in
theorem kX2_isMember (l : Launch) (D : va_G) (cI cZ cQ : ClassId) (v : Int32) : Ct l D (gTy cI cZ cQ) yX2_isMember wsX2_isMember ({ frames := 1, cells := 0, slots := 0, locals := 25 }) [.int v] ([]) (some (.int (bI (S_isM v)))) ([]) := by
  refine ct_ofZ (cc := cX2_isMember) (nL := 1) (own := RX2) (by decide) rfl rfl ⟨rfl, rfl⟩ (Nat.le_of_ble_eq_true rfl) (by simp only [List.map]) (by first | rfl | exact bI_nar _) (fun p e s m below meth c A Q F hR => ?_)
  refine g_iload_n F dX2_isMember_0 rfl 0 rfl ?_
  refine g_i2l F dX2_isMember_1 ?_
  refine g_lconst F (v := 0) dX2_isMember_2 (by decide) ?_
  refine g_ldc2 F zX2_isMember_c45 dX2_isMember_3 ?_
  refine g_callSs F (As := [.long (Int32.toInt64 v), .long 0, .long 5]) (st := []) (kX2_in l D cI cZ cQ (Int32.toInt64 v) 0 5) (va_cwS 3 F.2.2.2.2.1 gX2_isMember_X2_in rfl rfl rfl (by decide +kernel) ⟨Nat.le_of_ble_eq_true rfl, Nat.le_of_ble_eq_true rfl⟩) rfl rfl (Nat.le_of_ble_eq_true rfl) ⟨Nat.zero_le _, Nat.zero_le _⟩ dX2_isMember_6 ?_
  exact g_endI (hR _ _ dX2_isMember_9) rfl rfl
set_option maxHeartbeats 1000000 in
set_option maxRecDepth 100000 in
theorem kX2_countOf (l : Launch) (D : va_G) (cI cZ cQ : ClassId) (a : Nat) (f : Row) (k : Nat) (hk : k < 6) : Ct l D (gTy cI cZ cQ) yX2_countOf wsX2_countOf ({ frames := 1, cells := 0, slots := 0, locals := 22 }) [.ref a, .int (nI k)] ([(a, .inl (cI, 79, .inl f))]) (some (.int (S_count f k))) ([(a, .inl (cI, 79, .inl f))]) := by
  refine ct_ofI (cc := cX2_countOf) (nL := 2) (own := RX2) (by decide) rfl rfl ⟨rfl, rfl⟩ (Nat.le_of_ble_eq_true rfl) (by simp only [List.map]) (fun p e s m below meth c A Q F hR => ?_)
  refine g_aload_n F dX2_countOf_0 rfl 0 rfl ?_
  refine g_iload_n F dX2_countOf_1 rfl 1 rfl ?_
  refine g_iald F (j := k) 0 0 rfl rfl (by omega) (by decide) dX2_countOf_2 ?_
  refine g_if_ne F 10 dX2_countOf_3 (by decide) (fun c1 => ?_) (fun c1 => ?_)
  · refine g_iconst F (v := 1) dX2_countOf_10 (by decide) ?_
    refine g_aload_n F dX2_countOf_11 rfl 0 rfl ?_
    refine g_bipush F (v := 6) dX2_countOf_12 (by decide) ?_
    refine g_iload_n F dX2_countOf_14 rfl 1 rfl ?_
    refine g_iadd F dX2_countOf_15 ?_
    refine g_as (nI (6 + k)) (nI_add 6 k) ?_
    refine g_iald F (j := 6 + k) 0 0 rfl rfl (by omega) (by decide) dX2_countOf_16 ?_
    refine g_callSn F (As := [.int (f (6 + k))]) (st := [.int 1]) (kX2_ones l D cI cZ cQ (f (6 + k))) (va_cwS 1 F.2.2.2.2.1 gX2_countOf_X2_ones rfl rfl rfl (by decide +kernel) ⟨Nat.le_of_ble_eq_true rfl, Nat.le_of_ble_eq_true rfl⟩) rfl rfl (Nat.le_of_ble_eq_true rfl) ⟨Nat.zero_le _, Nat.zero_le _⟩ dX2_countOf_17 ?_
    refine g_iadd F dX2_countOf_20 ?_
    exact g_endI (hR _ _ dX2_countOf_21) (by first | (simp only [S_count, c1, Bool.false_eq_true, ↓reduceIte]; done) | (with_reducible rfl) | (simp [S_count, c1, Bool.false_eq_true, ↓reduceIte]; done)) rfl
  · refine g_iconst F (v := 0) dX2_countOf_6 (by decide) ?_
    refine g_goto F 21 dX2_countOf_7 (by decide) ?_
    exact g_endI (hR _ _ dX2_countOf_21) (by first | (simp only [S_count, c1, Bool.false_eq_true, ↓reduceIte]; done) | (with_reducible rfl) | (simp [S_count, c1, Bool.false_eq_true, ↓reduceIte]; done)) rfl
set_option maxHeartbeats 1000000 in
set_option maxRecDepth 100000 in
theorem kX2_spanOf (l : Launch) (D : va_G) (cI cZ cQ : ClassId) (a : Nat) (f : Row) (v : Int32) (hz : Z67 f) : Ct l D (gTy cI cZ cQ) yX2_spanOf wsX2_spanOf ({ frames := 0, cells := 0, slots := 0, locals := 0 }) [.ref a, .int v] ([(a, .inl (cI, 79, .inl f))]) (some (.int (S_span f v))) ([(a, .inl (cI, 79, .inl f))]) := by
  refine ct_ofI (cc := cX2_spanOf) (nL := 3) (own := RX2) (by decide) rfl rfl ⟨rfl, rfl⟩ (Nat.le_of_ble_eq_true rfl) (by simp only [List.map]) (fun p e s m below meth c A Q F hR => ?_)
  refine g_iload_n F dX2_spanOf_0 rfl 1 rfl ?_
  refine g_aload_n F dX2_spanOf_1 rfl 0 rfl ?_
  refine g_bipush F (v := 66) dX2_spanOf_2 (by decide) ?_
  refine g_as (nI 66) rfl ?_
  refine g_iald F (j := 66) 0 0 rfl rfl (by omega) (by decide) dX2_spanOf_4 ?_
  refine g_imul F dX2_spanOf_5 ?_
  refine g_aload_n F dX2_spanOf_6 rfl 0 rfl ?_
  refine g_bipush F (v := 67) dX2_spanOf_7 (by decide) ?_
  refine g_as (nI 67) rfl ?_
  refine g_iald F (j := 67) 0 0 rfl rfl (by omega) (by decide) dX2_spanOf_9 ?_
  refine g_iadd F dX2_spanOf_10 ?_
  refine g_iconst F (v := 1) dX2_spanOf_11 (by decide) ?_
  refine g_isub F dX2_spanOf_12 ?_
  refine g_aload_n F dX2_spanOf_13 rfl 0 rfl ?_
  refine g_bipush F (v := 67) dX2_spanOf_14 (by decide) ?_
  refine g_as (nI 67) rfl ?_
  refine g_iald F (j := 67) 0 0 rfl rfl (by omega) (by decide) dX2_spanOf_16 ?_
  refine g_idiv F dX2_spanOf_17 hz.ne ?_
  refine g_istore_n F (lv' := [(0, .ref a), (1, .int v), (2, .int ((((v * (f 66)) + (f 67)) - 1) / (f 67)))]) dX2_spanOf_18 rfl (by decide) [1, 2, 0] rfl ?_
  refine g_iload_n F dX2_spanOf_19 rfl 2 rfl ?_
  refine g_aload_n F dX2_spanOf_20 rfl 0 rfl ?_
  refine g_bipush F (v := 68) dX2_spanOf_21 (by decide) ?_
  refine g_as (nI 68) rfl ?_
  refine g_iald F (j := 68) 0 0 rfl rfl (by omega) (by decide) dX2_spanOf_23 ?_
  refine g_icmp_le F 31 dX2_spanOf_24 (by decide) (fun c1 => ?_) (fun c1 => ?_)
  · refine g_aload_n F dX2_spanOf_31 rfl 0 rfl ?_
    refine g_bipush F (v := 68) dX2_spanOf_32 (by decide) ?_
    refine g_as (nI 68) rfl ?_
    refine g_iald F (j := 68) 0 0 rfl rfl (by omega) (by decide) dX2_spanOf_34 ?_
    exact g_endI (hR _ _ dX2_spanOf_35) (by first | (simp only [S_span, S_up, c1, Bool.false_eq_true, ↓reduceIte]; done) | (with_reducible rfl) | (simp [S_span, S_up, c1, Bool.false_eq_true, ↓reduceIte]; done)) rfl
  · refine g_iload_n F dX2_spanOf_27 rfl 2 rfl ?_
    refine g_goto F 35 dX2_spanOf_28 (by decide) ?_
    exact g_endI (hR _ _ dX2_spanOf_35) (by first | (simp only [S_span, S_up, c1, Bool.false_eq_true, ↓reduceIte]; done) | (with_reducible rfl) | (simp [S_span, S_up, c1, Bool.false_eq_true, ↓reduceIte]; done)) rfl
theorem zX2_draw_c55 : Cond.constant RX2 55 (65536) ∈ wsX2_draw := by decide +kernel
set_option maxHeartbeats 1000000 in
set_option maxRecDepth 100000 in
theorem kX2_draw (l : Launch) (D : va_G) (cI cZ cQ : ClassId) (a : Nat) (f : Row) : Ct l D (gTy cI cZ cQ) yX2_draw wsX2_draw ({ frames := 0, cells := 0, slots := 0, locals := 0 }) [.ref a] ([(a, .inl (cI, 79, .inl f))]) (some (.int (S_drawV f))) ([(a, .inl (cI, 79, .inl (S_draw f)))]) := by
  refine ct_ofI (cc := cX2_draw) (nL := 1) (own := RX2) (by decide) rfl rfl ⟨rfl, rfl⟩ (Nat.le_of_ble_eq_true rfl) (by simp only [List.map]) (fun p e s m below meth c A Q F hR => ?_)
  refine g_aload_n F dX2_draw_0 rfl 0 rfl ?_
  refine g_bipush F (v := 69) dX2_draw_1 (by decide) ?_
  refine g_sipush F (v := 25173) dX2_draw_3 (by decide) ?_
  refine g_aload_n F dX2_draw_6 rfl 0 rfl ?_
  refine g_bipush F (v := 69) dX2_draw_7 (by decide) ?_
  refine g_as (nI 69) rfl ?_
  refine g_iald F (j := 69) 0 0 rfl rfl (by omega) (by decide) dX2_draw_9 ?_
  refine g_imul F dX2_draw_10 ?_
  refine g_sipush F (v := 13849) dX2_draw_11 (by decide) ?_
  refine g_iadd F dX2_draw_14 ?_
  refine g_ldc F zX2_draw_c55 dX2_draw_15 ?_
  refine g_irem F dX2_draw_17 (by decide) ?_
  refine g_as2 (nI 69) rfl ?_
  refine g_iast F (j := 69) ([(a, .inl (cI, 79, .inl (upd f 69 (((25173 * (f 69)) + 13849) - ((25173 * (f 69)) + 13849) / 65536 * 65536))))]) 0 0 rfl rfl (by omega) (by decide) dX2_draw_18 rfl ?_
  refine g_aload_n F dX2_draw_19 rfl 0 rfl ?_
  refine g_bipush F (v := 69) dX2_draw_20 (by decide) ?_
  refine g_as (nI 69) rfl ?_
  refine g_iald F (j := 69) 0 0 rfl rfl (by omega) (by decide) dX2_draw_22 ?_
  refine g_bipush F (v := 16) dX2_draw_23 (by decide) ?_
  refine g_idiv F dX2_draw_25 (by decide) ?_
  refine g_iconst F (v := 5) dX2_draw_26 (by decide) ?_
  refine g_irem F dX2_draw_27 (by decide) ?_
  exact g_endI (hR _ _ dX2_draw_28) rfl rfl
set_option maxHeartbeats 1000000 in
set_option maxRecDepth 100000 in
theorem kX2_waitOf (l : Launch) (D : va_G) (cI cZ cQ : ClassId) (a : Nat) (f : Row) (v : Int32) (hz : Z67 f) : Ct l D (gTy cI cZ cQ) yX2_waitOf wsX2_waitOf ({ frames := 1, cells := 0, slots := 0, locals := 22 }) [.ref a, .int v] ([(a, .inl (cI, 79, .inl f))]) (some (.int (S_waitV f v))) ([(a, .inl (cI, 79, .inl (S_draw f)))]) := by
  refine ct_ofI (cc := cX2_waitOf) (nL := 4) (own := RX2) (by decide) rfl rfl ⟨rfl, rfl⟩ (Nat.le_of_ble_eq_true rfl) (by simp only [List.map]) (fun p e s m below meth c A Q F hR => ?_)
  refine g_aload_n F dX2_waitOf_0 rfl 0 rfl ?_
  refine g_iload_n F dX2_waitOf_1 rfl 1 rfl ?_
  refine g_callSs F (As := [.ref a, .int v]) (st := []) (kX2_spanOf l D cI cZ cQ a f v hz) (va_cwS 2 F.2.2.2.2.1 gX2_waitOf_X2_spanOf rfl rfl rfl (by decide +kernel) ⟨Nat.le_of_ble_eq_true rfl, Nat.le_of_ble_eq_true rfl⟩) rfl rfl (Nat.le_of_ble_eq_true rfl) ⟨Nat.zero_le _, Nat.zero_le _⟩ dX2_waitOf_2 ?_
  refine g_istore_n F (lv' := [(0, .ref a), (1, .int v), (2, .int (S_span f v))]) dX2_waitOf_5 rfl (by decide) [1, 2, 0] rfl ?_
  refine g_iload_n F dX2_waitOf_6 rfl 2 rfl ?_
  refine g_iconst F (v := 2) dX2_waitOf_7 (by decide) ?_
  refine g_aload_n F dX2_waitOf_8 rfl 0 rfl ?_
  refine g_callSs F (As := [.ref a]) (st := [.int 2, .int (S_span f v)]) (kX2_draw l D cI cZ cQ a f  ) (va_cwS 1 F.2.2.2.2.1 gX2_waitOf_X2_draw rfl rfl rfl (by decide +kernel) ⟨Nat.le_of_ble_eq_true rfl, Nat.le_of_ble_eq_true rfl⟩) rfl rfl (Nat.le_of_ble_eq_true rfl) ⟨Nat.zero_le _, Nat.zero_le _⟩ dX2_waitOf_9 ?_
  refine g_iadd F dX2_waitOf_12 ?_
  refine g_imul F dX2_waitOf_13 ?_
  refine g_iconst F (v := 4) dX2_waitOf_14 (by decide) ?_
  refine g_idiv F dX2_waitOf_15 (by decide) ?_
  refine g_istore_n F (lv' := [(0, .ref a), (1, .int v), (2, .int (S_span f v)), (3, .int (((S_span f v) * (2 + (S_drawV f))) / 4))]) dX2_waitOf_16 rfl (by decide) [1, 2, 3, 0] rfl ?_
  refine g_iload_n F dX2_waitOf_17 rfl 3 rfl ?_
  refine g_iconst F (v := 1) dX2_waitOf_18 (by decide) ?_
  refine g_icmp_le F 26 dX2_waitOf_19 (by decide) (fun c1 => ?_) (fun c1 => ?_)
  · refine g_iconst F (v := 1) dX2_waitOf_26 (by decide) ?_
    exact g_endI (hR _ _ dX2_waitOf_27) (by first | (simp only [S_waitV, S_wait0, c1, Bool.false_eq_true, ↓reduceIte]; done) | (with_reducible rfl) | (simp [S_waitV, S_wait0, c1, Bool.false_eq_true, ↓reduceIte]; done)) rfl
  · refine g_iload_n F dX2_waitOf_22 rfl 3 rfl ?_
    refine g_goto F 27 dX2_waitOf_23 (by decide) ?_
    exact g_endI (hR _ _ dX2_waitOf_27) (by first | (simp only [S_waitV, S_wait0, c1, Bool.false_eq_true, ↓reduceIte]; done) | (with_reducible rfl) | (simp [S_waitV, S_wait0, c1, Bool.false_eq_true, ↓reduceIte]; done)) rfl
set_option maxHeartbeats 1000000 in
set_option maxRecDepth 100000 in
theorem kX2_lettersOf (l : Launch) (D : va_G) (cI cZ cQ : ClassId) (a : Nat) (f : Row) : Ct l D (gTy cI cZ cQ) yX2_lettersOf wsX2_lettersOf ({ frames := 0, cells := 0, slots := 0, locals := 0 }) [.ref a] ([(a, .inl (cI, 79, .inl f))]) (some (.int (S_letters f))) ([(a, .inl (cI, 79, .inl f))]) := by
  refine ct_ofI (cc := cX2_lettersOf) (nL := 1) (own := RX2) (by decide) rfl rfl ⟨rfl, rfl⟩ (Nat.le_of_ble_eq_true rfl) (by simp only [List.map]) (fun p e s m below meth c A Q F hR => ?_)
  refine g_aload_n F dX2_lettersOf_0 rfl 0 rfl ?_
  refine g_bipush F (v := 71) dX2_lettersOf_1 (by decide) ?_
  refine g_as (nI 71) rfl ?_
  refine g_iald F (j := 71) 0 0 rfl rfl (by omega) (by decide) dX2_lettersOf_3 ?_
  refine g_aload_n F dX2_lettersOf_4 rfl 0 rfl ?_
  refine g_bipush F (v := 72) dX2_lettersOf_5 (by decide) ?_
  refine g_as (nI 72) rfl ?_
  refine g_iald F (j := 72) 0 0 rfl rfl (by omega) (by decide) dX2_lettersOf_7 ?_
  refine g_iadd F dX2_lettersOf_8 ?_
  exact g_endI (hR _ _ dX2_lettersOf_9) rfl rfl
set_option maxHeartbeats 1000000 in
set_option maxRecDepth 100000 in
theorem kX2_reaches (l : Launch) (D : va_G) (cI cZ cQ : ClassId) (a : Nat) (f : Row) (k o : Nat) (hk : k < 6) (ho : o < 6) : Ct l D (gTy cI cZ cQ) yX2_reaches wsX2_reaches ({ frames := 1, cells := 0, slots := 0, locals := 21 }) [.ref a, .int (nI k), .int (nI o)] ([(a, .inl (cI, 79, .inl f))]) (some (.int (bI (S_reaches f k o)))) ([(a, .inl (cI, 79, .inl f))]) := by
  refine ct_ofZ (cc := cX2_reaches) (nL := 3) (own := RX2) (by decide) rfl rfl ⟨rfl, rfl⟩ (Nat.le_of_ble_eq_true rfl) (by simp only [List.map]) (by first | rfl | exact bI_nar _) (fun p e s m below meth c A Q F hR => ?_)
  refine g_iload_n F dX2_reaches_0 rfl 2 rfl ?_
  refine g_iload_n F dX2_reaches_1 rfl 1 rfl ?_
  refine g_icmp_eq F 28 dX2_reaches_2 (by decide) (fun c1 => ?_) (fun c1 => ?_)
  · refine g_iconst F (v := 0) dX2_reaches_28 (by decide) ?_
    exact g_endI (hR _ _ dX2_reaches_29) (by first | (simp only [S_reaches, bI, c1, Bool.false_eq_true, ↓reduceIte]; done) | (with_reducible rfl) | (simp [S_reaches, bI, c1, Bool.false_eq_true, ↓reduceIte]; done)) rfl
  · refine g_aload_n F dX2_reaches_5 rfl 0 rfl ?_
    refine g_iload_n F dX2_reaches_6 rfl 2 rfl ?_
    refine g_iald F (j := o) 0 0 rfl rfl (by omega) (by decide) dX2_reaches_7 ?_
    refine g_if_eq F 28 dX2_reaches_8 (by decide) (fun c2 => ?_) (fun c2 => ?_)
    · refine g_iconst F (v := 0) dX2_reaches_28 (by decide) ?_
      exact g_endI (hR _ _ dX2_reaches_29) (by first | (simp only [S_reaches, bI, c1, c2, Bool.false_eq_true, ↓reduceIte]; done) | (with_reducible rfl) | (simp [S_reaches, bI, c1, c2, Bool.false_eq_true, ↓reduceIte]; done)) rfl
    · refine g_aload_n F dX2_reaches_11 rfl 0 rfl ?_
      refine g_bipush F (v := 73) dX2_reaches_12 (by decide) ?_
      refine g_iload_n F dX2_reaches_14 rfl 1 rfl ?_
      refine g_iadd F dX2_reaches_15 ?_
      refine g_as (nI (73 + k)) (nI_add 73 k) ?_
      refine g_iald F (j := 73 + k) 0 0 rfl rfl (by omega) (by decide) dX2_reaches_16 ?_
      refine g_iload_n F dX2_reaches_17 rfl 2 rfl ?_
      refine g_callSn F (As := [.int (f (73 + k)), .int (nI o)]) (st := []) (kX2_has l D cI cZ cQ (f (73 + k)) (nI o)) (va_cwS 2 F.2.2.2.2.1 gX2_reaches_X2_has rfl rfl rfl (by decide +kernel) ⟨Nat.le_of_ble_eq_true rfl, Nat.le_of_ble_eq_true rfl⟩) rfl rfl (Nat.le_of_ble_eq_true rfl) ⟨Nat.zero_le _, Nat.zero_le _⟩ dX2_reaches_18 ?_
      refine g_bne F 28 dX2_reaches_21 (by decide) (fun c3 => ?_) (fun c3 => ?_)
      · refine g_iconst F (v := 0) dX2_reaches_28 (by decide) ?_
        exact g_endI (hR _ _ dX2_reaches_29) (by first | (simp only [S_reaches, bI, c1, c2, c3, Bool.false_eq_true, ↓reduceIte]; done) | (with_reducible rfl) | (simp [S_reaches, bI, c1, c2, c3, Bool.false_eq_true, ↓reduceIte]; done)) rfl
      · refine g_iconst F (v := 1) dX2_reaches_24 (by decide) ?_
        refine g_goto F 29 dX2_reaches_25 (by decide) ?_
        exact g_endI (hR _ _ dX2_reaches_29) (by first | (simp only [S_reaches, bI, c1, c2, c3, Bool.false_eq_true, ↓reduceIte]; done) | (with_reducible rfl) | (simp [S_reaches, bI, c1, c2, c3, Bool.false_eq_true, ↓reduceIte]; done)) rfl
set_option maxHeartbeats 1000000 in
set_option maxRecDepth 100000 in
theorem kX2_report (l : Launch) (D : va_G) (cI cZ cQ : ClassId) (a : Nat) (f : Row) (k : Nat) (hk : k < 6) : Ct l D (gTy cI cZ cQ) yX2_report wsX2_report ({ frames := 2, cells := 0, slots := 0, locals := 43 }) [.ref a, .int (nI k)] ([(a, .inl (cI, 79, .inl f))]) none ([(a, .inl (cI, 79, .inl (S_report f k)))]) := by
  refine ct_ofV (cc := cX2_report) (nL := 3) (own := RX2) (by decide) rfl rfl ⟨rfl, rfl⟩ (Nat.le_of_ble_eq_true rfl) (by simp only [List.map]) (fun p e s m below meth c A Q F hR => ?_)
  refine g_aload_n F dX2_report_0 rfl 0 rfl ?_
  refine g_bipush F (v := 71) dX2_report_1 (by decide) ?_
  refine g_as (nI 71) rfl ?_
  refine g_dup2 F dX2_report_3 rfl rfl ?_
  refine g_iald F (j := 71) 0 0 rfl rfl (by omega) (by decide) dX2_report_4 ?_
  refine g_iconst F (v := 1) dX2_report_5 (by decide) ?_
  refine g_iadd F dX2_report_6 ?_
  refine g_iast F (j := 71) ([(a, .inl (cI, 79, .inl (upd f 71 ((f 71) + 1))))]) 0 0 rfl rfl (by omega) (by decide) dX2_report_7 rfl ?_
  refine g_iconst F (v := 0) dX2_report_8 (by decide) ?_
  refine g_istore_n F (lv' := [(0, .ref a), (1, .int (nI k)), (2, .int 0)]) dX2_report_9 rfl (by decide) [1, 2, 0] rfl ?_
  refine g_all (w0 := [(a, .inl (cI, 79, .inl (it (S_repStep k) 0 (S_rep0 f))))]) (lv0 := [(0, .ref a), (1, .int (nI k)), (2, .int (nI 0))]) (st0 := []) rfl rfl rfl ?_
  refine g_for 6 (fun i => True) (fun i => [(a, .inl (cI, 79, .inl (it (S_repStep k) i (S_rep0 f))))]) (fun i => [(0, .ref a), (1, .int (nI k)), (2, .int (nI i))]) (fun i hi hIi ihi => ?_) 0 (Nat.zero_le _) trivial
  dsimp only [it_s] at ihi ⊢
  generalize hg_g : it (S_repStep k) i (S_rep0 f) = g at ihi ⊢
  refine g_iload_n F dX2_report_10 rfl 2 rfl ?_
  refine g_bipush F (v := 6) dX2_report_11 (by decide) ?_
  refine g_icmp_ge F 58 dX2_report_13 (by decide) (fun c1 => ?_) (fun c1 => ?_)
  · have hx_c1 : 6 = i := lp_ge hi (by decide) c1
    subst hx_c1
    subst hg_g
    exact g_endV (hR _ _ dX2_report_58) rfl
  · have hlti : i < 6 := lp_lt hi (by decide) c1
    refine g_aload_n F dX2_report_16 rfl 0 rfl ?_
    refine g_iload_n F dX2_report_17 rfl 1 rfl ?_
    refine g_iload_n F dX2_report_18 rfl 2 rfl ?_
    refine g_callSs F (As := [.ref a, .int (nI k), .int (nI i)]) (st := []) (kX2_reaches l D cI cZ cQ a g k i (by omega) (by omega)) (va_cwS 3 F.2.2.2.2.1 gX2_report_X2_reaches rfl rfl rfl (by decide +kernel) ⟨Nat.le_of_ble_eq_true rfl, Nat.le_of_ble_eq_true rfl⟩) rfl rfl (Nat.le_of_ble_eq_true rfl) ⟨Nat.zero_le _, Nat.zero_le _⟩ dX2_report_19 ?_
    refine g_beq F 52 dX2_report_22 (by decide) (fun c2 => ?_) (fun c2 => ?_)
    · refine g_iinc F (lv' := [(0, .ref a), (1, .int (nI k)), (2, .int (nI (i + 1)))]) (nI (i + 1)) dX2_report_52 2 rfl (nI_add i 1) (by decide) [1, 2, 0] rfl ?_
      refine g_goto F 10 dX2_report_55 (by decide) ?_
      refine g_all (w0 := [(a, .inl (cI, 79, .inl (S_repStep k i g)))]) (lv0 := [(0, .ref a), (1, .int (nI k)), (2, .int (nI (i + 1)))]) (st0 := []) (by first | (simp only [S_repStep, S_kn, c2, Bool.false_eq_true, ↓reduceIte]; done) | (with_reducible rfl) | (simp [S_repStep, S_kn, c2, Bool.false_eq_true, ↓reduceIte]; done)) rfl rfl ?_
      exact ihi hlti trivial
    · refine g_aload_n F dX2_report_25 rfl 0 rfl ?_
      refine g_bipush F (v := 6) dX2_report_26 (by decide) ?_
      refine g_iload_n F dX2_report_28 rfl 2 rfl ?_
      refine g_iadd F dX2_report_29 ?_
      refine g_as (nI (6 + i)) (nI_add 6 i) ?_
      refine g_dup2 F dX2_report_30 rfl rfl ?_
      refine g_iald F (j := 6 + i) 0 0 rfl rfl (by omega) (by decide) dX2_report_31 ?_
      refine g_iconst F (v := 1) dX2_report_32 (by decide) ?_
      refine g_iload_n F dX2_report_33 rfl 1 rfl ?_
      refine g_ishl F dX2_report_34 ?_
      refine g_ior F dX2_report_35 ?_
      refine g_iast F (j := 6 + i) ([(a, .inl (cI, 79, .inl (upd g (6 + i) ((g (6 + i)) ||| (1 <<< ((nI k) &&& 31))))))]) 0 0 rfl rfl (by omega) (by decide) dX2_report_36 rfl ?_
      refine g_aload_n F dX2_report_37 rfl 0 rfl ?_
      refine g_bipush F (v := 12) dX2_report_38 (by decide) ?_
      refine g_bipush F (v := 6) dX2_report_40 (by decide) ?_
      refine g_iload_n F dX2_report_42 rfl 2 rfl ?_
      refine g_imul F dX2_report_43 ?_
      refine g_as (nI (6 * i)) (pk_mul 6 i) ?_
      refine g_iadd F dX2_report_44 ?_
      refine g_as (nI (12 + 6 * i)) (nI_add 12 (6 * i)) ?_
      refine g_iload_n F dX2_report_45 rfl 1 rfl ?_
      refine g_iadd F dX2_report_46 ?_
      refine g_as (nI (12 + 6 * i + k)) (nI_add (12 + 6 * i) k) ?_
      refine g_aload_n F dX2_report_47 rfl 0 rfl ?_
      refine g_bipush F (v := 70) dX2_report_48 (by decide) ?_
      refine g_as (nI 70) rfl ?_
      refine g_iald F (j := 70) 0 0 rfl rfl (by omega) (by decide) dX2_report_50 ?_
      refine g_iast F (j := 12 + 6 * i + k) ([(a, .inl (cI, 79, .inl (upd (upd g (6 + i) ((g (6 + i)) ||| (1 <<< ((nI k) &&& 31)))) (12 + 6 * i + k) ((upd g (6 + i) ((g (6 + i)) ||| (1 <<< ((nI k) &&& 31)))) 70))))]) 0 0 rfl rfl (by omega) (by decide) dX2_report_51 rfl ?_
      refine g_iinc F (lv' := [(0, .ref a), (1, .int (nI k)), (2, .int (nI (i + 1)))]) (nI (i + 1)) dX2_report_52 2 rfl (nI_add i 1) (by decide) [1, 2, 0] rfl ?_
      refine g_goto F 10 dX2_report_55 (by decide) ?_
      refine g_all (w0 := [(a, .inl (cI, 79, .inl (S_repStep k i g)))]) (lv0 := [(0, .ref a), (1, .int (nI k)), (2, .int (nI (i + 1)))]) (st0 := []) (by first | (simp only [S_repStep, S_kn, c2, Bool.false_eq_true, ↓reduceIte]; done) | (with_reducible rfl) | (simp [S_repStep, S_kn, c2, Bool.false_eq_true, ↓reduceIte]; done)) rfl rfl ?_
      exact ihi hlti trivial
set_option maxHeartbeats 1000000 in
set_option maxRecDepth 100000 in
theorem kX2_goAway (l : Launch) (D : va_G) (cI cZ cQ : ClassId) (a : Nat) (f : Row) (k : Nat) (hk : k < 6) : Ct l D (gTy cI cZ cQ) yX2_goAway wsX2_goAway ({ frames := 0, cells := 0, slots := 0, locals := 0 }) [.ref a, .int (nI k)] ([(a, .inl (cI, 79, .inl f))]) none ([(a, .inl (cI, 79, .inl (S_goAway f k)))]) := by
  refine ct_ofV (cc := cX2_goAway) (nL := 2) (own := RX2) (by decide) rfl rfl ⟨rfl, rfl⟩ (Nat.le_of_ble_eq_true rfl) (by simp only [List.map]) (fun p e s m below meth c A Q F hR => ?_)
  refine g_aload_n F dX2_goAway_0 rfl 0 rfl ?_
  refine g_iload_n F dX2_goAway_1 rfl 1 rfl ?_
  refine g_iconst F (v := 0) dX2_goAway_2 (by decide) ?_
  refine g_iast F (j := k) ([(a, .inl (cI, 79, .inl (upd f k 0)))]) 0 0 rfl rfl (by omega) (by decide) dX2_goAway_3 rfl ?_
  refine g_aload_n F dX2_goAway_4 rfl 0 rfl ?_
  refine g_bipush F (v := 6) dX2_goAway_5 (by decide) ?_
  refine g_iload_n F dX2_goAway_7 rfl 1 rfl ?_
  refine g_iadd F dX2_goAway_8 ?_
  refine g_as (nI (6 + k)) (nI_add 6 k) ?_
  refine g_iconst F (v := 0) dX2_goAway_9 (by decide) ?_
  refine g_iast F (j := 6 + k) ([(a, .inl (cI, 79, .inl (upd (upd f k 0) (6 + k) 0)))]) 0 0 rfl rfl (by omega) (by decide) dX2_goAway_10 rfl ?_
  refine g_aload_n F dX2_goAway_11 rfl 0 rfl ?_
  refine g_bipush F (v := 48) dX2_goAway_12 (by decide) ?_
  refine g_iload_n F dX2_goAway_14 rfl 1 rfl ?_
  refine g_iadd F dX2_goAway_15 ?_
  refine g_as (nI (48 + k)) (nI_add 48 k) ?_
  refine g_iconst F (v := 0) dX2_goAway_16 (by decide) ?_
  refine g_iast F (j := 48 + k) ([(a, .inl (cI, 79, .inl (upd (upd (upd f k 0) (6 + k) 0) (48 + k) 0)))]) 0 0 rfl rfl (by omega) (by decide) dX2_goAway_17 rfl ?_
  refine g_aload_n F dX2_goAway_18 rfl 0 rfl ?_
  refine g_bipush F (v := 54) dX2_goAway_19 (by decide) ?_
  refine g_iload_n F dX2_goAway_21 rfl 1 rfl ?_
  refine g_iadd F dX2_goAway_22 ?_
  refine g_as (nI (54 + k)) (nI_add 54 k) ?_
  refine g_iconst F (v := 0) dX2_goAway_23 (by decide) ?_
  refine g_iast F (j := 54 + k) ([(a, .inl (cI, 79, .inl (upd (upd (upd (upd f k 0) (6 + k) 0) (48 + k) 0) (54 + k) 0)))]) 0 0 rfl rfl (by omega) (by decide) dX2_goAway_24 rfl ?_
  refine g_aload_n F dX2_goAway_25 rfl 0 rfl ?_
  refine g_bipush F (v := 60) dX2_goAway_26 (by decide) ?_
  refine g_iload_n F dX2_goAway_28 rfl 1 rfl ?_
  refine g_iadd F dX2_goAway_29 ?_
  refine g_as (nI (60 + k)) (nI_add 60 k) ?_
  refine g_iconst F (v := 0) dX2_goAway_30 (by decide) ?_
  refine g_iast F (j := 60 + k) ([(a, .inl (cI, 79, .inl (upd (upd (upd (upd (upd f k 0) (6 + k) 0) (48 + k) 0) (54 + k) 0) (60 + k) 0)))]) 0 0 rfl rfl (by omega) (by decide) dX2_goAway_31 rfl ?_
  exact g_endV (hR _ _ dX2_goAway_32) rfl
end
section
set_option maxHeartbeats 1000000 in
set_option maxRecDepth 100000 in
theorem kX2_bye (l : Launch) (D : va_G) (cI cZ cQ : ClassId) (a : Nat) (f : Row) (k : Nat) (hk : k < 6) : Ct l D (gTy cI cZ cQ) yX2_bye wsX2_bye ({ frames := 2, cells := 0, slots := 0, locals := 43 }) [.ref a, .int (nI k)] ([(a, .inl (cI, 79, .inl f))]) none ([(a, .inl (cI, 79, .inl (S_bye f k)))]) := by
  refine ct_ofV (cc := cX2_bye) (nL := 7) (own := RX2) (by decide) rfl rfl ⟨rfl, rfl⟩ (Nat.le_of_ble_eq_true rfl) (by simp only [List.map]) (fun p e s m below meth c A Q F hR => ?_)
  refine g_aload_n F dX2_bye_0 rfl 0 rfl ?_
  refine g_bipush F (v := 72) dX2_bye_1 (by decide) ?_
  refine g_as (nI 72) rfl ?_
  refine g_dup2 F dX2_bye_3 rfl rfl ?_
  refine g_iald F (j := 72) 0 0 rfl rfl (by omega) (by decide) dX2_bye_4 ?_
  refine g_iconst F (v := 1) dX2_bye_5 (by decide) ?_
  refine g_iadd F dX2_bye_6 ?_
  refine g_iast F (j := 72) ([(a, .inl (cI, 79, .inl (upd f 72 ((f 72) + 1))))]) 0 0 rfl rfl (by omega) (by decide) dX2_bye_7 rfl ?_
  refine g_aload_n F dX2_bye_8 rfl 0 rfl ?_
  refine g_iload_n F dX2_bye_9 rfl 1 rfl ?_
  refine g_callSs F (As := [.ref a, .int (nI k)]) (st := []) (kX2_goAway l D cI cZ cQ a (upd f 72 ((f 72) + 1)) k (by omega)) (va_cwS 2 F.2.2.2.2.1 gX2_bye_X2_goAway rfl rfl rfl (by decide +kernel) ⟨Nat.le_of_ble_eq_true rfl, Nat.le_of_ble_eq_true rfl⟩) rfl rfl (Nat.le_of_ble_eq_true rfl) ⟨Nat.zero_le _, Nat.zero_le _⟩ dX2_bye_10 ?_
  refine g_iconst F (v := 0) dX2_bye_13 (by decide) ?_
  refine g_istore_n F (lv' := [(0, .ref a), (1, .int (nI k)), (2, .int 0)]) dX2_bye_14 rfl (by decide) [1, 2, 0] rfl ?_
  refine g_all (w0 := [(a, .inl (cI, 79, .inl (it (S_byeStep k) 0 (S_bye0 f k))))]) (lv0 := [(0, .ref a), (1, .int (nI k)), (2, .int (nI 0))]) (st0 := []) rfl rfl rfl ?_
  refine g_for 6 (fun i => True) (fun i => [(a, .inl (cI, 79, .inl (it (S_byeStep k) i (S_bye0 f k))))]) (fun i => [(0, .ref a), (1, .int (nI k)), (2, .int (nI i))]) (fun i hi hIi ihi => ?_) 0 (Nat.zero_le _) trivial
  dsimp only [it_s] at ihi ⊢
  generalize hg_g : it (S_byeStep k) i (S_bye0 f k) = g at ihi ⊢
  refine g_iload_n F dX2_bye_15 rfl 2 rfl ?_
  refine g_bipush F (v := 6) dX2_bye_16 (by decide) ?_
  refine g_icmp_ge F 177 dX2_bye_18 (by decide) (fun c1 => ?_) (fun c1 => ?_)
  · have hx_c1 : 6 = i := lp_ge hi (by decide) c1
    subst hx_c1
    subst hg_g
    exact g_endV (hR _ _ dX2_bye_177) rfl
  · have hlti : i < 6 := lp_lt hi (by decide) c1
    refine g_aload_n F dX2_bye_21 rfl 0 rfl ?_
    refine g_iload_n F dX2_bye_22 rfl 1 rfl ?_
    refine g_iload_n F dX2_bye_23 rfl 2 rfl ?_
    refine g_callSs F (As := [.ref a, .int (nI k), .int (nI i)]) (st := []) (kX2_reaches l D cI cZ cQ a g k i (by omega) (by omega)) (va_cwS 3 F.2.2.2.2.1 gX2_bye_X2_reaches rfl rfl rfl (by decide +kernel) ⟨Nat.le_of_ble_eq_true rfl, Nat.le_of_ble_eq_true rfl⟩) rfl rfl (Nat.le_of_ble_eq_true rfl) ⟨Nat.zero_le _, Nat.zero_le _⟩ dX2_bye_24 ?_
    refine g_beq F 171 dX2_bye_27 (by decide) (fun c2 => ?_) (fun c2 => ?_)
    · refine g_iinc F (lv' := [(0, .ref a), (1, .int (nI k)), (2, .int (nI (i + 1)))]) (nI (i + 1)) dX2_bye_171 2 rfl (nI_add i 1) (by decide) [1, 2, 0] rfl ?_
      refine g_goto F 15 dX2_bye_174 (by decide) ?_
      refine g_all (w0 := [(a, .inl (cI, 79, .inl (S_byeStep k i g)))]) (lv0 := [(0, .ref a), (1, .int (nI k)), (2, .int (nI (i + 1)))]) (st0 := []) (by rw [S_byeStep_a c2]) rfl rfl ?_
      exact ihi hlti trivial
    · refine g_aload_n F dX2_bye_30 rfl 0 rfl ?_
      refine g_bipush F (v := 60) dX2_bye_31 (by decide) ?_
      refine g_iload_n F dX2_bye_33 rfl 2 rfl ?_
      refine g_iadd F dX2_bye_34 ?_
      refine g_as (nI (60 + i)) (nI_add 60 i) ?_
      refine g_dup2 F dX2_bye_35 rfl rfl ?_
      refine g_iald F (j := 60 + i) 0 0 rfl rfl (by omega) (by decide) dX2_bye_36 ?_
      refine g_aload_n F dX2_bye_37 rfl 0 rfl ?_
      refine g_iload_n F dX2_bye_38 rfl 2 rfl ?_
      refine g_iald F (j := i) 0 0 rfl rfl (by omega) (by decide) dX2_bye_39 ?_
      refine g_iconst F (v := 2) dX2_bye_40 (by decide) ?_
      have hJ4 : Go p l e ({ frames := 2, cells := 0, slots := 0, locals := 43 }) s m (List.toArray [.ref a, .int (nI k)]) below meth c Q D A 7 0 0 ([(a, .inl (cI, 79, .inl g))]) 49 [(0, .ref a), (1, .int (nI k)), (2, .int (nI i))] [.int (if g i = 2 then (1 : Int32) else 0), .int (g (60 + i)), .int (nI (60 + i)), .ref a] := by
        refine g_iadd F dX2_bye_49 ?_
        refine g_iast F (j := 60 + i) ([(a, .inl (cI, 79, .inl (upd g (60 + i) ((g (60 + i)) + (if g i = 2 then (1 : Int32) else 0)))))]) 0 0 rfl rfl (by omega) (by decide) dX2_bye_50 rfl ?_
        refine g_aload_n F dX2_bye_51 rfl 0 rfl ?_
        refine g_bipush F (v := 6) dX2_bye_52 (by decide) ?_
        refine g_iload_n F dX2_bye_54 rfl 2 rfl ?_
        refine g_iadd F dX2_bye_55 ?_
        refine g_as (nI (6 + i)) (nI_add 6 i) ?_
        refine g_iald F (j := 6 + i) 0 0 rfl rfl (by omega) (by decide) dX2_bye_56 ?_
        refine g_iload_n F dX2_bye_57 rfl 1 rfl ?_
        refine g_callSn F (As := [.int ((upd g (60 + i) ((g (60 + i)) + (if g i = 2 then (1 : Int32) else 0))) (6 + i)), .int (nI k)]) (st := []) (kX2_has l D cI cZ cQ ((upd g (60 + i) ((g (60 + i)) + (if g i = 2 then (1 : Int32) else 0))) (6 + i)) (nI k)) (va_cwS 2 F.2.2.2.2.1 gX2_bye_X2_has rfl rfl rfl (by decide +kernel) ⟨Nat.le_of_ble_eq_true rfl, Nat.le_of_ble_eq_true rfl⟩) rfl rfl (Nat.le_of_ble_eq_true rfl) ⟨Nat.zero_le _, Nat.zero_le _⟩ dX2_bye_58 ?_
        refine g_istore_n F (lv' := [(0, .ref a), (1, .int (nI k)), (2, .int (nI i)), (3, .int (bI (S_has ((upd g (60 + i) ((g (60 + i)) + (if g i = 2 then (1 : Int32) else 0))) (6 + i)) (nI k))))]) dX2_bye_61 rfl (by decide) [1, 2, 3, 0] rfl ?_
        refine g_aload_n F dX2_bye_62 rfl 0 rfl ?_
        refine g_iload_n F dX2_bye_63 rfl 2 rfl ?_
        refine g_callSs F (As := [.ref a, .int (nI i)]) (st := []) (kX2_countOf l D cI cZ cQ a (upd g (60 + i) ((g (60 + i)) + (if g i = 2 then (1 : Int32) else 0))) i (by omega)) (va_cwS 2 F.2.2.2.2.1 gX2_bye_X2_countOf rfl rfl rfl (by decide +kernel) ⟨Nat.le_of_ble_eq_true rfl, Nat.le_of_ble_eq_true rfl⟩) rfl rfl (Nat.le_of_ble_eq_true rfl) ⟨Nat.zero_le _, Nat.zero_le _⟩ dX2_bye_64 ?_
        refine g_istore F (lv' := [(0, .ref a), (1, .int (nI k)), (2, .int (nI i)), (3, .int (bI (S_has ((upd g (60 + i) ((g (60 + i)) + (if g i = 2 then (1 : Int32) else 0))) (6 + i)) (nI k)))), (4, .int (S_count (upd g (60 + i) ((g (60 + i)) + (if g i = 2 then (1 : Int32) else 0))) i))]) dX2_bye_67 (by decide) [1, 2, 3, 4, 0] rfl ?_
        refine g_aload_n F dX2_bye_69 rfl 0 rfl ?_
        refine g_bipush F (v := 6) dX2_bye_70 (by decide) ?_
        refine g_iload_n F dX2_bye_72 rfl 2 rfl ?_
        refine g_iadd F dX2_bye_73 ?_
        refine g_as (nI (6 + i)) (nI_add 6 i) ?_
        refine g_dup2 F dX2_bye_74 rfl rfl ?_
        refine g_iald F (j := 6 + i) 0 0 rfl rfl (by omega) (by decide) dX2_bye_75 ?_
        refine g_iconst F (v := 1) dX2_bye_76 (by decide) ?_
        refine g_iload_n F dX2_bye_77 rfl 1 rfl ?_
        refine g_ishl F dX2_bye_78 ?_
        refine g_iconst F (v := (-1)) dX2_bye_79 (by decide) ?_
        refine g_ixor F dX2_bye_80 ?_
        refine g_iand F dX2_bye_81 ?_
        refine g_iast F (j := 6 + i) ([(a, .inl (cI, 79, .inl (upd (upd g (60 + i) ((g (60 + i)) + (if g i = 2 then (1 : Int32) else 0))) (6 + i) (((upd g (60 + i) ((g (60 + i)) + (if g i = 2 then (1 : Int32) else 0))) (6 + i)) &&& ((1 <<< ((nI k) &&& 31)) ^^^ (-1))))))]) 0 0 rfl rfl (by omega) (by decide) dX2_bye_82 rfl ?_
        refine g_iload_n F dX2_bye_83 rfl 3 rfl ?_
        refine g_beq F 171 dX2_bye_84 (by decide) (fun c5 => ?_) (fun c5 => ?_)
        · refine g_iinc F (lv' := [(0, .ref a), (1, .int (nI k)), (2, .int (nI (i + 1))), (3, .int (bI (S_has ((upd g (60 + i) ((g (60 + i)) + (if g i = 2 then (1 : Int32) else 0))) (6 + i)) (nI k)))), (4, .int (S_count (upd g (60 + i) ((g (60 + i)) + (if g i = 2 then (1 : Int32) else 0))) i))]) (nI (i + 1)) dX2_bye_171 2 rfl (nI_add i 1) (by decide) [1, 2, 0, 3, 4] rfl ?_
          refine g_goto F 15 dX2_bye_174 (by decide) ?_
          refine g_lvs [0, 1, 2] rfl ?_
          refine g_all (w0 := [(a, .inl (cI, 79, .inl (S_byeStep k i g)))]) (lv0 := [(0, .ref a), (1, .int (nI k)), (2, .int (nI (i + 1)))]) (st0 := []) (by rw [S_byeStep_b c2 c5]; rfl) rfl rfl ?_
          exact ihi hlti trivial
        · refine g_aload_n F dX2_bye_87 rfl 0 rfl ?_
          refine g_iload_n F dX2_bye_88 rfl 2 rfl ?_
          refine g_iald F (j := i) 0 0 rfl rfl (by omega) (by decide) dX2_bye_89 ?_
          refine g_iconst F (v := 1) dX2_bye_90 (by decide) ?_
          refine g_icmp_ne F 171 dX2_bye_91 (by decide) (fun c6 => ?_) (fun c6 => ?_)
          · refine g_iinc F (lv' := [(0, .ref a), (1, .int (nI k)), (2, .int (nI (i + 1))), (3, .int (bI (S_has ((upd g (60 + i) ((g (60 + i)) + (if g i = 2 then (1 : Int32) else 0))) (6 + i)) (nI k)))), (4, .int (S_count (upd g (60 + i) ((g (60 + i)) + (if g i = 2 then (1 : Int32) else 0))) i))]) (nI (i + 1)) dX2_bye_171 2 rfl (nI_add i 1) (by decide) [1, 2, 0, 3, 4] rfl ?_
            refine g_goto F 15 dX2_bye_174 (by decide) ?_
            refine g_lvs [0, 1, 2] rfl ?_
            refine g_all (w0 := [(a, .inl (cI, 79, .inl (S_byeStep k i g)))]) (lv0 := [(0, .ref a), (1, .int (nI k)), (2, .int (nI (i + 1)))]) (st0 := []) (by rw [S_byeStep_c c2 c5 c6]; rfl) rfl rfl ?_
            exact ihi hlti trivial
          · refine g_aload_n F dX2_bye_94 rfl 0 rfl ?_
            refine g_bipush F (v := 70) dX2_bye_95 (by decide) ?_
            refine g_as (nI 70) rfl ?_
            refine g_iald F (j := 70) 0 0 rfl rfl (by omega) (by decide) dX2_bye_97 ?_
            refine g_istore F (lv' := [(0, .ref a), (1, .int (nI k)), (2, .int (nI i)), (3, .int (bI (S_has ((upd g (60 + i) ((g (60 + i)) + (if g i = 2 then (1 : Int32) else 0))) (6 + i)) (nI k)))), (4, .int (S_count (upd g (60 + i) ((g (60 + i)) + (if g i = 2 then (1 : Int32) else 0))) i)), (5, .int ((upd (upd g (60 + i) ((g (60 + i)) + (if g i = 2 then (1 : Int32) else 0))) (6 + i) (((upd g (60 + i) ((g (60 + i)) + (if g i = 2 then (1 : Int32) else 0))) (6 + i)) &&& ((1 <<< ((nI k) &&& 31)) ^^^ (-1)))) 70))]) dX2_bye_98 (by decide) [1, 2, 3, 4, 5, 0] rfl ?_
            refine g_aload_n F dX2_bye_100 rfl 0 rfl ?_
            refine g_bipush F (v := 54) dX2_bye_101 (by decide) ?_
            refine g_iload_n F dX2_bye_103 rfl 2 rfl ?_
            refine g_iadd F dX2_bye_104 ?_
            refine g_as (nI (54 + i)) (nI_add 54 i) ?_
            refine g_iald F (j := 54 + i) 0 0 rfl rfl (by omega) (by decide) dX2_bye_105 ?_
            refine g_iload F dX2_bye_106 5 rfl ?_
            have hJ8 : Go p l e ({ frames := 2, cells := 0, slots := 0, locals := 43 }) s m (List.toArray [.ref a, .int (nI k)]) below meth c Q D A 7 0 0 ([(a, .inl (cI, 79, .inl (upd (upd g (60 + i) ((g (60 + i)) + (if g i = 2 then (1 : Int32) else 0))) (6 + i) (((upd g (60 + i) ((g (60 + i)) + (if g i = 2 then (1 : Int32) else 0))) (6 + i)) &&& ((1 <<< ((nI k) &&& 31)) ^^^ (-1))))))]) 124 [(0, .ref a), (1, .int (nI k)), (2, .int (nI i)), (3, .int (bI (S_has ((upd g (60 + i) ((g (60 + i)) + (if g i = 2 then (1 : Int32) else 0))) (6 + i)) (nI k)))), (4, .int (S_count (upd g (60 + i) ((g (60 + i)) + (if g i = 2 then (1 : Int32) else 0))) i)), (5, .int ((upd (upd g (60 + i) ((g (60 + i)) + (if g i = 2 then (1 : Int32) else 0))) (6 + i) (((upd g (60 + i) ((g (60 + i)) + (if g i = 2 then (1 : Int32) else 0))) (6 + i)) &&& ((1 <<< ((nI k) &&& 31)) ^^^ (-1)))) 70))] [.int (if (upd (upd g (60 + i) ((g (60 + i)) + (if g i = 2 then (1 : Int32) else 0))) (6 + i) (((upd g (60 + i) ((g (60 + i)) + (if g i = 2 then (1 : Int32) else 0))) (6 + i)) &&& ((1 <<< ((nI k) &&& 31)) ^^^ (-1)))) (54 + i) ≤ (upd (upd g (60 + i) ((g (60 + i)) + (if g i = 2 then (1 : Int32) else 0))) (6 + i) (((upd g (60 + i) ((g (60 + i)) + (if g i = 2 then (1 : Int32) else 0))) (6 + i)) &&& ((1 <<< ((nI k) &&& 31)) ^^^ (-1)))) 70 then (0 : Int32) else (upd (upd g (60 + i) ((g (60 + i)) + (if g i = 2 then (1 : Int32) else 0))) (6 + i) (((upd g (60 + i) ((g (60 + i)) + (if g i = 2 then (1 : Int32) else 0))) (6 + i)) &&& ((1 <<< ((nI k) &&& 31)) ^^^ (-1)))) (54 + i) - (upd (upd g (60 + i) ((g (60 + i)) + (if g i = 2 then (1 : Int32) else 0))) (6 + i) (((upd g (60 + i) ((g (60 + i)) + (if g i = 2 then (1 : Int32) else 0))) (6 + i)) &&& ((1 <<< ((nI k) &&& 31)) ^^^ (-1)))) 70)] := by
              refine g_istore F (lv' := [(0, .ref a), (1, .int (nI k)), (2, .int (nI i)), (3, .int (bI (S_has ((upd g (60 + i) ((g (60 + i)) + (if g i = 2 then (1 : Int32) else 0))) (6 + i)) (nI k)))), (4, .int (S_count (upd g (60 + i) ((g (60 + i)) + (if g i = 2 then (1 : Int32) else 0))) i)), (5, .int ((upd (upd g (60 + i) ((g (60 + i)) + (if g i = 2 then (1 : Int32) else 0))) (6 + i) (((upd g (60 + i) ((g (60 + i)) + (if g i = 2 then (1 : Int32) else 0))) (6 + i)) &&& ((1 <<< ((nI k) &&& 31)) ^^^ (-1)))) 70)), (6, .int (if (upd (upd g (60 + i) ((g (60 + i)) + (if g i = 2 then (1 : Int32) else 0))) (6 + i) (((upd g (60 + i) ((g (60 + i)) + (if g i = 2 then (1 : Int32) else 0))) (6 + i)) &&& ((1 <<< ((nI k) &&& 31)) ^^^ (-1)))) (54 + i) ≤ (upd (upd g (60 + i) ((g (60 + i)) + (if g i = 2 then (1 : Int32) else 0))) (6 + i) (((upd g (60 + i) ((g (60 + i)) + (if g i = 2 then (1 : Int32) else 0))) (6 + i)) &&& ((1 <<< ((nI k) &&& 31)) ^^^ (-1)))) 70 then (0 : Int32) else (upd (upd g (60 + i) ((g (60 + i)) + (if g i = 2 then (1 : Int32) else 0))) (6 + i) (((upd g (60 + i) ((g (60 + i)) + (if g i = 2 then (1 : Int32) else 0))) (6 + i)) &&& ((1 <<< ((nI k) &&& 31)) ^^^ (-1)))) (54 + i) - (upd (upd g (60 + i) ((g (60 + i)) + (if g i = 2 then (1 : Int32) else 0))) (6 + i) (((upd g (60 + i) ((g (60 + i)) + (if g i = 2 then (1 : Int32) else 0))) (6 + i)) &&& ((1 <<< ((nI k) &&& 31)) ^^^ (-1)))) 70))]) dX2_bye_124 (by decide) [1, 2, 3, 4, 5, 6, 0] rfl ?_
              refine g_aload_n F dX2_bye_126 rfl 0 rfl ?_
              refine g_bipush F (v := 54) dX2_bye_127 (by decide) ?_
              refine g_iload_n F dX2_bye_129 rfl 2 rfl ?_
              refine g_iadd F dX2_bye_130 ?_
              refine g_as (nI (54 + i)) (nI_add 54 i) ?_
              refine g_iload F dX2_bye_131 5 rfl ?_
              refine g_iload F dX2_bye_133 6 rfl ?_
              refine g_iload F dX2_bye_135 4 rfl ?_
              refine g_iconst F (v := 1) dX2_bye_137 (by decide) ?_
              refine g_isub F dX2_bye_138 ?_
              refine g_imul F dX2_bye_139 ?_
              refine g_iload F dX2_bye_140 4 rfl ?_
              refine g_idiv F dX2_bye_142 (S_bye_nz (by assumption) hlti) ?_
              refine g_iadd F dX2_bye_143 ?_
              refine g_iast F (j := 54 + i) ([(a, .inl (cI, 79, .inl (upd (upd (upd g (60 + i) ((g (60 + i)) + (if g i = 2 then (1 : Int32) else 0))) (6 + i) (((upd g (60 + i) ((g (60 + i)) + (if g i = 2 then (1 : Int32) else 0))) (6 + i)) &&& ((1 <<< ((nI k) &&& 31)) ^^^ (-1)))) (54 + i) (((upd (upd g (60 + i) ((g (60 + i)) + (if g i = 2 then (1 : Int32) else 0))) (6 + i) (((upd g (60 + i) ((g (60 + i)) + (if g i = 2 then (1 : Int32) else 0))) (6 + i)) &&& ((1 <<< ((nI k) &&& 31)) ^^^ (-1)))) 70) + (((if (upd (upd g (60 + i) ((g (60 + i)) + (if g i = 2 then (1 : Int32) else 0))) (6 + i) (((upd g (60 + i) ((g (60 + i)) + (if g i = 2 then (1 : Int32) else 0))) (6 + i)) &&& ((1 <<< ((nI k) &&& 31)) ^^^ (-1)))) (54 + i) ≤ (upd (upd g (60 + i) ((g (60 + i)) + (if g i = 2 then (1 : Int32) else 0))) (6 + i) (((upd g (60 + i) ((g (60 + i)) + (if g i = 2 then (1 : Int32) else 0))) (6 + i)) &&& ((1 <<< ((nI k) &&& 31)) ^^^ (-1)))) 70 then (0 : Int32) else (upd (upd g (60 + i) ((g (60 + i)) + (if g i = 2 then (1 : Int32) else 0))) (6 + i) (((upd g (60 + i) ((g (60 + i)) + (if g i = 2 then (1 : Int32) else 0))) (6 + i)) &&& ((1 <<< ((nI k) &&& 31)) ^^^ (-1)))) (54 + i) - (upd (upd g (60 + i) ((g (60 + i)) + (if g i = 2 then (1 : Int32) else 0))) (6 + i) (((upd g (60 + i) ((g (60 + i)) + (if g i = 2 then (1 : Int32) else 0))) (6 + i)) &&& ((1 <<< ((nI k) &&& 31)) ^^^ (-1)))) 70) * ((S_count (upd g (60 + i) ((g (60 + i)) + (if g i = 2 then (1 : Int32) else 0))) i) - 1)) / (S_count (upd g (60 + i) ((g (60 + i)) + (if g i = 2 then (1 : Int32) else 0))) i))))))]) 0 0 rfl rfl (by omega) (by decide) dX2_bye_144 rfl ?_
              refine g_aload_n F dX2_bye_145 rfl 0 rfl ?_
              refine g_bipush F (v := 48) dX2_bye_146 (by decide) ?_
              refine g_iload_n F dX2_bye_148 rfl 2 rfl ?_
              refine g_iadd F dX2_bye_149 ?_
              refine g_as (nI (48 + i)) (nI_add 48 i) ?_
              refine g_iload F dX2_bye_150 5 rfl ?_
              refine g_iload F dX2_bye_152 5 rfl ?_
              refine g_aload_n F dX2_bye_154 rfl 0 rfl ?_
              refine g_bipush F (v := 48) dX2_bye_155 (by decide) ?_
              refine g_iload_n F dX2_bye_157 rfl 2 rfl ?_
              refine g_iadd F dX2_bye_158 ?_
              refine g_as (nI (48 + i)) (nI_add 48 i) ?_
              refine g_iald F (j := 48 + i) 0 0 rfl rfl (by omega) (by decide) dX2_bye_159 ?_
              refine g_isub F dX2_bye_160 ?_
              refine g_iload F dX2_bye_161 4 rfl ?_
              refine g_iconst F (v := 1) dX2_bye_163 (by decide) ?_
              refine g_isub F dX2_bye_164 ?_
              refine g_imul F dX2_bye_165 ?_
              refine g_iload F dX2_bye_166 4 rfl ?_
              refine g_idiv F dX2_bye_168 (S_bye_nz (by assumption) hlti) ?_
              refine g_isub F dX2_bye_169 ?_
              refine g_iast F (j := 48 + i) ([(a, .inl (cI, 79, .inl (upd (upd (upd (upd g (60 + i) ((g (60 + i)) + (if g i = 2 then (1 : Int32) else 0))) (6 + i) (((upd g (60 + i) ((g (60 + i)) + (if g i = 2 then (1 : Int32) else 0))) (6 + i)) &&& ((1 <<< ((nI k) &&& 31)) ^^^ (-1)))) (54 + i) (((upd (upd g (60 + i) ((g (60 + i)) + (if g i = 2 then (1 : Int32) else 0))) (6 + i) (((upd g (60 + i) ((g (60 + i)) + (if g i = 2 then (1 : Int32) else 0))) (6 + i)) &&& ((1 <<< ((nI k) &&& 31)) ^^^ (-1)))) 70) + (((if (upd (upd g (60 + i) ((g (60 + i)) + (if g i = 2 then (1 : Int32) else 0))) (6 + i) (((upd g (60 + i) ((g (60 + i)) + (if g i = 2 then (1 : Int32) else 0))) (6 + i)) &&& ((1 <<< ((nI k) &&& 31)) ^^^ (-1)))) (54 + i) ≤ (upd (upd g (60 + i) ((g (60 + i)) + (if g i = 2 then (1 : Int32) else 0))) (6 + i) (((upd g (60 + i) ((g (60 + i)) + (if g i = 2 then (1 : Int32) else 0))) (6 + i)) &&& ((1 <<< ((nI k) &&& 31)) ^^^ (-1)))) 70 then (0 : Int32) else (upd (upd g (60 + i) ((g (60 + i)) + (if g i = 2 then (1 : Int32) else 0))) (6 + i) (((upd g (60 + i) ((g (60 + i)) + (if g i = 2 then (1 : Int32) else 0))) (6 + i)) &&& ((1 <<< ((nI k) &&& 31)) ^^^ (-1)))) (54 + i) - (upd (upd g (60 + i) ((g (60 + i)) + (if g i = 2 then (1 : Int32) else 0))) (6 + i) (((upd g (60 + i) ((g (60 + i)) + (if g i = 2 then (1 : Int32) else 0))) (6 + i)) &&& ((1 <<< ((nI k) &&& 31)) ^^^ (-1)))) 70) * ((S_count (upd g (60 + i) ((g (60 + i)) + (if g i = 2 then (1 : Int32) else 0))) i) - 1)) / (S_count (upd g (60 + i) ((g (60 + i)) + (if g i = 2 then (1 : Int32) else 0))) i)))) (48 + i) (((upd (upd g (60 + i) ((g (60 + i)) + (if g i = 2 then (1 : Int32) else 0))) (6 + i) (((upd g (60 + i) ((g (60 + i)) + (if g i = 2 then (1 : Int32) else 0))) (6 + i)) &&& ((1 <<< ((nI k) &&& 31)) ^^^ (-1)))) 70) - (((((upd (upd g (60 + i) ((g (60 + i)) + (if g i = 2 then (1 : Int32) else 0))) (6 + i) (((upd g (60 + i) ((g (60 + i)) + (if g i = 2 then (1 : Int32) else 0))) (6 + i)) &&& ((1 <<< ((nI k) &&& 31)) ^^^ (-1)))) 70) - ((upd (upd (upd g (60 + i) ((g (60 + i)) + (if g i = 2 then (1 : Int32) else 0))) (6 + i) (((upd g (60 + i) ((g (60 + i)) + (if g i = 2 then (1 : Int32) else 0))) (6 + i)) &&& ((1 <<< ((nI k) &&& 31)) ^^^ (-1)))) (54 + i) (((upd (upd g (60 + i) ((g (60 + i)) + (if g i = 2 then (1 : Int32) else 0))) (6 + i) (((upd g (60 + i) ((g (60 + i)) + (if g i = 2 then (1 : Int32) else 0))) (6 + i)) &&& ((1 <<< ((nI k) &&& 31)) ^^^ (-1)))) 70) + (((if (upd (upd g (60 + i) ((g (60 + i)) + (if g i = 2 then (1 : Int32) else 0))) (6 + i) (((upd g (60 + i) ((g (60 + i)) + (if g i = 2 then (1 : Int32) else 0))) (6 + i)) &&& ((1 <<< ((nI k) &&& 31)) ^^^ (-1)))) (54 + i) ≤ (upd (upd g (60 + i) ((g (60 + i)) + (if g i = 2 then (1 : Int32) else 0))) (6 + i) (((upd g (60 + i) ((g (60 + i)) + (if g i = 2 then (1 : Int32) else 0))) (6 + i)) &&& ((1 <<< ((nI k) &&& 31)) ^^^ (-1)))) 70 then (0 : Int32) else (upd (upd g (60 + i) ((g (60 + i)) + (if g i = 2 then (1 : Int32) else 0))) (6 + i) (((upd g (60 + i) ((g (60 + i)) + (if g i = 2 then (1 : Int32) else 0))) (6 + i)) &&& ((1 <<< ((nI k) &&& 31)) ^^^ (-1)))) (54 + i) - (upd (upd g (60 + i) ((g (60 + i)) + (if g i = 2 then (1 : Int32) else 0))) (6 + i) (((upd g (60 + i) ((g (60 + i)) + (if g i = 2 then (1 : Int32) else 0))) (6 + i)) &&& ((1 <<< ((nI k) &&& 31)) ^^^ (-1)))) 70) * ((S_count (upd g (60 + i) ((g (60 + i)) + (if g i = 2 then (1 : Int32) else 0))) i) - 1)) / (S_count (upd g (60 + i) ((g (60 + i)) + (if g i = 2 then (1 : Int32) else 0))) i)))) (48 + i))) * ((S_count (upd g (60 + i) ((g (60 + i)) + (if g i = 2 then (1 : Int32) else 0))) i) - 1)) / (S_count (upd g (60 + i) ((g (60 + i)) + (if g i = 2 then (1 : Int32) else 0))) i))))))]) 0 0 rfl rfl (by omega) (by decide) dX2_bye_170 rfl ?_
              refine g_iinc F (lv' := [(0, .ref a), (1, .int (nI k)), (2, .int (nI (i + 1))), (3, .int (bI (S_has ((upd g (60 + i) ((g (60 + i)) + (if g i = 2 then (1 : Int32) else 0))) (6 + i)) (nI k)))), (4, .int (S_count (upd g (60 + i) ((g (60 + i)) + (if g i = 2 then (1 : Int32) else 0))) i)), (5, .int ((upd (upd g (60 + i) ((g (60 + i)) + (if g i = 2 then (1 : Int32) else 0))) (6 + i) (((upd g (60 + i) ((g (60 + i)) + (if g i = 2 then (1 : Int32) else 0))) (6 + i)) &&& ((1 <<< ((nI k) &&& 31)) ^^^ (-1)))) 70)), (6, .int (if (upd (upd g (60 + i) ((g (60 + i)) + (if g i = 2 then (1 : Int32) else 0))) (6 + i) (((upd g (60 + i) ((g (60 + i)) + (if g i = 2 then (1 : Int32) else 0))) (6 + i)) &&& ((1 <<< ((nI k) &&& 31)) ^^^ (-1)))) (54 + i) ≤ (upd (upd g (60 + i) ((g (60 + i)) + (if g i = 2 then (1 : Int32) else 0))) (6 + i) (((upd g (60 + i) ((g (60 + i)) + (if g i = 2 then (1 : Int32) else 0))) (6 + i)) &&& ((1 <<< ((nI k) &&& 31)) ^^^ (-1)))) 70 then (0 : Int32) else (upd (upd g (60 + i) ((g (60 + i)) + (if g i = 2 then (1 : Int32) else 0))) (6 + i) (((upd g (60 + i) ((g (60 + i)) + (if g i = 2 then (1 : Int32) else 0))) (6 + i)) &&& ((1 <<< ((nI k) &&& 31)) ^^^ (-1)))) (54 + i) - (upd (upd g (60 + i) ((g (60 + i)) + (if g i = 2 then (1 : Int32) else 0))) (6 + i) (((upd g (60 + i) ((g (60 + i)) + (if g i = 2 then (1 : Int32) else 0))) (6 + i)) &&& ((1 <<< ((nI k) &&& 31)) ^^^ (-1)))) 70))]) (nI (i + 1)) dX2_bye_171 2 rfl (nI_add i 1) (by decide) [1, 2, 0, 3, 4, 5, 6] rfl ?_
              refine g_goto F 15 dX2_bye_174 (by decide) ?_
              refine g_lvs [0, 1, 2] rfl ?_
              refine g_all (w0 := [(a, .inl (cI, 79, .inl (S_byeStep k i g)))]) (lv0 := [(0, .ref a), (1, .int (nI k)), (2, .int (nI (i + 1)))]) (st0 := []) (by rw [S_byeStep_d c2 c5 c6]; rfl) rfl rfl ?_
              exact ihi hlti trivial
            refine g_icmp_le F 123 dX2_bye_108 (by decide) (fun c7 => ?_) (fun c7 => ?_)
            · refine g_iconst F (v := 0) dX2_bye_123 (by decide) ?_
              refine g_as (if (upd (upd g (60 + i) ((g (60 + i)) + (if g i = 2 then (1 : Int32) else 0))) (6 + i) (((upd g (60 + i) ((g (60 + i)) + (if g i = 2 then (1 : Int32) else 0))) (6 + i)) &&& ((1 <<< ((nI k) &&& 31)) ^^^ (-1)))) (54 + i) ≤ (upd (upd g (60 + i) ((g (60 + i)) + (if g i = 2 then (1 : Int32) else 0))) (6 + i) (((upd g (60 + i) ((g (60 + i)) + (if g i = 2 then (1 : Int32) else 0))) (6 + i)) &&& ((1 <<< ((nI k) &&& 31)) ^^^ (-1)))) 70 then (0 : Int32) else (upd (upd g (60 + i) ((g (60 + i)) + (if g i = 2 then (1 : Int32) else 0))) (6 + i) (((upd g (60 + i) ((g (60 + i)) + (if g i = 2 then (1 : Int32) else 0))) (6 + i)) &&& ((1 <<< ((nI k) &&& 31)) ^^^ (-1)))) (54 + i) - (upd (upd g (60 + i) ((g (60 + i)) + (if g i = 2 then (1 : Int32) else 0))) (6 + i) (((upd g (60 + i) ((g (60 + i)) + (if g i = 2 then (1 : Int32) else 0))) (6 + i)) &&& ((1 <<< ((nI k) &&& 31)) ^^^ (-1)))) 70) (by first | (simp only [c2, c5, c6, c7, Bool.false_eq_true, ↓reduceIte]; done) | (with_reducible rfl) | (simp [c2, c5, c6, c7, Bool.false_eq_true, ↓reduceIte]; done)) ?_
              exact hJ8
            · refine g_aload_n F dX2_bye_111 rfl 0 rfl ?_
              refine g_bipush F (v := 54) dX2_bye_112 (by decide) ?_
              refine g_iload_n F dX2_bye_114 rfl 2 rfl ?_
              refine g_iadd F dX2_bye_115 ?_
              refine g_as (nI (54 + i)) (nI_add 54 i) ?_
              refine g_iald F (j := 54 + i) 0 0 rfl rfl (by omega) (by decide) dX2_bye_116 ?_
              refine g_iload F dX2_bye_117 5 rfl ?_
              refine g_isub F dX2_bye_119 ?_
              refine g_goto F 124 dX2_bye_120 (by decide) ?_
              refine g_as (if (upd (upd g (60 + i) ((g (60 + i)) + (if g i = 2 then (1 : Int32) else 0))) (6 + i) (((upd g (60 + i) ((g (60 + i)) + (if g i = 2 then (1 : Int32) else 0))) (6 + i)) &&& ((1 <<< ((nI k) &&& 31)) ^^^ (-1)))) (54 + i) ≤ (upd (upd g (60 + i) ((g (60 + i)) + (if g i = 2 then (1 : Int32) else 0))) (6 + i) (((upd g (60 + i) ((g (60 + i)) + (if g i = 2 then (1 : Int32) else 0))) (6 + i)) &&& ((1 <<< ((nI k) &&& 31)) ^^^ (-1)))) 70 then (0 : Int32) else (upd (upd g (60 + i) ((g (60 + i)) + (if g i = 2 then (1 : Int32) else 0))) (6 + i) (((upd g (60 + i) ((g (60 + i)) + (if g i = 2 then (1 : Int32) else 0))) (6 + i)) &&& ((1 <<< ((nI k) &&& 31)) ^^^ (-1)))) (54 + i) - (upd (upd g (60 + i) ((g (60 + i)) + (if g i = 2 then (1 : Int32) else 0))) (6 + i) (((upd g (60 + i) ((g (60 + i)) + (if g i = 2 then (1 : Int32) else 0))) (6 + i)) &&& ((1 <<< ((nI k) &&& 31)) ^^^ (-1)))) 70) (by first | (simp only [c2, c5, c6, c7, Bool.false_eq_true, ↓reduceIte]; done) | (with_reducible rfl) | (simp [c2, c5, c6, c7, Bool.false_eq_true, ↓reduceIte]; done)) ?_
              exact hJ8
      refine g_icmp_ne F 48 dX2_bye_41 (by decide) (fun c3 => ?_) (fun c3 => ?_)
      · refine g_iconst F (v := 0) dX2_bye_48 (by decide) ?_
        refine g_as (if g i = 2 then (1 : Int32) else 0) (by first | (simp only [c2, c3, Bool.false_eq_true, ↓reduceIte]; done) | (with_reducible rfl) | (simp [c2, c3, Bool.false_eq_true, ↓reduceIte]; done)) ?_
        exact hJ4
      · refine g_iconst F (v := 1) dX2_bye_44 (by decide) ?_
        refine g_goto F 49 dX2_bye_45 (by decide) ?_
        refine g_as (if g i = 2 then (1 : Int32) else 0) (by first | (simp only [c2, c3, Bool.false_eq_true, ↓reduceIte]; done) | (with_reducible rfl) | (simp [c2, c3, Bool.false_eq_true, ↓reduceIte]; done)) ?_
        exact hJ4
set_option maxHeartbeats 1000000 in
set_option maxRecDepth 100000 in
theorem kX2_joins (l : Launch) (D : va_G) (cI cZ cQ : ClassId) (a : Nat) (f : Row) (k : Nat) (hk : k < 6) (hz : Z67 f) : Ct l D (gTy cI cZ cQ) yX2_joins wsX2_joins ({ frames := 2, cells := 0, slots := 0, locals := 45 }) [.ref a, .int (nI k)] ([(a, .inl (cI, 79, .inl f))]) none ([(a, .inl (cI, 79, .inl (S_joins f k)))]) := by
  refine ct_ofV (cc := cX2_joins) (nL := 2) (own := RX2) (by decide) rfl rfl ⟨rfl, rfl⟩ (Nat.le_of_ble_eq_true rfl) (by simp only [List.map]) (fun p e s m below meth c A Q F hR => ?_)
  refine g_aload_n F dX2_joins_0 rfl 0 rfl ?_
  refine g_iload_n F dX2_joins_1 rfl 1 rfl ?_
  refine g_iconst F (v := 1) dX2_joins_2 (by decide) ?_
  refine g_iast F (j := k) ([(a, .inl (cI, 79, .inl (upd f k 1)))]) 0 0 rfl rfl (by omega) (by decide) dX2_joins_3 rfl ?_
  refine g_aload_n F dX2_joins_4 rfl 0 rfl ?_
  refine g_bipush F (v := 6) dX2_joins_5 (by decide) ?_
  refine g_iload_n F dX2_joins_7 rfl 1 rfl ?_
  refine g_iadd F dX2_joins_8 ?_
  refine g_as (nI (6 + k)) (nI_add 6 k) ?_
  refine g_iconst F (v := 0) dX2_joins_9 (by decide) ?_
  refine g_iast F (j := 6 + k) ([(a, .inl (cI, 79, .inl (upd (upd f k 1) (6 + k) 0)))]) 0 0 rfl rfl (by omega) (by decide) dX2_joins_10 rfl ?_
  refine g_aload_n F dX2_joins_11 rfl 0 rfl ?_
  refine g_bipush F (v := 60) dX2_joins_12 (by decide) ?_
  refine g_iload_n F dX2_joins_14 rfl 1 rfl ?_
  refine g_iadd F dX2_joins_15 ?_
  refine g_as (nI (60 + k)) (nI_add 60 k) ?_
  refine g_iconst F (v := 0) dX2_joins_16 (by decide) ?_
  refine g_iast F (j := 60 + k) ([(a, .inl (cI, 79, .inl (upd (upd (upd f k 1) (6 + k) 0) (60 + k) 0)))]) 0 0 rfl rfl (by omega) (by decide) dX2_joins_17 rfl ?_
  refine g_aload_n F dX2_joins_18 rfl 0 rfl ?_
  refine g_bipush F (v := 48) dX2_joins_19 (by decide) ?_
  refine g_iload_n F dX2_joins_21 rfl 1 rfl ?_
  refine g_iadd F dX2_joins_22 ?_
  refine g_as (nI (48 + k)) (nI_add 48 k) ?_
  refine g_aload_n F dX2_joins_23 rfl 0 rfl ?_
  refine g_bipush F (v := 70) dX2_joins_24 (by decide) ?_
  refine g_as (nI 70) rfl ?_
  refine g_iald F (j := 70) 0 0 rfl rfl (by omega) (by decide) dX2_joins_26 ?_
  refine g_iast F (j := 48 + k) ([(a, .inl (cI, 79, .inl (upd (upd (upd (upd f k 1) (6 + k) 0) (60 + k) 0) (48 + k) ((upd (upd (upd f k 1) (6 + k) 0) (60 + k) 0) 70))))]) 0 0 rfl rfl (by omega) (by decide) dX2_joins_27 rfl ?_
  refine g_aload_n F dX2_joins_28 rfl 0 rfl ?_
  refine g_bipush F (v := 54) dX2_joins_29 (by decide) ?_
  refine g_iload_n F dX2_joins_31 rfl 1 rfl ?_
  refine g_iadd F dX2_joins_32 ?_
  refine g_as (nI (54 + k)) (nI_add 54 k) ?_
  refine g_aload_n F dX2_joins_33 rfl 0 rfl ?_
  refine g_bipush F (v := 70) dX2_joins_34 (by decide) ?_
  refine g_as (nI 70) rfl ?_
  refine g_iald F (j := 70) 0 0 rfl rfl (by omega) (by decide) dX2_joins_36 ?_
  refine g_aload_n F dX2_joins_37 rfl 0 rfl ?_
  refine g_iconst F (v := 1) dX2_joins_38 (by decide) ?_
  refine g_callSs F (As := [.ref a, .int 1]) (st := [.int ((upd (upd (upd (upd f k 1) (6 + k) 0) (60 + k) 0) (48 + k) ((upd (upd (upd f k 1) (6 + k) 0) (60 + k) 0) 70)) 70), .int (nI (54 + k)), .ref a]) (kX2_waitOf l D cI cZ cQ a (upd (upd (upd (upd f k 1) (6 + k) 0) (60 + k) 0) (48 + k) ((upd (upd (upd f k 1) (6 + k) 0) (60 + k) 0) 70)) 1 (Z_upd (Z_upd (Z_upd (Z_upd hz (by omega)) (by omega)) (by omega)) (by omega))) (va_cwS 2 F.2.2.2.2.1 gX2_joins_X2_waitOf rfl rfl rfl (by decide +kernel) ⟨Nat.le_of_ble_eq_true rfl, Nat.le_of_ble_eq_true rfl⟩) rfl rfl (Nat.le_of_ble_eq_true rfl) ⟨Nat.zero_le _, Nat.zero_le _⟩ dX2_joins_39 ?_
  refine g_iadd F dX2_joins_42 ?_
  refine g_iast F (j := 54 + k) ([(a, .inl (cI, 79, .inl (upd (S_draw (upd (upd (upd (upd f k 1) (6 + k) 0) (60 + k) 0) (48 + k) ((upd (upd (upd f k 1) (6 + k) 0) (60 + k) 0) 70))) (54 + k) (((upd (upd (upd (upd f k 1) (6 + k) 0) (60 + k) 0) (48 + k) ((upd (upd (upd f k 1) (6 + k) 0) (60 + k) 0) 70)) 70) + (S_waitV (upd (upd (upd (upd f k 1) (6 + k) 0) (60 + k) 0) (48 + k) ((upd (upd (upd f k 1) (6 + k) 0) (60 + k) 0) 70)) 1)))))]) 0 0 rfl rfl (by omega) (by decide) dX2_joins_43 rfl ?_
  exact g_endV (hR _ _ dX2_joins_44) rfl
set_option maxHeartbeats 1000000 in
set_option maxRecDepth 100000 in
theorem kX2_leaves (l : Launch) (D : va_G) (cI cZ cQ : ClassId) (a : Nat) (f : Row) (k : Nat) (hk : k < 6) (hz : Z67 f) : Ct l D (gTy cI cZ cQ) yX2_leaves wsX2_leaves ({ frames := 3, cells := 0, slots := 0, locals := 69 }) [.ref a, .int (nI k)] ([(a, .inl (cI, 79, .inl f))]) none ([(a, .inl (cI, 79, .inl (S_leaves f k)))]) := by
  refine ct_ofV (cc := cX2_leaves) (nL := 2) (own := RX2) (by decide) rfl rfl ⟨rfl, rfl⟩ (Nat.le_of_ble_eq_true rfl) (by simp only [List.map]) (fun p e s m below meth c A Q F hR => ?_)
  refine g_aload_n F dX2_leaves_0 rfl 0 rfl ?_
  refine g_iload_n F dX2_leaves_1 rfl 1 rfl ?_
  refine g_callSs F (As := [.ref a, .int (nI k)]) (st := []) (kX2_countOf l D cI cZ cQ a f k (by omega)) (va_cwS 2 F.2.2.2.2.1 gX2_leaves_X2_countOf rfl rfl rfl (by decide +kernel) ⟨Nat.le_of_ble_eq_true rfl, Nat.le_of_ble_eq_true rfl⟩) rfl rfl (Nat.le_of_ble_eq_true rfl) ⟨Nat.zero_le _, Nat.zero_le _⟩ dX2_leaves_2 ?_
  refine g_iconst F (v := 3) dX2_leaves_5 (by decide) ?_
  refine g_icmp_gt F 15 dX2_leaves_6 (by decide) (fun c1 => ?_) (fun c1 => ?_)
  · refine g_aload_n F dX2_leaves_15 rfl 0 rfl ?_
    refine g_iload_n F dX2_leaves_16 rfl 1 rfl ?_
    refine g_iconst F (v := 2) dX2_leaves_17 (by decide) ?_
    refine g_iast F (j := k) ([(a, .inl (cI, 79, .inl (upd f k 2)))]) 0 0 rfl rfl (by omega) (by decide) dX2_leaves_18 rfl ?_
    refine g_aload_n F dX2_leaves_19 rfl 0 rfl ?_
    refine g_bipush F (v := 60) dX2_leaves_20 (by decide) ?_
    refine g_iload_n F dX2_leaves_22 rfl 1 rfl ?_
    refine g_iadd F dX2_leaves_23 ?_
    refine g_as (nI (60 + k)) (nI_add 60 k) ?_
    refine g_iconst F (v := 1) dX2_leaves_24 (by decide) ?_
    refine g_iast F (j := 60 + k) ([(a, .inl (cI, 79, .inl (upd (upd f k 2) (60 + k) 1)))]) 0 0 rfl rfl (by omega) (by decide) dX2_leaves_25 rfl ?_
    refine g_aload_n F dX2_leaves_26 rfl 0 rfl ?_
    refine g_bipush F (v := 48) dX2_leaves_27 (by decide) ?_
    refine g_iload_n F dX2_leaves_29 rfl 1 rfl ?_
    refine g_iadd F dX2_leaves_30 ?_
    refine g_as (nI (48 + k)) (nI_add 48 k) ?_
    refine g_aload_n F dX2_leaves_31 rfl 0 rfl ?_
    refine g_bipush F (v := 70) dX2_leaves_32 (by decide) ?_
    refine g_as (nI 70) rfl ?_
    refine g_iald F (j := 70) 0 0 rfl rfl (by omega) (by decide) dX2_leaves_34 ?_
    refine g_iast F (j := 48 + k) ([(a, .inl (cI, 79, .inl (upd (upd (upd f k 2) (60 + k) 1) (48 + k) ((upd (upd f k 2) (60 + k) 1) 70))))]) 0 0 rfl rfl (by omega) (by decide) dX2_leaves_35 rfl ?_
    refine g_aload_n F dX2_leaves_36 rfl 0 rfl ?_
    refine g_bipush F (v := 54) dX2_leaves_37 (by decide) ?_
    refine g_iload_n F dX2_leaves_39 rfl 1 rfl ?_
    refine g_iadd F dX2_leaves_40 ?_
    refine g_as (nI (54 + k)) (nI_add 54 k) ?_
    refine g_aload_n F dX2_leaves_41 rfl 0 rfl ?_
    refine g_bipush F (v := 70) dX2_leaves_42 (by decide) ?_
    refine g_as (nI 70) rfl ?_
    refine g_iald F (j := 70) 0 0 rfl rfl (by omega) (by decide) dX2_leaves_44 ?_
    refine g_aload_n F dX2_leaves_45 rfl 0 rfl ?_
    refine g_iconst F (v := 1) dX2_leaves_46 (by decide) ?_
    refine g_callSs F (As := [.ref a, .int 1]) (st := [.int ((upd (upd (upd f k 2) (60 + k) 1) (48 + k) ((upd (upd f k 2) (60 + k) 1) 70)) 70), .int (nI (54 + k)), .ref a]) (kX2_waitOf l D cI cZ cQ a (upd (upd (upd f k 2) (60 + k) 1) (48 + k) ((upd (upd f k 2) (60 + k) 1) 70)) 1 (Z_upd (Z_upd (Z_upd hz (by omega)) (by omega)) (by omega))) (va_cwS 2 F.2.2.2.2.1 gX2_leaves_X2_waitOf rfl rfl rfl (by decide +kernel) ⟨Nat.le_of_ble_eq_true rfl, Nat.le_of_ble_eq_true rfl⟩) rfl rfl (Nat.le_of_ble_eq_true rfl) ⟨Nat.zero_le _, Nat.zero_le _⟩ dX2_leaves_47 ?_
    refine g_iadd F dX2_leaves_50 ?_
    refine g_iast F (j := 54 + k) ([(a, .inl (cI, 79, .inl (upd (S_draw (upd (upd (upd f k 2) (60 + k) 1) (48 + k) ((upd (upd f k 2) (60 + k) 1) 70))) (54 + k) (((upd (upd (upd f k 2) (60 + k) 1) (48 + k) ((upd (upd f k 2) (60 + k) 1) 70)) 70) + (S_waitV (upd (upd (upd f k 2) (60 + k) 1) (48 + k) ((upd (upd f k 2) (60 + k) 1) 70)) 1)))))]) 0 0 rfl rfl (by omega) (by decide) dX2_leaves_51 rfl ?_
    exact g_endV (hR _ _ dX2_leaves_52) (by first | (simp only [S_leaves, S_leaves1, S_leaves0, c1, Bool.false_eq_true, ↓reduceIte]; done) | (with_reducible rfl) | (simp [S_leaves, S_leaves1, S_leaves0, c1, Bool.false_eq_true, ↓reduceIte]; done))
  · refine g_aload_n F dX2_leaves_9 rfl 0 rfl ?_
    refine g_iload_n F dX2_leaves_10 rfl 1 rfl ?_
    refine g_callSs F (As := [.ref a, .int (nI k)]) (st := []) (kX2_bye l D cI cZ cQ a f k (by omega)) (va_cwS 2 F.2.2.2.2.1 gX2_leaves_X2_bye rfl rfl rfl (by decide +kernel) ⟨Nat.le_of_ble_eq_true rfl, Nat.le_of_ble_eq_true rfl⟩) rfl rfl (Nat.le_of_ble_eq_true rfl) ⟨Nat.zero_le _, Nat.zero_le _⟩ dX2_leaves_11 ?_
    exact g_endV (hR _ _ dX2_leaves_14) (by first | (simp only [S_leaves, S_leaves1, S_leaves0, c1, Bool.false_eq_true, ↓reduceIte]; done) | (with_reducible rfl) | (simp [S_leaves, S_leaves1, S_leaves0, c1, Bool.false_eq_true, ↓reduceIte]; done))
set_option maxHeartbeats 1000000 in
set_option maxRecDepth 100000 in
theorem kX2_look (l : Launch) (D : va_G) (cI cZ cQ : ClassId) (a : Nat) (f : Row) (k : Nat) (hk : k < 6) (hz : Z67 f) : Ct l D (gTy cI cZ cQ) yX2_look wsX2_look ({ frames := 3, cells := 0, slots := 0, locals := 69 }) [.ref a, .int (nI k)] ([(a, .inl (cI, 79, .inl f))]) none ([(a, .inl (cI, 79, .inl (S_look f k)))]) := by
  refine ct_ofV (cc := cX2_look) (nL := 4) (own := RX2) (by decide) rfl rfl ⟨rfl, rfl⟩ (Nat.le_of_ble_eq_true rfl) (by simp only [List.map]) (fun p e s m below meth c A Q F hR => ?_)
  refine g_aload_n F dX2_look_0 rfl 0 rfl ?_
  refine g_iload_n F dX2_look_1 rfl 1 rfl ?_
  refine g_iald F (j := k) 0 0 rfl rfl (by omega) (by decide) dX2_look_2 ?_
  refine g_iconst F (v := 1) dX2_look_3 (by decide) ?_
  refine g_icmp_ne F 11 dX2_look_4 (by decide) (fun c1 => ?_) (fun c1 => ?_)
  · refine g_iconst F (v := 0) dX2_look_11 (by decide) ?_
    refine g_istore_n F (lv' := [(0, .ref a), (1, .int (nI k)), (2, .int 0)]) dX2_look_12 rfl (by decide) [1, 2, 0] rfl ?_
    refine g_aload_n F dX2_look_13 rfl 0 rfl ?_
    refine g_iload_n F dX2_look_14 rfl 2 rfl ?_
    refine g_if_eq F 26 dX2_look_15 (by decide) (fun c2 => ?_) (fun c2 => ?_)
    · refine g_aload_n F dX2_look_26 rfl 0 rfl ?_
      refine g_bipush F (v := 60) dX2_look_27 (by decide) ?_
      refine g_iload_n F dX2_look_29 rfl 1 rfl ?_
      refine g_iadd F dX2_look_30 ?_
      refine g_as (nI (60 + k)) (nI_add 60 k) ?_
      refine g_iald F (j := 60 + k) 0 0 rfl rfl (by omega) (by decide) dX2_look_31 ?_
      refine g_callSs F (As := [.ref a, .int (f (60 + k))]) (st := []) (kX2_waitOf l D cI cZ cQ a f (f (60 + k)) hz) (va_cwS 2 F.2.2.2.2.1 gX2_look_X2_waitOf rfl rfl rfl (by decide +kernel) ⟨Nat.le_of_ble_eq_true rfl, Nat.le_of_ble_eq_true rfl⟩) rfl rfl (Nat.le_of_ble_eq_true rfl) ⟨Nat.zero_le _, Nat.zero_le _⟩ dX2_look_32 ?_
      refine g_istore_n F (lv' := [(0, .ref a), (1, .int (nI k)), (2, .int 0), (3, .int (S_waitV f (f (60 + k))))]) dX2_look_35 rfl (by decide) [1, 2, 3, 0] rfl ?_
      refine g_aload_n F dX2_look_36 rfl 0 rfl ?_
      refine g_bipush F (v := 48) dX2_look_37 (by decide) ?_
      refine g_iload_n F dX2_look_39 rfl 1 rfl ?_
      refine g_iadd F dX2_look_40 ?_
      refine g_as (nI (48 + k)) (nI_add 48 k) ?_
      refine g_iald F (j := 48 + k) 0 0 rfl rfl (by omega) (by decide) dX2_look_41 ?_
      refine g_iload_n F dX2_look_42 rfl 3 rfl ?_
      refine g_iadd F dX2_look_43 ?_
      refine g_aload_n F dX2_look_44 rfl 0 rfl ?_
      refine g_bipush F (v := 70) dX2_look_45 (by decide) ?_
      refine g_as (nI 70) rfl ?_
      refine g_iald F (j := 70) 0 0 rfl rfl (by omega) (by decide) dX2_look_47 ?_
      refine g_icmp_le F 68 dX2_look_48 (by decide) (fun c3 => ?_) (fun c3 => ?_)
      · refine g_iload_n F dX2_look_68 rfl 2 rfl ?_
        refine g_if_eq F 110 dX2_look_69 (by decide) (fun c4 => ?_) (fun c4 => ?_)
        · refine g_aload_n F dX2_look_110 rfl 0 rfl ?_
          refine g_iload_n F dX2_look_111 rfl 1 rfl ?_
          refine g_callSs F (As := [.ref a, .int (nI k)]) (st := []) (kX2_bye l D cI cZ cQ a (S_draw f) k (by omega)) (va_cwS 2 F.2.2.2.2.1 gX2_look_X2_bye rfl rfl rfl (by decide +kernel) ⟨Nat.le_of_ble_eq_true rfl, Nat.le_of_ble_eq_true rfl⟩) rfl rfl (Nat.le_of_ble_eq_true rfl) ⟨Nat.zero_le _, Nat.zero_le _⟩ dX2_look_112 ?_
          exact g_endV (hR _ _ dX2_look_115) (by first | (simp only [S_look, S_lw, S_lrep, c1, c2, c3, c4, Bool.false_eq_true, ↓reduceIte]; done) | (with_reducible rfl) | (simp [S_look, S_lw, S_lrep, c1, c2, c3, c4, Bool.false_eq_true, ↓reduceIte]; done))
        · exact absurd c4 (by decide)
      · refine g_aload_n F dX2_look_51 rfl 0 rfl ?_
        refine g_bipush F (v := 54) dX2_look_52 (by decide) ?_
        refine g_iload_n F dX2_look_54 rfl 1 rfl ?_
        refine g_iadd F dX2_look_55 ?_
        refine g_as (nI (54 + k)) (nI_add 54 k) ?_
        refine g_aload_n F dX2_look_56 rfl 0 rfl ?_
        refine g_bipush F (v := 48) dX2_look_57 (by decide) ?_
        refine g_iload_n F dX2_look_59 rfl 1 rfl ?_
        refine g_iadd F dX2_look_60 ?_
        refine g_as (nI (48 + k)) (nI_add 48 k) ?_
        refine g_iald F (j := 48 + k) 0 0 rfl rfl (by omega) (by decide) dX2_look_61 ?_
        refine g_iload_n F dX2_look_62 rfl 3 rfl ?_
        refine g_iadd F dX2_look_63 ?_
        refine g_iast F (j := 54 + k) ([(a, .inl (cI, 79, .inl (upd (S_draw f) (54 + k) (((S_draw f) (48 + k)) + (S_waitV f (f (60 + k)))))))]) 0 0 rfl rfl (by omega) (by decide) dX2_look_64 rfl ?_
        refine g_goto F 115 dX2_look_65 (by decide) ?_
        exact g_endV (hR _ _ dX2_look_115) (by first | (simp only [S_look, S_lw, S_lrep, c1, c2, c3, Bool.false_eq_true, ↓reduceIte]; done) | (with_reducible rfl) | (simp [S_look, S_lw, S_lrep, c1, c2, c3, Bool.false_eq_true, ↓reduceIte]; done))
    · exact absurd c2 (by decide)
  · refine g_iconst F (v := 1) dX2_look_7 (by decide) ?_
    refine g_goto F 12 dX2_look_8 (by decide) ?_
    refine g_istore_n F (lv' := [(0, .ref a), (1, .int (nI k)), (2, .int 1)]) dX2_look_12 rfl (by decide) [1, 2, 0] rfl ?_
    refine g_aload_n F dX2_look_13 rfl 0 rfl ?_
    refine g_iload_n F dX2_look_14 rfl 2 rfl ?_
    refine g_if_eq F 26 dX2_look_15 (by decide) (fun c5 => ?_) (fun c5 => ?_)
    · exact absurd c5 (by decide)
    · refine g_aload_n F dX2_look_18 rfl 0 rfl ?_
      refine g_iload_n F dX2_look_19 rfl 1 rfl ?_
      refine g_callSs F (As := [.ref a, .int (nI k)]) (st := [.ref a]) (kX2_countOf l D cI cZ cQ a f k (by omega)) (va_cwS 2 F.2.2.2.2.1 gX2_look_X2_countOf rfl rfl rfl (by decide +kernel) ⟨Nat.le_of_ble_eq_true rfl, Nat.le_of_ble_eq_true rfl⟩) rfl rfl (Nat.le_of_ble_eq_true rfl) ⟨Nat.zero_le _, Nat.zero_le _⟩ dX2_look_20 ?_
      refine g_goto F 32 dX2_look_23 (by decide) ?_
      refine g_callSs F (As := [.ref a, .int (S_count f k)]) (st := []) (kX2_waitOf l D cI cZ cQ a f (S_count f k) hz) (va_cwS 2 F.2.2.2.2.1 gX2_look_X2_waitOf rfl rfl rfl (by decide +kernel) ⟨Nat.le_of_ble_eq_true rfl, Nat.le_of_ble_eq_true rfl⟩) rfl rfl (Nat.le_of_ble_eq_true rfl) ⟨Nat.zero_le _, Nat.zero_le _⟩ dX2_look_32 ?_
      refine g_istore_n F (lv' := [(0, .ref a), (1, .int (nI k)), (2, .int 1), (3, .int (S_waitV f (S_count f k)))]) dX2_look_35 rfl (by decide) [1, 2, 3, 0] rfl ?_
      refine g_aload_n F dX2_look_36 rfl 0 rfl ?_
      refine g_bipush F (v := 48) dX2_look_37 (by decide) ?_
      refine g_iload_n F dX2_look_39 rfl 1 rfl ?_
      refine g_iadd F dX2_look_40 ?_
      refine g_as (nI (48 + k)) (nI_add 48 k) ?_
      refine g_iald F (j := 48 + k) 0 0 rfl rfl (by omega) (by decide) dX2_look_41 ?_
      refine g_iload_n F dX2_look_42 rfl 3 rfl ?_
      refine g_iadd F dX2_look_43 ?_
      refine g_aload_n F dX2_look_44 rfl 0 rfl ?_
      refine g_bipush F (v := 70) dX2_look_45 (by decide) ?_
      refine g_as (nI 70) rfl ?_
      refine g_iald F (j := 70) 0 0 rfl rfl (by omega) (by decide) dX2_look_47 ?_
      refine g_icmp_le F 68 dX2_look_48 (by decide) (fun c6 => ?_) (fun c6 => ?_)
      · refine g_iload_n F dX2_look_68 rfl 2 rfl ?_
        refine g_if_eq F 110 dX2_look_69 (by decide) (fun c7 => ?_) (fun c7 => ?_)
        · exact absurd c7 (by decide)
        · refine g_aload_n F dX2_look_72 rfl 0 rfl ?_
          refine g_iload_n F dX2_look_73 rfl 1 rfl ?_
          refine g_callSs F (As := [.ref a, .int (nI k)]) (st := []) (kX2_report l D cI cZ cQ a (S_draw f) k (by omega)) (va_cwS 2 F.2.2.2.2.1 gX2_look_X2_report rfl rfl rfl (by decide +kernel) ⟨Nat.le_of_ble_eq_true rfl, Nat.le_of_ble_eq_true rfl⟩) rfl rfl (Nat.le_of_ble_eq_true rfl) ⟨Nat.zero_le _, Nat.zero_le _⟩ dX2_look_74 ?_
          refine g_aload_n F dX2_look_77 rfl 0 rfl ?_
          refine g_bipush F (v := 48) dX2_look_78 (by decide) ?_
          refine g_iload_n F dX2_look_80 rfl 1 rfl ?_
          refine g_iadd F dX2_look_81 ?_
          refine g_as (nI (48 + k)) (nI_add 48 k) ?_
          refine g_aload_n F dX2_look_82 rfl 0 rfl ?_
          refine g_bipush F (v := 70) dX2_look_83 (by decide) ?_
          refine g_as (nI 70) rfl ?_
          refine g_iald F (j := 70) 0 0 rfl rfl (by omega) (by decide) dX2_look_85 ?_
          refine g_iast F (j := 48 + k) ([(a, .inl (cI, 79, .inl (upd (S_report (S_draw f) k) (48 + k) ((S_report (S_draw f) k) 70))))]) 0 0 rfl rfl (by omega) (by decide) dX2_look_86 rfl ?_
          refine g_aload_n F dX2_look_87 rfl 0 rfl ?_
          refine g_bipush F (v := 54) dX2_look_88 (by decide) ?_
          refine g_iload_n F dX2_look_90 rfl 1 rfl ?_
          refine g_iadd F dX2_look_91 ?_
          refine g_as (nI (54 + k)) (nI_add 54 k) ?_
          refine g_aload_n F dX2_look_92 rfl 0 rfl ?_
          refine g_bipush F (v := 70) dX2_look_93 (by decide) ?_
          refine g_as (nI 70) rfl ?_
          refine g_iald F (j := 70) 0 0 rfl rfl (by omega) (by decide) dX2_look_95 ?_
          refine g_aload_n F dX2_look_96 rfl 0 rfl ?_
          refine g_aload_n F dX2_look_97 rfl 0 rfl ?_
          refine g_iload_n F dX2_look_98 rfl 1 rfl ?_
          refine g_callSs F (As := [.ref a, .int (nI k)]) (st := [.ref a, .int ((upd (S_report (S_draw f) k) (48 + k) ((S_report (S_draw f) k) 70)) 70), .int (nI (54 + k)), .ref a]) (kX2_countOf l D cI cZ cQ a (upd (S_report (S_draw f) k) (48 + k) ((S_report (S_draw f) k) 70)) k (by omega)) (va_cwS 2 F.2.2.2.2.1 gX2_look_X2_countOf rfl rfl rfl (by decide +kernel) ⟨Nat.le_of_ble_eq_true rfl, Nat.le_of_ble_eq_true rfl⟩) rfl rfl (Nat.le_of_ble_eq_true rfl) ⟨Nat.zero_le _, Nat.zero_le _⟩ dX2_look_99 ?_
          refine g_callSs F (As := [.ref a, .int (S_count (upd (S_report (S_draw f) k) (48 + k) ((S_report (S_draw f) k) 70)) k)]) (st := [.int ((upd (S_report (S_draw f) k) (48 + k) ((S_report (S_draw f) k) 70)) 70), .int (nI (54 + k)), .ref a]) (kX2_waitOf l D cI cZ cQ a (upd (S_report (S_draw f) k) (48 + k) ((S_report (S_draw f) k) 70)) (S_count (upd (S_report (S_draw f) k) (48 + k) ((S_report (S_draw f) k) 70)) k) (Z_upd (Z_report (Z_draw hz) (by omega)) (by omega))) (va_cwS 2 F.2.2.2.2.1 gX2_look_X2_waitOf rfl rfl rfl (by decide +kernel) ⟨Nat.le_of_ble_eq_true rfl, Nat.le_of_ble_eq_true rfl⟩) rfl rfl (Nat.le_of_ble_eq_true rfl) ⟨Nat.zero_le _, Nat.zero_le _⟩ dX2_look_102 ?_
          refine g_iadd F dX2_look_105 ?_
          refine g_iast F (j := 54 + k) ([(a, .inl (cI, 79, .inl (upd (S_draw (upd (S_report (S_draw f) k) (48 + k) ((S_report (S_draw f) k) 70))) (54 + k) (((upd (S_report (S_draw f) k) (48 + k) ((S_report (S_draw f) k) 70)) 70) + (S_waitV (upd (S_report (S_draw f) k) (48 + k) ((S_report (S_draw f) k) 70)) (S_count (upd (S_report (S_draw f) k) (48 + k) ((S_report (S_draw f) k) 70)) k))))))]) 0 0 rfl rfl (by omega) (by decide) dX2_look_106 rfl ?_
          refine g_goto F 115 dX2_look_107 (by decide) ?_
          exact g_endV (hR _ _ dX2_look_115) (by first | (simp only [S_look, S_lw, S_lrep, c1, c5, c6, c7, Bool.false_eq_true, ↓reduceIte]; done) | (with_reducible rfl) | (simp [S_look, S_lw, S_lrep, c1, c5, c6, c7, Bool.false_eq_true, ↓reduceIte]; done))
      · refine g_aload_n F dX2_look_51 rfl 0 rfl ?_
        refine g_bipush F (v := 54) dX2_look_52 (by decide) ?_
        refine g_iload_n F dX2_look_54 rfl 1 rfl ?_
        refine g_iadd F dX2_look_55 ?_
        refine g_as (nI (54 + k)) (nI_add 54 k) ?_
        refine g_aload_n F dX2_look_56 rfl 0 rfl ?_
        refine g_bipush F (v := 48) dX2_look_57 (by decide) ?_
        refine g_iload_n F dX2_look_59 rfl 1 rfl ?_
        refine g_iadd F dX2_look_60 ?_
        refine g_as (nI (48 + k)) (nI_add 48 k) ?_
        refine g_iald F (j := 48 + k) 0 0 rfl rfl (by omega) (by decide) dX2_look_61 ?_
        refine g_iload_n F dX2_look_62 rfl 3 rfl ?_
        refine g_iadd F dX2_look_63 ?_
        refine g_iast F (j := 54 + k) ([(a, .inl (cI, 79, .inl (upd (S_draw f) (54 + k) (((S_draw f) (48 + k)) + (S_waitV f (S_count f k))))))]) 0 0 rfl rfl (by omega) (by decide) dX2_look_64 rfl ?_
        refine g_goto F 115 dX2_look_65 (by decide) ?_
        exact g_endV (hR _ _ dX2_look_115) (by first | (simp only [S_look, S_lw, S_lrep, c1, c5, c6, Bool.false_eq_true, ↓reduceIte]; done) | (with_reducible rfl) | (simp [S_look, S_lw, S_lrep, c1, c5, c6, Bool.false_eq_true, ↓reduceIte]; done))
set_option maxHeartbeats 1000000 in
set_option maxRecDepth 100000 in
theorem kX2_forget (l : Launch) (D : va_G) (cI cZ cQ : ClassId) (a : Nat) (f : Row) (k : Nat) (hk : k < 6) (hz : Z67 f) : Ct l D (gTy cI cZ cQ) yX2_forget wsX2_forget ({ frames := 2, cells := 0, slots := 0, locals := 43 }) [.ref a, .int (nI k)] ([(a, .inl (cI, 79, .inl f))]) none ([(a, .inl (cI, 79, .inl (S_forget f k)))]) := by
  refine ct_ofV (cc := cX2_forget) (nL := 5) (own := RX2) (by decide) rfl rfl ⟨rfl, rfl⟩ (Nat.le_of_ble_eq_true rfl) (by simp only [List.map]) (fun p e s m below meth c A Q F hR => ?_)
  refine g_iconst F (v := 5) dX2_forget_0 (by decide) ?_
  refine g_aload_n F dX2_forget_1 rfl 0 rfl ?_
  refine g_aload_n F dX2_forget_2 rfl 0 rfl ?_
  refine g_iload_n F dX2_forget_3 rfl 1 rfl ?_
  refine g_callSs F (As := [.ref a, .int (nI k)]) (st := [.ref a, .int 5]) (kX2_countOf l D cI cZ cQ a f k (by omega)) (va_cwS 2 F.2.2.2.2.1 gX2_forget_X2_countOf rfl rfl rfl (by decide +kernel) ⟨Nat.le_of_ble_eq_true rfl, Nat.le_of_ble_eq_true rfl⟩) rfl rfl (Nat.le_of_ble_eq_true rfl) ⟨Nat.zero_le _, Nat.zero_le _⟩ dX2_forget_4 ?_
  refine g_callSs F (As := [.ref a, .int (S_count f k)]) (st := [.int 5]) (kX2_spanOf l D cI cZ cQ a f (S_count f k) hz) (va_cwS 2 F.2.2.2.2.1 gX2_forget_X2_spanOf rfl rfl rfl (by decide +kernel) ⟨Nat.le_of_ble_eq_true rfl, Nat.le_of_ble_eq_true rfl⟩) rfl rfl (Nat.le_of_ble_eq_true rfl) ⟨Nat.zero_le _, Nat.zero_le _⟩ dX2_forget_7 ?_
  refine g_imul F dX2_forget_10 ?_
  refine g_istore_n F (lv' := [(0, .ref a), (1, .int (nI k)), (2, .int (5 * (S_span f (S_count f k))))]) dX2_forget_11 rfl (by decide) [1, 2, 0] rfl ?_
  refine g_iconst F (v := 0) dX2_forget_12 (by decide) ?_
  refine g_istore_n F (lv' := [(0, .ref a), (1, .int (nI k)), (2, .int (5 * (S_span f (S_count f k)))), (3, .int 0)]) dX2_forget_13 rfl (by decide) [1, 2, 3, 0] rfl ?_
  refine g_all (w0 := [(a, .inl (cI, 79, .inl (it (S_forStep k (S_most f k)) 0 f)))]) (lv0 := [(0, .ref a), (1, .int (nI k)), (2, .int (S_most f k)), (3, .int (nI 0))]) (st0 := []) rfl rfl rfl ?_
  refine g_for 6 (fun i => True) (fun i => [(a, .inl (cI, 79, .inl (it (S_forStep k (S_most f k)) i f)))]) (fun i => [(0, .ref a), (1, .int (nI k)), (2, .int (S_most f k)), (3, .int (nI i))]) (fun i hi hIi ihi => ?_) 0 (Nat.zero_le _) trivial
  dsimp only [it_s] at ihi ⊢
  generalize hg_g : it (S_forStep k (S_most f k)) i f = g at ihi ⊢
  refine g_iload_n F dX2_forget_14 rfl 3 rfl ?_
  refine g_bipush F (v := 6) dX2_forget_15 (by decide) ?_
  refine g_icmp_ge F 89 dX2_forget_17 (by decide) (fun c1 => ?_) (fun c1 => ?_)
  · have hx_c1 : 6 = i := lp_ge hi (by decide) c1
    subst hx_c1
    subst hg_g
    exact g_endV (hR _ _ dX2_forget_89) rfl
  · have hlti : i < 6 := lp_lt hi (by decide) c1
    refine g_aload_n F dX2_forget_20 rfl 0 rfl ?_
    refine g_bipush F (v := 6) dX2_forget_21 (by decide) ?_
    refine g_iload_n F dX2_forget_23 rfl 1 rfl ?_
    refine g_iadd F dX2_forget_24 ?_
    refine g_as (nI (6 + k)) (nI_add 6 k) ?_
    refine g_iald F (j := 6 + k) 0 0 rfl rfl (by omega) (by decide) dX2_forget_25 ?_
    refine g_iload_n F dX2_forget_26 rfl 3 rfl ?_
    refine g_callSn F (As := [.int (g (6 + k)), .int (nI i)]) (st := []) (kX2_has l D cI cZ cQ (g (6 + k)) (nI i)) (va_cwS 2 F.2.2.2.2.1 gX2_forget_X2_has rfl rfl rfl (by decide +kernel) ⟨Nat.le_of_ble_eq_true rfl, Nat.le_of_ble_eq_true rfl⟩) rfl rfl (Nat.le_of_ble_eq_true rfl) ⟨Nat.zero_le _, Nat.zero_le _⟩ dX2_forget_27 ?_
    refine g_beq F 57 dX2_forget_30 (by decide) (fun c2 => ?_) (fun c2 => ?_)
    · refine g_iconst F (v := 0) dX2_forget_57 (by decide) ?_
      refine g_istore F (lv' := [(0, .ref a), (1, .int (nI k)), (2, .int (S_most f k)), (3, .int (nI i)), (4, .int 0)]) dX2_forget_58 (by decide) [1, 2, 3, 4, 0] rfl ?_
      refine g_aload_n F dX2_forget_60 rfl 0 rfl ?_
      refine g_bipush F (v := 6) dX2_forget_61 (by decide) ?_
      refine g_iload_n F dX2_forget_63 rfl 1 rfl ?_
      refine g_iadd F dX2_forget_64 ?_
      refine g_as (nI (6 + k)) (nI_add 6 k) ?_
      refine g_dup2 F dX2_forget_65 rfl rfl ?_
      refine g_iald F (j := 6 + k) 0 0 rfl rfl (by omega) (by decide) dX2_forget_66 ?_
      refine g_iload F dX2_forget_67 4 rfl ?_
      refine g_if_eq F 80 dX2_forget_69 (by decide) (fun c3 => ?_) (fun c3 => ?_)
      · refine g_iconst F (v := (-1)) dX2_forget_80 (by decide) ?_
        refine g_iand F dX2_forget_81 ?_
        refine g_iast F (j := 6 + k) ([(a, .inl (cI, 79, .inl (upd g (6 + k) ((g (6 + k)) &&& (-1)))))]) 0 0 rfl rfl (by omega) (by decide) dX2_forget_82 rfl ?_
        refine g_iinc F (lv' := [(0, .ref a), (1, .int (nI k)), (2, .int (S_most f k)), (3, .int (nI (i + 1))), (4, .int 0)]) (nI (i + 1)) dX2_forget_83 3 rfl (nI_add i 1) (by decide) [1, 2, 3, 0, 4] rfl ?_
        refine g_goto F 14 dX2_forget_86 (by decide) ?_
        refine g_lvs [0, 1, 2, 3] rfl ?_
        refine g_all (w0 := [(a, .inl (cI, 79, .inl (S_forStep k (S_most f k) i g)))]) (lv0 := [(0, .ref a), (1, .int (nI k)), (2, .int (S_most f k)), (3, .int (nI (i + 1)))]) (st0 := []) (by first | (simp only [S_forStep, S_old, c2, c3, Bool.false_eq_true, ↓reduceIte]; done) | (with_reducible rfl) | (simp [S_forStep, S_old, c2, c3, Bool.false_eq_true, ↓reduceIte]; done)) rfl rfl ?_
        exact ihi hlti trivial
      · exact absurd c3 (by decide)
    · refine g_aload_n F dX2_forget_33 rfl 0 rfl ?_
      refine g_bipush F (v := 70) dX2_forget_34 (by decide) ?_
      refine g_as (nI 70) rfl ?_
      refine g_iald F (j := 70) 0 0 rfl rfl (by omega) (by decide) dX2_forget_36 ?_
      refine g_aload_n F dX2_forget_37 rfl 0 rfl ?_
      refine g_bipush F (v := 12) dX2_forget_38 (by decide) ?_
      refine g_bipush F (v := 6) dX2_forget_40 (by decide) ?_
      refine g_iload_n F dX2_forget_42 rfl 1 rfl ?_
      refine g_imul F dX2_forget_43 ?_
      refine g_as (nI (6 * k)) (pk_mul 6 k) ?_
      refine g_iadd F dX2_forget_44 ?_
      refine g_as (nI (12 + 6 * k)) (nI_add 12 (6 * k)) ?_
      refine g_iload_n F dX2_forget_45 rfl 3 rfl ?_
      refine g_iadd F dX2_forget_46 ?_
      refine g_as (nI (12 + 6 * k + i)) (nI_add (12 + 6 * k) i) ?_
      refine g_iald F (j := 12 + 6 * k + i) 0 0 rfl rfl (by omega) (by decide) dX2_forget_47 ?_
      refine g_isub F dX2_forget_48 ?_
      refine g_iload_n F dX2_forget_49 rfl 2 rfl ?_
      refine g_icmp_le F 57 dX2_forget_50 (by decide) (fun c4 => ?_) (fun c4 => ?_)
      · refine g_iconst F (v := 0) dX2_forget_57 (by decide) ?_
        refine g_istore F (lv' := [(0, .ref a), (1, .int (nI k)), (2, .int (S_most f k)), (3, .int (nI i)), (4, .int 0)]) dX2_forget_58 (by decide) [1, 2, 3, 4, 0] rfl ?_
        refine g_aload_n F dX2_forget_60 rfl 0 rfl ?_
        refine g_bipush F (v := 6) dX2_forget_61 (by decide) ?_
        refine g_iload_n F dX2_forget_63 rfl 1 rfl ?_
        refine g_iadd F dX2_forget_64 ?_
        refine g_as (nI (6 + k)) (nI_add 6 k) ?_
        refine g_dup2 F dX2_forget_65 rfl rfl ?_
        refine g_iald F (j := 6 + k) 0 0 rfl rfl (by omega) (by decide) dX2_forget_66 ?_
        refine g_iload F dX2_forget_67 4 rfl ?_
        refine g_if_eq F 80 dX2_forget_69 (by decide) (fun c5 => ?_) (fun c5 => ?_)
        · refine g_iconst F (v := (-1)) dX2_forget_80 (by decide) ?_
          refine g_iand F dX2_forget_81 ?_
          refine g_iast F (j := 6 + k) ([(a, .inl (cI, 79, .inl (upd g (6 + k) ((g (6 + k)) &&& (-1)))))]) 0 0 rfl rfl (by omega) (by decide) dX2_forget_82 rfl ?_
          refine g_iinc F (lv' := [(0, .ref a), (1, .int (nI k)), (2, .int (S_most f k)), (3, .int (nI (i + 1))), (4, .int 0)]) (nI (i + 1)) dX2_forget_83 3 rfl (nI_add i 1) (by decide) [1, 2, 3, 0, 4] rfl ?_
          refine g_goto F 14 dX2_forget_86 (by decide) ?_
          refine g_lvs [0, 1, 2, 3] rfl ?_
          refine g_all (w0 := [(a, .inl (cI, 79, .inl (S_forStep k (S_most f k) i g)))]) (lv0 := [(0, .ref a), (1, .int (nI k)), (2, .int (S_most f k)), (3, .int (nI (i + 1)))]) (st0 := []) (by first | (simp only [S_forStep, S_old, c2, c4, c5, Bool.false_eq_true, ↓reduceIte]; done) | (with_reducible rfl) | (simp [S_forStep, S_old, c2, c4, c5, Bool.false_eq_true, ↓reduceIte]; done)) rfl rfl ?_
          exact ihi hlti trivial
        · exact absurd c5 (by decide)
      · refine g_iconst F (v := 1) dX2_forget_53 (by decide) ?_
        refine g_goto F 58 dX2_forget_54 (by decide) ?_
        refine g_istore F (lv' := [(0, .ref a), (1, .int (nI k)), (2, .int (S_most f k)), (3, .int (nI i)), (4, .int 1)]) dX2_forget_58 (by decide) [1, 2, 3, 4, 0] rfl ?_
        refine g_aload_n F dX2_forget_60 rfl 0 rfl ?_
        refine g_bipush F (v := 6) dX2_forget_61 (by decide) ?_
        refine g_iload_n F dX2_forget_63 rfl 1 rfl ?_
        refine g_iadd F dX2_forget_64 ?_
        refine g_as (nI (6 + k)) (nI_add 6 k) ?_
        refine g_dup2 F dX2_forget_65 rfl rfl ?_
        refine g_iald F (j := 6 + k) 0 0 rfl rfl (by omega) (by decide) dX2_forget_66 ?_
        refine g_iload F dX2_forget_67 4 rfl ?_
        refine g_if_eq F 80 dX2_forget_69 (by decide) (fun c6 => ?_) (fun c6 => ?_)
        · exact absurd c6 (by decide)
        · refine g_iconst F (v := 1) dX2_forget_72 (by decide) ?_
          refine g_iload_n F dX2_forget_73 rfl 3 rfl ?_
          refine g_ishl F dX2_forget_74 ?_
          refine g_iconst F (v := (-1)) dX2_forget_75 (by decide) ?_
          refine g_ixor F dX2_forget_76 ?_
          refine g_goto F 81 dX2_forget_77 (by decide) ?_
          refine g_iand F dX2_forget_81 ?_
          refine g_iast F (j := 6 + k) ([(a, .inl (cI, 79, .inl (upd g (6 + k) ((g (6 + k)) &&& ((1 <<< ((nI i) &&& 31)) ^^^ (-1))))))]) 0 0 rfl rfl (by omega) (by decide) dX2_forget_82 rfl ?_
          refine g_iinc F (lv' := [(0, .ref a), (1, .int (nI k)), (2, .int (S_most f k)), (3, .int (nI (i + 1))), (4, .int 1)]) (nI (i + 1)) dX2_forget_83 3 rfl (nI_add i 1) (by decide) [1, 2, 3, 0, 4] rfl ?_
          refine g_goto F 14 dX2_forget_86 (by decide) ?_
          refine g_lvs [0, 1, 2, 3] rfl ?_
          refine g_all (w0 := [(a, .inl (cI, 79, .inl (S_forStep k (S_most f k) i g)))]) (lv0 := [(0, .ref a), (1, .int (nI k)), (2, .int (S_most f k)), (3, .int (nI (i + 1)))]) (st0 := []) (by first | (simp only [S_forStep, S_old, c2, c4, c6, Bool.false_eq_true, ↓reduceIte]; done) | (with_reducible rfl) | (simp [S_forStep, S_old, c2, c4, c6, Bool.false_eq_true, ↓reduceIte]; done)) rfl rfl ?_
          exact ihi hlti trivial
set_option maxHeartbeats 1000000 in
set_option maxRecDepth 100000 in
theorem kX2_tick (l : Launch) (D : va_G) (cI cZ cQ : ClassId) (a : Nat) (f : Row) (hz : Z67 f) : Ct l D (gTy cI cZ cQ) yX2_tick wsX2_tick ({ frames := 4, cells := 0, slots := 0, locals := 92 }) [.ref a] ([(a, .inl (cI, 79, .inl f))]) none ([(a, .inl (cI, 79, .inl (S_tick f)))]) := by
  refine ct_ofV (cc := cX2_tick) (nL := 2) (own := RX2) (by decide) rfl rfl ⟨rfl, rfl⟩ (Nat.le_of_ble_eq_true rfl) (by simp only [List.map]) (fun p e s m below meth c A Q F hR => ?_)
  refine g_aload_n F dX2_tick_0 rfl 0 rfl ?_
  refine g_bipush F (v := 70) dX2_tick_1 (by decide) ?_
  refine g_as (nI 70) rfl ?_
  refine g_dup2 F dX2_tick_3 rfl rfl ?_
  refine g_iald F (j := 70) 0 0 rfl rfl (by omega) (by decide) dX2_tick_4 ?_
  refine g_iconst F (v := 1) dX2_tick_5 (by decide) ?_
  refine g_iadd F dX2_tick_6 ?_
  refine g_iast F (j := 70) ([(a, .inl (cI, 79, .inl (upd f 70 ((f 70) + 1))))]) 0 0 rfl rfl (by omega) (by decide) dX2_tick_7 rfl ?_
  refine g_iconst F (v := 0) dX2_tick_8 (by decide) ?_
  refine g_istore_n F (lv' := [(0, .ref a), (1, .int 0)]) dX2_tick_9 rfl (by decide) [1, 0] rfl ?_
  refine g_all (w0 := [(a, .inl (cI, 79, .inl (it S_dueStep 0 (S_tick0 f))))]) (lv0 := [(0, .ref a), (1, .int (nI 0))]) (st0 := []) rfl rfl rfl ?_
  refine g_for 6 (fun i => True) (fun i => [(a, .inl (cI, 79, .inl (it S_dueStep i (S_tick0 f))))]) (fun i => [(0, .ref a), (1, .int (nI i))]) (fun i hi hIi ihi => ?_) 0 (Nat.zero_le _) trivial
  dsimp only [it_s] at ihi ⊢
  have hzg : Z67 (it S_dueStep i (S_tick0 f)) := Z_dues hz i hi
  generalize hg_g : it S_dueStep i (S_tick0 f) = g at ihi hzg ⊢
  refine g_iload_n F dX2_tick_10 rfl 1 rfl ?_
  refine g_bipush F (v := 6) dX2_tick_11 (by decide) ?_
  refine g_icmp_ge F 46 dX2_tick_13 (by decide) (fun c1 => ?_) (fun c1 => ?_)
  · have hx_c1 : 6 = i := lp_ge hi (by decide) c1
    subst hx_c1
    subst hg_g
    refine g_iconst F (v := 0) dX2_tick_46 (by decide) ?_
    refine g_istore_n F (lv' := [(0, .ref a), (1, .int 0)]) dX2_tick_47 rfl (by decide) [1, 0] rfl ?_
    refine g_all (w0 := [(a, .inl (cI, 79, .inl (it S_fgStep 0 (S_tick1 f))))]) (lv0 := [(0, .ref a), (1, .int (nI 0))]) (st0 := []) (by rw [it_0, S_tick1]) rfl rfl ?_
    refine g_for 6 (fun j => True) (fun j => [(a, .inl (cI, 79, .inl (it S_fgStep j (S_tick1 f))))]) (fun j => [(0, .ref a), (1, .int (nI j))]) (fun j hj hIj ihj => ?_) 0 (Nat.zero_le _) trivial
    dsimp only [it_s] at ihj ⊢
    have hzg : Z67 (it S_fgStep j (S_tick1 f)) := Z_fgs hz j hj
    generalize hg_g : it S_fgStep j (S_tick1 f) = g at ihj hzg ⊢
    refine g_iload_n F dX2_tick_48 rfl 1 rfl ?_
    refine g_bipush F (v := 6) dX2_tick_49 (by decide) ?_
    refine g_icmp_ge F 72 dX2_tick_51 (by decide) (fun c2 => ?_) (fun c2 => ?_)
    · have hx_c2 : 6 = j := lp_ge hj (by decide) c2
      subst hx_c2
      subst hg_g
      exact g_endV (hR _ _ dX2_tick_72) (by rw [S_tick])
    · have hltj : j < 6 := lp_lt hj (by decide) c2
      refine g_aload_n F dX2_tick_54 rfl 0 rfl ?_
      refine g_iload_n F dX2_tick_55 rfl 1 rfl ?_
      refine g_iald F (j := j) 0 0 rfl rfl (by omega) (by decide) dX2_tick_56 ?_
      refine g_iconst F (v := 1) dX2_tick_57 (by decide) ?_
      refine g_icmp_ne F 66 dX2_tick_58 (by decide) (fun c3 => ?_) (fun c3 => ?_)
      · refine g_iinc F (lv' := [(0, .ref a), (1, .int (nI (j + 1)))]) (nI (j + 1)) dX2_tick_66 1 rfl (nI_add j 1) (by decide) [1, 0] rfl ?_
        refine g_goto F 48 dX2_tick_69 (by decide) ?_
        refine g_all (w0 := [(a, .inl (cI, 79, .inl (S_fgStep j g)))]) (lv0 := [(0, .ref a), (1, .int (nI (j + 1)))]) (st0 := []) (by first | (simp only [S_fgStep, c3, Bool.false_eq_true, ↓reduceIte]; done) | (with_reducible rfl) | (simp [S_fgStep, c3, Bool.false_eq_true, ↓reduceIte]; done)) rfl rfl ?_
        exact ihj hltj trivial
      · refine g_aload_n F dX2_tick_61 rfl 0 rfl ?_
        refine g_iload_n F dX2_tick_62 rfl 1 rfl ?_
        refine g_callSs F (As := [.ref a, .int (nI j)]) (st := []) (kX2_forget l D cI cZ cQ a g j (by omega) hzg) (va_cwS 2 F.2.2.2.2.1 gX2_tick_X2_forget rfl rfl rfl (by decide +kernel) ⟨Nat.le_of_ble_eq_true rfl, Nat.le_of_ble_eq_true rfl⟩) rfl rfl (Nat.le_of_ble_eq_true rfl) ⟨Nat.zero_le _, Nat.zero_le _⟩ dX2_tick_63 ?_
        refine g_iinc F (lv' := [(0, .ref a), (1, .int (nI (j + 1)))]) (nI (j + 1)) dX2_tick_66 1 rfl (nI_add j 1) (by decide) [1, 0] rfl ?_
        refine g_goto F 48 dX2_tick_69 (by decide) ?_
        refine g_all (w0 := [(a, .inl (cI, 79, .inl (S_fgStep j g)))]) (lv0 := [(0, .ref a), (1, .int (nI (j + 1)))]) (st0 := []) (by first | (simp only [S_fgStep, c3, Bool.false_eq_true, ↓reduceIte]; done) | (with_reducible rfl) | (simp [S_fgStep, c3, Bool.false_eq_true, ↓reduceIte]; done)) rfl rfl ?_
        exact ihj hltj trivial
  · have hlti : i < 6 := lp_lt hi (by decide) c1
    refine g_aload_n F dX2_tick_16 rfl 0 rfl ?_
    refine g_iload_n F dX2_tick_17 rfl 1 rfl ?_
    refine g_iald F (j := i) 0 0 rfl rfl (by omega) (by decide) dX2_tick_18 ?_
    refine g_if_eq F 40 dX2_tick_19 (by decide) (fun c4 => ?_) (fun c4 => ?_)
    · refine g_iinc F (lv' := [(0, .ref a), (1, .int (nI (i + 1)))]) (nI (i + 1)) dX2_tick_40 1 rfl (nI_add i 1) (by decide) [1, 0] rfl ?_
      refine g_goto F 10 dX2_tick_43 (by decide) ?_
      refine g_all (w0 := [(a, .inl (cI, 79, .inl (S_dueStep i g)))]) (lv0 := [(0, .ref a), (1, .int (nI (i + 1)))]) (st0 := []) (by first | (simp only [S_dueStep, c4, Bool.false_eq_true, ↓reduceIte]; done) | (with_reducible rfl) | (simp [S_dueStep, c4, Bool.false_eq_true, ↓reduceIte]; done)) rfl rfl ?_
      exact ihi hlti trivial
    · refine g_aload_n F dX2_tick_22 rfl 0 rfl ?_
      refine g_bipush F (v := 54) dX2_tick_23 (by decide) ?_
      refine g_iload_n F dX2_tick_25 rfl 1 rfl ?_
      refine g_iadd F dX2_tick_26 ?_
      refine g_as (nI (54 + i)) (nI_add 54 i) ?_
      refine g_iald F (j := 54 + i) 0 0 rfl rfl (by omega) (by decide) dX2_tick_27 ?_
      refine g_aload_n F dX2_tick_28 rfl 0 rfl ?_
      refine g_bipush F (v := 70) dX2_tick_29 (by decide) ?_
      refine g_as (nI 70) rfl ?_
      refine g_iald F (j := 70) 0 0 rfl rfl (by omega) (by decide) dX2_tick_31 ?_
      refine g_icmp_gt F 40 dX2_tick_32 (by decide) (fun c5 => ?_) (fun c5 => ?_)
      · refine g_iinc F (lv' := [(0, .ref a), (1, .int (nI (i + 1)))]) (nI (i + 1)) dX2_tick_40 1 rfl (nI_add i 1) (by decide) [1, 0] rfl ?_
        refine g_goto F 10 dX2_tick_43 (by decide) ?_
        refine g_all (w0 := [(a, .inl (cI, 79, .inl (S_dueStep i g)))]) (lv0 := [(0, .ref a), (1, .int (nI (i + 1)))]) (st0 := []) (by first | (simp only [S_dueStep, c4, c5, Bool.false_eq_true, ↓reduceIte]; done) | (with_reducible rfl) | (simp [S_dueStep, c4, c5, Bool.false_eq_true, ↓reduceIte]; done)) rfl rfl ?_
        exact ihi hlti trivial
      · refine g_aload_n F dX2_tick_35 rfl 0 rfl ?_
        refine g_iload_n F dX2_tick_36 rfl 1 rfl ?_
        refine g_callSs F (As := [.ref a, .int (nI i)]) (st := []) (kX2_look l D cI cZ cQ a g i (by omega) hzg) (va_cwS 2 F.2.2.2.2.1 gX2_tick_X2_look rfl rfl rfl (by decide +kernel) ⟨Nat.le_of_ble_eq_true rfl, Nat.le_of_ble_eq_true rfl⟩) rfl rfl (Nat.le_of_ble_eq_true rfl) ⟨Nat.zero_le _, Nat.zero_le _⟩ dX2_tick_37 ?_
        refine g_iinc F (lv' := [(0, .ref a), (1, .int (nI (i + 1)))]) (nI (i + 1)) dX2_tick_40 1 rfl (nI_add i 1) (by decide) [1, 0] rfl ?_
        refine g_goto F 10 dX2_tick_43 (by decide) ?_
        refine g_all (w0 := [(a, .inl (cI, 79, .inl (S_dueStep i g)))]) (lv0 := [(0, .ref a), (1, .int (nI (i + 1)))]) (st0 := []) (by first | (simp only [S_dueStep, c4, c5, Bool.false_eq_true, ↓reduceIte]; done) | (with_reducible rfl) | (simp [S_dueStep, c4, c5, Bool.false_eq_true, ↓reduceIte]; done)) rfl rfl ?_
        exact ihi hlti trivial
set_option maxHeartbeats 1000000 in
set_option maxRecDepth 100000 in
theorem kX2_passOn (l : Launch) (D : va_G) (cI cZ cQ : ClassId) (a : Nat) (f : Row) (n : Nat) (hn : n < 2 ^ 31) (hz : Z67 f) : Ct l D (gTy cI cZ cQ) yX2_passOn wsX2_passOn ({ frames := 5, cells := 0, slots := 0, locals := 113 }) [.ref a, .int (nI n)] ([(a, .inl (cI, 79, .inl f))]) (some (.int (S_pass f n))) ([(a, .inl (cI, 79, .inl (S_ticks f n)))]) := by
  refine ct_ofI (cc := cX2_passOn) (nL := 4) (own := RX2) (by decide) rfl rfl ⟨rfl, rfl⟩ (Nat.le_of_ble_eq_true rfl) (by simp only [List.map]) (fun p e s m below meth c A Q F hR => ?_)
  refine g_aload_n F dX2_passOn_0 rfl 0 rfl ?_
  refine g_callSs F (As := [.ref a]) (st := []) (kX2_lettersOf l D cI cZ cQ a f  ) (va_cwS 1 F.2.2.2.2.1 gX2_passOn_X2_lettersOf rfl rfl rfl (by decide +kernel) ⟨Nat.le_of_ble_eq_true rfl, Nat.le_of_ble_eq_true rfl⟩) rfl rfl (Nat.le_of_ble_eq_true rfl) ⟨Nat.zero_le _, Nat.zero_le _⟩ dX2_passOn_1 ?_
  refine g_istore_n F (lv' := [(0, .ref a), (1, .int (nI n)), (2, .int (S_letters f))]) dX2_passOn_4 rfl (by decide) [1, 2, 0] rfl ?_
  refine g_iconst F (v := 0) dX2_passOn_5 (by decide) ?_
  refine g_istore_n F (lv' := [(0, .ref a), (1, .int (nI n)), (2, .int (S_letters f)), (3, .int 0)]) dX2_passOn_6 rfl (by decide) [1, 2, 3, 0] rfl ?_
  refine g_all (w0 := [(a, .inl (cI, 79, .inl (S_ticks f 0)))]) (lv0 := [(0, .ref a), (1, .int (nI n)), (2, .int (S_letters f)), (3, .int (nI 0))]) (st0 := []) rfl rfl rfl ?_
  refine g_for n (fun i => True) (fun i => [(a, .inl (cI, 79, .inl (S_ticks f i)))]) (fun i => [(0, .ref a), (1, .int (nI n)), (2, .int (S_letters f)), (3, .int (nI i))]) (fun i hi hIi ihi => ?_) 0 (Nat.zero_le _) trivial
  refine g_iload_n F dX2_passOn_7 rfl 3 rfl ?_
  refine g_iload_n F dX2_passOn_8 rfl 1 rfl ?_
  refine g_icmp_ge F 22 dX2_passOn_9 (by decide) (fun c1 => ?_) (fun c1 => ?_)
  · have hx_c1 : n = i := lp_ge hi hn c1
    subst hx_c1
    refine g_aload_n F dX2_passOn_22 rfl 0 rfl ?_
    refine g_callSs F (As := [.ref a]) (st := []) (kX2_lettersOf l D cI cZ cQ a (S_ticks f n)  ) (va_cwS 1 F.2.2.2.2.1 gX2_passOn_X2_lettersOf rfl rfl rfl (by decide +kernel) ⟨Nat.le_of_ble_eq_true rfl, Nat.le_of_ble_eq_true rfl⟩) rfl rfl (Nat.le_of_ble_eq_true rfl) ⟨Nat.zero_le _, Nat.zero_le _⟩ dX2_passOn_23 ?_
    refine g_iload_n F dX2_passOn_26 rfl 2 rfl ?_
    refine g_isub F dX2_passOn_27 ?_
    exact g_endI (hR _ _ dX2_passOn_28) rfl rfl
  · have hlti : i < n := lp_lt hi hn c1
    refine g_aload_n F dX2_passOn_12 rfl 0 rfl ?_
    refine g_callSs F (As := [.ref a]) (st := []) (kX2_tick l D cI cZ cQ a (S_ticks f i)  (Z_ticks hz _)) (va_cwS 1 F.2.2.2.2.1 gX2_passOn_X2_tick rfl rfl rfl (by decide +kernel) ⟨Nat.le_of_ble_eq_true rfl, Nat.le_of_ble_eq_true rfl⟩) rfl rfl (Nat.le_of_ble_eq_true rfl) ⟨Nat.zero_le _, Nat.zero_le _⟩ dX2_passOn_13 ?_
    refine g_iinc F (lv' := [(0, .ref a), (1, .int (nI n)), (2, .int (S_letters f)), (3, .int (nI (i + 1)))]) (nI (i + 1)) dX2_passOn_16 3 rfl (nI_add i 1) (by decide) [1, 2, 3, 0] rfl ?_
    refine g_goto F 7 dX2_passOn_19 (by decide) ?_
    refine g_all (w0 := [(a, .inl (cI, 79, .inl (S_ticks f (i + 1))))]) (lv0 := [(0, .ref a), (1, .int (nI n)), (2, .int (S_letters f)), (3, .int (nI (i + 1)))]) (st0 := []) (by rw [S_ticks_s]) rfl rfl ?_
    exact ihi hlti trivial
set_option maxHeartbeats 1000000 in
set_option maxRecDepth 100000 in
theorem kX2_those (l : Launch) (D : va_G) (cI cZ cQ : ClassId) (a : Nat) (f : Row) (v : Int32) : Ct l D (gTy cI cZ cQ) yX2_those wsX2_those ({ frames := 0, cells := 0, slots := 0, locals := 0 }) [.ref a, .int v] ([(a, .inl (cI, 79, .inl f))]) (some (.int (S_those f v))) ([(a, .inl (cI, 79, .inl f))]) := by
  refine ct_ofI (cc := cX2_those) (nL := 4) (own := RX2) (by decide) rfl rfl ⟨rfl, rfl⟩ (Nat.le_of_ble_eq_true rfl) (by simp only [List.map]) (fun p e s m below meth c A Q F hR => ?_)
  refine g_iconst F (v := 0) dX2_those_0 (by decide) ?_
  refine g_istore_n F (lv' := [(0, .ref a), (1, .int v), (2, .int 0)]) dX2_those_1 rfl (by decide) [1, 2, 0] rfl ?_
  refine g_iconst F (v := 0) dX2_those_2 (by decide) ?_
  refine g_istore_n F (lv' := [(0, .ref a), (1, .int v), (2, .int 0), (3, .int 0)]) dX2_those_3 rfl (by decide) [1, 2, 3, 0] rfl ?_
  refine g_all (w0 := [(a, .inl (cI, 79, .inl f))]) (lv0 := [(0, .ref a), (1, .int v), (2, .int (it (S_thoseStep f v) 0 0)), (3, .int (nI 0))]) (st0 := []) rfl rfl rfl ?_
  refine g_for 6 (fun i => True) (fun i => [(a, .inl (cI, 79, .inl f))]) (fun i => [(0, .ref a), (1, .int v), (2, .int (it (S_thoseStep f v) i 0)), (3, .int (nI i))]) (fun i hi hIi ihi => ?_) 0 (Nat.zero_le _) trivial
  refine g_iload_n F dX2_those_4 rfl 3 rfl ?_
  refine g_bipush F (v := 6) dX2_those_5 (by decide) ?_
  refine g_icmp_ge F 33 dX2_those_7 (by decide) (fun c1 => ?_) (fun c1 => ?_)
  · have hx_c1 : 6 = i := lp_ge hi (by decide) c1
    subst hx_c1
    refine g_iload_n F dX2_those_33 rfl 2 rfl ?_
    exact g_endI (hR _ _ dX2_those_34) rfl rfl
  · have hlti : i < 6 := lp_lt hi (by decide) c1
    refine g_iload_n F dX2_those_10 rfl 2 rfl ?_
    refine g_aload_n F dX2_those_11 rfl 0 rfl ?_
    refine g_iload_n F dX2_those_12 rfl 3 rfl ?_
    refine g_iald F (j := i) 0 0 rfl rfl (by omega) (by decide) dX2_those_13 ?_
    refine g_iload_n F dX2_those_14 rfl 1 rfl ?_
    refine g_icmp_ne F 24 dX2_those_15 (by decide) (fun c2 => ?_) (fun c2 => ?_)
    · refine g_iconst F (v := 0) dX2_those_24 (by decide) ?_
      refine g_ior F dX2_those_25 ?_
      refine g_istore_n F (lv' := [(0, .ref a), (1, .int v), (2, .int ((it (S_thoseStep f v) i 0) ||| 0)), (3, .int (nI i))]) dX2_those_26 rfl (by decide) [1, 2, 0, 3] rfl ?_
      refine g_iinc F (lv' := [(0, .ref a), (1, .int v), (2, .int ((it (S_thoseStep f v) i 0) ||| 0)), (3, .int (nI (i + 1)))]) (nI (i + 1)) dX2_those_27 3 rfl (nI_add i 1) (by decide) [1, 2, 3, 0] rfl ?_
      refine g_goto F 4 dX2_those_30 (by decide) ?_
      refine g_all (w0 := [(a, .inl (cI, 79, .inl f))]) (lv0 := [(0, .ref a), (1, .int v), (2, .int (it (S_thoseStep f v) (i + 1) 0)), (3, .int (nI (i + 1)))]) (st0 := []) rfl (by first | (simp only [it_s, S_thoseStep, c2, Bool.false_eq_true, ↓reduceIte]; done) | (with_reducible rfl) | (simp [it_s, S_thoseStep, c2, Bool.false_eq_true, ↓reduceIte]; done)) rfl ?_
      exact ihi hlti trivial
    · refine g_iconst F (v := 1) dX2_those_18 (by decide) ?_
      refine g_iload_n F dX2_those_19 rfl 3 rfl ?_
      refine g_ishl F dX2_those_20 ?_
      refine g_goto F 25 dX2_those_21 (by decide) ?_
      refine g_ior F dX2_those_25 ?_
      refine g_istore_n F (lv' := [(0, .ref a), (1, .int v), (2, .int ((it (S_thoseStep f v) i 0) ||| (1 <<< ((nI i) &&& 31)))), (3, .int (nI i))]) dX2_those_26 rfl (by decide) [1, 2, 0, 3] rfl ?_
      refine g_iinc F (lv' := [(0, .ref a), (1, .int v), (2, .int ((it (S_thoseStep f v) i 0) ||| (1 <<< ((nI i) &&& 31)))), (3, .int (nI (i + 1)))]) (nI (i + 1)) dX2_those_27 3 rfl (nI_add i 1) (by decide) [1, 2, 3, 0] rfl ?_
      refine g_goto F 4 dX2_those_30 (by decide) ?_
      refine g_all (w0 := [(a, .inl (cI, 79, .inl f))]) (lv0 := [(0, .ref a), (1, .int v), (2, .int (it (S_thoseStep f v) (i + 1) 0)), (3, .int (nI (i + 1)))]) (st0 := []) rfl (by first | (simp only [it_s, S_thoseStep, c2, Bool.false_eq_true, ↓reduceIte]; done) | (with_reducible rfl) | (simp [it_s, S_thoseStep, c2, Bool.false_eq_true, ↓reduceIte]; done)) rfl ?_
      exact ihi hlti trivial
end
section
/-- a Crowd at b 0 with its arrays at b 1 .. b 7: the row f -/
def CR (cI : ClassId) (b : Nat → Nat) (f : Row) : va_W := [(b 0, .inr (0, [.int (f 66), .int (f 67), .int (f 68), .int (f 70), .int (f 69), .int (f 71), .int (f 72), .ref (b 1), .ref (b 2), .ref (b 3), .ref (b 4), .ref (b 5), .ref (b 6), .ref (b 7)])), (b 1, .inl (cI, 6, .inl (fun j => f (j)))), (b 2, .inl (cI, 6, .inl (fun j => f (6 + j)))), (b 3, .inl (cI, 6, .inl (fun j => f (48 + j)))), (b 4, .inl (cI, 6, .inl (fun j => f (54 + j)))), (b 5, .inl (cI, 6, .inl (fun j => f (60 + j)))), (b 6, .inl (cI, 6, .inl (fun j => f (73 + j)))), (b 7, .inl (cI, 36, .inl (fun j => f (12 + j))))]
theorem CR_same {cI : ClassId} {b : Nat → Nat} {f g : Row} : (CR cI b g).map (fun q => q.1) = (CR cI b f).map (fun q => q.1) := rfl
theorem va_P_cons {D : va_G} {cl : List vw_C} {q : Nat × va_E} {w : va_W} {H : Heap} : va_P D cl (q :: w) H ↔ va_at D cl q H ∧ va_P D cl w H := by
  constructor
  · intro h
    exact ⟨h 0 q rfl, fun k r hk => h (k + 1) r hk⟩
  · intro h k r hk
    cases k with
    | zero => cases hk; exact h.1
    | succ k => exact h.2 k r hk
theorem va_P_nil {D : va_G} {cl : List vw_C} {H : Heap} : va_P D cl [] H := fun k r hk => by simp at hk
theorem va_P_app {D : va_G} {cl : List vw_C} {w1 w2 : va_W} {H : Heap} : va_P D cl (w1 ++ w2) H ↔ va_P D cl w1 H ∧ va_P D cl w2 H := by
  induction w1 with
  | nil => exact ⟨fun h => ⟨va_P_nil, h⟩, fun h => h.2⟩
  | cons q w ih => rw [List.cons_append, va_P_cons, va_P_cons, ih, and_assoc]
theorem vp_cong {cA : ClassId} {n : Nat} {f g : Nat → Int32} (h : ∀ j, j < n → f j = g j) : vp_cell cA (n, .inl f) = vp_cell cA (n, .inl g) := by
  rw [vp_cell_i, vp_cell_i]
  unfold arrV
  congr 2
  funext j
  show Value.int (f j.val) = Value.int (g j.val)
  rw [h j.val j.isLt]
theorem va_at_cong {D : va_G} {cl : List vw_C} {a : Nat} {cA : ClassId} {n : Nat} {f g : Nat → Int32} {H : Heap} (h : ∀ j, j < n → f j = g j) (hat : va_at D cl (a, .inl (cA, n, .inl f)) H) : va_at D cl (a, .inl (cA, n, .inl g)) H := by
  show H[a]? = some (vp_cell cA (n, .inl g))
  rw [← vp_cong h]
  exact hat
theorem cr_of {D : va_G} {cI : ClassId} {b : Nat → Nat} {H : Heap} {x0 x1 x2 x3 x4 x5 x6 : Int32} {r1 r2 r3 r4 r5 r6 r7 : Nat → Int32} {f : Row} (hP : va_P D vwCl [(b 0, .inr (0, [.int x0, .int x1, .int x2, .int x3, .int x4, .int x5, .int x6, .ref (b 1), .ref (b 2), .ref (b 3), .ref (b 4), .ref (b 5), .ref (b 6), .ref (b 7)])), (b 1, .inl (cI, 6, .inl r1)), (b 2, .inl (cI, 6, .inl r2)), (b 3, .inl (cI, 6, .inl r3)), (b 4, .inl (cI, 6, .inl r4)), (b 5, .inl (cI, 6, .inl r5)), (b 6, .inl (cI, 6, .inl r6)), (b 7, .inl (cI, 36, .inl r7))] H) (e0 : x0 = f 66) (e1 : x1 = f 67) (e2 : x2 = f 68) (e3 : x3 = f 70) (e4 : x4 = f 69) (e5 : x5 = f 71) (e6 : x6 = f 72) (q1 : ∀ j, j < 6 → r1 j = f (j)) (q2 : ∀ j, j < 6 → r2 j = f (6 + j)) (q3 : ∀ j, j < 6 → r3 j = f (48 + j)) (q4 : ∀ j, j < 6 → r4 j = f (54 + j)) (q5 : ∀ j, j < 6 → r5 j = f (60 + j)) (q6 : ∀ j, j < 6 → r6 j = f (73 + j)) (q7 : ∀ j, j < 36 → r7 j = f (12 + j)) : va_P D vwCl (CR cI b f) H := by
  subst e0 e1 e2 e3 e4 e5 e6
  unfold CR
  rw [va_P_cons, va_P_cons, va_P_cons, va_P_cons, va_P_cons, va_P_cons, va_P_cons, va_P_cons] at hP ⊢
  obtain ⟨h0, h1, h2, h3, h4, h5, h6, h7, h8⟩ := hP
  exact ⟨h0, va_at_cong q1 h1, va_at_cong q2 h2, va_at_cong q3 h3, va_at_cong q4 h4, va_at_cong q5 h5, va_at_cong q6 h6, va_at_cong q7 h7, h8⟩
theorem up_at {f : Nat → Int32} {o k : Nat} {x : Int32} (j : Nat) : upd (fun j => f (o + j)) k x j = upd f (o + k) x (o + j) := by
  unfold upd
  by_cases h : j = k
  · subst h; simp
  · rw [if_neg h, if_neg (by omega)]
theorem cr_A1 {D : va_G} {cI : ClassId} {b : Nat → Nat} {f : Row} {k : Nat} {x : Int32} {H : Heap} (hk : k < 6) (h : va_P D vwCl ((CR cI b f).set 1 (b 1, .inl (cI, 6, .inl (upd (fun j => f (j)) k x)))) H) : va_P D vwCl (CR cI b (upd f (k) x)) H := cr_of h (pk_un (by omega)).symm (pk_un (by omega)).symm (pk_un (by omega)).symm (pk_un (by omega)).symm (pk_un (by omega)).symm (pk_un (by omega)).symm (pk_un (by omega)).symm (fun j _ => rfl) (fun j hj => (pk_un (by omega)).symm) (fun j hj => (pk_un (by omega)).symm) (fun j hj => (pk_un (by omega)).symm) (fun j hj => (pk_un (by omega)).symm) (fun j hj => (pk_un (by omega)).symm) (fun j hj => (pk_un (by omega)).symm)
theorem cr_A2 {D : va_G} {cI : ClassId} {b : Nat → Nat} {f : Row} {k : Nat} {x : Int32} {H : Heap} (hk : k < 6) (h : va_P D vwCl ((CR cI b f).set 2 (b 2, .inl (cI, 6, .inl (upd (fun j => f (6 + j)) k x)))) H) : va_P D vwCl (CR cI b (upd f (6 + k) x)) H := cr_of h (pk_un (by omega)).symm (pk_un (by omega)).symm (pk_un (by omega)).symm (pk_un (by omega)).symm (pk_un (by omega)).symm (pk_un (by omega)).symm (pk_un (by omega)).symm (fun j hj => (pk_un (by omega)).symm) (fun j _ => up_at j) (fun j hj => (pk_un (by omega)).symm) (fun j hj => (pk_un (by omega)).symm) (fun j hj => (pk_un (by omega)).symm) (fun j hj => (pk_un (by omega)).symm) (fun j hj => (pk_un (by omega)).symm)
theorem cr_A3 {D : va_G} {cI : ClassId} {b : Nat → Nat} {f : Row} {k : Nat} {x : Int32} {H : Heap} (hk : k < 6) (h : va_P D vwCl ((CR cI b f).set 3 (b 3, .inl (cI, 6, .inl (upd (fun j => f (48 + j)) k x)))) H) : va_P D vwCl (CR cI b (upd f (48 + k) x)) H := cr_of h (pk_un (by omega)).symm (pk_un (by omega)).symm (pk_un (by omega)).symm (pk_un (by omega)).symm (pk_un (by omega)).symm (pk_un (by omega)).symm (pk_un (by omega)).symm (fun j hj => (pk_un (by omega)).symm) (fun j hj => (pk_un (by omega)).symm) (fun j _ => up_at j) (fun j hj => (pk_un (by omega)).symm) (fun j hj => (pk_un (by omega)).symm) (fun j hj => (pk_un (by omega)).symm) (fun j hj => (pk_un (by omega)).symm)
theorem cr_A4 {D : va_G} {cI : ClassId} {b : Nat → Nat} {f : Row} {k : Nat} {x : Int32} {H : Heap} (hk : k < 6) (h : va_P D vwCl ((CR cI b f).set 4 (b 4, .inl (cI, 6, .inl (upd (fun j => f (54 + j)) k x)))) H) : va_P D vwCl (CR cI b (upd f (54 + k) x)) H := cr_of h (pk_un (by omega)).symm (pk_un (by omega)).symm (pk_un (by omega)).symm (pk_un (by omega)).symm (pk_un (by omega)).symm (pk_un (by omega)).symm (pk_un (by omega)).symm (fun j hj => (pk_un (by omega)).symm) (fun j hj => (pk_un (by omega)).symm) (fun j hj => (pk_un (by omega)).symm) (fun j _ => up_at j) (fun j hj => (pk_un (by omega)).symm) (fun j hj => (pk_un (by omega)).symm) (fun j hj => (pk_un (by omega)).symm)
theorem cr_A5 {D : va_G} {cI : ClassId} {b : Nat → Nat} {f : Row} {k : Nat} {x : Int32} {H : Heap} (hk : k < 6) (h : va_P D vwCl ((CR cI b f).set 5 (b 5, .inl (cI, 6, .inl (upd (fun j => f (60 + j)) k x)))) H) : va_P D vwCl (CR cI b (upd f (60 + k) x)) H := cr_of h (pk_un (by omega)).symm (pk_un (by omega)).symm (pk_un (by omega)).symm (pk_un (by omega)).symm (pk_un (by omega)).symm (pk_un (by omega)).symm (pk_un (by omega)).symm (fun j hj => (pk_un (by omega)).symm) (fun j hj => (pk_un (by omega)).symm) (fun j hj => (pk_un (by omega)).symm) (fun j hj => (pk_un (by omega)).symm) (fun j _ => up_at j) (fun j hj => (pk_un (by omega)).symm) (fun j hj => (pk_un (by omega)).symm)
theorem cr_A6 {D : va_G} {cI : ClassId} {b : Nat → Nat} {f : Row} {k : Nat} {x : Int32} {H : Heap} (hk : k < 6) (h : va_P D vwCl ((CR cI b f).set 6 (b 6, .inl (cI, 6, .inl (upd (fun j => f (73 + j)) k x)))) H) : va_P D vwCl (CR cI b (upd f (73 + k) x)) H := cr_of h (pk_un (by omega)).symm (pk_un (by omega)).symm (pk_un (by omega)).symm (pk_un (by omega)).symm (pk_un (by omega)).symm (pk_un (by omega)).symm (pk_un (by omega)).symm (fun j hj => (pk_un (by omega)).symm) (fun j hj => (pk_un (by omega)).symm) (fun j hj => (pk_un (by omega)).symm) (fun j hj => (pk_un (by omega)).symm) (fun j hj => (pk_un (by omega)).symm) (fun j _ => up_at j) (fun j hj => (pk_un (by omega)).symm)
theorem cr_A7 {D : va_G} {cI : ClassId} {b : Nat → Nat} {f : Row} {k : Nat} {x : Int32} {H : Heap} (hk : k < 36) (h : va_P D vwCl ((CR cI b f).set 7 (b 7, .inl (cI, 36, .inl (upd (fun j => f (12 + j)) k x)))) H) : va_P D vwCl (CR cI b (upd f (12 + k) x)) H := cr_of h (pk_un (by omega)).symm (pk_un (by omega)).symm (pk_un (by omega)).symm (pk_un (by omega)).symm (pk_un (by omega)).symm (pk_un (by omega)).symm (pk_un (by omega)).symm (fun j hj => (pk_un (by omega)).symm) (fun j hj => (pk_un (by omega)).symm) (fun j hj => (pk_un (by omega)).symm) (fun j hj => (pk_un (by omega)).symm) (fun j hj => (pk_un (by omega)).symm) (fun j hj => (pk_un (by omega)).symm) (fun j _ => up_at j)
theorem cr_F66 {D : va_G} {cI : ClassId} {b : Nat → Nat} {f : Row} {x : Int32} {H : Heap} (h : va_P D vwCl ((CR cI b f).set 0 (b 0, .inr (0, ([.int (f 66), .int (f 67), .int (f 68), .int (f 70), .int (f 69), .int (f 71), .int (f 72), .ref (b 1), .ref (b 2), .ref (b 3), .ref (b 4), .ref (b 5), .ref (b 6), .ref (b 7)] : List Value).set 0 (.int x)))) H) : va_P D vwCl (CR cI b (upd f 66 x)) H := cr_of h pk_us.symm (pk_un (by omega)).symm (pk_un (by omega)).symm (pk_un (by omega)).symm (pk_un (by omega)).symm (pk_un (by omega)).symm (pk_un (by omega)).symm (fun j hj => (pk_un (by omega)).symm) (fun j hj => (pk_un (by omega)).symm) (fun j hj => (pk_un (by omega)).symm) (fun j hj => (pk_un (by omega)).symm) (fun j hj => (pk_un (by omega)).symm) (fun j hj => (pk_un (by omega)).symm) (fun j hj => (pk_un (by omega)).symm)
theorem cr_F67 {D : va_G} {cI : ClassId} {b : Nat → Nat} {f : Row} {x : Int32} {H : Heap} (h : va_P D vwCl ((CR cI b f).set 0 (b 0, .inr (0, ([.int (f 66), .int (f 67), .int (f 68), .int (f 70), .int (f 69), .int (f 71), .int (f 72), .ref (b 1), .ref (b 2), .ref (b 3), .ref (b 4), .ref (b 5), .ref (b 6), .ref (b 7)] : List Value).set 1 (.int x)))) H) : va_P D vwCl (CR cI b (upd f 67 x)) H := cr_of h (pk_un (by omega)).symm pk_us.symm (pk_un (by omega)).symm (pk_un (by omega)).symm (pk_un (by omega)).symm (pk_un (by omega)).symm (pk_un (by omega)).symm (fun j hj => (pk_un (by omega)).symm) (fun j hj => (pk_un (by omega)).symm) (fun j hj => (pk_un (by omega)).symm) (fun j hj => (pk_un (by omega)).symm) (fun j hj => (pk_un (by omega)).symm) (fun j hj => (pk_un (by omega)).symm) (fun j hj => (pk_un (by omega)).symm)
theorem cr_F68 {D : va_G} {cI : ClassId} {b : Nat → Nat} {f : Row} {x : Int32} {H : Heap} (h : va_P D vwCl ((CR cI b f).set 0 (b 0, .inr (0, ([.int (f 66), .int (f 67), .int (f 68), .int (f 70), .int (f 69), .int (f 71), .int (f 72), .ref (b 1), .ref (b 2), .ref (b 3), .ref (b 4), .ref (b 5), .ref (b 6), .ref (b 7)] : List Value).set 2 (.int x)))) H) : va_P D vwCl (CR cI b (upd f 68 x)) H := cr_of h (pk_un (by omega)).symm (pk_un (by omega)).symm pk_us.symm (pk_un (by omega)).symm (pk_un (by omega)).symm (pk_un (by omega)).symm (pk_un (by omega)).symm (fun j hj => (pk_un (by omega)).symm) (fun j hj => (pk_un (by omega)).symm) (fun j hj => (pk_un (by omega)).symm) (fun j hj => (pk_un (by omega)).symm) (fun j hj => (pk_un (by omega)).symm) (fun j hj => (pk_un (by omega)).symm) (fun j hj => (pk_un (by omega)).symm)
theorem cr_F70 {D : va_G} {cI : ClassId} {b : Nat → Nat} {f : Row} {x : Int32} {H : Heap} (h : va_P D vwCl ((CR cI b f).set 0 (b 0, .inr (0, ([.int (f 66), .int (f 67), .int (f 68), .int (f 70), .int (f 69), .int (f 71), .int (f 72), .ref (b 1), .ref (b 2), .ref (b 3), .ref (b 4), .ref (b 5), .ref (b 6), .ref (b 7)] : List Value).set 3 (.int x)))) H) : va_P D vwCl (CR cI b (upd f 70 x)) H := cr_of h (pk_un (by omega)).symm (pk_un (by omega)).symm (pk_un (by omega)).symm pk_us.symm (pk_un (by omega)).symm (pk_un (by omega)).symm (pk_un (by omega)).symm (fun j hj => (pk_un (by omega)).symm) (fun j hj => (pk_un (by omega)).symm) (fun j hj => (pk_un (by omega)).symm) (fun j hj => (pk_un (by omega)).symm) (fun j hj => (pk_un (by omega)).symm) (fun j hj => (pk_un (by omega)).symm) (fun j hj => (pk_un (by omega)).symm)
theorem cr_F69 {D : va_G} {cI : ClassId} {b : Nat → Nat} {f : Row} {x : Int32} {H : Heap} (h : va_P D vwCl ((CR cI b f).set 0 (b 0, .inr (0, ([.int (f 66), .int (f 67), .int (f 68), .int (f 70), .int (f 69), .int (f 71), .int (f 72), .ref (b 1), .ref (b 2), .ref (b 3), .ref (b 4), .ref (b 5), .ref (b 6), .ref (b 7)] : List Value).set 4 (.int x)))) H) : va_P D vwCl (CR cI b (upd f 69 x)) H := cr_of h (pk_un (by omega)).symm (pk_un (by omega)).symm (pk_un (by omega)).symm (pk_un (by omega)).symm pk_us.symm (pk_un (by omega)).symm (pk_un (by omega)).symm (fun j hj => (pk_un (by omega)).symm) (fun j hj => (pk_un (by omega)).symm) (fun j hj => (pk_un (by omega)).symm) (fun j hj => (pk_un (by omega)).symm) (fun j hj => (pk_un (by omega)).symm) (fun j hj => (pk_un (by omega)).symm) (fun j hj => (pk_un (by omega)).symm)
theorem cr_F71 {D : va_G} {cI : ClassId} {b : Nat → Nat} {f : Row} {x : Int32} {H : Heap} (h : va_P D vwCl ((CR cI b f).set 0 (b 0, .inr (0, ([.int (f 66), .int (f 67), .int (f 68), .int (f 70), .int (f 69), .int (f 71), .int (f 72), .ref (b 1), .ref (b 2), .ref (b 3), .ref (b 4), .ref (b 5), .ref (b 6), .ref (b 7)] : List Value).set 5 (.int x)))) H) : va_P D vwCl (CR cI b (upd f 71 x)) H := cr_of h (pk_un (by omega)).symm (pk_un (by omega)).symm (pk_un (by omega)).symm (pk_un (by omega)).symm (pk_un (by omega)).symm pk_us.symm (pk_un (by omega)).symm (fun j hj => (pk_un (by omega)).symm) (fun j hj => (pk_un (by omega)).symm) (fun j hj => (pk_un (by omega)).symm) (fun j hj => (pk_un (by omega)).symm) (fun j hj => (pk_un (by omega)).symm) (fun j hj => (pk_un (by omega)).symm) (fun j hj => (pk_un (by omega)).symm)
theorem cr_F72 {D : va_G} {cI : ClassId} {b : Nat → Nat} {f : Row} {x : Int32} {H : Heap} (h : va_P D vwCl ((CR cI b f).set 0 (b 0, .inr (0, ([.int (f 66), .int (f 67), .int (f 68), .int (f 70), .int (f 69), .int (f 71), .int (f 72), .ref (b 1), .ref (b 2), .ref (b 3), .ref (b 4), .ref (b 5), .ref (b 6), .ref (b 7)] : List Value).set 6 (.int x)))) H) : va_P D vwCl (CR cI b (upd f 72 x)) H := cr_of h (pk_un (by omega)).symm (pk_un (by omega)).symm (pk_un (by omega)).symm (pk_un (by omega)).symm (pk_un (by omega)).symm (pk_un (by omega)).symm pk_us.symm (fun j hj => (pk_un (by omega)).symm) (fun j hj => (pk_un (by omega)).symm) (fun j hj => (pk_un (by omega)).symm) (fun j hj => (pk_un (by omega)).symm) (fun j hj => (pk_un (by omega)).symm) (fun j hj => (pk_un (by omega)).symm) (fun j hj => (pk_un (by omega)).symm)
section CRG
variable {p : Program} {l : Launch} {e : Env} {R : Room} {s : State} {m : MethodId} {args : Array Value} {below : List Frame} {meth : Method} {c : Code} {Q : State → Prop} {D : va_G} {A : Nat → Prop} {nL : Nat} {Ts : List Cond} {own : String} {cc : ByteArray} {tys : List (ClassId × FieldType)} {cells slots : Nat} {w : va_W} {pc : Nat} {lv lv' : List (Nat × Value)} {st : List Value} {cI : ClassId} {b : Nat → Nat} {f : Row} {k : Nat} {x : Int32}
theorem g_cA1 (F : gFx p m c cc nL s args Ts own D tys A) (ht : tys[0]? = some (cI, .int)) (hk : k < 6) (d : decode cc pc = .ok (.iastore, 1)) (kk : Go p l e R s m args below meth c Q D A nL cells slots (CR cI b (upd f (k) x)) (pc + 1) lv st) : Go p l e R s m args below meth c Q D A nL cells slots (CR cI b f) pc lv (.int x :: .int (nI k) :: .ref (b 1) :: st) :=
  g_iast F _ 1 0 rfl ht hk (by decide) d rfl (g_wp (fun H h => cr_A1 hk h) rfl kk)
theorem g_lA1 (F : gFx p m c cc nL s args Ts own D tys A) (ht : tys[0]? = some (cI, .int)) (hk : k < 6) (d : decode cc pc = .ok (.iaload, 1)) (kk : Go p l e R s m args below meth c Q D A nL cells slots (CR cI b f) (pc + 1) lv (.int (f (k)) :: st)) : Go p l e R s m args below meth c Q D A nL cells slots (CR cI b f) pc lv (.int (nI k) :: .ref (b 1) :: st) :=
  g_iald F 1 0 rfl ht hk (by decide) d kk
theorem g_cA2 (F : gFx p m c cc nL s args Ts own D tys A) (ht : tys[0]? = some (cI, .int)) (hk : k < 6) (d : decode cc pc = .ok (.iastore, 1)) (kk : Go p l e R s m args below meth c Q D A nL cells slots (CR cI b (upd f (6 + k) x)) (pc + 1) lv st) : Go p l e R s m args below meth c Q D A nL cells slots (CR cI b f) pc lv (.int x :: .int (nI k) :: .ref (b 2) :: st) :=
  g_iast F _ 2 0 rfl ht hk (by decide) d rfl (g_wp (fun H h => cr_A2 hk h) rfl kk)
theorem g_lA2 (F : gFx p m c cc nL s args Ts own D tys A) (ht : tys[0]? = some (cI, .int)) (hk : k < 6) (d : decode cc pc = .ok (.iaload, 1)) (kk : Go p l e R s m args below meth c Q D A nL cells slots (CR cI b f) (pc + 1) lv (.int (f (6 + k)) :: st)) : Go p l e R s m args below meth c Q D A nL cells slots (CR cI b f) pc lv (.int (nI k) :: .ref (b 2) :: st) :=
  g_iald F 2 0 rfl ht hk (by decide) d kk
theorem g_cA3 (F : gFx p m c cc nL s args Ts own D tys A) (ht : tys[0]? = some (cI, .int)) (hk : k < 6) (d : decode cc pc = .ok (.iastore, 1)) (kk : Go p l e R s m args below meth c Q D A nL cells slots (CR cI b (upd f (48 + k) x)) (pc + 1) lv st) : Go p l e R s m args below meth c Q D A nL cells slots (CR cI b f) pc lv (.int x :: .int (nI k) :: .ref (b 3) :: st) :=
  g_iast F _ 3 0 rfl ht hk (by decide) d rfl (g_wp (fun H h => cr_A3 hk h) rfl kk)
theorem g_lA3 (F : gFx p m c cc nL s args Ts own D tys A) (ht : tys[0]? = some (cI, .int)) (hk : k < 6) (d : decode cc pc = .ok (.iaload, 1)) (kk : Go p l e R s m args below meth c Q D A nL cells slots (CR cI b f) (pc + 1) lv (.int (f (48 + k)) :: st)) : Go p l e R s m args below meth c Q D A nL cells slots (CR cI b f) pc lv (.int (nI k) :: .ref (b 3) :: st) :=
  g_iald F 3 0 rfl ht hk (by decide) d kk
theorem g_cA4 (F : gFx p m c cc nL s args Ts own D tys A) (ht : tys[0]? = some (cI, .int)) (hk : k < 6) (d : decode cc pc = .ok (.iastore, 1)) (kk : Go p l e R s m args below meth c Q D A nL cells slots (CR cI b (upd f (54 + k) x)) (pc + 1) lv st) : Go p l e R s m args below meth c Q D A nL cells slots (CR cI b f) pc lv (.int x :: .int (nI k) :: .ref (b 4) :: st) :=
  g_iast F _ 4 0 rfl ht hk (by decide) d rfl (g_wp (fun H h => cr_A4 hk h) rfl kk)
theorem g_lA4 (F : gFx p m c cc nL s args Ts own D tys A) (ht : tys[0]? = some (cI, .int)) (hk : k < 6) (d : decode cc pc = .ok (.iaload, 1)) (kk : Go p l e R s m args below meth c Q D A nL cells slots (CR cI b f) (pc + 1) lv (.int (f (54 + k)) :: st)) : Go p l e R s m args below meth c Q D A nL cells slots (CR cI b f) pc lv (.int (nI k) :: .ref (b 4) :: st) :=
  g_iald F 4 0 rfl ht hk (by decide) d kk
theorem g_cA5 (F : gFx p m c cc nL s args Ts own D tys A) (ht : tys[0]? = some (cI, .int)) (hk : k < 6) (d : decode cc pc = .ok (.iastore, 1)) (kk : Go p l e R s m args below meth c Q D A nL cells slots (CR cI b (upd f (60 + k) x)) (pc + 1) lv st) : Go p l e R s m args below meth c Q D A nL cells slots (CR cI b f) pc lv (.int x :: .int (nI k) :: .ref (b 5) :: st) :=
  g_iast F _ 5 0 rfl ht hk (by decide) d rfl (g_wp (fun H h => cr_A5 hk h) rfl kk)
theorem g_lA5 (F : gFx p m c cc nL s args Ts own D tys A) (ht : tys[0]? = some (cI, .int)) (hk : k < 6) (d : decode cc pc = .ok (.iaload, 1)) (kk : Go p l e R s m args below meth c Q D A nL cells slots (CR cI b f) (pc + 1) lv (.int (f (60 + k)) :: st)) : Go p l e R s m args below meth c Q D A nL cells slots (CR cI b f) pc lv (.int (nI k) :: .ref (b 5) :: st) :=
  g_iald F 5 0 rfl ht hk (by decide) d kk
theorem g_cA6 (F : gFx p m c cc nL s args Ts own D tys A) (ht : tys[0]? = some (cI, .int)) (hk : k < 6) (d : decode cc pc = .ok (.iastore, 1)) (kk : Go p l e R s m args below meth c Q D A nL cells slots (CR cI b (upd f (73 + k) x)) (pc + 1) lv st) : Go p l e R s m args below meth c Q D A nL cells slots (CR cI b f) pc lv (.int x :: .int (nI k) :: .ref (b 6) :: st) :=
  g_iast F _ 6 0 rfl ht hk (by decide) d rfl (g_wp (fun H h => cr_A6 hk h) rfl kk)
theorem g_lA6 (F : gFx p m c cc nL s args Ts own D tys A) (ht : tys[0]? = some (cI, .int)) (hk : k < 6) (d : decode cc pc = .ok (.iaload, 1)) (kk : Go p l e R s m args below meth c Q D A nL cells slots (CR cI b f) (pc + 1) lv (.int (f (73 + k)) :: st)) : Go p l e R s m args below meth c Q D A nL cells slots (CR cI b f) pc lv (.int (nI k) :: .ref (b 6) :: st) :=
  g_iald F 6 0 rfl ht hk (by decide) d kk
theorem g_cA7 (F : gFx p m c cc nL s args Ts own D tys A) (ht : tys[0]? = some (cI, .int)) (hk : k < 36) (d : decode cc pc = .ok (.iastore, 1)) (kk : Go p l e R s m args below meth c Q D A nL cells slots (CR cI b (upd f (12 + k) x)) (pc + 1) lv st) : Go p l e R s m args below meth c Q D A nL cells slots (CR cI b f) pc lv (.int x :: .int (nI k) :: .ref (b 7) :: st) :=
  g_iast F _ 7 0 rfl ht hk (by decide) d rfl (g_wp (fun H h => cr_A7 hk h) rfl kk)
theorem g_lA7 (F : gFx p m c cc nL s args Ts own D tys A) (ht : tys[0]? = some (cI, .int)) (hk : k < 36) (d : decode cc pc = .ok (.iaload, 1)) (kk : Go p l e R s m args below meth c Q D A nL cells slots (CR cI b f) (pc + 1) lv (.int (f (12 + k)) :: st)) : Go p l e R s m args below meth c Q D A nL cells slots (CR cI b f) pc lv (.int (nI k) :: .ref (b 7) :: st) :=
  g_iald F 7 0 rfl ht hk (by decide) d kk
theorem g_cF66 (F : gFx p m c cc nL s args Ts own D tys A) {ix : Nat} (hin : ∀ w ∈ u_ws RX0 TX0 14, w ∈ Ts) (hlink : Cond.fieldLink own ix (TX0 0).1 (TX0 0).2.1 (TX0 0).2.2.1 ∈ Ts) (d : decode cc pc = .ok (.putfield ix, 3)) (kk : Go p l e R s m args below meth c Q D A nL cells slots (CR cI b (upd f 66 x)) (pc + 3) lv st) : Go p l e R s m args below meth c Q D A nL cells slots (CR cI b f) pc lv (.int x :: .ref (b 0) :: st) :=
  g_put F _ hin tyX0 tyX0_ok nmX0 0 rfl rfl 0 (by decide) rfl rfl rfl (Nat.le_of_ble_eq_true rfl) hlink d rfl (g_wp (fun H h => cr_F66 h) rfl kk)
theorem g_lF66 (F : gFx p m c cc nL s args Ts own D tys A) {ix : Nat} (hin : ∀ w ∈ u_ws RX0 TX0 14, w ∈ Ts) (hlink : Cond.fieldLink own ix (TX0 0).1 (TX0 0).2.1 (TX0 0).2.2.1 ∈ Ts) (d : decode cc pc = .ok (.getfield ix, 3)) (kk : Go p l e R s m args below meth c Q D A nL cells slots (CR cI b f) (pc + 3) lv (.int (f 66) :: st)) : Go p l e R s m args below meth c Q D A nL cells slots (CR cI b f) pc lv (.ref (b 0) :: st) :=
  g_get F _ hin 0 rfl rfl 0 (by decide) rfl hlink d kk
theorem g_cF67 (F : gFx p m c cc nL s args Ts own D tys A) {ix : Nat} (hin : ∀ w ∈ u_ws RX0 TX0 14, w ∈ Ts) (hlink : Cond.fieldLink own ix (TX0 1).1 (TX0 1).2.1 (TX0 1).2.2.1 ∈ Ts) (d : decode cc pc = .ok (.putfield ix, 3)) (kk : Go p l e R s m args below meth c Q D A nL cells slots (CR cI b (upd f 67 x)) (pc + 3) lv st) : Go p l e R s m args below meth c Q D A nL cells slots (CR cI b f) pc lv (.int x :: .ref (b 0) :: st) :=
  g_put F _ hin tyX0 tyX0_ok nmX0 0 rfl rfl 1 (by decide) rfl rfl rfl (Nat.le_of_ble_eq_true rfl) hlink d rfl (g_wp (fun H h => cr_F67 h) rfl kk)
theorem g_lF67 (F : gFx p m c cc nL s args Ts own D tys A) {ix : Nat} (hin : ∀ w ∈ u_ws RX0 TX0 14, w ∈ Ts) (hlink : Cond.fieldLink own ix (TX0 1).1 (TX0 1).2.1 (TX0 1).2.2.1 ∈ Ts) (d : decode cc pc = .ok (.getfield ix, 3)) (kk : Go p l e R s m args below meth c Q D A nL cells slots (CR cI b f) (pc + 3) lv (.int (f 67) :: st)) : Go p l e R s m args below meth c Q D A nL cells slots (CR cI b f) pc lv (.ref (b 0) :: st) :=
  g_get F _ hin 0 rfl rfl 1 (by decide) rfl hlink d kk
theorem g_cF68 (F : gFx p m c cc nL s args Ts own D tys A) {ix : Nat} (hin : ∀ w ∈ u_ws RX0 TX0 14, w ∈ Ts) (hlink : Cond.fieldLink own ix (TX0 2).1 (TX0 2).2.1 (TX0 2).2.2.1 ∈ Ts) (d : decode cc pc = .ok (.putfield ix, 3)) (kk : Go p l e R s m args below meth c Q D A nL cells slots (CR cI b (upd f 68 x)) (pc + 3) lv st) : Go p l e R s m args below meth c Q D A nL cells slots (CR cI b f) pc lv (.int x :: .ref (b 0) :: st) :=
  g_put F _ hin tyX0 tyX0_ok nmX0 0 rfl rfl 2 (by decide) rfl rfl rfl (Nat.le_of_ble_eq_true rfl) hlink d rfl (g_wp (fun H h => cr_F68 h) rfl kk)
theorem g_lF68 (F : gFx p m c cc nL s args Ts own D tys A) {ix : Nat} (hin : ∀ w ∈ u_ws RX0 TX0 14, w ∈ Ts) (hlink : Cond.fieldLink own ix (TX0 2).1 (TX0 2).2.1 (TX0 2).2.2.1 ∈ Ts) (d : decode cc pc = .ok (.getfield ix, 3)) (kk : Go p l e R s m args below meth c Q D A nL cells slots (CR cI b f) (pc + 3) lv (.int (f 68) :: st)) : Go p l e R s m args below meth c Q D A nL cells slots (CR cI b f) pc lv (.ref (b 0) :: st) :=
  g_get F _ hin 0 rfl rfl 2 (by decide) rfl hlink d kk
theorem g_cF70 (F : gFx p m c cc nL s args Ts own D tys A) {ix : Nat} (hin : ∀ w ∈ u_ws RX0 TX0 14, w ∈ Ts) (hlink : Cond.fieldLink own ix (TX0 3).1 (TX0 3).2.1 (TX0 3).2.2.1 ∈ Ts) (d : decode cc pc = .ok (.putfield ix, 3)) (kk : Go p l e R s m args below meth c Q D A nL cells slots (CR cI b (upd f 70 x)) (pc + 3) lv st) : Go p l e R s m args below meth c Q D A nL cells slots (CR cI b f) pc lv (.int x :: .ref (b 0) :: st) :=
  g_put F _ hin tyX0 tyX0_ok nmX0 0 rfl rfl 3 (by decide) rfl rfl rfl (Nat.le_of_ble_eq_true rfl) hlink d rfl (g_wp (fun H h => cr_F70 h) rfl kk)
theorem g_lF70 (F : gFx p m c cc nL s args Ts own D tys A) {ix : Nat} (hin : ∀ w ∈ u_ws RX0 TX0 14, w ∈ Ts) (hlink : Cond.fieldLink own ix (TX0 3).1 (TX0 3).2.1 (TX0 3).2.2.1 ∈ Ts) (d : decode cc pc = .ok (.getfield ix, 3)) (kk : Go p l e R s m args below meth c Q D A nL cells slots (CR cI b f) (pc + 3) lv (.int (f 70) :: st)) : Go p l e R s m args below meth c Q D A nL cells slots (CR cI b f) pc lv (.ref (b 0) :: st) :=
  g_get F _ hin 0 rfl rfl 3 (by decide) rfl hlink d kk
theorem g_cF69 (F : gFx p m c cc nL s args Ts own D tys A) {ix : Nat} (hin : ∀ w ∈ u_ws RX0 TX0 14, w ∈ Ts) (hlink : Cond.fieldLink own ix (TX0 4).1 (TX0 4).2.1 (TX0 4).2.2.1 ∈ Ts) (d : decode cc pc = .ok (.putfield ix, 3)) (kk : Go p l e R s m args below meth c Q D A nL cells slots (CR cI b (upd f 69 x)) (pc + 3) lv st) : Go p l e R s m args below meth c Q D A nL cells slots (CR cI b f) pc lv (.int x :: .ref (b 0) :: st) :=
  g_put F _ hin tyX0 tyX0_ok nmX0 0 rfl rfl 4 (by decide) rfl rfl rfl (Nat.le_of_ble_eq_true rfl) hlink d rfl (g_wp (fun H h => cr_F69 h) rfl kk)
theorem g_lF69 (F : gFx p m c cc nL s args Ts own D tys A) {ix : Nat} (hin : ∀ w ∈ u_ws RX0 TX0 14, w ∈ Ts) (hlink : Cond.fieldLink own ix (TX0 4).1 (TX0 4).2.1 (TX0 4).2.2.1 ∈ Ts) (d : decode cc pc = .ok (.getfield ix, 3)) (kk : Go p l e R s m args below meth c Q D A nL cells slots (CR cI b f) (pc + 3) lv (.int (f 69) :: st)) : Go p l e R s m args below meth c Q D A nL cells slots (CR cI b f) pc lv (.ref (b 0) :: st) :=
  g_get F _ hin 0 rfl rfl 4 (by decide) rfl hlink d kk
theorem g_cF71 (F : gFx p m c cc nL s args Ts own D tys A) {ix : Nat} (hin : ∀ w ∈ u_ws RX0 TX0 14, w ∈ Ts) (hlink : Cond.fieldLink own ix (TX0 5).1 (TX0 5).2.1 (TX0 5).2.2.1 ∈ Ts) (d : decode cc pc = .ok (.putfield ix, 3)) (kk : Go p l e R s m args below meth c Q D A nL cells slots (CR cI b (upd f 71 x)) (pc + 3) lv st) : Go p l e R s m args below meth c Q D A nL cells slots (CR cI b f) pc lv (.int x :: .ref (b 0) :: st) :=
  g_put F _ hin tyX0 tyX0_ok nmX0 0 rfl rfl 5 (by decide) rfl rfl rfl (Nat.le_of_ble_eq_true rfl) hlink d rfl (g_wp (fun H h => cr_F71 h) rfl kk)
theorem g_lF71 (F : gFx p m c cc nL s args Ts own D tys A) {ix : Nat} (hin : ∀ w ∈ u_ws RX0 TX0 14, w ∈ Ts) (hlink : Cond.fieldLink own ix (TX0 5).1 (TX0 5).2.1 (TX0 5).2.2.1 ∈ Ts) (d : decode cc pc = .ok (.getfield ix, 3)) (kk : Go p l e R s m args below meth c Q D A nL cells slots (CR cI b f) (pc + 3) lv (.int (f 71) :: st)) : Go p l e R s m args below meth c Q D A nL cells slots (CR cI b f) pc lv (.ref (b 0) :: st) :=
  g_get F _ hin 0 rfl rfl 5 (by decide) rfl hlink d kk
theorem g_cF72 (F : gFx p m c cc nL s args Ts own D tys A) {ix : Nat} (hin : ∀ w ∈ u_ws RX0 TX0 14, w ∈ Ts) (hlink : Cond.fieldLink own ix (TX0 6).1 (TX0 6).2.1 (TX0 6).2.2.1 ∈ Ts) (d : decode cc pc = .ok (.putfield ix, 3)) (kk : Go p l e R s m args below meth c Q D A nL cells slots (CR cI b (upd f 72 x)) (pc + 3) lv st) : Go p l e R s m args below meth c Q D A nL cells slots (CR cI b f) pc lv (.int x :: .ref (b 0) :: st) :=
  g_put F _ hin tyX0 tyX0_ok nmX0 0 rfl rfl 6 (by decide) rfl rfl rfl (Nat.le_of_ble_eq_true rfl) hlink d rfl (g_wp (fun H h => cr_F72 h) rfl kk)
theorem g_lF72 (F : gFx p m c cc nL s args Ts own D tys A) {ix : Nat} (hin : ∀ w ∈ u_ws RX0 TX0 14, w ∈ Ts) (hlink : Cond.fieldLink own ix (TX0 6).1 (TX0 6).2.1 (TX0 6).2.2.1 ∈ Ts) (d : decode cc pc = .ok (.getfield ix, 3)) (kk : Go p l e R s m args below meth c Q D A nL cells slots (CR cI b f) (pc + 3) lv (.int (f 72) :: st)) : Go p l e R s m args below meth c Q D A nL cells slots (CR cI b f) pc lv (.ref (b 0) :: st) :=
  g_get F _ hin 0 rfl rfl 6 (by decide) rfl hlink d kk
theorem g_lR1 (F : gFx p m c cc nL s args Ts own D tys A) {ix : Nat} (hin : ∀ w ∈ u_ws RX0 TX0 14, w ∈ Ts) (hlink : Cond.fieldLink own ix (TX0 7).1 (TX0 7).2.1 (TX0 7).2.2.1 ∈ Ts) (d : decode cc pc = .ok (.getfield ix, 3)) (kk : Go p l e R s m args below meth c Q D A nL cells slots (CR cI b f) (pc + 3) lv (.ref (b 1) :: st)) : Go p l e R s m args below meth c Q D A nL cells slots (CR cI b f) pc lv (.ref (b 0) :: st) :=
  g_get F _ hin 0 rfl rfl 7 (by decide) rfl hlink d kk
theorem g_lR2 (F : gFx p m c cc nL s args Ts own D tys A) {ix : Nat} (hin : ∀ w ∈ u_ws RX0 TX0 14, w ∈ Ts) (hlink : Cond.fieldLink own ix (TX0 8).1 (TX0 8).2.1 (TX0 8).2.2.1 ∈ Ts) (d : decode cc pc = .ok (.getfield ix, 3)) (kk : Go p l e R s m args below meth c Q D A nL cells slots (CR cI b f) (pc + 3) lv (.ref (b 2) :: st)) : Go p l e R s m args below meth c Q D A nL cells slots (CR cI b f) pc lv (.ref (b 0) :: st) :=
  g_get F _ hin 0 rfl rfl 8 (by decide) rfl hlink d kk
theorem g_lR3 (F : gFx p m c cc nL s args Ts own D tys A) {ix : Nat} (hin : ∀ w ∈ u_ws RX0 TX0 14, w ∈ Ts) (hlink : Cond.fieldLink own ix (TX0 9).1 (TX0 9).2.1 (TX0 9).2.2.1 ∈ Ts) (d : decode cc pc = .ok (.getfield ix, 3)) (kk : Go p l e R s m args below meth c Q D A nL cells slots (CR cI b f) (pc + 3) lv (.ref (b 3) :: st)) : Go p l e R s m args below meth c Q D A nL cells slots (CR cI b f) pc lv (.ref (b 0) :: st) :=
  g_get F _ hin 0 rfl rfl 9 (by decide) rfl hlink d kk
theorem g_lR4 (F : gFx p m c cc nL s args Ts own D tys A) {ix : Nat} (hin : ∀ w ∈ u_ws RX0 TX0 14, w ∈ Ts) (hlink : Cond.fieldLink own ix (TX0 10).1 (TX0 10).2.1 (TX0 10).2.2.1 ∈ Ts) (d : decode cc pc = .ok (.getfield ix, 3)) (kk : Go p l e R s m args below meth c Q D A nL cells slots (CR cI b f) (pc + 3) lv (.ref (b 4) :: st)) : Go p l e R s m args below meth c Q D A nL cells slots (CR cI b f) pc lv (.ref (b 0) :: st) :=
  g_get F _ hin 0 rfl rfl 10 (by decide) rfl hlink d kk
theorem g_lR5 (F : gFx p m c cc nL s args Ts own D tys A) {ix : Nat} (hin : ∀ w ∈ u_ws RX0 TX0 14, w ∈ Ts) (hlink : Cond.fieldLink own ix (TX0 11).1 (TX0 11).2.1 (TX0 11).2.2.1 ∈ Ts) (d : decode cc pc = .ok (.getfield ix, 3)) (kk : Go p l e R s m args below meth c Q D A nL cells slots (CR cI b f) (pc + 3) lv (.ref (b 5) :: st)) : Go p l e R s m args below meth c Q D A nL cells slots (CR cI b f) pc lv (.ref (b 0) :: st) :=
  g_get F _ hin 0 rfl rfl 11 (by decide) rfl hlink d kk
theorem g_lR6 (F : gFx p m c cc nL s args Ts own D tys A) {ix : Nat} (hin : ∀ w ∈ u_ws RX0 TX0 14, w ∈ Ts) (hlink : Cond.fieldLink own ix (TX0 12).1 (TX0 12).2.1 (TX0 12).2.2.1 ∈ Ts) (d : decode cc pc = .ok (.getfield ix, 3)) (kk : Go p l e R s m args below meth c Q D A nL cells slots (CR cI b f) (pc + 3) lv (.ref (b 6) :: st)) : Go p l e R s m args below meth c Q D A nL cells slots (CR cI b f) pc lv (.ref (b 0) :: st) :=
  g_get F _ hin 0 rfl rfl 12 (by decide) rfl hlink d kk
theorem g_lR7 (F : gFx p m c cc nL s args Ts own D tys A) {ix : Nat} (hin : ∀ w ∈ u_ws RX0 TX0 14, w ∈ Ts) (hlink : Cond.fieldLink own ix (TX0 13).1 (TX0 13).2.1 (TX0 13).2.2.1 ∈ Ts) (d : decode cc pc = .ok (.getfield ix, 3)) (kk : Go p l e R s m args below meth c Q D A nL cells slots (CR cI b f) (pc + 3) lv (.ref (b 7) :: st)) : Go p l e R s m args below meth c Q D A nL cells slots (CR cI b f) pc lv (.ref (b 0) :: st) :=
  g_get F _ hin 0 rfl rfl 13 (by decide) rfl hlink d kk
end CRG
end
section
theorem dX0_init_0 : decode cX0_init 0 = .ok (.aload_n 0, 1) := by decide +kernel
theorem dX0_init_1 : decode cX0_init 1 = .ok (.invokespecial 3, 3) := by decide +kernel
theorem dX0_init_4 : decode cX0_init 4 = .ok (.aload_n 0, 1) := by decide +kernel
theorem dX0_init_5 : decode cX0_init 5 = .ok (.iconst 1, 1) := by decide +kernel
theorem dX0_init_6 : decode cX0_init 6 = .ok (.putfield 9, 3) := by decide +kernel
theorem dX0_init_9 : decode cX0_init 9 = .ok (.aload_n 0, 1) := by decide +kernel
theorem dX0_init_10 : decode cX0_init 10 = .ok (.iconst 1, 1) := by decide +kernel
theorem dX0_init_11 : decode cX0_init 11 = .ok (.putfield 15, 3) := by decide +kernel
theorem dX0_init_14 : decode cX0_init 14 = .ok (.aload_n 0, 1) := by decide +kernel
theorem dX0_init_15 : decode cX0_init 15 = .ok (.iconst 1, 1) := by decide +kernel
theorem dX0_init_16 : decode cX0_init 16 = .ok (.putfield 18, 3) := by decide +kernel
theorem dX0_init_19 : decode cX0_init 19 = .ok (.aload_n 0, 1) := by decide +kernel
theorem dX0_init_20 : decode cX0_init 20 = .ok (.iconst 0, 1) := by decide +kernel
theorem dX0_init_21 : decode cX0_init 21 = .ok (.putfield 21, 3) := by decide +kernel
theorem dX0_init_24 : decode cX0_init 24 = .ok (.aload_n 0, 1) := by decide +kernel
theorem dX0_init_25 : decode cX0_init 25 = .ok (.iconst 0, 1) := by decide +kernel
theorem dX0_init_26 : decode cX0_init 26 = .ok (.putfield 24, 3) := by decide +kernel
theorem dX0_init_29 : decode cX0_init 29 = .ok (.aload_n 0, 1) := by decide +kernel
theorem dX0_init_30 : decode cX0_init 30 = .ok (.iconst 0, 1) := by decide +kernel
theorem dX0_init_31 : decode cX0_init 31 = .ok (.putfield 27, 3) := by decide +kernel
theorem dX0_init_34 : decode cX0_init 34 = .ok (.aload_n 0, 1) := by decide +kernel
theorem dX0_init_35 : decode cX0_init 35 = .ok (.iconst 0, 1) := by decide +kernel
theorem dX0_init_36 : decode cX0_init 36 = .ok (.putfield 30, 3) := by decide +kernel
theorem dX0_init_39 : decode cX0_init 39 = .ok (.aload_n 0, 1) := by decide +kernel
theorem dX0_init_40 : decode cX0_init 40 = .ok (.bipush 6, 2) := by decide +kernel
theorem dX0_init_42 : decode cX0_init 42 = .ok (.newarray .int, 2) := by decide +kernel
theorem dX0_init_44 : decode cX0_init 44 = .ok (.putfield 33, 3) := by decide +kernel
theorem dX0_init_47 : decode cX0_init 47 = .ok (.aload_n 0, 1) := by decide +kernel
theorem dX0_init_48 : decode cX0_init 48 = .ok (.bipush 6, 2) := by decide +kernel
theorem dX0_init_50 : decode cX0_init 50 = .ok (.newarray .int, 2) := by decide +kernel
theorem dX0_init_52 : decode cX0_init 52 = .ok (.putfield 37, 3) := by decide +kernel
theorem dX0_init_55 : decode cX0_init 55 = .ok (.aload_n 0, 1) := by decide +kernel
theorem dX0_init_56 : decode cX0_init 56 = .ok (.bipush 6, 2) := by decide +kernel
theorem dX0_init_58 : decode cX0_init 58 = .ok (.newarray .int, 2) := by decide +kernel
theorem dX0_init_60 : decode cX0_init 60 = .ok (.putfield 40, 3) := by decide +kernel
theorem dX0_init_63 : decode cX0_init 63 = .ok (.aload_n 0, 1) := by decide +kernel
theorem dX0_init_64 : decode cX0_init 64 = .ok (.bipush 6, 2) := by decide +kernel
theorem dX0_init_66 : decode cX0_init 66 = .ok (.newarray .int, 2) := by decide +kernel
theorem dX0_init_68 : decode cX0_init 68 = .ok (.putfield 43, 3) := by decide +kernel
theorem dX0_init_71 : decode cX0_init 71 = .ok (.aload_n 0, 1) := by decide +kernel
theorem dX0_init_72 : decode cX0_init 72 = .ok (.bipush 6, 2) := by decide +kernel
theorem dX0_init_74 : decode cX0_init 74 = .ok (.newarray .int, 2) := by decide +kernel
theorem dX0_init_76 : decode cX0_init 76 = .ok (.putfield 46, 3) := by decide +kernel
theorem dX0_init_79 : decode cX0_init 79 = .ok (.aload_n 0, 1) := by decide +kernel
theorem dX0_init_80 : decode cX0_init 80 = .ok (.bipush 6, 2) := by decide +kernel
theorem dX0_init_82 : decode cX0_init 82 = .ok (.newarray .int, 2) := by decide +kernel
theorem dX0_init_84 : decode cX0_init 84 = .ok (.putfield 49, 3) := by decide +kernel
theorem dX0_init_87 : decode cX0_init 87 = .ok (.aload_n 0, 1) := by decide +kernel
theorem dX0_init_88 : decode cX0_init 88 = .ok (.bipush 36, 2) := by decide +kernel
theorem dX0_init_90 : decode cX0_init 90 = .ok (.newarray .int, 2) := by decide +kernel
theorem dX0_init_92 : decode cX0_init 92 = .ok (.putfield 52, 3) := by decide +kernel
theorem dX0_init_95 : decode cX0_init 95 = .ok (.return_, 1) := by decide +kernel
set_option maxRecDepth 20000 in
theorem ggX0_restart_X0_goAway : GoodIn wsX0_restart wsX0_goAway := goodIn_r _ [9, 10, 11, 12, 13, 14, 15, 16, 17, 18, 19, 20, 21, 22, 23, 24, 25, 26, 27, 28] (by decide +kernel) (by decide +kernel)
set_option maxRecDepth 20000 in
theorem gX0_restart_X0_goAway : GoodIn wsX0_restart (wsV RX0 55 RX0 yX0_goAway wsX0_goAway) := goodIn_app (goodIn_of _ (by decide +kernel)) ggX0_restart_X0_goAway
theorem dX0_restart_0 : decode cX0_restart 0 = .ok (.aload_n 0, 1) := by decide +kernel
theorem dX0_restart_1 : decode cX0_restart 1 = .ok (.iconst 0, 1) := by decide +kernel
theorem dX0_restart_2 : decode cX0_restart 2 = .ok (.putfield 21, 3) := by decide +kernel
theorem dX0_restart_5 : decode cX0_restart 5 = .ok (.aload_n 0, 1) := by decide +kernel
theorem dX0_restart_6 : decode cX0_restart 6 = .ok (.iconst 0, 1) := by decide +kernel
theorem dX0_restart_7 : decode cX0_restart 7 = .ok (.putfield 27, 3) := by decide +kernel
theorem dX0_restart_10 : decode cX0_restart 10 = .ok (.aload_n 0, 1) := by decide +kernel
theorem dX0_restart_11 : decode cX0_restart 11 = .ok (.iconst 0, 1) := by decide +kernel
theorem dX0_restart_12 : decode cX0_restart 12 = .ok (.putfield 30, 3) := by decide +kernel
theorem dX0_restart_15 : decode cX0_restart 15 = .ok (.iconst 0, 1) := by decide +kernel
theorem dX0_restart_16 : decode cX0_restart 16 = .ok (.istore_n 1, 1) := by decide +kernel
theorem dX0_restart_17 : decode cX0_restart 17 = .ok (.iload_n 1, 1) := by decide +kernel
theorem dX0_restart_18 : decode cX0_restart 18 = .ok (.bipush 6, 2) := by decide +kernel
theorem dX0_restart_20 : decode cX0_restart 20 = .ok (.if_icmp .ge 21, 3) := by decide +kernel
theorem dX0_restart_23 : decode cX0_restart 23 = .ok (.aload_n 0, 1) := by decide +kernel
theorem dX0_restart_24 : decode cX0_restart 24 = .ok (.iload_n 1, 1) := by decide +kernel
theorem dX0_restart_25 : decode cX0_restart 25 = .ok (.invokevirtual 55, 3) := by decide +kernel
theorem dX0_restart_28 : decode cX0_restart 28 = .ok (.aload_n 0, 1) := by decide +kernel
theorem dX0_restart_29 : decode cX0_restart 29 = .ok (.getfield 49, 3) := by decide +kernel
theorem dX0_restart_32 : decode cX0_restart 32 = .ok (.iload_n 1, 1) := by decide +kernel
theorem dX0_restart_33 : decode cX0_restart 33 = .ok (.iconst 0, 1) := by decide +kernel
theorem dX0_restart_34 : decode cX0_restart 34 = .ok (.iastore, 1) := by decide +kernel
theorem dX0_restart_35 : decode cX0_restart 35 = .ok (.iinc 1 1, 3) := by decide +kernel
theorem dX0_restart_38 : decode cX0_restart 38 = .ok (.goto (-21), 3) := by decide +kernel
theorem dX0_restart_41 : decode cX0_restart 41 = .ok (.return_, 1) := by decide +kernel
theorem dX0_takeFrom_0 : decode cX0_takeFrom 0 = .ok (.aload_n 0, 1) := by decide +kernel
theorem dX0_takeFrom_1 : decode cX0_takeFrom 1 = .ok (.aload_n 1, 1) := by decide +kernel
theorem dX0_takeFrom_2 : decode cX0_takeFrom 2 = .ok (.getfield 9, 3) := by decide +kernel
theorem dX0_takeFrom_5 : decode cX0_takeFrom 5 = .ok (.putfield 9, 3) := by decide +kernel
theorem dX0_takeFrom_8 : decode cX0_takeFrom 8 = .ok (.aload_n 0, 1) := by decide +kernel
theorem dX0_takeFrom_9 : decode cX0_takeFrom 9 = .ok (.aload_n 1, 1) := by decide +kernel
theorem dX0_takeFrom_10 : decode cX0_takeFrom 10 = .ok (.getfield 15, 3) := by decide +kernel
theorem dX0_takeFrom_13 : decode cX0_takeFrom 13 = .ok (.putfield 15, 3) := by decide +kernel
theorem dX0_takeFrom_16 : decode cX0_takeFrom 16 = .ok (.aload_n 0, 1) := by decide +kernel
theorem dX0_takeFrom_17 : decode cX0_takeFrom 17 = .ok (.aload_n 1, 1) := by decide +kernel
theorem dX0_takeFrom_18 : decode cX0_takeFrom 18 = .ok (.getfield 18, 3) := by decide +kernel
theorem dX0_takeFrom_21 : decode cX0_takeFrom 21 = .ok (.putfield 18, 3) := by decide +kernel
theorem dX0_takeFrom_24 : decode cX0_takeFrom 24 = .ok (.aload_n 0, 1) := by decide +kernel
theorem dX0_takeFrom_25 : decode cX0_takeFrom 25 = .ok (.aload_n 1, 1) := by decide +kernel
theorem dX0_takeFrom_26 : decode cX0_takeFrom 26 = .ok (.getfield 21, 3) := by decide +kernel
theorem dX0_takeFrom_29 : decode cX0_takeFrom 29 = .ok (.putfield 21, 3) := by decide +kernel
theorem dX0_takeFrom_32 : decode cX0_takeFrom 32 = .ok (.aload_n 0, 1) := by decide +kernel
theorem dX0_takeFrom_33 : decode cX0_takeFrom 33 = .ok (.aload_n 1, 1) := by decide +kernel
theorem dX0_takeFrom_34 : decode cX0_takeFrom 34 = .ok (.getfield 24, 3) := by decide +kernel
theorem dX0_takeFrom_37 : decode cX0_takeFrom 37 = .ok (.putfield 24, 3) := by decide +kernel
theorem dX0_takeFrom_40 : decode cX0_takeFrom 40 = .ok (.aload_n 0, 1) := by decide +kernel
theorem dX0_takeFrom_41 : decode cX0_takeFrom 41 = .ok (.aload_n 1, 1) := by decide +kernel
theorem dX0_takeFrom_42 : decode cX0_takeFrom 42 = .ok (.getfield 27, 3) := by decide +kernel
theorem dX0_takeFrom_45 : decode cX0_takeFrom 45 = .ok (.putfield 27, 3) := by decide +kernel
theorem dX0_takeFrom_48 : decode cX0_takeFrom 48 = .ok (.aload_n 0, 1) := by decide +kernel
theorem dX0_takeFrom_49 : decode cX0_takeFrom 49 = .ok (.aload_n 1, 1) := by decide +kernel
theorem dX0_takeFrom_50 : decode cX0_takeFrom 50 = .ok (.getfield 30, 3) := by decide +kernel
theorem dX0_takeFrom_53 : decode cX0_takeFrom 53 = .ok (.putfield 30, 3) := by decide +kernel
theorem dX0_takeFrom_56 : decode cX0_takeFrom 56 = .ok (.aload_n 1, 1) := by decide +kernel
theorem dX0_takeFrom_57 : decode cX0_takeFrom 57 = .ok (.getfield 33, 3) := by decide +kernel
theorem dX0_takeFrom_60 : decode cX0_takeFrom 60 = .ok (.iconst 0, 1) := by decide +kernel
theorem dX0_takeFrom_61 : decode cX0_takeFrom 61 = .ok (.aload_n 0, 1) := by decide +kernel
theorem dX0_takeFrom_62 : decode cX0_takeFrom 62 = .ok (.getfield 33, 3) := by decide +kernel
theorem dX0_takeFrom_65 : decode cX0_takeFrom 65 = .ok (.iconst 0, 1) := by decide +kernel
theorem dX0_takeFrom_66 : decode cX0_takeFrom 66 = .ok (.bipush 6, 2) := by decide +kernel
theorem dX0_takeFrom_68 : decode cX0_takeFrom 68 = .ok (.invokestatic 59, 3) := by decide +kernel
theorem dX0_takeFrom_71 : decode cX0_takeFrom 71 = .ok (.aload_n 1, 1) := by decide +kernel
theorem dX0_takeFrom_72 : decode cX0_takeFrom 72 = .ok (.getfield 37, 3) := by decide +kernel
theorem dX0_takeFrom_75 : decode cX0_takeFrom 75 = .ok (.iconst 0, 1) := by decide +kernel
theorem dX0_takeFrom_76 : decode cX0_takeFrom 76 = .ok (.aload_n 0, 1) := by decide +kernel
theorem dX0_takeFrom_77 : decode cX0_takeFrom 77 = .ok (.getfield 37, 3) := by decide +kernel
theorem dX0_takeFrom_80 : decode cX0_takeFrom 80 = .ok (.iconst 0, 1) := by decide +kernel
theorem dX0_takeFrom_81 : decode cX0_takeFrom 81 = .ok (.bipush 6, 2) := by decide +kernel
theorem dX0_takeFrom_83 : decode cX0_takeFrom 83 = .ok (.invokestatic 59, 3) := by decide +kernel
theorem dX0_takeFrom_86 : decode cX0_takeFrom 86 = .ok (.aload_n 1, 1) := by decide +kernel
theorem dX0_takeFrom_87 : decode cX0_takeFrom 87 = .ok (.getfield 40, 3) := by decide +kernel
theorem dX0_takeFrom_90 : decode cX0_takeFrom 90 = .ok (.iconst 0, 1) := by decide +kernel
theorem dX0_takeFrom_91 : decode cX0_takeFrom 91 = .ok (.aload_n 0, 1) := by decide +kernel
theorem dX0_takeFrom_92 : decode cX0_takeFrom 92 = .ok (.getfield 40, 3) := by decide +kernel
theorem dX0_takeFrom_95 : decode cX0_takeFrom 95 = .ok (.iconst 0, 1) := by decide +kernel
theorem dX0_takeFrom_96 : decode cX0_takeFrom 96 = .ok (.bipush 6, 2) := by decide +kernel
theorem dX0_takeFrom_98 : decode cX0_takeFrom 98 = .ok (.invokestatic 59, 3) := by decide +kernel
theorem dX0_takeFrom_101 : decode cX0_takeFrom 101 = .ok (.aload_n 1, 1) := by decide +kernel
theorem dX0_takeFrom_102 : decode cX0_takeFrom 102 = .ok (.getfield 43, 3) := by decide +kernel
theorem dX0_takeFrom_105 : decode cX0_takeFrom 105 = .ok (.iconst 0, 1) := by decide +kernel
theorem dX0_takeFrom_106 : decode cX0_takeFrom 106 = .ok (.aload_n 0, 1) := by decide +kernel
theorem dX0_takeFrom_107 : decode cX0_takeFrom 107 = .ok (.getfield 43, 3) := by decide +kernel
theorem dX0_takeFrom_110 : decode cX0_takeFrom 110 = .ok (.iconst 0, 1) := by decide +kernel
theorem dX0_takeFrom_111 : decode cX0_takeFrom 111 = .ok (.bipush 6, 2) := by decide +kernel
theorem dX0_takeFrom_113 : decode cX0_takeFrom 113 = .ok (.invokestatic 59, 3) := by decide +kernel
theorem dX0_takeFrom_116 : decode cX0_takeFrom 116 = .ok (.aload_n 1, 1) := by decide +kernel
theorem dX0_takeFrom_117 : decode cX0_takeFrom 117 = .ok (.getfield 46, 3) := by decide +kernel
theorem dX0_takeFrom_120 : decode cX0_takeFrom 120 = .ok (.iconst 0, 1) := by decide +kernel
theorem dX0_takeFrom_121 : decode cX0_takeFrom 121 = .ok (.aload_n 0, 1) := by decide +kernel
theorem dX0_takeFrom_122 : decode cX0_takeFrom 122 = .ok (.getfield 46, 3) := by decide +kernel
theorem dX0_takeFrom_125 : decode cX0_takeFrom 125 = .ok (.iconst 0, 1) := by decide +kernel
theorem dX0_takeFrom_126 : decode cX0_takeFrom 126 = .ok (.bipush 6, 2) := by decide +kernel
theorem dX0_takeFrom_128 : decode cX0_takeFrom 128 = .ok (.invokestatic 59, 3) := by decide +kernel
theorem dX0_takeFrom_131 : decode cX0_takeFrom 131 = .ok (.aload_n 1, 1) := by decide +kernel
theorem dX0_takeFrom_132 : decode cX0_takeFrom 132 = .ok (.getfield 49, 3) := by decide +kernel
theorem dX0_takeFrom_135 : decode cX0_takeFrom 135 = .ok (.iconst 0, 1) := by decide +kernel
theorem dX0_takeFrom_136 : decode cX0_takeFrom 136 = .ok (.aload_n 0, 1) := by decide +kernel
theorem dX0_takeFrom_137 : decode cX0_takeFrom 137 = .ok (.getfield 49, 3) := by decide +kernel
theorem dX0_takeFrom_140 : decode cX0_takeFrom 140 = .ok (.iconst 0, 1) := by decide +kernel
theorem dX0_takeFrom_141 : decode cX0_takeFrom 141 = .ok (.bipush 6, 2) := by decide +kernel
theorem dX0_takeFrom_143 : decode cX0_takeFrom 143 = .ok (.invokestatic 59, 3) := by decide +kernel
theorem dX0_takeFrom_146 : decode cX0_takeFrom 146 = .ok (.aload_n 1, 1) := by decide +kernel
theorem dX0_takeFrom_147 : decode cX0_takeFrom 147 = .ok (.getfield 52, 3) := by decide +kernel
theorem dX0_takeFrom_150 : decode cX0_takeFrom 150 = .ok (.iconst 0, 1) := by decide +kernel
theorem dX0_takeFrom_151 : decode cX0_takeFrom 151 = .ok (.aload_n 0, 1) := by decide +kernel
theorem dX0_takeFrom_152 : decode cX0_takeFrom 152 = .ok (.getfield 52, 3) := by decide +kernel
theorem dX0_takeFrom_155 : decode cX0_takeFrom 155 = .ok (.iconst 0, 1) := by decide +kernel
theorem dX0_takeFrom_156 : decode cX0_takeFrom 156 = .ok (.bipush 36, 2) := by decide +kernel
theorem dX0_takeFrom_158 : decode cX0_takeFrom 158 = .ok (.invokestatic 59, 3) := by decide +kernel
theorem dX0_takeFrom_161 : decode cX0_takeFrom 161 = .ok (.return_, 1) := by decide +kernel
theorem dX0_sent_0 : decode cX0_sent 0 = .ok (.aload_n 0, 1) := by decide +kernel
theorem dX0_sent_1 : decode cX0_sent 1 = .ok (.getfield 27, 3) := by decide +kernel
theorem dX0_sent_4 : decode cX0_sent 4 = .ok (.aload_n 0, 1) := by decide +kernel
theorem dX0_sent_5 : decode cX0_sent 5 = .ok (.getfield 30, 3) := by decide +kernel
theorem dX0_sent_8 : decode cX0_sent 8 = .ok (.iadd, 1) := by decide +kernel
theorem dX0_sent_9 : decode cX0_sent 9 = .ok (.ireturn, 1) := by decide +kernel
theorem dX0_bitsOf_0 : decode cX0_bitsOf 0 = .ok (.iconst 0, 1) := by decide +kernel
theorem dX0_bitsOf_1 : decode cX0_bitsOf 1 = .ok (.istore_n 2, 1) := by decide +kernel
theorem dX0_bitsOf_2 : decode cX0_bitsOf 2 = .ok (.iconst 0, 1) := by decide +kernel
theorem dX0_bitsOf_3 : decode cX0_bitsOf 3 = .ok (.istore_n 3, 1) := by decide +kernel
theorem dX0_bitsOf_4 : decode cX0_bitsOf 4 = .ok (.iload_n 3, 1) := by decide +kernel
theorem dX0_bitsOf_5 : decode cX0_bitsOf 5 = .ok (.bipush 6, 2) := by decide +kernel
theorem dX0_bitsOf_7 : decode cX0_bitsOf 7 = .ok (.if_icmp .ge 25, 3) := by decide +kernel
theorem dX0_bitsOf_10 : decode cX0_bitsOf 10 = .ok (.aload_n 0, 1) := by decide +kernel
theorem dX0_bitsOf_11 : decode cX0_bitsOf 11 = .ok (.getfield 33, 3) := by decide +kernel
theorem dX0_bitsOf_14 : decode cX0_bitsOf 14 = .ok (.iload_n 3, 1) := by decide +kernel
theorem dX0_bitsOf_15 : decode cX0_bitsOf 15 = .ok (.iaload, 1) := by decide +kernel
theorem dX0_bitsOf_16 : decode cX0_bitsOf 16 = .ok (.iload_n 1, 1) := by decide +kernel
theorem dX0_bitsOf_17 : decode cX0_bitsOf 17 = .ok (.if_icmp .ne 9, 3) := by decide +kernel
theorem dX0_bitsOf_20 : decode cX0_bitsOf 20 = .ok (.iload_n 2, 1) := by decide +kernel
theorem dX0_bitsOf_21 : decode cX0_bitsOf 21 = .ok (.iconst 1, 1) := by decide +kernel
theorem dX0_bitsOf_22 : decode cX0_bitsOf 22 = .ok (.iload_n 3, 1) := by decide +kernel
theorem dX0_bitsOf_23 : decode cX0_bitsOf 23 = .ok (.ishl, 1) := by decide +kernel
theorem dX0_bitsOf_24 : decode cX0_bitsOf 24 = .ok (.ior, 1) := by decide +kernel
theorem dX0_bitsOf_25 : decode cX0_bitsOf 25 = .ok (.istore_n 2, 1) := by decide +kernel
theorem dX0_bitsOf_26 : decode cX0_bitsOf 26 = .ok (.iinc 3 1, 3) := by decide +kernel
theorem dX0_bitsOf_29 : decode cX0_bitsOf 29 = .ok (.goto (-25), 3) := by decide +kernel
theorem dX0_bitsOf_32 : decode cX0_bitsOf 32 = .ok (.iload_n 2, 1) := by decide +kernel
theorem dX0_bitsOf_33 : decode cX0_bitsOf 33 = .ok (.ireturn, 1) := by decide +kernel
theorem dX0_knows_0 : decode cX0_knows 0 = .ok (.aload_n 0, 1) := by decide +kernel
theorem dX0_knows_1 : decode cX0_knows 1 = .ok (.getfield 37, 3) := by decide +kernel
theorem dX0_knows_4 : decode cX0_knows 4 = .ok (.iload_n 1, 1) := by decide +kernel
theorem dX0_knows_5 : decode cX0_knows 5 = .ok (.iaload, 1) := by decide +kernel
theorem dX0_knows_6 : decode cX0_knows 6 = .ok (.iload_n 2, 1) := by decide +kernel
theorem dX0_knows_7 : decode cX0_knows 7 = .ok (.ishr, 1) := by decide +kernel
theorem dX0_knows_8 : decode cX0_knows 8 = .ok (.iconst 1, 1) := by decide +kernel
theorem dX0_knows_9 : decode cX0_knows 9 = .ok (.iand, 1) := by decide +kernel
theorem dX0_knows_10 : decode cX0_knows 10 = .ok (.ifCond .eq 7, 3) := by decide +kernel
theorem dX0_knows_13 : decode cX0_knows 13 = .ok (.iconst 1, 1) := by decide +kernel
theorem dX0_knows_14 : decode cX0_knows 14 = .ok (.goto 4, 3) := by decide +kernel
theorem dX0_knows_17 : decode cX0_knows 17 = .ok (.iconst 0, 1) := by decide +kernel
theorem dX0_knows_18 : decode cX0_knows 18 = .ok (.ireturn, 1) := by decide +kernel
theorem dX0_isOpen_0 : decode cX0_isOpen 0 = .ok (.aload_n 0, 1) := by decide +kernel
theorem dX0_isOpen_1 : decode cX0_isOpen 1 = .ok (.getfield 49, 3) := by decide +kernel
theorem dX0_isOpen_4 : decode cX0_isOpen 4 = .ok (.iload_n 1, 1) := by decide +kernel
theorem dX0_isOpen_5 : decode cX0_isOpen 5 = .ok (.iaload, 1) := by decide +kernel
theorem dX0_isOpen_6 : decode cX0_isOpen 6 = .ok (.iload_n 2, 1) := by decide +kernel
theorem dX0_isOpen_7 : decode cX0_isOpen 7 = .ok (.ishr, 1) := by decide +kernel
theorem dX0_isOpen_8 : decode cX0_isOpen 8 = .ok (.iconst 1, 1) := by decide +kernel
theorem dX0_isOpen_9 : decode cX0_isOpen 9 = .ok (.iand, 1) := by decide +kernel
theorem dX0_isOpen_10 : decode cX0_isOpen 10 = .ok (.ifCond .ne 7, 3) := by decide +kernel
theorem dX0_isOpen_13 : decode cX0_isOpen 13 = .ok (.iconst 1, 1) := by decide +kernel
theorem dX0_isOpen_14 : decode cX0_isOpen 14 = .ok (.goto 4, 3) := by decide +kernel
theorem dX0_isOpen_17 : decode cX0_isOpen 17 = .ok (.iconst 0, 1) := by decide +kernel
theorem dX0_isOpen_18 : decode cX0_isOpen 18 = .ok (.ireturn, 1) := by decide +kernel
set_option maxRecDepth 20000 in
theorem ggX0_countOf_J6_bitCount_0f7a4 : GoodIn wsX0_countOf wsJ6_bitCount_0f7a4 := goodIn_r _ [5, 6, 7, 8] (by decide +kernel) (by decide +kernel)
set_option maxRecDepth 20000 in
theorem gX0_countOf_J6_bitCount_0f7a4 : GoodIn wsX0_countOf (va_wsS RX0 65 yJ6_bitCount_0f7a4 wsJ6_bitCount_0f7a4) := goodIn_app (goodIn_of _ (by decide +kernel)) ggX0_countOf_J6_bitCount_0f7a4
theorem dX0_countOf_0 : decode cX0_countOf 0 = .ok (.iconst 1, 1) := by decide +kernel
theorem dX0_countOf_1 : decode cX0_countOf 1 = .ok (.aload_n 0, 1) := by decide +kernel
theorem dX0_countOf_2 : decode cX0_countOf 2 = .ok (.getfield 37, 3) := by decide +kernel
theorem dX0_countOf_5 : decode cX0_countOf 5 = .ok (.iload_n 1, 1) := by decide +kernel
theorem dX0_countOf_6 : decode cX0_countOf 6 = .ok (.iaload, 1) := by decide +kernel
theorem dX0_countOf_7 : decode cX0_countOf 7 = .ok (.invokestatic 65, 3) := by decide +kernel
theorem dX0_countOf_10 : decode cX0_countOf 10 = .ok (.iadd, 1) := by decide +kernel
theorem dX0_countOf_11 : decode cX0_countOf 11 = .ok (.ireturn, 1) := by decide +kernel
set_option maxRecDepth 20000 in
theorem ggX0_countTold_X0_countOf : GoodIn wsX0_countTold wsX0_countOf := goodIn_r _ [6, 7, 8, 9, 10, 11, 12, 13, 14, 15, 16, 17, 18, 19, 20, 21, 22, 23, 24, 25, 26, 27, 28] (by decide +kernel) (by decide +kernel)
set_option maxRecDepth 20000 in
theorem gX0_countTold_X0_countOf : GoodIn wsX0_countTold (wsV RX0 71 RX0 yX0_countOf wsX0_countOf) := goodIn_app (goodIn_of _ (by decide +kernel)) ggX0_countTold_X0_countOf
theorem dX0_countTold_0 : decode cX0_countTold 0 = .ok (.aload_n 0, 1) := by decide +kernel
theorem dX0_countTold_1 : decode cX0_countTold 1 = .ok (.getfield 33, 3) := by decide +kernel
theorem dX0_countTold_4 : decode cX0_countTold 4 = .ok (.iload_n 1, 1) := by decide +kernel
theorem dX0_countTold_5 : decode cX0_countTold 5 = .ok (.iaload, 1) := by decide +kernel
theorem dX0_countTold_6 : decode cX0_countTold 6 = .ok (.ifCond .ne 7, 3) := by decide +kernel
theorem dX0_countTold_9 : decode cX0_countTold 9 = .ok (.iconst 0, 1) := by decide +kernel
theorem dX0_countTold_10 : decode cX0_countTold 10 = .ok (.goto 8, 3) := by decide +kernel
theorem dX0_countTold_13 : decode cX0_countTold 13 = .ok (.aload_n 0, 1) := by decide +kernel
theorem dX0_countTold_14 : decode cX0_countTold 14 = .ok (.iload_n 1, 1) := by decide +kernel
theorem dX0_countTold_15 : decode cX0_countTold 15 = .ok (.invokevirtual 71, 3) := by decide +kernel
theorem dX0_countTold_18 : decode cX0_countTold 18 = .ok (.ireturn, 1) := by decide +kernel
set_option maxRecDepth 20000 in
theorem ggX0_isAtRest_X0_bitsOf : GoodIn wsX0_isAtRest wsX0_bitsOf := goodIn_r _ [7, 1, 8, 9, 10, 11, 12, 13, 14, 15, 16, 17, 18, 19, 20, 21] (by decide +kernel) (by decide +kernel)
set_option maxRecDepth 20000 in
theorem gX0_isAtRest_X0_bitsOf : GoodIn wsX0_isAtRest (wsV RX0 74 RX0 yX0_bitsOf wsX0_bitsOf) := goodIn_app (goodIn_of _ (by decide +kernel)) ggX0_isAtRest_X0_bitsOf
theorem dX0_isAtRest_0 : decode cX0_isAtRest 0 = .ok (.aload_n 0, 1) := by decide +kernel
theorem dX0_isAtRest_1 : decode cX0_isAtRest 1 = .ok (.iconst 1, 1) := by decide +kernel
theorem dX0_isAtRest_2 : decode cX0_isAtRest 2 = .ok (.invokevirtual 74, 3) := by decide +kernel
theorem dX0_isAtRest_5 : decode cX0_isAtRest 5 = .ok (.istore_n 1, 1) := by decide +kernel
theorem dX0_isAtRest_6 : decode cX0_isAtRest 6 = .ok (.iconst 0, 1) := by decide +kernel
theorem dX0_isAtRest_7 : decode cX0_isAtRest 7 = .ok (.istore_n 2, 1) := by decide +kernel
theorem dX0_isAtRest_8 : decode cX0_isAtRest 8 = .ok (.iload_n 2, 1) := by decide +kernel
theorem dX0_isAtRest_9 : decode cX0_isAtRest 9 = .ok (.bipush 6, 2) := by decide +kernel
theorem dX0_isAtRest_11 : decode cX0_isAtRest 11 = .ok (.if_icmp .ge 47, 3) := by decide +kernel
theorem dX0_isAtRest_14 : decode cX0_isAtRest 14 = .ok (.aload_n 0, 1) := by decide +kernel
theorem dX0_isAtRest_15 : decode cX0_isAtRest 15 = .ok (.getfield 33, 3) := by decide +kernel
theorem dX0_isAtRest_18 : decode cX0_isAtRest 18 = .ok (.iload_n 2, 1) := by decide +kernel
theorem dX0_isAtRest_19 : decode cX0_isAtRest 19 = .ok (.iaload, 1) := by decide +kernel
theorem dX0_isAtRest_20 : decode cX0_isAtRest 20 = .ok (.iconst 2, 1) := by decide +kernel
theorem dX0_isAtRest_21 : decode cX0_isAtRest 21 = .ok (.if_icmp .eq 29, 3) := by decide +kernel
theorem dX0_isAtRest_24 : decode cX0_isAtRest 24 = .ok (.aload_n 0, 1) := by decide +kernel
theorem dX0_isAtRest_25 : decode cX0_isAtRest 25 = .ok (.getfield 33, 3) := by decide +kernel
theorem dX0_isAtRest_28 : decode cX0_isAtRest 28 = .ok (.iload_n 2, 1) := by decide +kernel
theorem dX0_isAtRest_29 : decode cX0_isAtRest 29 = .ok (.iaload, 1) := by decide +kernel
theorem dX0_isAtRest_30 : decode cX0_isAtRest 30 = .ok (.iconst 1, 1) := by decide +kernel
theorem dX0_isAtRest_31 : decode cX0_isAtRest 31 = .ok (.if_icmp .ne 21, 3) := by decide +kernel
theorem dX0_isAtRest_34 : decode cX0_isAtRest 34 = .ok (.aload_n 0, 1) := by decide +kernel
theorem dX0_isAtRest_35 : decode cX0_isAtRest 35 = .ok (.getfield 37, 3) := by decide +kernel
theorem dX0_isAtRest_38 : decode cX0_isAtRest 38 = .ok (.iload_n 2, 1) := by decide +kernel
theorem dX0_isAtRest_39 : decode cX0_isAtRest 39 = .ok (.iaload, 1) := by decide +kernel
theorem dX0_isAtRest_40 : decode cX0_isAtRest 40 = .ok (.iload_n 1, 1) := by decide +kernel
theorem dX0_isAtRest_41 : decode cX0_isAtRest 41 = .ok (.iconst 1, 1) := by decide +kernel
theorem dX0_isAtRest_42 : decode cX0_isAtRest 42 = .ok (.iload_n 2, 1) := by decide +kernel
theorem dX0_isAtRest_43 : decode cX0_isAtRest 43 = .ok (.ishl, 1) := by decide +kernel
theorem dX0_isAtRest_44 : decode cX0_isAtRest 44 = .ok (.iconst (-1), 1) := by decide +kernel
theorem dX0_isAtRest_45 : decode cX0_isAtRest 45 = .ok (.ixor, 1) := by decide +kernel
theorem dX0_isAtRest_46 : decode cX0_isAtRest 46 = .ok (.iand, 1) := by decide +kernel
theorem dX0_isAtRest_47 : decode cX0_isAtRest 47 = .ok (.if_icmp .eq 5, 3) := by decide +kernel
theorem dX0_isAtRest_50 : decode cX0_isAtRest 50 = .ok (.iconst 0, 1) := by decide +kernel
theorem dX0_isAtRest_51 : decode cX0_isAtRest 51 = .ok (.ireturn, 1) := by decide +kernel
theorem dX0_isAtRest_52 : decode cX0_isAtRest 52 = .ok (.iinc 2 1, 3) := by decide +kernel
theorem dX0_isAtRest_55 : decode cX0_isAtRest 55 = .ok (.goto (-47), 3) := by decide +kernel
theorem dX0_isAtRest_58 : decode cX0_isAtRest 58 = .ok (.iconst 1, 1) := by decide +kernel
theorem dX0_isAtRest_59 : decode cX0_isAtRest 59 = .ok (.ireturn, 1) := by decide +kernel
theorem dX0_feltBits_0 : decode cX0_feltBits 0 = .ok (.iconst 0, 1) := by decide +kernel
theorem dX0_feltBits_1 : decode cX0_feltBits 1 = .ok (.istore_n 1, 1) := by decide +kernel
theorem dX0_feltBits_2 : decode cX0_feltBits 2 = .ok (.iconst 0, 1) := by decide +kernel
theorem dX0_feltBits_3 : decode cX0_feltBits 3 = .ok (.istore_n 2, 1) := by decide +kernel
theorem dX0_feltBits_4 : decode cX0_feltBits 4 = .ok (.iload_n 2, 1) := by decide +kernel
theorem dX0_feltBits_5 : decode cX0_feltBits 5 = .ok (.bipush 6, 2) := by decide +kernel
theorem dX0_feltBits_7 : decode cX0_feltBits 7 = .ok (.if_icmp .ge 33, 3) := by decide +kernel
theorem dX0_feltBits_10 : decode cX0_feltBits 10 = .ok (.iload_n 1, 1) := by decide +kernel
theorem dX0_feltBits_11 : decode cX0_feltBits 11 = .ok (.aload_n 0, 1) := by decide +kernel
theorem dX0_feltBits_12 : decode cX0_feltBits 12 = .ok (.getfield 37, 3) := by decide +kernel
theorem dX0_feltBits_15 : decode cX0_feltBits 15 = .ok (.iload_n 2, 1) := by decide +kernel
theorem dX0_feltBits_16 : decode cX0_feltBits 16 = .ok (.iaload, 1) := by decide +kernel
theorem dX0_feltBits_17 : decode cX0_feltBits 17 = .ok (.ior, 1) := by decide +kernel
theorem dX0_feltBits_18 : decode cX0_feltBits 18 = .ok (.istore_n 1, 1) := by decide +kernel
theorem dX0_feltBits_19 : decode cX0_feltBits 19 = .ok (.aload_n 0, 1) := by decide +kernel
theorem dX0_feltBits_20 : decode cX0_feltBits 20 = .ok (.getfield 33, 3) := by decide +kernel
theorem dX0_feltBits_23 : decode cX0_feltBits 23 = .ok (.iload_n 2, 1) := by decide +kernel
theorem dX0_feltBits_24 : decode cX0_feltBits 24 = .ok (.iaload, 1) := by decide +kernel
theorem dX0_feltBits_25 : decode cX0_feltBits 25 = .ok (.ifCond .eq 9, 3) := by decide +kernel
theorem dX0_feltBits_28 : decode cX0_feltBits 28 = .ok (.iload_n 1, 1) := by decide +kernel
theorem dX0_feltBits_29 : decode cX0_feltBits 29 = .ok (.iconst 1, 1) := by decide +kernel
theorem dX0_feltBits_30 : decode cX0_feltBits 30 = .ok (.iload_n 2, 1) := by decide +kernel
theorem dX0_feltBits_31 : decode cX0_feltBits 31 = .ok (.ishl, 1) := by decide +kernel
theorem dX0_feltBits_32 : decode cX0_feltBits 32 = .ok (.ior, 1) := by decide +kernel
theorem dX0_feltBits_33 : decode cX0_feltBits 33 = .ok (.istore_n 1, 1) := by decide +kernel
theorem dX0_feltBits_34 : decode cX0_feltBits 34 = .ok (.iinc 2 1, 3) := by decide +kernel
theorem dX0_feltBits_37 : decode cX0_feltBits 37 = .ok (.goto (-33), 3) := by decide +kernel
theorem dX0_feltBits_40 : decode cX0_feltBits 40 = .ok (.iload_n 1, 1) := by decide +kernel
theorem dX0_feltBits_41 : decode cX0_feltBits 41 = .ok (.ireturn, 1) := by decide +kernel
set_option maxRecDepth 20000 in
theorem ggX0_leaveOnly_X0_goAway : GoodIn wsX0_leaveOnly wsX0_goAway := goodIn_r _ [6, 7, 1, 8, 9, 10, 11, 12, 13, 14, 15, 16, 17, 18, 19, 20, 21, 22, 23, 24] (by decide +kernel) (by decide +kernel)
set_option maxRecDepth 20000 in
theorem gX0_leaveOnly_X0_goAway : GoodIn wsX0_leaveOnly (wsV RX0 55 RX0 yX0_goAway wsX0_goAway) := goodIn_app (goodIn_of _ (by decide +kernel)) ggX0_leaveOnly_X0_goAway
theorem dX0_leaveOnly_0 : decode cX0_leaveOnly 0 = .ok (.iconst 0, 1) := by decide +kernel
theorem dX0_leaveOnly_1 : decode cX0_leaveOnly 1 = .ok (.istore_n 2, 1) := by decide +kernel
theorem dX0_leaveOnly_2 : decode cX0_leaveOnly 2 = .ok (.iload_n 2, 1) := by decide +kernel
theorem dX0_leaveOnly_3 : decode cX0_leaveOnly 3 = .ok (.bipush 6, 2) := by decide +kernel
theorem dX0_leaveOnly_5 : decode cX0_leaveOnly 5 = .ok (.if_icmp .ge 32, 3) := by decide +kernel
theorem dX0_leaveOnly_8 : decode cX0_leaveOnly 8 = .ok (.aload_n 0, 1) := by decide +kernel
theorem dX0_leaveOnly_9 : decode cX0_leaveOnly 9 = .ok (.getfield 37, 3) := by decide +kernel
theorem dX0_leaveOnly_12 : decode cX0_leaveOnly 12 = .ok (.iload_n 2, 1) := by decide +kernel
theorem dX0_leaveOnly_13 : decode cX0_leaveOnly 13 = .ok (.dup2, 1) := by decide +kernel
theorem dX0_leaveOnly_14 : decode cX0_leaveOnly 14 = .ok (.iaload, 1) := by decide +kernel
theorem dX0_leaveOnly_15 : decode cX0_leaveOnly 15 = .ok (.iload_n 1, 1) := by decide +kernel
theorem dX0_leaveOnly_16 : decode cX0_leaveOnly 16 = .ok (.iand, 1) := by decide +kernel
theorem dX0_leaveOnly_17 : decode cX0_leaveOnly 17 = .ok (.iastore, 1) := by decide +kernel
theorem dX0_leaveOnly_18 : decode cX0_leaveOnly 18 = .ok (.iload_n 1, 1) := by decide +kernel
theorem dX0_leaveOnly_19 : decode cX0_leaveOnly 19 = .ok (.iload_n 2, 1) := by decide +kernel
theorem dX0_leaveOnly_20 : decode cX0_leaveOnly 20 = .ok (.ishr, 1) := by decide +kernel
theorem dX0_leaveOnly_21 : decode cX0_leaveOnly 21 = .ok (.iconst 1, 1) := by decide +kernel
theorem dX0_leaveOnly_22 : decode cX0_leaveOnly 22 = .ok (.iand, 1) := by decide +kernel
theorem dX0_leaveOnly_23 : decode cX0_leaveOnly 23 = .ok (.ifCond .ne 8, 3) := by decide +kernel
theorem dX0_leaveOnly_26 : decode cX0_leaveOnly 26 = .ok (.aload_n 0, 1) := by decide +kernel
theorem dX0_leaveOnly_27 : decode cX0_leaveOnly 27 = .ok (.iload_n 2, 1) := by decide +kernel
theorem dX0_leaveOnly_28 : decode cX0_leaveOnly 28 = .ok (.invokevirtual 55, 3) := by decide +kernel
theorem dX0_leaveOnly_31 : decode cX0_leaveOnly 31 = .ok (.iinc 2 1, 3) := by decide +kernel
theorem dX0_leaveOnly_34 : decode cX0_leaveOnly 34 = .ok (.goto (-32), 3) := by decide +kernel
theorem dX0_leaveOnly_37 : decode cX0_leaveOnly 37 = .ok (.return_, 1) := by decide +kernel
theorem dX0_turnWay_0 : decode cX0_turnWay 0 = .ok (.iload_n 1, 1) := by decide +kernel
theorem dX0_turnWay_1 : decode cX0_turnWay 1 = .ok (.iload_n 2, 1) := by decide +kernel
theorem dX0_turnWay_2 : decode cX0_turnWay 2 = .ok (.if_icmp .ne 5, 3) := by decide +kernel
theorem dX0_turnWay_5 : decode cX0_turnWay 5 = .ok (.iconst 0, 1) := by decide +kernel
theorem dX0_turnWay_6 : decode cX0_turnWay 6 = .ok (.ireturn, 1) := by decide +kernel
theorem dX0_turnWay_7 : decode cX0_turnWay 7 = .ok (.aload_n 0, 1) := by decide +kernel
theorem dX0_turnWay_8 : decode cX0_turnWay 8 = .ok (.getfield 49, 3) := by decide +kernel
theorem dX0_turnWay_11 : decode cX0_turnWay 11 = .ok (.iload_n 1, 1) := by decide +kernel
theorem dX0_turnWay_12 : decode cX0_turnWay 12 = .ok (.dup2, 1) := by decide +kernel
theorem dX0_turnWay_13 : decode cX0_turnWay 13 = .ok (.iaload, 1) := by decide +kernel
theorem dX0_turnWay_14 : decode cX0_turnWay 14 = .ok (.iconst 1, 1) := by decide +kernel
theorem dX0_turnWay_15 : decode cX0_turnWay 15 = .ok (.iload_n 2, 1) := by decide +kernel
theorem dX0_turnWay_16 : decode cX0_turnWay 16 = .ok (.ishl, 1) := by decide +kernel
theorem dX0_turnWay_17 : decode cX0_turnWay 17 = .ok (.ixor, 1) := by decide +kernel
theorem dX0_turnWay_18 : decode cX0_turnWay 18 = .ok (.iastore, 1) := by decide +kernel
theorem dX0_turnWay_19 : decode cX0_turnWay 19 = .ok (.iconst 1, 1) := by decide +kernel
theorem dX0_turnWay_20 : decode cX0_turnWay 20 = .ok (.ireturn, 1) := by decide +kernel
theorem dX0_tellAnew_0 : decode cX0_tellAnew 0 = .ok (.iload_n 1, 1) := by decide +kernel
theorem dX0_tellAnew_1 : decode cX0_tellAnew 1 = .ok (.ifCond .ne 16, 3) := by decide +kernel
theorem dX0_tellAnew_4 : decode cX0_tellAnew 4 = .ok (.aload_n 0, 1) := by decide +kernel
theorem dX0_tellAnew_5 : decode cX0_tellAnew 5 = .ok (.getfield 9, 3) := by decide +kernel
theorem dX0_tellAnew_8 : decode cX0_tellAnew 8 = .ok (.istore_n 3, 1) := by decide +kernel
theorem dX0_tellAnew_9 : decode cX0_tellAnew 9 = .ok (.aload_n 0, 1) := by decide +kernel
theorem dX0_tellAnew_10 : decode cX0_tellAnew 10 = .ok (.iload_n 2, 1) := by decide +kernel
theorem dX0_tellAnew_11 : decode cX0_tellAnew 11 = .ok (.putfield 9, 3) := by decide +kernel
theorem dX0_tellAnew_14 : decode cX0_tellAnew 14 = .ok (.goto 31, 3) := by decide +kernel
theorem dX0_tellAnew_17 : decode cX0_tellAnew 17 = .ok (.iload_n 1, 1) := by decide +kernel
theorem dX0_tellAnew_18 : decode cX0_tellAnew 18 = .ok (.iconst 1, 1) := by decide +kernel
theorem dX0_tellAnew_19 : decode cX0_tellAnew 19 = .ok (.if_icmp .ne 16, 3) := by decide +kernel
theorem dX0_tellAnew_22 : decode cX0_tellAnew 22 = .ok (.aload_n 0, 1) := by decide +kernel
theorem dX0_tellAnew_23 : decode cX0_tellAnew 23 = .ok (.getfield 15, 3) := by decide +kernel
theorem dX0_tellAnew_26 : decode cX0_tellAnew 26 = .ok (.istore_n 3, 1) := by decide +kernel
theorem dX0_tellAnew_27 : decode cX0_tellAnew 27 = .ok (.aload_n 0, 1) := by decide +kernel
theorem dX0_tellAnew_28 : decode cX0_tellAnew 28 = .ok (.iload_n 2, 1) := by decide +kernel
theorem dX0_tellAnew_29 : decode cX0_tellAnew 29 = .ok (.putfield 15, 3) := by decide +kernel
theorem dX0_tellAnew_32 : decode cX0_tellAnew 32 = .ok (.goto 13, 3) := by decide +kernel
theorem dX0_tellAnew_35 : decode cX0_tellAnew 35 = .ok (.aload_n 0, 1) := by decide +kernel
theorem dX0_tellAnew_36 : decode cX0_tellAnew 36 = .ok (.getfield 18, 3) := by decide +kernel
theorem dX0_tellAnew_39 : decode cX0_tellAnew 39 = .ok (.istore_n 3, 1) := by decide +kernel
theorem dX0_tellAnew_40 : decode cX0_tellAnew 40 = .ok (.aload_n 0, 1) := by decide +kernel
theorem dX0_tellAnew_41 : decode cX0_tellAnew 41 = .ok (.iload_n 2, 1) := by decide +kernel
theorem dX0_tellAnew_42 : decode cX0_tellAnew 42 = .ok (.putfield 18, 3) := by decide +kernel
theorem dX0_tellAnew_45 : decode cX0_tellAnew 45 = .ok (.iload_n 3, 1) := by decide +kernel
theorem dX0_tellAnew_46 : decode cX0_tellAnew 46 = .ok (.ireturn, 1) := by decide +kernel
theorem dX0_spanOf_0 : decode cX0_spanOf 0 = .ok (.iconst 1, 1) := by decide +kernel
theorem dX0_spanOf_1 : decode cX0_spanOf 1 = .ok (.aload_n 0, 1) := by decide +kernel
theorem dX0_spanOf_2 : decode cX0_spanOf 2 = .ok (.getfield 15, 3) := by decide +kernel
theorem dX0_spanOf_5 : decode cX0_spanOf 5 = .ok (.invokestatic 77, 3) := by decide +kernel
theorem dX0_spanOf_8 : decode cX0_spanOf 8 = .ok (.istore_n 2, 1) := by decide +kernel
theorem dX0_spanOf_9 : decode cX0_spanOf 9 = .ok (.aload_n 0, 1) := by decide +kernel
theorem dX0_spanOf_10 : decode cX0_spanOf 10 = .ok (.getfield 18, 3) := by decide +kernel
theorem dX0_spanOf_13 : decode cX0_spanOf 13 = .ok (.iload_n 1, 1) := by decide +kernel
theorem dX0_spanOf_14 : decode cX0_spanOf 14 = .ok (.aload_n 0, 1) := by decide +kernel
theorem dX0_spanOf_15 : decode cX0_spanOf 15 = .ok (.getfield 9, 3) := by decide +kernel
theorem dX0_spanOf_18 : decode cX0_spanOf 18 = .ok (.imul, 1) := by decide +kernel
theorem dX0_spanOf_19 : decode cX0_spanOf 19 = .ok (.iload_n 2, 1) := by decide +kernel
theorem dX0_spanOf_20 : decode cX0_spanOf 20 = .ok (.iadd, 1) := by decide +kernel
theorem dX0_spanOf_21 : decode cX0_spanOf 21 = .ok (.iconst 1, 1) := by decide +kernel
theorem dX0_spanOf_22 : decode cX0_spanOf 22 = .ok (.isub, 1) := by decide +kernel
theorem dX0_spanOf_23 : decode cX0_spanOf 23 = .ok (.iload_n 2, 1) := by decide +kernel
theorem dX0_spanOf_24 : decode cX0_spanOf 24 = .ok (.idiv, 1) := by decide +kernel
theorem dX0_spanOf_25 : decode cX0_spanOf 25 = .ok (.invokestatic 77, 3) := by decide +kernel
theorem dX0_spanOf_28 : decode cX0_spanOf 28 = .ok (.ireturn, 1) := by decide +kernel
set_option maxRecDepth 20000 in
theorem ggX0_waitOf_X0_spanOf : GoodIn wsX0_waitOf wsX0_spanOf := goodIn_r _ [11, 12, 3, 4, 5, 6, 13, 14, 15, 16, 17, 18, 19, 20, 21, 22, 23, 24, 25, 26, 27, 28] (by decide +kernel) (by decide +kernel)
set_option maxRecDepth 20000 in
theorem gX0_waitOf_X0_spanOf : GoodIn wsX0_waitOf (wsV RX0 84 RX0 yX0_spanOf wsX0_spanOf) := goodIn_app (goodIn_of _ (by decide +kernel)) ggX0_waitOf_X0_spanOf
theorem dX0_waitOf_0 : decode cX0_waitOf 0 = .ok (.aload_n 0, 1) := by decide +kernel
theorem dX0_waitOf_1 : decode cX0_waitOf 1 = .ok (.sipush 25173, 3) := by decide +kernel
theorem dX0_waitOf_4 : decode cX0_waitOf 4 = .ok (.aload_n 0, 1) := by decide +kernel
theorem dX0_waitOf_5 : decode cX0_waitOf 5 = .ok (.getfield 24, 3) := by decide +kernel
theorem dX0_waitOf_8 : decode cX0_waitOf 8 = .ok (.imul, 1) := by decide +kernel
theorem dX0_waitOf_9 : decode cX0_waitOf 9 = .ok (.sipush 13849, 3) := by decide +kernel
theorem dX0_waitOf_12 : decode cX0_waitOf 12 = .ok (.iadd, 1) := by decide +kernel
theorem dX0_waitOf_13 : decode cX0_waitOf 13 = .ok (.ldc 83, 2) := by decide +kernel
theorem dX0_waitOf_15 : decode cX0_waitOf 15 = .ok (.irem, 1) := by decide +kernel
theorem dX0_waitOf_16 : decode cX0_waitOf 16 = .ok (.putfield 24, 3) := by decide +kernel
theorem dX0_waitOf_19 : decode cX0_waitOf 19 = .ok (.aload_n 0, 1) := by decide +kernel
theorem dX0_waitOf_20 : decode cX0_waitOf 20 = .ok (.getfield 24, 3) := by decide +kernel
theorem dX0_waitOf_23 : decode cX0_waitOf 23 = .ok (.bipush 16, 2) := by decide +kernel
theorem dX0_waitOf_25 : decode cX0_waitOf 25 = .ok (.idiv, 1) := by decide +kernel
theorem dX0_waitOf_26 : decode cX0_waitOf 26 = .ok (.iconst 5, 1) := by decide +kernel
theorem dX0_waitOf_27 : decode cX0_waitOf 27 = .ok (.irem, 1) := by decide +kernel
theorem dX0_waitOf_28 : decode cX0_waitOf 28 = .ok (.istore_n 2, 1) := by decide +kernel
theorem dX0_waitOf_29 : decode cX0_waitOf 29 = .ok (.iconst 1, 1) := by decide +kernel
theorem dX0_waitOf_30 : decode cX0_waitOf 30 = .ok (.aload_n 0, 1) := by decide +kernel
theorem dX0_waitOf_31 : decode cX0_waitOf 31 = .ok (.iload_n 1, 1) := by decide +kernel
theorem dX0_waitOf_32 : decode cX0_waitOf 32 = .ok (.invokevirtual 84, 3) := by decide +kernel
theorem dX0_waitOf_35 : decode cX0_waitOf 35 = .ok (.iconst 2, 1) := by decide +kernel
theorem dX0_waitOf_36 : decode cX0_waitOf 36 = .ok (.iload_n 2, 1) := by decide +kernel
theorem dX0_waitOf_37 : decode cX0_waitOf 37 = .ok (.iadd, 1) := by decide +kernel
theorem dX0_waitOf_38 : decode cX0_waitOf 38 = .ok (.imul, 1) := by decide +kernel
theorem dX0_waitOf_39 : decode cX0_waitOf 39 = .ok (.iconst 4, 1) := by decide +kernel
theorem dX0_waitOf_40 : decode cX0_waitOf 40 = .ok (.idiv, 1) := by decide +kernel
theorem dX0_waitOf_41 : decode cX0_waitOf 41 = .ok (.invokestatic 77, 3) := by decide +kernel
theorem dX0_waitOf_44 : decode cX0_waitOf 44 = .ok (.ireturn, 1) := by decide +kernel
set_option maxRecDepth 20000 in
theorem ggX0_begin_X0_waitOf : GoodIn wsX0_begin wsX0_waitOf := goodIn_r _ [8, 9, 10, 11, 12, 13, 14, 15, 16, 17, 7, 18, 19, 20, 21, 22, 23, 24, 25, 26, 27, 28, 29, 30, 31, 32, 33, 34, 35] (by decide +kernel) (by decide +kernel)
set_option maxRecDepth 20000 in
theorem gX0_begin_X0_waitOf : GoodIn wsX0_begin (wsV RX0 87 RX0 yX0_waitOf wsX0_waitOf) := goodIn_app (goodIn_of _ (by decide +kernel)) ggX0_begin_X0_waitOf
theorem dX0_begin_0 : decode cX0_begin 0 = .ok (.aload_n 0, 1) := by decide +kernel
theorem dX0_begin_1 : decode cX0_begin 1 = .ok (.getfield 40, 3) := by decide +kernel
theorem dX0_begin_4 : decode cX0_begin 4 = .ok (.iload_n 1, 1) := by decide +kernel
theorem dX0_begin_5 : decode cX0_begin 5 = .ok (.aload_n 0, 1) := by decide +kernel
theorem dX0_begin_6 : decode cX0_begin 6 = .ok (.getfield 21, 3) := by decide +kernel
theorem dX0_begin_9 : decode cX0_begin 9 = .ok (.iastore, 1) := by decide +kernel
theorem dX0_begin_10 : decode cX0_begin 10 = .ok (.aload_n 0, 1) := by decide +kernel
theorem dX0_begin_11 : decode cX0_begin 11 = .ok (.getfield 43, 3) := by decide +kernel
theorem dX0_begin_14 : decode cX0_begin 14 = .ok (.iload_n 1, 1) := by decide +kernel
theorem dX0_begin_15 : decode cX0_begin 15 = .ok (.aload_n 0, 1) := by decide +kernel
theorem dX0_begin_16 : decode cX0_begin 16 = .ok (.getfield 21, 3) := by decide +kernel
theorem dX0_begin_19 : decode cX0_begin 19 = .ok (.aload_n 0, 1) := by decide +kernel
theorem dX0_begin_20 : decode cX0_begin 20 = .ok (.iconst 1, 1) := by decide +kernel
theorem dX0_begin_21 : decode cX0_begin 21 = .ok (.invokevirtual 87, 3) := by decide +kernel
theorem dX0_begin_24 : decode cX0_begin 24 = .ok (.iadd, 1) := by decide +kernel
theorem dX0_begin_25 : decode cX0_begin 25 = .ok (.iastore, 1) := by decide +kernel
theorem dX0_begin_26 : decode cX0_begin 26 = .ok (.return_, 1) := by decide +kernel
theorem dX0_goAway_0 : decode cX0_goAway 0 = .ok (.aload_n 0, 1) := by decide +kernel
theorem dX0_goAway_1 : decode cX0_goAway 1 = .ok (.getfield 33, 3) := by decide +kernel
theorem dX0_goAway_4 : decode cX0_goAway 4 = .ok (.iload_n 1, 1) := by decide +kernel
theorem dX0_goAway_5 : decode cX0_goAway 5 = .ok (.iconst 0, 1) := by decide +kernel
theorem dX0_goAway_6 : decode cX0_goAway 6 = .ok (.iastore, 1) := by decide +kernel
theorem dX0_goAway_7 : decode cX0_goAway 7 = .ok (.aload_n 0, 1) := by decide +kernel
theorem dX0_goAway_8 : decode cX0_goAway 8 = .ok (.getfield 37, 3) := by decide +kernel
theorem dX0_goAway_11 : decode cX0_goAway 11 = .ok (.iload_n 1, 1) := by decide +kernel
theorem dX0_goAway_12 : decode cX0_goAway 12 = .ok (.iconst 0, 1) := by decide +kernel
theorem dX0_goAway_13 : decode cX0_goAway 13 = .ok (.iastore, 1) := by decide +kernel
theorem dX0_goAway_14 : decode cX0_goAway 14 = .ok (.aload_n 0, 1) := by decide +kernel
theorem dX0_goAway_15 : decode cX0_goAway 15 = .ok (.getfield 40, 3) := by decide +kernel
theorem dX0_goAway_18 : decode cX0_goAway 18 = .ok (.iload_n 1, 1) := by decide +kernel
theorem dX0_goAway_19 : decode cX0_goAway 19 = .ok (.iconst 0, 1) := by decide +kernel
theorem dX0_goAway_20 : decode cX0_goAway 20 = .ok (.iastore, 1) := by decide +kernel
theorem dX0_goAway_21 : decode cX0_goAway 21 = .ok (.aload_n 0, 1) := by decide +kernel
theorem dX0_goAway_22 : decode cX0_goAway 22 = .ok (.getfield 43, 3) := by decide +kernel
theorem dX0_goAway_25 : decode cX0_goAway 25 = .ok (.iload_n 1, 1) := by decide +kernel
theorem dX0_goAway_26 : decode cX0_goAway 26 = .ok (.iconst 0, 1) := by decide +kernel
theorem dX0_goAway_27 : decode cX0_goAway 27 = .ok (.iastore, 1) := by decide +kernel
theorem dX0_goAway_28 : decode cX0_goAway 28 = .ok (.aload_n 0, 1) := by decide +kernel
theorem dX0_goAway_29 : decode cX0_goAway 29 = .ok (.getfield 46, 3) := by decide +kernel
theorem dX0_goAway_32 : decode cX0_goAway 32 = .ok (.iload_n 1, 1) := by decide +kernel
theorem dX0_goAway_33 : decode cX0_goAway 33 = .ok (.iconst 0, 1) := by decide +kernel
theorem dX0_goAway_34 : decode cX0_goAway 34 = .ok (.iastore, 1) := by decide +kernel
theorem dX0_goAway_35 : decode cX0_goAway 35 = .ok (.return_, 1) := by decide +kernel
set_option maxRecDepth 20000 in
theorem ggX0_enter_X1_isMember : GoodIn wsX0_enter wsX1_isMember := goodIn_r _ [4] (by decide +kernel) (by decide +kernel)
set_option maxRecDepth 20000 in
theorem gX0_enter_X1_isMember_n90 : GoodIn wsX0_enter (wsX1_isMember) := ggX0_enter_X1_isMember
set_option maxRecDepth 20000 in
theorem ggX0_enter_X0_begin : GoodIn wsX0_enter wsX0_begin := goodIn_r _ [9, 10, 11, 12, 13, 14, 15, 8, 16, 17, 18, 19, 20, 21, 22, 23, 24, 25, 26, 27, 28, 29, 30, 31, 32, 33, 34, 35, 36, 37, 38, 39, 40, 41, 42, 43] (by decide +kernel) (by decide +kernel)
set_option maxRecDepth 20000 in
theorem gX0_enter_X0_begin : GoodIn wsX0_enter (wsV RX0 94 RX0 yX0_begin wsX0_begin) := goodIn_app (goodIn_of _ (by decide +kernel)) ggX0_enter_X0_begin
theorem dX0_enter_0 : decode cX0_enter 0 = .ok (.iload_n 1, 1) := by decide +kernel
theorem dX0_enter_1 : decode cX0_enter 1 = .ok (.invokestatic 90, 3) := by decide +kernel
theorem dX0_enter_4 : decode cX0_enter 4 = .ok (.ifCond .eq 12, 3) := by decide +kernel
theorem dX0_enter_7 : decode cX0_enter 7 = .ok (.aload_n 0, 1) := by decide +kernel
theorem dX0_enter_8 : decode cX0_enter 8 = .ok (.getfield 33, 3) := by decide +kernel
theorem dX0_enter_11 : decode cX0_enter 11 = .ok (.iload_n 1, 1) := by decide +kernel
theorem dX0_enter_12 : decode cX0_enter 12 = .ok (.iaload, 1) := by decide +kernel
theorem dX0_enter_13 : decode cX0_enter 13 = .ok (.ifCond .eq 5, 3) := by decide +kernel
theorem dX0_enter_16 : decode cX0_enter 16 = .ok (.iconst 0, 1) := by decide +kernel
theorem dX0_enter_17 : decode cX0_enter 17 = .ok (.ireturn, 1) := by decide +kernel
theorem dX0_enter_18 : decode cX0_enter 18 = .ok (.aload_n 0, 1) := by decide +kernel
theorem dX0_enter_19 : decode cX0_enter 19 = .ok (.getfield 33, 3) := by decide +kernel
theorem dX0_enter_22 : decode cX0_enter 22 = .ok (.iload_n 1, 1) := by decide +kernel
theorem dX0_enter_23 : decode cX0_enter 23 = .ok (.iconst 1, 1) := by decide +kernel
theorem dX0_enter_24 : decode cX0_enter 24 = .ok (.iastore, 1) := by decide +kernel
theorem dX0_enter_25 : decode cX0_enter 25 = .ok (.aload_n 0, 1) := by decide +kernel
theorem dX0_enter_26 : decode cX0_enter 26 = .ok (.iload_n 1, 1) := by decide +kernel
theorem dX0_enter_27 : decode cX0_enter 27 = .ok (.invokevirtual 94, 3) := by decide +kernel
theorem dX0_enter_30 : decode cX0_enter 30 = .ok (.iconst 1, 1) := by decide +kernel
theorem dX0_enter_31 : decode cX0_enter 31 = .ok (.ireturn, 1) := by decide +kernel
set_option maxRecDepth 20000 in
theorem ggX0_depart_X1_isMember : GoodIn wsX0_depart wsX1_isMember := goodIn_r _ [5] (by decide +kernel) (by decide +kernel)
set_option maxRecDepth 20000 in
theorem gX0_depart_X1_isMember_n90 : GoodIn wsX0_depart (wsX1_isMember) := ggX0_depart_X1_isMember
set_option maxRecDepth 20000 in
theorem ggX0_depart_X0_countOf : GoodIn wsX0_depart wsX0_countOf := goodIn_r _ [10, 11, 12, 13, 14, 15, 16, 17, 18, 69, 70, 71, 72, 73, 74, 75, 76, 77, 78, 79, 80, 81, 82] (by decide +kernel) (by decide +kernel)
set_option maxRecDepth 20000 in
theorem gX0_depart_X0_countOf : GoodIn wsX0_depart (wsV RX0 71 RX0 yX0_countOf wsX0_countOf) := goodIn_app (goodIn_of _ (by decide +kernel)) ggX0_depart_X0_countOf
set_option maxRecDepth 20000 in
theorem ggX0_depart_X0_sendBye : GoodIn wsX0_depart wsX0_sendBye := goodIn_r _ [22, 23, 24, 25, 26, 9, 27, 1, 11, 28, 29, 2, 30, 31, 32, 33, 34, 35, 36, 37, 38, 39, 40, 41, 42, 43, 44, 45, 46, 47, 48, 49, 50, 51, 6, 7, 8, 10, 12, 13, 14, 15, 16, 17, 18, 69, 70, 71, 72, 73, 74, 75, 76, 77, 78, 79, 80, 81, 82] (by decide +kernel) (by decide +kernel)
set_option maxRecDepth 20000 in
theorem gX0_depart_X0_sendBye : GoodIn wsX0_depart (wsV RX0 97 RX0 yX0_sendBye wsX0_sendBye) := goodIn_app (goodIn_of _ (by decide +kernel)) ggX0_depart_X0_sendBye
set_option maxRecDepth 20000 in
theorem ggX0_depart_X0_begin : GoodIn wsX0_depart wsX0_begin := goodIn_r _ [55, 28, 43, 29, 56, 57, 58, 9, 59, 60, 61, 44, 45, 46, 47, 62, 63, 64, 65, 66, 67, 68, 69, 70, 71, 72, 73, 74, 75, 76, 77, 78, 79, 80, 81, 82] (by decide +kernel) (by decide +kernel)
set_option maxRecDepth 20000 in
theorem gX0_depart_X0_begin : GoodIn wsX0_depart (wsV RX0 94 RX0 yX0_begin wsX0_begin) := goodIn_app (goodIn_of _ (by decide +kernel)) ggX0_depart_X0_begin
theorem dX0_depart_0 : decode cX0_depart 0 = .ok (.iload_n 1, 1) := by decide +kernel
theorem dX0_depart_1 : decode cX0_depart 1 = .ok (.invokestatic 90, 3) := by decide +kernel
theorem dX0_depart_4 : decode cX0_depart 4 = .ok (.ifCond .eq 13, 3) := by decide +kernel
theorem dX0_depart_7 : decode cX0_depart 7 = .ok (.aload_n 0, 1) := by decide +kernel
theorem dX0_depart_8 : decode cX0_depart 8 = .ok (.getfield 33, 3) := by decide +kernel
theorem dX0_depart_11 : decode cX0_depart 11 = .ok (.iload_n 1, 1) := by decide +kernel
theorem dX0_depart_12 : decode cX0_depart 12 = .ok (.iaload, 1) := by decide +kernel
theorem dX0_depart_13 : decode cX0_depart 13 = .ok (.iconst 1, 1) := by decide +kernel
theorem dX0_depart_14 : decode cX0_depart 14 = .ok (.if_icmp .eq 5, 3) := by decide +kernel
theorem dX0_depart_17 : decode cX0_depart 17 = .ok (.iconst 0, 1) := by decide +kernel
theorem dX0_depart_18 : decode cX0_depart 18 = .ok (.ireturn, 1) := by decide +kernel
theorem dX0_depart_19 : decode cX0_depart 19 = .ok (.aload_n 0, 1) := by decide +kernel
theorem dX0_depart_20 : decode cX0_depart 20 = .ok (.iload_n 1, 1) := by decide +kernel
theorem dX0_depart_21 : decode cX0_depart 21 = .ok (.invokevirtual 71, 3) := by decide +kernel
theorem dX0_depart_24 : decode cX0_depart 24 = .ok (.iconst 3, 1) := by decide +kernel
theorem dX0_depart_25 : decode cX0_depart 25 = .ok (.if_icmp .gt 11, 3) := by decide +kernel
theorem dX0_depart_28 : decode cX0_depart 28 = .ok (.aload_n 0, 1) := by decide +kernel
theorem dX0_depart_29 : decode cX0_depart 29 = .ok (.iload_n 1, 1) := by decide +kernel
theorem dX0_depart_30 : decode cX0_depart 30 = .ok (.invokevirtual 97, 3) := by decide +kernel
theorem dX0_depart_33 : decode cX0_depart 33 = .ok (.goto 22, 3) := by decide +kernel
theorem dX0_depart_36 : decode cX0_depart 36 = .ok (.aload_n 0, 1) := by decide +kernel
theorem dX0_depart_37 : decode cX0_depart 37 = .ok (.getfield 33, 3) := by decide +kernel
theorem dX0_depart_40 : decode cX0_depart 40 = .ok (.iload_n 1, 1) := by decide +kernel
theorem dX0_depart_41 : decode cX0_depart 41 = .ok (.iconst 2, 1) := by decide +kernel
theorem dX0_depart_42 : decode cX0_depart 42 = .ok (.iastore, 1) := by decide +kernel
theorem dX0_depart_43 : decode cX0_depart 43 = .ok (.aload_n 0, 1) := by decide +kernel
theorem dX0_depart_44 : decode cX0_depart 44 = .ok (.getfield 46, 3) := by decide +kernel
theorem dX0_depart_47 : decode cX0_depart 47 = .ok (.iload_n 1, 1) := by decide +kernel
theorem dX0_depart_48 : decode cX0_depart 48 = .ok (.iconst 1, 1) := by decide +kernel
theorem dX0_depart_49 : decode cX0_depart 49 = .ok (.iastore, 1) := by decide +kernel
theorem dX0_depart_50 : decode cX0_depart 50 = .ok (.aload_n 0, 1) := by decide +kernel
theorem dX0_depart_51 : decode cX0_depart 51 = .ok (.iload_n 1, 1) := by decide +kernel
theorem dX0_depart_52 : decode cX0_depart 52 = .ok (.invokevirtual 94, 3) := by decide +kernel
theorem dX0_depart_55 : decode cX0_depart 55 = .ok (.iconst 1, 1) := by decide +kernel
theorem dX0_depart_56 : decode cX0_depart 56 = .ok (.ireturn, 1) := by decide +kernel
set_option maxRecDepth 20000 in
theorem ggX0_enterOrDepart_X0_enter : GoodIn wsX0_enterOrDepart wsX0_enter := goodIn_r _ [5, 6, 7, 8, 9, 10, 11, 12, 4, 13, 14, 15, 16, 17, 18, 19, 20, 21, 22, 23, 24, 25, 26, 27, 28, 29, 30, 31, 32, 33, 77, 78, 79, 80, 81, 82, 83, 84, 85, 86, 87, 88, 89, 90] (by decide +kernel) (by decide +kernel)
set_option maxRecDepth 20000 in
theorem gX0_enterOrDepart_X0_enter : GoodIn wsX0_enterOrDepart (wsV RX0 100 RX0 yX0_enter wsX0_enter) := goodIn_app (goodIn_of _ (by decide +kernel)) ggX0_enterOrDepart_X0_enter
set_option maxRecDepth 20000 in
theorem ggX0_enterOrDepart_X0_depart : GoodIn wsX0_enterOrDepart wsX0_depart := goodIn_r _ [37, 6, 38, 7, 8, 9, 39, 40, 41, 4, 42, 43, 44, 45, 46, 47, 48, 49, 50, 51, 52, 53, 54, 55, 56, 57, 58, 59, 14, 16, 60, 61, 62, 63, 64, 65, 66, 67, 68, 69, 70, 71, 72, 15, 23, 24, 25, 26, 73, 74, 75, 76, 10, 11, 12, 13, 17, 18, 19, 20, 21, 22, 27, 28, 29, 30, 31, 32, 33, 77, 78, 79, 80, 81, 82, 83, 84, 85, 86, 87, 88, 89, 90] (by decide +kernel) (by decide +kernel)
set_option maxRecDepth 20000 in
theorem gX0_enterOrDepart_X0_depart : GoodIn wsX0_enterOrDepart (wsV RX0 103 RX0 yX0_depart wsX0_depart) := goodIn_app (goodIn_of _ (by decide +kernel)) ggX0_enterOrDepart_X0_depart
theorem dX0_enterOrDepart_0 : decode cX0_enterOrDepart 0 = .ok (.aload_n 0, 1) := by decide +kernel
theorem dX0_enterOrDepart_1 : decode cX0_enterOrDepart 1 = .ok (.iload_n 1, 1) := by decide +kernel
theorem dX0_enterOrDepart_2 : decode cX0_enterOrDepart 2 = .ok (.invokevirtual 100, 3) := by decide +kernel
theorem dX0_enterOrDepart_5 : decode cX0_enterOrDepart 5 = .ok (.ifCond .ne 9, 3) := by decide +kernel
theorem dX0_enterOrDepart_8 : decode cX0_enterOrDepart 8 = .ok (.aload_n 0, 1) := by decide +kernel
theorem dX0_enterOrDepart_9 : decode cX0_enterOrDepart 9 = .ok (.iload_n 1, 1) := by decide +kernel
theorem dX0_enterOrDepart_10 : decode cX0_enterOrDepart 10 = .ok (.invokevirtual 103, 3) := by decide +kernel
theorem dX0_enterOrDepart_13 : decode cX0_enterOrDepart 13 = .ok (.pop, 1) := by decide +kernel
theorem dX0_enterOrDepart_14 : decode cX0_enterOrDepart 14 = .ok (.return_, 1) := by decide +kernel
set_option maxRecDepth 20000 in
theorem ggX0_run_X0_sent : GoodIn wsX0_run wsX0_sent := goodIn_r _ [9, 10, 11, 80, 81, 82, 83, 84, 85, 86, 87, 88, 89, 90, 91, 92, 93] (by decide +kernel) (by decide +kernel)
set_option maxRecDepth 20000 in
theorem gX0_run_X0_sent : GoodIn wsX0_run (wsV RX0 106 RX0 yX0_sent wsX0_sent) := goodIn_app (goodIn_of _ (by decide +kernel)) ggX0_run_X0_sent
set_option maxRecDepth 20000 in
theorem ggX0_run_X0_comeDue : GoodIn wsX0_run wsX0_comeDue := goodIn_r _ [15, 2, 16, 17, 1, 3, 18, 19, 20, 8, 21, 4, 22, 23, 24, 25, 26, 27, 28, 29, 30, 31, 32, 33, 34, 35, 36, 37, 38, 39, 40, 41, 42, 43, 44, 45, 46, 47, 48, 49, 11, 50, 51, 52, 53, 54, 55, 56, 57, 58, 59, 60, 61, 62, 63, 64, 65, 66, 67, 68, 69, 70, 71, 72, 73, 74, 10, 75, 80, 81, 82, 83, 84, 85, 86, 87, 88, 89, 90, 91, 92, 93] (by decide +kernel) (by decide +kernel)
set_option maxRecDepth 20000 in
theorem gX0_run_X0_comeDue : GoodIn wsX0_run (wsV RX0 110 RX0 yX0_comeDue wsX0_comeDue) := goodIn_app (goodIn_of _ (by decide +kernel)) ggX0_run_X0_comeDue
set_option maxRecDepth 20000 in
theorem ggX0_run_X0_forgetOld : GoodIn wsX0_run wsX0_forgetOld := goodIn_r _ [79, 1, 75, 4, 18, 19, 20, 8, 21, 22, 23, 24, 25, 26, 27, 28, 39, 40, 41, 42, 43, 35, 36, 37, 38, 44, 45, 67, 68, 69, 70, 80, 81, 82, 83, 84, 85, 86, 87, 88, 89, 90, 91, 92, 93] (by decide +kernel) (by decide +kernel)
set_option maxRecDepth 20000 in
theorem gX0_run_X0_forgetOld : GoodIn wsX0_run (wsV RX0 113 RX0 yX0_forgetOld wsX0_forgetOld) := goodIn_app (goodIn_of _ (by decide +kernel)) ggX0_run_X0_forgetOld
theorem dX0_run_0 : decode cX0_run 0 = .ok (.aload_n 0, 1) := by decide +kernel
theorem dX0_run_1 : decode cX0_run 1 = .ok (.invokevirtual 106, 3) := by decide +kernel
theorem dX0_run_4 : decode cX0_run 4 = .ok (.istore_n 2, 1) := by decide +kernel
theorem dX0_run_5 : decode cX0_run 5 = .ok (.iconst 0, 1) := by decide +kernel
theorem dX0_run_6 : decode cX0_run 6 = .ok (.istore_n 3, 1) := by decide +kernel
theorem dX0_run_7 : decode cX0_run 7 = .ok (.iload_n 3, 1) := by decide +kernel
theorem dX0_run_8 : decode cX0_run 8 = .ok (.iload_n 1, 1) := by decide +kernel
theorem dX0_run_9 : decode cX0_run 9 = .ok (.if_icmp .ge 108, 3) := by decide +kernel
theorem dX0_run_12 : decode cX0_run 12 = .ok (.aload_n 0, 1) := by decide +kernel
theorem dX0_run_13 : decode cX0_run 13 = .ok (.dup, 1) := by decide +kernel
theorem dX0_run_14 : decode cX0_run 14 = .ok (.getfield 21, 3) := by decide +kernel
theorem dX0_run_17 : decode cX0_run 17 = .ok (.iconst 1, 1) := by decide +kernel
theorem dX0_run_18 : decode cX0_run 18 = .ok (.iadd, 1) := by decide +kernel
theorem dX0_run_19 : decode cX0_run 19 = .ok (.putfield 21, 3) := by decide +kernel
theorem dX0_run_22 : decode cX0_run 22 = .ok (.iconst 0, 1) := by decide +kernel
theorem dX0_run_23 : decode cX0_run 23 = .ok (.istore 4, 2) := by decide +kernel
theorem dX0_run_25 : decode cX0_run 25 = .ok (.iload 4, 2) := by decide +kernel
theorem dX0_run_27 : decode cX0_run 27 = .ok (.bipush 6, 2) := by decide +kernel
theorem dX0_run_29 : decode cX0_run 29 = .ok (.if_icmp .ge 39, 3) := by decide +kernel
theorem dX0_run_32 : decode cX0_run 32 = .ok (.aload_n 0, 1) := by decide +kernel
theorem dX0_run_33 : decode cX0_run 33 = .ok (.getfield 33, 3) := by decide +kernel
theorem dX0_run_36 : decode cX0_run 36 = .ok (.iload 4, 2) := by decide +kernel
theorem dX0_run_38 : decode cX0_run 38 = .ok (.iaload, 1) := by decide +kernel
theorem dX0_run_39 : decode cX0_run 39 = .ok (.ifCond .eq 23, 3) := by decide +kernel
theorem dX0_run_42 : decode cX0_run 42 = .ok (.aload_n 0, 1) := by decide +kernel
theorem dX0_run_43 : decode cX0_run 43 = .ok (.getfield 43, 3) := by decide +kernel
theorem dX0_run_46 : decode cX0_run 46 = .ok (.iload 4, 2) := by decide +kernel
theorem dX0_run_48 : decode cX0_run 48 = .ok (.iaload, 1) := by decide +kernel
theorem dX0_run_49 : decode cX0_run 49 = .ok (.aload_n 0, 1) := by decide +kernel
theorem dX0_run_50 : decode cX0_run 50 = .ok (.getfield 21, 3) := by decide +kernel
theorem dX0_run_53 : decode cX0_run 53 = .ok (.if_icmp .gt 9, 3) := by decide +kernel
theorem dX0_run_56 : decode cX0_run 56 = .ok (.aload_n 0, 1) := by decide +kernel
theorem dX0_run_57 : decode cX0_run 57 = .ok (.iload 4, 2) := by decide +kernel
theorem dX0_run_59 : decode cX0_run 59 = .ok (.invokevirtual 110, 3) := by decide +kernel
theorem dX0_run_62 : decode cX0_run 62 = .ok (.iinc 4 1, 3) := by decide +kernel
theorem dX0_run_65 : decode cX0_run 65 = .ok (.goto (-40), 3) := by decide +kernel
theorem dX0_run_68 : decode cX0_run 68 = .ok (.iconst 0, 1) := by decide +kernel
theorem dX0_run_69 : decode cX0_run 69 = .ok (.istore 4, 2) := by decide +kernel
theorem dX0_run_71 : decode cX0_run 71 = .ok (.iload 4, 2) := by decide +kernel
theorem dX0_run_73 : decode cX0_run 73 = .ok (.bipush 6, 2) := by decide +kernel
theorem dX0_run_75 : decode cX0_run 75 = .ok (.if_icmp .ge 36, 3) := by decide +kernel
theorem dX0_run_78 : decode cX0_run 78 = .ok (.aload_n 0, 1) := by decide +kernel
theorem dX0_run_79 : decode cX0_run 79 = .ok (.getfield 33, 3) := by decide +kernel
theorem dX0_run_82 : decode cX0_run 82 = .ok (.iload 4, 2) := by decide +kernel
theorem dX0_run_84 : decode cX0_run 84 = .ok (.iaload, 1) := by decide +kernel
theorem dX0_run_85 : decode cX0_run 85 = .ok (.iconst 1, 1) := by decide +kernel
theorem dX0_run_86 : decode cX0_run 86 = .ok (.if_icmp .ne 19, 3) := by decide +kernel
theorem dX0_run_89 : decode cX0_run 89 = .ok (.aload_n 0, 1) := by decide +kernel
theorem dX0_run_90 : decode cX0_run 90 = .ok (.getfield 37, 3) := by decide +kernel
theorem dX0_run_93 : decode cX0_run 93 = .ok (.iload 4, 2) := by decide +kernel
theorem dX0_run_95 : decode cX0_run 95 = .ok (.iaload, 1) := by decide +kernel
theorem dX0_run_96 : decode cX0_run 96 = .ok (.ifCond .eq 9, 3) := by decide +kernel
theorem dX0_run_99 : decode cX0_run 99 = .ok (.aload_n 0, 1) := by decide +kernel
theorem dX0_run_100 : decode cX0_run 100 = .ok (.iload 4, 2) := by decide +kernel
theorem dX0_run_102 : decode cX0_run 102 = .ok (.invokevirtual 113, 3) := by decide +kernel
theorem dX0_run_105 : decode cX0_run 105 = .ok (.iinc 4 1, 3) := by decide +kernel
theorem dX0_run_108 : decode cX0_run 108 = .ok (.goto (-37), 3) := by decide +kernel
theorem dX0_run_111 : decode cX0_run 111 = .ok (.iinc 3 1, 3) := by decide +kernel
theorem dX0_run_114 : decode cX0_run 114 = .ok (.goto (-107), 3) := by decide +kernel
theorem dX0_run_117 : decode cX0_run 117 = .ok (.aload_n 0, 1) := by decide +kernel
theorem dX0_run_118 : decode cX0_run 118 = .ok (.invokevirtual 106, 3) := by decide +kernel
theorem dX0_run_121 : decode cX0_run 121 = .ok (.iload_n 2, 1) := by decide +kernel
theorem dX0_run_122 : decode cX0_run 122 = .ok (.isub, 1) := by decide +kernel
theorem dX0_run_123 : decode cX0_run 123 = .ok (.ireturn, 1) := by decide +kernel
set_option maxRecDepth 20000 in
theorem ggX0_comeDue_X0_countOf : GoodIn wsX0_comeDue wsX0_countOf := goodIn_r _ [10, 11, 12, 13, 14, 15, 16, 17, 18, 68, 69, 70, 71, 72, 73, 74, 75, 76, 77, 78, 79, 80, 81] (by decide +kernel) (by decide +kernel)
set_option maxRecDepth 20000 in
theorem gX0_comeDue_X0_countOf : GoodIn wsX0_comeDue (wsV RX0 71 RX0 yX0_countOf wsX0_countOf) := goodIn_app (goodIn_of _ (by decide +kernel)) ggX0_comeDue_X0_countOf
set_option maxRecDepth 20000 in
theorem ggX0_comeDue_X0_waitOf : GoodIn wsX0_comeDue wsX0_waitOf := goodIn_r _ [22, 23, 24, 25, 26, 27, 28, 29, 30, 31, 9, 32, 33, 34, 35, 68, 69, 70, 71, 72, 73, 74, 75, 76, 77, 78, 79, 80, 81] (by decide +kernel) (by decide +kernel)
set_option maxRecDepth 20000 in
theorem gX0_comeDue_X0_waitOf : GoodIn wsX0_comeDue (wsV RX0 87 RX0 yX0_waitOf wsX0_waitOf) := goodIn_app (goodIn_of _ (by decide +kernel)) ggX0_comeDue_X0_waitOf
set_option maxRecDepth 20000 in
theorem ggX0_comeDue_X0_sendBye : GoodIn wsX0_comeDue wsX0_sendBye := goodIn_r _ [39, 40, 41, 42, 43, 9, 44, 1, 11, 3, 5, 2, 45, 46, 47, 48, 49, 50, 51, 52, 53, 54, 55, 56, 57, 4, 25, 26, 27, 28, 58, 59, 60, 61, 6, 7, 8, 10, 12, 13, 14, 15, 16, 17, 18, 68, 69, 70, 71, 72, 73, 74, 75, 76, 77, 78, 79, 80, 81] (by decide +kernel) (by decide +kernel)
set_option maxRecDepth 20000 in
theorem gX0_comeDue_X0_sendBye : GoodIn wsX0_comeDue (wsV RX0 97 RX0 yX0_sendBye wsX0_sendBye) := goodIn_app (goodIn_of _ (by decide +kernel)) ggX0_comeDue_X0_sendBye
set_option maxRecDepth 20000 in
theorem ggX0_comeDue_X0_sendReport : GoodIn wsX0_comeDue wsX0_sendReport := goodIn_r _ [65, 66, 11, 67, 4, 45, 46, 47, 9, 48, 1, 49, 50, 51, 52, 53, 68, 69, 70, 71, 72, 73, 74, 75, 76, 77, 78, 79, 80, 81] (by decide +kernel) (by decide +kernel)
set_option maxRecDepth 20000 in
theorem gX0_comeDue_X0_sendReport : GoodIn wsX0_comeDue (wsV RX0 116 RX0 yX0_sendReport wsX0_sendReport) := goodIn_app (goodIn_of _ (by decide +kernel)) ggX0_comeDue_X0_sendReport
theorem dX0_comeDue_0 : decode cX0_comeDue 0 = .ok (.aload_n 0, 1) := by decide +kernel
theorem dX0_comeDue_1 : decode cX0_comeDue 1 = .ok (.getfield 33, 3) := by decide +kernel
theorem dX0_comeDue_4 : decode cX0_comeDue 4 = .ok (.iload_n 1, 1) := by decide +kernel
theorem dX0_comeDue_5 : decode cX0_comeDue 5 = .ok (.iaload, 1) := by decide +kernel
theorem dX0_comeDue_6 : decode cX0_comeDue 6 = .ok (.iconst 2, 1) := by decide +kernel
theorem dX0_comeDue_7 : decode cX0_comeDue 7 = .ok (.if_icmp .ne 7, 3) := by decide +kernel
theorem dX0_comeDue_10 : decode cX0_comeDue 10 = .ok (.iconst 1, 1) := by decide +kernel
theorem dX0_comeDue_11 : decode cX0_comeDue 11 = .ok (.goto 4, 3) := by decide +kernel
theorem dX0_comeDue_14 : decode cX0_comeDue 14 = .ok (.iconst 0, 1) := by decide +kernel
theorem dX0_comeDue_15 : decode cX0_comeDue 15 = .ok (.istore_n 2, 1) := by decide +kernel
theorem dX0_comeDue_16 : decode cX0_comeDue 16 = .ok (.aload_n 0, 1) := by decide +kernel
theorem dX0_comeDue_17 : decode cX0_comeDue 17 = .ok (.iload_n 2, 1) := by decide +kernel
theorem dX0_comeDue_18 : decode cX0_comeDue 18 = .ok (.ifCond .eq 12, 3) := by decide +kernel
theorem dX0_comeDue_21 : decode cX0_comeDue 21 = .ok (.aload_n 0, 1) := by decide +kernel
theorem dX0_comeDue_22 : decode cX0_comeDue 22 = .ok (.getfield 46, 3) := by decide +kernel
theorem dX0_comeDue_25 : decode cX0_comeDue 25 = .ok (.iload_n 1, 1) := by decide +kernel
theorem dX0_comeDue_26 : decode cX0_comeDue 26 = .ok (.iaload, 1) := by decide +kernel
theorem dX0_comeDue_27 : decode cX0_comeDue 27 = .ok (.goto 8, 3) := by decide +kernel
theorem dX0_comeDue_30 : decode cX0_comeDue 30 = .ok (.aload_n 0, 1) := by decide +kernel
theorem dX0_comeDue_31 : decode cX0_comeDue 31 = .ok (.iload_n 1, 1) := by decide +kernel
theorem dX0_comeDue_32 : decode cX0_comeDue 32 = .ok (.invokevirtual 71, 3) := by decide +kernel
theorem dX0_comeDue_35 : decode cX0_comeDue 35 = .ok (.invokevirtual 87, 3) := by decide +kernel
theorem dX0_comeDue_38 : decode cX0_comeDue 38 = .ok (.istore_n 3, 1) := by decide +kernel
theorem dX0_comeDue_39 : decode cX0_comeDue 39 = .ok (.aload_n 0, 1) := by decide +kernel
theorem dX0_comeDue_40 : decode cX0_comeDue 40 = .ok (.getfield 40, 3) := by decide +kernel
theorem dX0_comeDue_43 : decode cX0_comeDue 43 = .ok (.iload_n 1, 1) := by decide +kernel
theorem dX0_comeDue_44 : decode cX0_comeDue 44 = .ok (.iaload, 1) := by decide +kernel
theorem dX0_comeDue_45 : decode cX0_comeDue 45 = .ok (.iload_n 3, 1) := by decide +kernel
theorem dX0_comeDue_46 : decode cX0_comeDue 46 = .ok (.iadd, 1) := by decide +kernel
theorem dX0_comeDue_47 : decode cX0_comeDue 47 = .ok (.aload_n 0, 1) := by decide +kernel
theorem dX0_comeDue_48 : decode cX0_comeDue 48 = .ok (.getfield 21, 3) := by decide +kernel
theorem dX0_comeDue_51 : decode cX0_comeDue 51 = .ok (.if_icmp .le 20, 3) := by decide +kernel
theorem dX0_comeDue_54 : decode cX0_comeDue 54 = .ok (.aload_n 0, 1) := by decide +kernel
theorem dX0_comeDue_55 : decode cX0_comeDue 55 = .ok (.getfield 43, 3) := by decide +kernel
theorem dX0_comeDue_58 : decode cX0_comeDue 58 = .ok (.iload_n 1, 1) := by decide +kernel
theorem dX0_comeDue_59 : decode cX0_comeDue 59 = .ok (.aload_n 0, 1) := by decide +kernel
theorem dX0_comeDue_60 : decode cX0_comeDue 60 = .ok (.getfield 40, 3) := by decide +kernel
theorem dX0_comeDue_63 : decode cX0_comeDue 63 = .ok (.iload_n 1, 1) := by decide +kernel
theorem dX0_comeDue_64 : decode cX0_comeDue 64 = .ok (.iaload, 1) := by decide +kernel
theorem dX0_comeDue_65 : decode cX0_comeDue 65 = .ok (.iload_n 3, 1) := by decide +kernel
theorem dX0_comeDue_66 : decode cX0_comeDue 66 = .ok (.iadd, 1) := by decide +kernel
theorem dX0_comeDue_67 : decode cX0_comeDue 67 = .ok (.iastore, 1) := by decide +kernel
theorem dX0_comeDue_68 : decode cX0_comeDue 68 = .ok (.goto 50, 3) := by decide +kernel
theorem dX0_comeDue_71 : decode cX0_comeDue 71 = .ok (.iload_n 2, 1) := by decide +kernel
theorem dX0_comeDue_72 : decode cX0_comeDue 72 = .ok (.ifCond .eq 11, 3) := by decide +kernel
theorem dX0_comeDue_75 : decode cX0_comeDue 75 = .ok (.aload_n 0, 1) := by decide +kernel
theorem dX0_comeDue_76 : decode cX0_comeDue 76 = .ok (.iload_n 1, 1) := by decide +kernel
theorem dX0_comeDue_77 : decode cX0_comeDue 77 = .ok (.invokevirtual 97, 3) := by decide +kernel
theorem dX0_comeDue_80 : decode cX0_comeDue 80 = .ok (.goto 38, 3) := by decide +kernel
theorem dX0_comeDue_83 : decode cX0_comeDue 83 = .ok (.aload_n 0, 1) := by decide +kernel
theorem dX0_comeDue_84 : decode cX0_comeDue 84 = .ok (.iload_n 1, 1) := by decide +kernel
theorem dX0_comeDue_85 : decode cX0_comeDue 85 = .ok (.invokevirtual 116, 3) := by decide +kernel
theorem dX0_comeDue_88 : decode cX0_comeDue 88 = .ok (.aload_n 0, 1) := by decide +kernel
theorem dX0_comeDue_89 : decode cX0_comeDue 89 = .ok (.getfield 40, 3) := by decide +kernel
theorem dX0_comeDue_92 : decode cX0_comeDue 92 = .ok (.iload_n 1, 1) := by decide +kernel
theorem dX0_comeDue_93 : decode cX0_comeDue 93 = .ok (.aload_n 0, 1) := by decide +kernel
theorem dX0_comeDue_94 : decode cX0_comeDue 94 = .ok (.getfield 21, 3) := by decide +kernel
theorem dX0_comeDue_97 : decode cX0_comeDue 97 = .ok (.iastore, 1) := by decide +kernel
theorem dX0_comeDue_98 : decode cX0_comeDue 98 = .ok (.aload_n 0, 1) := by decide +kernel
theorem dX0_comeDue_99 : decode cX0_comeDue 99 = .ok (.getfield 43, 3) := by decide +kernel
theorem dX0_comeDue_102 : decode cX0_comeDue 102 = .ok (.iload_n 1, 1) := by decide +kernel
theorem dX0_comeDue_103 : decode cX0_comeDue 103 = .ok (.aload_n 0, 1) := by decide +kernel
theorem dX0_comeDue_104 : decode cX0_comeDue 104 = .ok (.getfield 21, 3) := by decide +kernel
theorem dX0_comeDue_107 : decode cX0_comeDue 107 = .ok (.aload_n 0, 1) := by decide +kernel
theorem dX0_comeDue_108 : decode cX0_comeDue 108 = .ok (.aload_n 0, 1) := by decide +kernel
theorem dX0_comeDue_109 : decode cX0_comeDue 109 = .ok (.iload_n 1, 1) := by decide +kernel
theorem dX0_comeDue_110 : decode cX0_comeDue 110 = .ok (.invokevirtual 71, 3) := by decide +kernel
theorem dX0_comeDue_113 : decode cX0_comeDue 113 = .ok (.invokevirtual 87, 3) := by decide +kernel
theorem dX0_comeDue_116 : decode cX0_comeDue 116 = .ok (.iadd, 1) := by decide +kernel
theorem dX0_comeDue_117 : decode cX0_comeDue 117 = .ok (.iastore, 1) := by decide +kernel
theorem dX0_comeDue_118 : decode cX0_comeDue 118 = .ok (.return_, 1) := by decide +kernel
set_option maxRecDepth 20000 in
theorem ggX0_forgetOld_X0_countOf : GoodIn wsX0_forgetOld wsX0_countOf := goodIn_r _ [8, 3, 9, 10, 11, 12, 13, 14, 15, 31, 32, 33, 34, 35, 36, 37, 38, 39, 40, 41, 42, 43, 44] (by decide +kernel) (by decide +kernel)
set_option maxRecDepth 20000 in
theorem gX0_forgetOld_X0_countOf : GoodIn wsX0_forgetOld (wsV RX0 71 RX0 yX0_countOf wsX0_countOf) := goodIn_app (goodIn_of _ (by decide +kernel)) ggX0_forgetOld_X0_countOf
set_option maxRecDepth 20000 in
theorem ggX0_forgetOld_X0_spanOf : GoodIn wsX0_forgetOld wsX0_spanOf := goodIn_r _ [19, 20, 21, 22, 23, 24, 25, 26, 31, 32, 33, 34, 35, 36, 37, 38, 39, 40, 41, 42, 43, 44] (by decide +kernel) (by decide +kernel)
set_option maxRecDepth 20000 in
theorem gX0_forgetOld_X0_spanOf : GoodIn wsX0_forgetOld (wsV RX0 84 RX0 yX0_spanOf wsX0_spanOf) := goodIn_app (goodIn_of _ (by decide +kernel)) ggX0_forgetOld_X0_spanOf
set_option maxRecDepth 20000 in
theorem ggX0_forgetOld_X0_knows : GoodIn wsX0_forgetOld wsX0_knows := goodIn_r _ [30, 3, 31, 32, 33, 34, 35, 36, 37, 38, 39, 40, 41, 42, 43, 44] (by decide +kernel) (by decide +kernel)
set_option maxRecDepth 20000 in
theorem gX0_forgetOld_X0_knows : GoodIn wsX0_forgetOld (wsV RX0 119 RX0 yX0_knows wsX0_knows) := goodIn_app (goodIn_of _ (by decide +kernel)) ggX0_forgetOld_X0_knows
theorem dX0_forgetOld_0 : decode cX0_forgetOld 0 = .ok (.iconst 5, 1) := by decide +kernel
theorem dX0_forgetOld_1 : decode cX0_forgetOld 1 = .ok (.aload_n 0, 1) := by decide +kernel
theorem dX0_forgetOld_2 : decode cX0_forgetOld 2 = .ok (.aload_n 0, 1) := by decide +kernel
theorem dX0_forgetOld_3 : decode cX0_forgetOld 3 = .ok (.iload_n 1, 1) := by decide +kernel
theorem dX0_forgetOld_4 : decode cX0_forgetOld 4 = .ok (.invokevirtual 71, 3) := by decide +kernel
theorem dX0_forgetOld_7 : decode cX0_forgetOld 7 = .ok (.invokevirtual 84, 3) := by decide +kernel
theorem dX0_forgetOld_10 : decode cX0_forgetOld 10 = .ok (.imul, 1) := by decide +kernel
theorem dX0_forgetOld_11 : decode cX0_forgetOld 11 = .ok (.istore_n 2, 1) := by decide +kernel
theorem dX0_forgetOld_12 : decode cX0_forgetOld 12 = .ok (.iconst 0, 1) := by decide +kernel
theorem dX0_forgetOld_13 : decode cX0_forgetOld 13 = .ok (.istore_n 3, 1) := by decide +kernel
theorem dX0_forgetOld_14 : decode cX0_forgetOld 14 = .ok (.iload_n 3, 1) := by decide +kernel
theorem dX0_forgetOld_15 : decode cX0_forgetOld 15 = .ok (.bipush 6, 2) := by decide +kernel
theorem dX0_forgetOld_17 : decode cX0_forgetOld 17 = .ok (.if_icmp .ge 56, 3) := by decide +kernel
theorem dX0_forgetOld_20 : decode cX0_forgetOld 20 = .ok (.aload_n 0, 1) := by decide +kernel
theorem dX0_forgetOld_21 : decode cX0_forgetOld 21 = .ok (.getfield 21, 3) := by decide +kernel
theorem dX0_forgetOld_24 : decode cX0_forgetOld 24 = .ok (.aload_n 0, 1) := by decide +kernel
theorem dX0_forgetOld_25 : decode cX0_forgetOld 25 = .ok (.getfield 52, 3) := by decide +kernel
theorem dX0_forgetOld_28 : decode cX0_forgetOld 28 = .ok (.iload_n 1, 1) := by decide +kernel
theorem dX0_forgetOld_29 : decode cX0_forgetOld 29 = .ok (.bipush 6, 2) := by decide +kernel
theorem dX0_forgetOld_31 : decode cX0_forgetOld 31 = .ok (.imul, 1) := by decide +kernel
theorem dX0_forgetOld_32 : decode cX0_forgetOld 32 = .ok (.iload_n 3, 1) := by decide +kernel
theorem dX0_forgetOld_33 : decode cX0_forgetOld 33 = .ok (.iadd, 1) := by decide +kernel
theorem dX0_forgetOld_34 : decode cX0_forgetOld 34 = .ok (.iaload, 1) := by decide +kernel
theorem dX0_forgetOld_35 : decode cX0_forgetOld 35 = .ok (.isub, 1) := by decide +kernel
theorem dX0_forgetOld_36 : decode cX0_forgetOld 36 = .ok (.istore 4, 2) := by decide +kernel
theorem dX0_forgetOld_38 : decode cX0_forgetOld 38 = .ok (.aload_n 0, 1) := by decide +kernel
theorem dX0_forgetOld_39 : decode cX0_forgetOld 39 = .ok (.iload_n 1, 1) := by decide +kernel
theorem dX0_forgetOld_40 : decode cX0_forgetOld 40 = .ok (.iload_n 3, 1) := by decide +kernel
theorem dX0_forgetOld_41 : decode cX0_forgetOld 41 = .ok (.invokevirtual 119, 3) := by decide +kernel
theorem dX0_forgetOld_44 : decode cX0_forgetOld 44 = .ok (.ifCond .eq 23, 3) := by decide +kernel
theorem dX0_forgetOld_47 : decode cX0_forgetOld 47 = .ok (.iload 4, 2) := by decide +kernel
theorem dX0_forgetOld_49 : decode cX0_forgetOld 49 = .ok (.iload_n 2, 1) := by decide +kernel
theorem dX0_forgetOld_50 : decode cX0_forgetOld 50 = .ok (.if_icmp .le 17, 3) := by decide +kernel
theorem dX0_forgetOld_53 : decode cX0_forgetOld 53 = .ok (.aload_n 0, 1) := by decide +kernel
theorem dX0_forgetOld_54 : decode cX0_forgetOld 54 = .ok (.getfield 37, 3) := by decide +kernel
theorem dX0_forgetOld_57 : decode cX0_forgetOld 57 = .ok (.iload_n 1, 1) := by decide +kernel
theorem dX0_forgetOld_58 : decode cX0_forgetOld 58 = .ok (.dup2, 1) := by decide +kernel
theorem dX0_forgetOld_59 : decode cX0_forgetOld 59 = .ok (.iaload, 1) := by decide +kernel
theorem dX0_forgetOld_60 : decode cX0_forgetOld 60 = .ok (.iconst 1, 1) := by decide +kernel
theorem dX0_forgetOld_61 : decode cX0_forgetOld 61 = .ok (.iload_n 3, 1) := by decide +kernel
theorem dX0_forgetOld_62 : decode cX0_forgetOld 62 = .ok (.ishl, 1) := by decide +kernel
theorem dX0_forgetOld_63 : decode cX0_forgetOld 63 = .ok (.iconst (-1), 1) := by decide +kernel
theorem dX0_forgetOld_64 : decode cX0_forgetOld 64 = .ok (.ixor, 1) := by decide +kernel
theorem dX0_forgetOld_65 : decode cX0_forgetOld 65 = .ok (.iand, 1) := by decide +kernel
theorem dX0_forgetOld_66 : decode cX0_forgetOld 66 = .ok (.iastore, 1) := by decide +kernel
theorem dX0_forgetOld_67 : decode cX0_forgetOld 67 = .ok (.iinc 3 1, 3) := by decide +kernel
theorem dX0_forgetOld_70 : decode cX0_forgetOld 70 = .ok (.goto (-56), 3) := by decide +kernel
theorem dX0_forgetOld_73 : decode cX0_forgetOld 73 = .ok (.return_, 1) := by decide +kernel
set_option maxRecDepth 20000 in
theorem ggX0_reaches_X0_isOpen : GoodIn wsX0_reaches wsX0_isOpen := goodIn_r _ [6, 7, 8, 9, 10, 11, 12, 13, 14, 15, 16, 17, 18, 19, 20, 21] (by decide +kernel) (by decide +kernel)
set_option maxRecDepth 20000 in
theorem gX0_reaches_X0_isOpen : GoodIn wsX0_reaches (wsV RX0 123 RX0 yX0_isOpen wsX0_isOpen) := goodIn_app (goodIn_of _ (by decide +kernel)) ggX0_reaches_X0_isOpen
theorem dX0_reaches_0 : decode cX0_reaches 0 = .ok (.iload_n 1, 1) := by decide +kernel
theorem dX0_reaches_1 : decode cX0_reaches 1 = .ok (.iload_n 2, 1) := by decide +kernel
theorem dX0_reaches_2 : decode cX0_reaches 2 = .ok (.if_icmp .eq 25, 3) := by decide +kernel
theorem dX0_reaches_5 : decode cX0_reaches 5 = .ok (.aload_n 0, 1) := by decide +kernel
theorem dX0_reaches_6 : decode cX0_reaches 6 = .ok (.getfield 33, 3) := by decide +kernel
theorem dX0_reaches_9 : decode cX0_reaches 9 = .ok (.iload_n 2, 1) := by decide +kernel
theorem dX0_reaches_10 : decode cX0_reaches 10 = .ok (.iaload, 1) := by decide +kernel
theorem dX0_reaches_11 : decode cX0_reaches 11 = .ok (.ifCond .eq 16, 3) := by decide +kernel
theorem dX0_reaches_14 : decode cX0_reaches 14 = .ok (.aload_n 0, 1) := by decide +kernel
theorem dX0_reaches_15 : decode cX0_reaches 15 = .ok (.iload_n 1, 1) := by decide +kernel
theorem dX0_reaches_16 : decode cX0_reaches 16 = .ok (.iload_n 2, 1) := by decide +kernel
theorem dX0_reaches_17 : decode cX0_reaches 17 = .ok (.invokevirtual 123, 3) := by decide +kernel
theorem dX0_reaches_20 : decode cX0_reaches 20 = .ok (.ifCond .eq 7, 3) := by decide +kernel
theorem dX0_reaches_23 : decode cX0_reaches 23 = .ok (.iconst 1, 1) := by decide +kernel
theorem dX0_reaches_24 : decode cX0_reaches 24 = .ok (.goto 4, 3) := by decide +kernel
theorem dX0_reaches_27 : decode cX0_reaches 27 = .ok (.iconst 0, 1) := by decide +kernel
theorem dX0_reaches_28 : decode cX0_reaches 28 = .ok (.ireturn, 1) := by decide +kernel
set_option maxRecDepth 20000 in
theorem ggX0_sendReport_X0_reaches : GoodIn wsX0_sendReport wsX0_reaches := goodIn_r _ [9, 10, 11, 12, 13, 8, 14, 15, 16, 17, 18, 19, 20, 21, 22, 23, 24, 25, 26, 27, 28, 29] (by decide +kernel) (by decide +kernel)
set_option maxRecDepth 20000 in
theorem gX0_sendReport_X0_reaches : GoodIn wsX0_sendReport (wsV RX0 126 RX0 yX0_reaches wsX0_reaches) := goodIn_app (goodIn_of _ (by decide +kernel)) ggX0_sendReport_X0_reaches
theorem dX0_sendReport_0 : decode cX0_sendReport 0 = .ok (.aload_n 0, 1) := by decide +kernel
theorem dX0_sendReport_1 : decode cX0_sendReport 1 = .ok (.dup, 1) := by decide +kernel
theorem dX0_sendReport_2 : decode cX0_sendReport 2 = .ok (.getfield 27, 3) := by decide +kernel
theorem dX0_sendReport_5 : decode cX0_sendReport 5 = .ok (.iconst 1, 1) := by decide +kernel
theorem dX0_sendReport_6 : decode cX0_sendReport 6 = .ok (.iadd, 1) := by decide +kernel
theorem dX0_sendReport_7 : decode cX0_sendReport 7 = .ok (.putfield 27, 3) := by decide +kernel
theorem dX0_sendReport_10 : decode cX0_sendReport 10 = .ok (.iconst 0, 1) := by decide +kernel
theorem dX0_sendReport_11 : decode cX0_sendReport 11 = .ok (.istore_n 2, 1) := by decide +kernel
theorem dX0_sendReport_12 : decode cX0_sendReport 12 = .ok (.iload_n 2, 1) := by decide +kernel
theorem dX0_sendReport_13 : decode cX0_sendReport 13 = .ok (.bipush 6, 2) := by decide +kernel
theorem dX0_sendReport_15 : decode cX0_sendReport 15 = .ok (.if_icmp .ge 45, 3) := by decide +kernel
theorem dX0_sendReport_18 : decode cX0_sendReport 18 = .ok (.aload_n 0, 1) := by decide +kernel
theorem dX0_sendReport_19 : decode cX0_sendReport 19 = .ok (.iload_n 1, 1) := by decide +kernel
theorem dX0_sendReport_20 : decode cX0_sendReport 20 = .ok (.iload_n 2, 1) := by decide +kernel
theorem dX0_sendReport_21 : decode cX0_sendReport 21 = .ok (.invokevirtual 126, 3) := by decide +kernel
theorem dX0_sendReport_24 : decode cX0_sendReport 24 = .ok (.ifCond .eq 30, 3) := by decide +kernel
theorem dX0_sendReport_27 : decode cX0_sendReport 27 = .ok (.aload_n 0, 1) := by decide +kernel
theorem dX0_sendReport_28 : decode cX0_sendReport 28 = .ok (.getfield 37, 3) := by decide +kernel
theorem dX0_sendReport_31 : decode cX0_sendReport 31 = .ok (.iload_n 2, 1) := by decide +kernel
theorem dX0_sendReport_32 : decode cX0_sendReport 32 = .ok (.dup2, 1) := by decide +kernel
theorem dX0_sendReport_33 : decode cX0_sendReport 33 = .ok (.iaload, 1) := by decide +kernel
theorem dX0_sendReport_34 : decode cX0_sendReport 34 = .ok (.iconst 1, 1) := by decide +kernel
theorem dX0_sendReport_35 : decode cX0_sendReport 35 = .ok (.iload_n 1, 1) := by decide +kernel
theorem dX0_sendReport_36 : decode cX0_sendReport 36 = .ok (.ishl, 1) := by decide +kernel
theorem dX0_sendReport_37 : decode cX0_sendReport 37 = .ok (.ior, 1) := by decide +kernel
theorem dX0_sendReport_38 : decode cX0_sendReport 38 = .ok (.iastore, 1) := by decide +kernel
theorem dX0_sendReport_39 : decode cX0_sendReport 39 = .ok (.aload_n 0, 1) := by decide +kernel
theorem dX0_sendReport_40 : decode cX0_sendReport 40 = .ok (.getfield 52, 3) := by decide +kernel
theorem dX0_sendReport_43 : decode cX0_sendReport 43 = .ok (.iload_n 2, 1) := by decide +kernel
theorem dX0_sendReport_44 : decode cX0_sendReport 44 = .ok (.bipush 6, 2) := by decide +kernel
theorem dX0_sendReport_46 : decode cX0_sendReport 46 = .ok (.imul, 1) := by decide +kernel
theorem dX0_sendReport_47 : decode cX0_sendReport 47 = .ok (.iload_n 1, 1) := by decide +kernel
theorem dX0_sendReport_48 : decode cX0_sendReport 48 = .ok (.iadd, 1) := by decide +kernel
theorem dX0_sendReport_49 : decode cX0_sendReport 49 = .ok (.aload_n 0, 1) := by decide +kernel
theorem dX0_sendReport_50 : decode cX0_sendReport 50 = .ok (.getfield 21, 3) := by decide +kernel
theorem dX0_sendReport_53 : decode cX0_sendReport 53 = .ok (.iastore, 1) := by decide +kernel
theorem dX0_sendReport_54 : decode cX0_sendReport 54 = .ok (.iinc 2 1, 3) := by decide +kernel
theorem dX0_sendReport_57 : decode cX0_sendReport 57 = .ok (.goto (-45), 3) := by decide +kernel
theorem dX0_sendReport_60 : decode cX0_sendReport 60 = .ok (.return_, 1) := by decide +kernel
set_option maxRecDepth 20000 in
theorem ggX0_sendBye_X0_goAway : GoodIn wsX0_sendBye wsX0_goAway := goodIn_r _ [6, 7, 8, 9, 10, 11, 45, 46, 47, 48, 49, 50, 51, 52, 53, 54, 55, 56, 57, 58] (by decide +kernel) (by decide +kernel)
set_option maxRecDepth 20000 in
theorem gX0_sendBye_X0_goAway : GoodIn wsX0_sendBye (wsV RX0 55 RX0 yX0_goAway wsX0_goAway) := goodIn_app (goodIn_of _ (by decide +kernel)) ggX0_sendBye_X0_goAway
set_option maxRecDepth 20000 in
theorem ggX0_sendBye_X0_reaches : GoodIn wsX0_sendBye wsX0_reaches := goodIn_r _ [15, 7, 16, 17, 18, 5, 19, 20, 45, 46, 47, 48, 49, 50, 51, 52, 53, 54, 55, 56, 57, 58] (by decide +kernel) (by decide +kernel)
set_option maxRecDepth 20000 in
theorem gX0_sendBye_X0_reaches : GoodIn wsX0_sendBye (wsV RX0 126 RX0 yX0_reaches wsX0_reaches) := goodIn_app (goodIn_of _ (by decide +kernel)) ggX0_sendBye_X0_reaches
set_option maxRecDepth 20000 in
theorem ggX0_sendBye_X0_hearBye : GoodIn wsX0_sendBye wsX0_hearBye := goodIn_r _ [24, 7, 11, 8, 10, 25, 26, 27, 28, 29, 9, 30, 31, 32, 5, 33, 34, 35, 36, 37, 38, 39, 40, 41, 42, 43, 44, 45, 46, 47, 48, 49, 50, 51, 52, 53, 54, 55, 56, 57, 58] (by decide +kernel) (by decide +kernel)
set_option maxRecDepth 20000 in
theorem gX0_sendBye_X0_hearBye : GoodIn wsX0_sendBye (wsV RX0 129 RX0 yX0_hearBye wsX0_hearBye) := goodIn_app (goodIn_of _ (by decide +kernel)) ggX0_sendBye_X0_hearBye
theorem dX0_sendBye_0 : decode cX0_sendBye 0 = .ok (.aload_n 0, 1) := by decide +kernel
theorem dX0_sendBye_1 : decode cX0_sendBye 1 = .ok (.dup, 1) := by decide +kernel
theorem dX0_sendBye_2 : decode cX0_sendBye 2 = .ok (.getfield 30, 3) := by decide +kernel
theorem dX0_sendBye_5 : decode cX0_sendBye 5 = .ok (.iconst 1, 1) := by decide +kernel
theorem dX0_sendBye_6 : decode cX0_sendBye 6 = .ok (.iadd, 1) := by decide +kernel
theorem dX0_sendBye_7 : decode cX0_sendBye 7 = .ok (.putfield 30, 3) := by decide +kernel
theorem dX0_sendBye_10 : decode cX0_sendBye 10 = .ok (.aload_n 0, 1) := by decide +kernel
theorem dX0_sendBye_11 : decode cX0_sendBye 11 = .ok (.iload_n 1, 1) := by decide +kernel
theorem dX0_sendBye_12 : decode cX0_sendBye 12 = .ok (.invokevirtual 55, 3) := by decide +kernel
theorem dX0_sendBye_15 : decode cX0_sendBye 15 = .ok (.iconst 0, 1) := by decide +kernel
theorem dX0_sendBye_16 : decode cX0_sendBye 16 = .ok (.istore_n 2, 1) := by decide +kernel
theorem dX0_sendBye_17 : decode cX0_sendBye 17 = .ok (.iload_n 2, 1) := by decide +kernel
theorem dX0_sendBye_18 : decode cX0_sendBye 18 = .ok (.bipush 6, 2) := by decide +kernel
theorem dX0_sendBye_20 : decode cX0_sendBye 20 = .ok (.if_icmp .ge 24, 3) := by decide +kernel
theorem dX0_sendBye_23 : decode cX0_sendBye 23 = .ok (.aload_n 0, 1) := by decide +kernel
theorem dX0_sendBye_24 : decode cX0_sendBye 24 = .ok (.iload_n 1, 1) := by decide +kernel
theorem dX0_sendBye_25 : decode cX0_sendBye 25 = .ok (.iload_n 2, 1) := by decide +kernel
theorem dX0_sendBye_26 : decode cX0_sendBye 26 = .ok (.invokevirtual 126, 3) := by decide +kernel
theorem dX0_sendBye_29 : decode cX0_sendBye 29 = .ok (.ifCond .eq 9, 3) := by decide +kernel
theorem dX0_sendBye_32 : decode cX0_sendBye 32 = .ok (.aload_n 0, 1) := by decide +kernel
theorem dX0_sendBye_33 : decode cX0_sendBye 33 = .ok (.iload_n 2, 1) := by decide +kernel
theorem dX0_sendBye_34 : decode cX0_sendBye 34 = .ok (.iload_n 1, 1) := by decide +kernel
theorem dX0_sendBye_35 : decode cX0_sendBye 35 = .ok (.invokevirtual 129, 3) := by decide +kernel
theorem dX0_sendBye_38 : decode cX0_sendBye 38 = .ok (.iinc 2 1, 3) := by decide +kernel
theorem dX0_sendBye_41 : decode cX0_sendBye 41 = .ok (.goto (-24), 3) := by decide +kernel
theorem dX0_sendBye_44 : decode cX0_sendBye 44 = .ok (.return_, 1) := by decide +kernel
set_option maxRecDepth 20000 in
theorem ggX0_hearBye_X0_knows : GoodIn wsX0_hearBye wsX0_knows := goodIn_r _ [15, 3, 27, 28, 29, 30, 31, 32, 33, 34, 35, 36, 37, 38, 39, 40] (by decide +kernel) (by decide +kernel)
set_option maxRecDepth 20000 in
theorem gX0_hearBye_X0_knows : GoodIn wsX0_hearBye (wsV RX0 119 RX0 yX0_knows wsX0_knows) := goodIn_app (goodIn_of _ (by decide +kernel)) ggX0_hearBye_X0_knows
set_option maxRecDepth 20000 in
theorem ggX0_hearBye_X0_countOf : GoodIn wsX0_hearBye wsX0_countOf := goodIn_r _ [19, 3, 20, 21, 22, 23, 24, 25, 26, 27, 28, 29, 30, 31, 32, 33, 34, 35, 36, 37, 38, 39, 40] (by decide +kernel) (by decide +kernel)
set_option maxRecDepth 20000 in
theorem gX0_hearBye_X0_countOf : GoodIn wsX0_hearBye (wsV RX0 71 RX0 yX0_countOf wsX0_countOf) := goodIn_app (goodIn_of _ (by decide +kernel)) ggX0_hearBye_X0_countOf
theorem dX0_hearBye_0 : decode cX0_hearBye 0 = .ok (.aload_n 0, 1) := by decide +kernel
theorem dX0_hearBye_1 : decode cX0_hearBye 1 = .ok (.getfield 33, 3) := by decide +kernel
theorem dX0_hearBye_4 : decode cX0_hearBye 4 = .ok (.iload_n 1, 1) := by decide +kernel
theorem dX0_hearBye_5 : decode cX0_hearBye 5 = .ok (.iaload, 1) := by decide +kernel
theorem dX0_hearBye_6 : decode cX0_hearBye 6 = .ok (.iconst 2, 1) := by decide +kernel
theorem dX0_hearBye_7 : decode cX0_hearBye 7 = .ok (.if_icmp .ne 13, 3) := by decide +kernel
theorem dX0_hearBye_10 : decode cX0_hearBye 10 = .ok (.aload_n 0, 1) := by decide +kernel
theorem dX0_hearBye_11 : decode cX0_hearBye 11 = .ok (.getfield 46, 3) := by decide +kernel
theorem dX0_hearBye_14 : decode cX0_hearBye 14 = .ok (.iload_n 1, 1) := by decide +kernel
theorem dX0_hearBye_15 : decode cX0_hearBye 15 = .ok (.dup2, 1) := by decide +kernel
theorem dX0_hearBye_16 : decode cX0_hearBye 16 = .ok (.iaload, 1) := by decide +kernel
theorem dX0_hearBye_17 : decode cX0_hearBye 17 = .ok (.iconst 1, 1) := by decide +kernel
theorem dX0_hearBye_18 : decode cX0_hearBye 18 = .ok (.iadd, 1) := by decide +kernel
theorem dX0_hearBye_19 : decode cX0_hearBye 19 = .ok (.iastore, 1) := by decide +kernel
theorem dX0_hearBye_20 : decode cX0_hearBye 20 = .ok (.aload_n 0, 1) := by decide +kernel
theorem dX0_hearBye_21 : decode cX0_hearBye 21 = .ok (.iload_n 1, 1) := by decide +kernel
theorem dX0_hearBye_22 : decode cX0_hearBye 22 = .ok (.iload_n 2, 1) := by decide +kernel
theorem dX0_hearBye_23 : decode cX0_hearBye 23 = .ok (.invokevirtual 119, 3) := by decide +kernel
theorem dX0_hearBye_26 : decode cX0_hearBye 26 = .ok (.ifCond .ne 4, 3) := by decide +kernel
theorem dX0_hearBye_29 : decode cX0_hearBye 29 = .ok (.return_, 1) := by decide +kernel
theorem dX0_hearBye_30 : decode cX0_hearBye 30 = .ok (.aload_n 0, 1) := by decide +kernel
theorem dX0_hearBye_31 : decode cX0_hearBye 31 = .ok (.iload_n 1, 1) := by decide +kernel
theorem dX0_hearBye_32 : decode cX0_hearBye 32 = .ok (.invokevirtual 71, 3) := by decide +kernel
theorem dX0_hearBye_35 : decode cX0_hearBye 35 = .ok (.istore_n 3, 1) := by decide +kernel
theorem dX0_hearBye_36 : decode cX0_hearBye 36 = .ok (.iload_n 3, 1) := by decide +kernel
theorem dX0_hearBye_37 : decode cX0_hearBye 37 = .ok (.iconst 1, 1) := by decide +kernel
theorem dX0_hearBye_38 : decode cX0_hearBye 38 = .ok (.isub, 1) := by decide +kernel
theorem dX0_hearBye_39 : decode cX0_hearBye 39 = .ok (.istore 4, 2) := by decide +kernel
theorem dX0_hearBye_41 : decode cX0_hearBye 41 = .ok (.aload_n 0, 1) := by decide +kernel
theorem dX0_hearBye_42 : decode cX0_hearBye 42 = .ok (.getfield 37, 3) := by decide +kernel
theorem dX0_hearBye_45 : decode cX0_hearBye 45 = .ok (.iload_n 1, 1) := by decide +kernel
theorem dX0_hearBye_46 : decode cX0_hearBye 46 = .ok (.dup2, 1) := by decide +kernel
theorem dX0_hearBye_47 : decode cX0_hearBye 47 = .ok (.iaload, 1) := by decide +kernel
theorem dX0_hearBye_48 : decode cX0_hearBye 48 = .ok (.iconst 1, 1) := by decide +kernel
theorem dX0_hearBye_49 : decode cX0_hearBye 49 = .ok (.iload_n 2, 1) := by decide +kernel
theorem dX0_hearBye_50 : decode cX0_hearBye 50 = .ok (.ishl, 1) := by decide +kernel
theorem dX0_hearBye_51 : decode cX0_hearBye 51 = .ok (.iconst (-1), 1) := by decide +kernel
theorem dX0_hearBye_52 : decode cX0_hearBye 52 = .ok (.ixor, 1) := by decide +kernel
theorem dX0_hearBye_53 : decode cX0_hearBye 53 = .ok (.iand, 1) := by decide +kernel
theorem dX0_hearBye_54 : decode cX0_hearBye 54 = .ok (.iastore, 1) := by decide +kernel
theorem dX0_hearBye_55 : decode cX0_hearBye 55 = .ok (.aload_n 0, 1) := by decide +kernel
theorem dX0_hearBye_56 : decode cX0_hearBye 56 = .ok (.getfield 33, 3) := by decide +kernel
theorem dX0_hearBye_59 : decode cX0_hearBye 59 = .ok (.iload_n 1, 1) := by decide +kernel
theorem dX0_hearBye_60 : decode cX0_hearBye 60 = .ok (.iaload, 1) := by decide +kernel
theorem dX0_hearBye_61 : decode cX0_hearBye 61 = .ok (.iconst 1, 1) := by decide +kernel
theorem dX0_hearBye_62 : decode cX0_hearBye 62 = .ok (.if_icmp .ne 61, 3) := by decide +kernel
theorem dX0_hearBye_65 : decode cX0_hearBye 65 = .ok (.aload_n 0, 1) := by decide +kernel
theorem dX0_hearBye_66 : decode cX0_hearBye 66 = .ok (.getfield 43, 3) := by decide +kernel
theorem dX0_hearBye_69 : decode cX0_hearBye 69 = .ok (.iload_n 1, 1) := by decide +kernel
theorem dX0_hearBye_70 : decode cX0_hearBye 70 = .ok (.aload_n 0, 1) := by decide +kernel
theorem dX0_hearBye_71 : decode cX0_hearBye 71 = .ok (.getfield 21, 3) := by decide +kernel
theorem dX0_hearBye_74 : decode cX0_hearBye 74 = .ok (.iconst 0, 1) := by decide +kernel
theorem dX0_hearBye_75 : decode cX0_hearBye 75 = .ok (.aload_n 0, 1) := by decide +kernel
theorem dX0_hearBye_76 : decode cX0_hearBye 76 = .ok (.getfield 43, 3) := by decide +kernel
theorem dX0_hearBye_79 : decode cX0_hearBye 79 = .ok (.iload_n 1, 1) := by decide +kernel
theorem dX0_hearBye_80 : decode cX0_hearBye 80 = .ok (.iaload, 1) := by decide +kernel
theorem dX0_hearBye_81 : decode cX0_hearBye 81 = .ok (.aload_n 0, 1) := by decide +kernel
theorem dX0_hearBye_82 : decode cX0_hearBye 82 = .ok (.getfield 21, 3) := by decide +kernel
theorem dX0_hearBye_85 : decode cX0_hearBye 85 = .ok (.isub, 1) := by decide +kernel
theorem dX0_hearBye_86 : decode cX0_hearBye 86 = .ok (.invokestatic 77, 3) := by decide +kernel
theorem dX0_hearBye_89 : decode cX0_hearBye 89 = .ok (.iload 4, 2) := by decide +kernel
theorem dX0_hearBye_91 : decode cX0_hearBye 91 = .ok (.imul, 1) := by decide +kernel
theorem dX0_hearBye_92 : decode cX0_hearBye 92 = .ok (.iload_n 3, 1) := by decide +kernel
theorem dX0_hearBye_93 : decode cX0_hearBye 93 = .ok (.idiv, 1) := by decide +kernel
theorem dX0_hearBye_94 : decode cX0_hearBye 94 = .ok (.iadd, 1) := by decide +kernel
theorem dX0_hearBye_95 : decode cX0_hearBye 95 = .ok (.iastore, 1) := by decide +kernel
theorem dX0_hearBye_96 : decode cX0_hearBye 96 = .ok (.aload_n 0, 1) := by decide +kernel
theorem dX0_hearBye_97 : decode cX0_hearBye 97 = .ok (.getfield 40, 3) := by decide +kernel
theorem dX0_hearBye_100 : decode cX0_hearBye 100 = .ok (.iload_n 1, 1) := by decide +kernel
theorem dX0_hearBye_101 : decode cX0_hearBye 101 = .ok (.aload_n 0, 1) := by decide +kernel
theorem dX0_hearBye_102 : decode cX0_hearBye 102 = .ok (.getfield 21, 3) := by decide +kernel
theorem dX0_hearBye_105 : decode cX0_hearBye 105 = .ok (.aload_n 0, 1) := by decide +kernel
theorem dX0_hearBye_106 : decode cX0_hearBye 106 = .ok (.getfield 21, 3) := by decide +kernel
theorem dX0_hearBye_109 : decode cX0_hearBye 109 = .ok (.aload_n 0, 1) := by decide +kernel
theorem dX0_hearBye_110 : decode cX0_hearBye 110 = .ok (.getfield 40, 3) := by decide +kernel
theorem dX0_hearBye_113 : decode cX0_hearBye 113 = .ok (.iload_n 1, 1) := by decide +kernel
theorem dX0_hearBye_114 : decode cX0_hearBye 114 = .ok (.iaload, 1) := by decide +kernel
theorem dX0_hearBye_115 : decode cX0_hearBye 115 = .ok (.isub, 1) := by decide +kernel
theorem dX0_hearBye_116 : decode cX0_hearBye 116 = .ok (.iload 4, 2) := by decide +kernel
theorem dX0_hearBye_118 : decode cX0_hearBye 118 = .ok (.imul, 1) := by decide +kernel
theorem dX0_hearBye_119 : decode cX0_hearBye 119 = .ok (.iload_n 3, 1) := by decide +kernel
theorem dX0_hearBye_120 : decode cX0_hearBye 120 = .ok (.idiv, 1) := by decide +kernel
theorem dX0_hearBye_121 : decode cX0_hearBye 121 = .ok (.isub, 1) := by decide +kernel
theorem dX0_hearBye_122 : decode cX0_hearBye 122 = .ok (.iastore, 1) := by decide +kernel
theorem dX0_hearBye_123 : decode cX0_hearBye 123 = .ok (.return_, 1) := by decide +kernel
theorem dJ6_bitCount_0f7a4_0 : decode cJ6_bitCount_0f7a4 0 = .ok (.iload_n 0, 1) := by decide +kernel
theorem dJ6_bitCount_0f7a4_1 : decode cJ6_bitCount_0f7a4 1 = .ok (.iload_n 0, 1) := by decide +kernel
theorem dJ6_bitCount_0f7a4_2 : decode cJ6_bitCount_0f7a4 2 = .ok (.iconst 1, 1) := by decide +kernel
theorem dJ6_bitCount_0f7a4_3 : decode cJ6_bitCount_0f7a4 3 = .ok (.iushr, 1) := by decide +kernel
theorem dJ6_bitCount_0f7a4_4 : decode cJ6_bitCount_0f7a4 4 = .ok (.ldc_w 265, 3) := by decide +kernel
theorem dJ6_bitCount_0f7a4_7 : decode cJ6_bitCount_0f7a4 7 = .ok (.iand, 1) := by decide +kernel
theorem dJ6_bitCount_0f7a4_8 : decode cJ6_bitCount_0f7a4 8 = .ok (.isub, 1) := by decide +kernel
theorem dJ6_bitCount_0f7a4_9 : decode cJ6_bitCount_0f7a4 9 = .ok (.istore_n 0, 1) := by decide +kernel
theorem dJ6_bitCount_0f7a4_10 : decode cJ6_bitCount_0f7a4 10 = .ok (.iload_n 0, 1) := by decide +kernel
theorem dJ6_bitCount_0f7a4_11 : decode cJ6_bitCount_0f7a4 11 = .ok (.ldc_w 266, 3) := by decide +kernel
theorem dJ6_bitCount_0f7a4_14 : decode cJ6_bitCount_0f7a4 14 = .ok (.iand, 1) := by decide +kernel
theorem dJ6_bitCount_0f7a4_15 : decode cJ6_bitCount_0f7a4 15 = .ok (.iload_n 0, 1) := by decide +kernel
theorem dJ6_bitCount_0f7a4_16 : decode cJ6_bitCount_0f7a4 16 = .ok (.iconst 2, 1) := by decide +kernel
theorem dJ6_bitCount_0f7a4_17 : decode cJ6_bitCount_0f7a4 17 = .ok (.iushr, 1) := by decide +kernel
theorem dJ6_bitCount_0f7a4_18 : decode cJ6_bitCount_0f7a4 18 = .ok (.ldc_w 266, 3) := by decide +kernel
theorem dJ6_bitCount_0f7a4_21 : decode cJ6_bitCount_0f7a4 21 = .ok (.iand, 1) := by decide +kernel
theorem dJ6_bitCount_0f7a4_22 : decode cJ6_bitCount_0f7a4 22 = .ok (.iadd, 1) := by decide +kernel
theorem dJ6_bitCount_0f7a4_23 : decode cJ6_bitCount_0f7a4 23 = .ok (.istore_n 0, 1) := by decide +kernel
theorem dJ6_bitCount_0f7a4_24 : decode cJ6_bitCount_0f7a4 24 = .ok (.iload_n 0, 1) := by decide +kernel
theorem dJ6_bitCount_0f7a4_25 : decode cJ6_bitCount_0f7a4 25 = .ok (.iload_n 0, 1) := by decide +kernel
theorem dJ6_bitCount_0f7a4_26 : decode cJ6_bitCount_0f7a4 26 = .ok (.iconst 4, 1) := by decide +kernel
theorem dJ6_bitCount_0f7a4_27 : decode cJ6_bitCount_0f7a4 27 = .ok (.iushr, 1) := by decide +kernel
theorem dJ6_bitCount_0f7a4_28 : decode cJ6_bitCount_0f7a4 28 = .ok (.iadd, 1) := by decide +kernel
theorem dJ6_bitCount_0f7a4_29 : decode cJ6_bitCount_0f7a4 29 = .ok (.ldc_w 267, 3) := by decide +kernel
theorem dJ6_bitCount_0f7a4_32 : decode cJ6_bitCount_0f7a4 32 = .ok (.iand, 1) := by decide +kernel
theorem dJ6_bitCount_0f7a4_33 : decode cJ6_bitCount_0f7a4 33 = .ok (.istore_n 0, 1) := by decide +kernel
theorem dJ6_bitCount_0f7a4_34 : decode cJ6_bitCount_0f7a4 34 = .ok (.iload_n 0, 1) := by decide +kernel
theorem dJ6_bitCount_0f7a4_35 : decode cJ6_bitCount_0f7a4 35 = .ok (.iload_n 0, 1) := by decide +kernel
theorem dJ6_bitCount_0f7a4_36 : decode cJ6_bitCount_0f7a4 36 = .ok (.bipush 8, 2) := by decide +kernel
theorem dJ6_bitCount_0f7a4_38 : decode cJ6_bitCount_0f7a4 38 = .ok (.iushr, 1) := by decide +kernel
theorem dJ6_bitCount_0f7a4_39 : decode cJ6_bitCount_0f7a4 39 = .ok (.iadd, 1) := by decide +kernel
theorem dJ6_bitCount_0f7a4_40 : decode cJ6_bitCount_0f7a4 40 = .ok (.istore_n 0, 1) := by decide +kernel
theorem dJ6_bitCount_0f7a4_41 : decode cJ6_bitCount_0f7a4 41 = .ok (.iload_n 0, 1) := by decide +kernel
theorem dJ6_bitCount_0f7a4_42 : decode cJ6_bitCount_0f7a4 42 = .ok (.iload_n 0, 1) := by decide +kernel
theorem dJ6_bitCount_0f7a4_43 : decode cJ6_bitCount_0f7a4 43 = .ok (.bipush 16, 2) := by decide +kernel
theorem dJ6_bitCount_0f7a4_45 : decode cJ6_bitCount_0f7a4 45 = .ok (.iushr, 1) := by decide +kernel
theorem dJ6_bitCount_0f7a4_46 : decode cJ6_bitCount_0f7a4 46 = .ok (.iadd, 1) := by decide +kernel
theorem dJ6_bitCount_0f7a4_47 : decode cJ6_bitCount_0f7a4 47 = .ok (.istore_n 0, 1) := by decide +kernel
theorem dJ6_bitCount_0f7a4_48 : decode cJ6_bitCount_0f7a4 48 = .ok (.iload_n 0, 1) := by decide +kernel
theorem dJ6_bitCount_0f7a4_49 : decode cJ6_bitCount_0f7a4 49 = .ok (.bipush 63, 2) := by decide +kernel
theorem dJ6_bitCount_0f7a4_51 : decode cJ6_bitCount_0f7a4 51 = .ok (.iand, 1) := by decide +kernel
theorem dJ6_bitCount_0f7a4_52 : decode cJ6_bitCount_0f7a4 52 = .ok (.ireturn, 1) := by decide +kernel
theorem dJ9_abs_0f7a4_0 : decode cJ9_abs_0f7a4 0 = .ok (.iload_n 0, 1) := by decide +kernel
theorem dJ9_abs_0f7a4_1 : decode cJ9_abs_0f7a4 1 = .ok (.ifCond .ge 8, 3) := by decide +kernel
theorem dJ9_abs_0f7a4_4 : decode cJ9_abs_0f7a4 4 = .ok (.iload_n 0, 1) := by decide +kernel
theorem dJ9_abs_0f7a4_5 : decode cJ9_abs_0f7a4 5 = .ok (.ineg, 1) := by decide +kernel
theorem dJ9_abs_0f7a4_6 : decode cJ9_abs_0f7a4 6 = .ok (.goto 4, 3) := by decide +kernel
theorem dJ9_abs_0f7a4_9 : decode cJ9_abs_0f7a4 9 = .ok (.iload_n 0, 1) := by decide +kernel
theorem dJ9_abs_0f7a4_10 : decode cJ9_abs_0f7a4 10 = .ok (.ireturn, 1) := by decide +kernel
theorem dJ9_max_7cf53_0 : decode cJ9_max_7cf53 0 = .ok (.iload_n 0, 1) := by decide +kernel
theorem dJ9_max_7cf53_1 : decode cJ9_max_7cf53 1 = .ok (.iload_n 1, 1) := by decide +kernel
theorem dJ9_max_7cf53_2 : decode cJ9_max_7cf53 2 = .ok (.if_icmp .lt 7, 3) := by decide +kernel
theorem dJ9_max_7cf53_5 : decode cJ9_max_7cf53 5 = .ok (.iload_n 0, 1) := by decide +kernel
theorem dJ9_max_7cf53_6 : decode cJ9_max_7cf53 6 = .ok (.goto 4, 3) := by decide +kernel
theorem dJ9_max_7cf53_9 : decode cJ9_max_7cf53 9 = .ok (.iload_n 1, 1) := by decide +kernel
theorem dJ9_max_7cf53_10 : decode cJ9_max_7cf53 10 = .ok (.ireturn, 1) := by decide +kernel
theorem dX1_isMember_0 : decode cX1_isMember 0 = .ok (.iload_n 0, 1) := by decide +kernel
theorem dX1_isMember_1 : decode cX1_isMember 1 = .ok (.ifCond .lt 13, 3) := by decide +kernel
theorem dX1_isMember_4 : decode cX1_isMember 4 = .ok (.iload_n 0, 1) := by decide +kernel
theorem dX1_isMember_5 : decode cX1_isMember 5 = .ok (.bipush 6, 2) := by decide +kernel
theorem dX1_isMember_7 : decode cX1_isMember 7 = .ok (.if_icmp .ge 7, 3) := by decide +kernel
theorem dX1_isMember_10 : decode cX1_isMember 10 = .ok (.iconst 1, 1) := by decide +kernel
theorem dX1_isMember_11 : decode cX1_isMember 11 = .ok (.goto 4, 3) := by decide +kernel
theorem dX1_isMember_14 : decode cX1_isMember 14 = .ok (.iconst 0, 1) := by decide +kernel
theorem dX1_isMember_15 : decode cX1_isMember 15 = .ok (.ireturn, 1) := by decide +kernel
end
section
/-! the class's own words: what its Crowd does to the row, and that it is the same -/
def S_mem (v : Int32) : Bool := if v < 0 then false else if 6 ≤ v then false else true
def bc1 (x : Int32) : Int32 := x - ((x.toUInt32 >>> (Int32.toUInt32 1 &&& Int32.toUInt32 31)).toInt32 &&& 1431655765)
def bc2 (x : Int32) : Int32 := (x &&& 858993459) + ((x.toUInt32 >>> (Int32.toUInt32 2 &&& Int32.toUInt32 31)).toInt32 &&& 858993459)
def bc3 (x : Int32) : Int32 := (x + (x.toUInt32 >>> (Int32.toUInt32 4 &&& Int32.toUInt32 31)).toInt32) &&& 252645135
def bc4 (x : Int32) : Int32 := x + (x.toUInt32 >>> (Int32.toUInt32 8 &&& Int32.toUInt32 31)).toInt32
def bc5 (x : Int32) : Int32 := x + (x.toUInt32 >>> (Int32.toUInt32 16 &&& Int32.toUInt32 31)).toInt32
def bcE (x : Int32) : Int32 := bc5 (bc4 (bc3 (bc2 (bc1 x)))) &&& 63
theorem bc_ok : ∀ v : Nat, v < 64 → bcE (nI v) = S_ones (nI v) := by decide +kernel
def Kn (f : Row) : Prop := ∀ k, k < 6 → ∃ v : Nat, v < 64 ∧ f (6 + k) = nI v
theorem Kn_upd {f : Row} {j : Nat} {x : Int32} (h : Kn f) (hj : j < 6 ∨ 12 ≤ j) : Kn (upd f j x) := fun k hk => by
  rw [pk_un (by omega)]
  exact h k hk
theorem Kn_draw {f : Row} (h : Kn f) : Kn (S_draw f) := Kn_upd h (by omega)
theorem has_01 {x y : Int32} : (¬ (x >>> (y &&& 31)) &&& 1 = 0) ↔ S_has x y = true := by
  unfold S_has
  rcases and1 (x >>> (y &&& 31)) with h | h <;> rw [h] <;> simp
theorem has_00 {x y : Int32} : ((x >>> (y &&& 31)) &&& 1 = 0) ↔ S_has x y = false := by
  unfold S_has
  rcases and1 (x >>> (y &&& 31)) with h | h <;> rw [h] <;> simp
theorem or_z (x : Int32) : x ||| 0 = x := Int32.or_zero
theorem and_m1 (x : Int32) : x &&& (-1) = x := Int32.and_neg_one
theorem up_same {f : Row} {i : Nat} {x : Int32} (h : f i = x) : upd f i x = f := by
  funext j
  unfold upd
  by_cases q : j = i
  · subst q; rw [if_pos rfl]; exact h.symm
  · rw [if_neg q]
def C_span (f : Row) (v : Int32) : Int32 := if f 68 < (v * f 66 + (if 1 < f 67 then f 67 else 1) - 1) / (if 1 < f 67 then f 67 else 1) then (v * f 66 + (if 1 < f 67 then f 67 else 1) - 1) / (if 1 < f 67 then f 67 else 1) else f 68
theorem mx1 {x : Int32} (h : 1 ≤ x) : (if 1 < x then x else 1) = x := by
  by_cases q : 1 < x
  · rw [if_pos q]
  · rw [if_neg q]
    exact Int32.le_antisymm h (Int32.not_lt.mp q)
theorem C_span_eq {f : Row} {v : Int32} (h : Z67 f) : C_span f v = S_span f v := by
  unfold C_span S_span S_up
  rw [mx1 h]
  by_cases q : f 68 < (v * f 66 + f 67 - 1) / f 67
  · rw [if_pos q, if_neg (Int32.not_le.mpr q)]
  · rw [if_neg q, if_pos (Int32.not_lt.mp q)]
theorem S_span_draw {f : Row} {v : Int32} : S_span (S_draw f) v = S_span f v := by
  unfold S_span S_up S_draw
  rw [pk_un (by decide), pk_un (by decide), pk_un (by decide)]
theorem C_wait_eq {f : Row} {v : Int32} : (if 1 < S_span (S_draw f) v * (2 + S_drawV f) / 4 then S_span (S_draw f) v * (2 + S_drawV f) / 4 else 1) = S_waitV f v := by
  unfold S_waitV S_wait0
  rw [S_span_draw]
  by_cases q : S_span f v * (2 + S_drawV f) / 4 ≤ 1
  · rw [if_pos q, if_neg (Int32.not_lt.mpr q)]
  · rw [if_neg q, if_pos (Int32.not_le.mp q)]
def S_begin0 (f : Row) (k : Nat) : Row := upd f (48 + k) (f 70)
def S_begin (f : Row) (k : Nat) : Row := upd (S_draw (S_begin0 f k)) (54 + k) (S_begin0 f k 70 + S_waitV (S_begin0 f k) 1)
def S_rs0 (f : Row) : Row := upd (upd (upd f 70 0) 71 0) 72 0
def S_rsStep (k : Nat) (g : Row) : Row := upd (S_goAway g k) (73 + k) 0
def S_restart (f : Row) : Row := it S_rsStep 6 (S_rs0 f)
def S_restOk (f : Row) (k : Nat) : Bool := if f k = 2 then false else if f k = 1 then (if f (6 + k) = S_those f 1 &&& ((1 <<< (nI k &&& 31)) ^^^ (-1)) then true else false) else true
def S_restN (f : Row) : Nat → Bool
  | 0 => true
  | n + 1 => S_restN f n && S_restOk f n
theorem S_restN_f {f : Row} {i : Nat} (h : S_restOk f i = false) : ∀ n, i < n → S_restN f n = false
  | 0, q => absurd q (by omega)
  | n + 1, q => by
    unfold S_restN
    by_cases e : i = n
    · subst e; rw [h, Bool.and_false]
    · rw [S_restN_f h n (by omega), Bool.false_and]
def S_feltStep (f : Row) (k : Nat) (x : Int32) : Int32 := if f k = 0 then x ||| f (6 + k) else x ||| f (6 + k) ||| (1 <<< (nI k &&& 31))
def S_felt (f : Row) : Int32 := it (S_feltStep f) 6 0
def S_onlyStep (bits : Int32) (k : Nat) (g : Row) : Row := if S_has bits (nI k) then upd g (6 + k) (g (6 + k) &&& bits) else S_goAway (upd g (6 + k) (g (6 + k) &&& bits)) k
def S_only (f : Row) (bits : Int32) : Row := it (S_onlyStep bits) 6 f
def S_turn (f : Row) (k o : Nat) : Row := upd f (73 + k) (f (73 + k) ^^^ (1 <<< (nI o &&& 31)))
theorem S_fs_no {k o : Nat} {most : Int32} {g : Row} (h : S_old g k o most = false) : S_forStep k most o g = g := by
  unfold S_forStep
  rw [h]
  simp only [Bool.false_eq_true, if_false, and_m1]
  exact up_same rfl
theorem S_fs_yes {k o : Nat} {most : Int32} {g : Row} (h : S_old g k o most = true) : S_forStep k most o g = upd g (6 + k) (g (6 + k) &&& ((1 <<< (nI o &&& 31)) ^^^ (-1))) := by
  unfold S_forStep
  rw [if_pos h]
theorem S_old_a {g : Row} {k o : Nat} {most : Int32} (h : S_has (g (6 + k)) (nI o) = false) : S_old g k o most = false := by
  unfold S_old
  rw [h]
  rfl
theorem S_old_b {g : Row} {k o : Nat} {most : Int32} (h : S_has (g (6 + k)) (nI o) = true) (q : g 70 - g (12 + 6 * k + o) ≤ most) : S_old g k o most = false := by
  unfold S_old
  rw [if_pos h, if_pos q]
theorem S_old_c {g : Row} {k o : Nat} {most : Int32} (h : S_has (g (6 + k)) (nI o) = true) (q : ¬ g 70 - g (12 + 6 * k + o) ≤ most) : S_old g k o most = true := by
  unfold S_old
  rw [if_pos h, if_neg q]
end
section
theorem zJ6_bitCount_0f7a4_c265 : Cond.constant RJ6 265 (1431655765) ∈ wsJ6_bitCount_0f7a4 := by decide +kernel
theorem zJ6_bitCount_0f7a4_c266 : Cond.constant RJ6 266 (858993459) ∈ wsJ6_bitCount_0f7a4 := by decide +kernel
theorem zJ6_bitCount_0f7a4_c267 : Cond.constant RJ6 267 (252645135) ∈ wsJ6_bitCount_0f7a4 := by decide +kernel
set_option maxHeartbeats 1000000 in
set_option maxRecDepth 100000 in
theorem kJ6_bitCount_0f7a4 (l : Launch) (D : va_G) (cI cZ cQ : ClassId) (v : Nat) (hv : v < 64) : Ct l D (gTy cI cZ cQ) yJ6_bitCount_0f7a4 wsJ6_bitCount_0f7a4 ({ frames := 0, cells := 0, slots := 0, locals := 0 }) [.int (nI v)] ([]) (some (.int (S_ones (nI v)))) ([]) := by
  refine ct_ofI (cc := cJ6_bitCount_0f7a4) (nL := 1) (own := RJ6) (by decide) rfl rfl ⟨rfl, rfl⟩ (Nat.le_of_ble_eq_true rfl) (by simp only [List.map]) (fun p e s m below meth c A Q F hR => ?_)
  refine g_iload_n F dJ6_bitCount_0f7a4_0 rfl 0 rfl ?_
  refine g_iload_n F dJ6_bitCount_0f7a4_1 rfl 0 rfl ?_
  refine g_iconst F (v := 1) dJ6_bitCount_0f7a4_2 (by decide) ?_
  refine g_iushr F _ dJ6_bitCount_0f7a4_3 rfl ?_
  refine g_ldcw F zJ6_bitCount_0f7a4_c265 dJ6_bitCount_0f7a4_4 ?_
  refine g_iand F dJ6_bitCount_0f7a4_7 ?_
  refine g_isub F dJ6_bitCount_0f7a4_8 ?_
  refine g_istore_n F (lv' := [(0, .int ((nI v) - ((((nI v).toUInt32 >>> (Int32.toUInt32 1 &&& Int32.toUInt32 31)).toInt32) &&& 1431655765)))]) dJ6_bitCount_0f7a4_9 rfl (by decide) [0] rfl ?_
  refine g_iload_n F dJ6_bitCount_0f7a4_10 rfl 0 rfl ?_
  refine g_ldcw F zJ6_bitCount_0f7a4_c266 dJ6_bitCount_0f7a4_11 ?_
  refine g_iand F dJ6_bitCount_0f7a4_14 ?_
  refine g_iload_n F dJ6_bitCount_0f7a4_15 rfl 0 rfl ?_
  refine g_iconst F (v := 2) dJ6_bitCount_0f7a4_16 (by decide) ?_
  refine g_iushr F _ dJ6_bitCount_0f7a4_17 rfl ?_
  refine g_ldcw F zJ6_bitCount_0f7a4_c266 dJ6_bitCount_0f7a4_18 ?_
  refine g_iand F dJ6_bitCount_0f7a4_21 ?_
  refine g_iadd F dJ6_bitCount_0f7a4_22 ?_
  refine g_istore_n F (lv' := [(0, .int ((((nI v) - ((((nI v).toUInt32 >>> (Int32.toUInt32 1 &&& Int32.toUInt32 31)).toInt32) &&& 1431655765)) &&& 858993459) + (((((nI v) - ((((nI v).toUInt32 >>> (Int32.toUInt32 1 &&& Int32.toUInt32 31)).toInt32) &&& 1431655765)).toUInt32 >>> (Int32.toUInt32 2 &&& Int32.toUInt32 31)).toInt32) &&& 858993459)))]) dJ6_bitCount_0f7a4_23 rfl (by decide) [0] rfl ?_
  refine g_iload_n F dJ6_bitCount_0f7a4_24 rfl 0 rfl ?_
  refine g_iload_n F dJ6_bitCount_0f7a4_25 rfl 0 rfl ?_
  refine g_iconst F (v := 4) dJ6_bitCount_0f7a4_26 (by decide) ?_
  refine g_iushr F _ dJ6_bitCount_0f7a4_27 rfl ?_
  refine g_iadd F dJ6_bitCount_0f7a4_28 ?_
  refine g_ldcw F zJ6_bitCount_0f7a4_c267 dJ6_bitCount_0f7a4_29 ?_
  refine g_iand F dJ6_bitCount_0f7a4_32 ?_
  refine g_istore_n F (lv' := [(0, .int ((((((nI v) - ((((nI v).toUInt32 >>> (Int32.toUInt32 1 &&& Int32.toUInt32 31)).toInt32) &&& 1431655765)) &&& 858993459) + (((((nI v) - ((((nI v).toUInt32 >>> (Int32.toUInt32 1 &&& Int32.toUInt32 31)).toInt32) &&& 1431655765)).toUInt32 >>> (Int32.toUInt32 2 &&& Int32.toUInt32 31)).toInt32) &&& 858993459)) + ((((((nI v) - ((((nI v).toUInt32 >>> (Int32.toUInt32 1 &&& Int32.toUInt32 31)).toInt32) &&& 1431655765)) &&& 858993459) + (((((nI v) - ((((nI v).toUInt32 >>> (Int32.toUInt32 1 &&& Int32.toUInt32 31)).toInt32) &&& 1431655765)).toUInt32 >>> (Int32.toUInt32 2 &&& Int32.toUInt32 31)).toInt32) &&& 858993459)).toUInt32 >>> (Int32.toUInt32 4 &&& Int32.toUInt32 31)).toInt32)) &&& 252645135))]) dJ6_bitCount_0f7a4_33 rfl (by decide) [0] rfl ?_
  refine g_iload_n F dJ6_bitCount_0f7a4_34 rfl 0 rfl ?_
  refine g_iload_n F dJ6_bitCount_0f7a4_35 rfl 0 rfl ?_
  refine g_bipush F (v := 8) dJ6_bitCount_0f7a4_36 (by decide) ?_
  refine g_iushr F _ dJ6_bitCount_0f7a4_38 rfl ?_
  refine g_iadd F dJ6_bitCount_0f7a4_39 ?_
  refine g_istore_n F (lv' := [(0, .int (((((((nI v) - ((((nI v).toUInt32 >>> (Int32.toUInt32 1 &&& Int32.toUInt32 31)).toInt32) &&& 1431655765)) &&& 858993459) + (((((nI v) - ((((nI v).toUInt32 >>> (Int32.toUInt32 1 &&& Int32.toUInt32 31)).toInt32) &&& 1431655765)).toUInt32 >>> (Int32.toUInt32 2 &&& Int32.toUInt32 31)).toInt32) &&& 858993459)) + ((((((nI v) - ((((nI v).toUInt32 >>> (Int32.toUInt32 1 &&& Int32.toUInt32 31)).toInt32) &&& 1431655765)) &&& 858993459) + (((((nI v) - ((((nI v).toUInt32 >>> (Int32.toUInt32 1 &&& Int32.toUInt32 31)).toInt32) &&& 1431655765)).toUInt32 >>> (Int32.toUInt32 2 &&& Int32.toUInt32 31)).toInt32) &&& 858993459)).toUInt32 >>> (Int32.toUInt32 4 &&& Int32.toUInt32 31)).toInt32)) &&& 252645135) + ((((((((nI v) - ((((nI v).toUInt32 >>> (Int32.toUInt32 1 &&& Int32.toUInt32 31)).toInt32) &&& 1431655765)) &&& 858993459) + (((((nI v) - ((((nI v).toUInt32 >>> (Int32.toUInt32 1 &&& Int32.toUInt32 31)).toInt32) &&& 1431655765)).toUInt32 >>> (Int32.toUInt32 2 &&& Int32.toUInt32 31)).toInt32) &&& 858993459)) + ((((((nI v) - ((((nI v).toUInt32 >>> (Int32.toUInt32 1 &&& Int32.toUInt32 31)).toInt32) &&& 1431655765)) &&& 858993459) + (((((nI v) - ((((nI v).toUInt32 >>> (Int32.toUInt32 1 &&& Int32.toUInt32 31)).toInt32) &&& 1431655765)).toUInt32 >>> (Int32.toUInt32 2 &&& Int32.toUInt32 31)).toInt32) &&& 858993459)).toUInt32 >>> (Int32.toUInt32 4 &&& Int32.toUInt32 31)).toInt32)) &&& 252645135).toUInt32 >>> (Int32.toUInt32 8 &&& Int32.toUInt32 31)).toInt32)))]) dJ6_bitCount_0f7a4_40 rfl (by decide) [0] rfl ?_
  refine g_iload_n F dJ6_bitCount_0f7a4_41 rfl 0 rfl ?_
  refine g_iload_n F dJ6_bitCount_0f7a4_42 rfl 0 rfl ?_
  refine g_bipush F (v := 16) dJ6_bitCount_0f7a4_43 (by decide) ?_
  refine g_iushr F _ dJ6_bitCount_0f7a4_45 rfl ?_
  refine g_iadd F dJ6_bitCount_0f7a4_46 ?_
  refine g_istore_n F (lv' := [(0, .int ((((((((nI v) - ((((nI v).toUInt32 >>> (Int32.toUInt32 1 &&& Int32.toUInt32 31)).toInt32) &&& 1431655765)) &&& 858993459) + (((((nI v) - ((((nI v).toUInt32 >>> (Int32.toUInt32 1 &&& Int32.toUInt32 31)).toInt32) &&& 1431655765)).toUInt32 >>> (Int32.toUInt32 2 &&& Int32.toUInt32 31)).toInt32) &&& 858993459)) + ((((((nI v) - ((((nI v).toUInt32 >>> (Int32.toUInt32 1 &&& Int32.toUInt32 31)).toInt32) &&& 1431655765)) &&& 858993459) + (((((nI v) - ((((nI v).toUInt32 >>> (Int32.toUInt32 1 &&& Int32.toUInt32 31)).toInt32) &&& 1431655765)).toUInt32 >>> (Int32.toUInt32 2 &&& Int32.toUInt32 31)).toInt32) &&& 858993459)).toUInt32 >>> (Int32.toUInt32 4 &&& Int32.toUInt32 31)).toInt32)) &&& 252645135) + ((((((((nI v) - ((((nI v).toUInt32 >>> (Int32.toUInt32 1 &&& Int32.toUInt32 31)).toInt32) &&& 1431655765)) &&& 858993459) + (((((nI v) - ((((nI v).toUInt32 >>> (Int32.toUInt32 1 &&& Int32.toUInt32 31)).toInt32) &&& 1431655765)).toUInt32 >>> (Int32.toUInt32 2 &&& Int32.toUInt32 31)).toInt32) &&& 858993459)) + ((((((nI v) - ((((nI v).toUInt32 >>> (Int32.toUInt32 1 &&& Int32.toUInt32 31)).toInt32) &&& 1431655765)) &&& 858993459) + (((((nI v) - ((((nI v).toUInt32 >>> (Int32.toUInt32 1 &&& Int32.toUInt32 31)).toInt32) &&& 1431655765)).toUInt32 >>> (Int32.toUInt32 2 &&& Int32.toUInt32 31)).toInt32) &&& 858993459)).toUInt32 >>> (Int32.toUInt32 4 &&& Int32.toUInt32 31)).toInt32)) &&& 252645135).toUInt32 >>> (Int32.toUInt32 8 &&& Int32.toUInt32 31)).toInt32)) + (((((((((nI v) - ((((nI v).toUInt32 >>> (Int32.toUInt32 1 &&& Int32.toUInt32 31)).toInt32) &&& 1431655765)) &&& 858993459) + (((((nI v) - ((((nI v).toUInt32 >>> (Int32.toUInt32 1 &&& Int32.toUInt32 31)).toInt32) &&& 1431655765)).toUInt32 >>> (Int32.toUInt32 2 &&& Int32.toUInt32 31)).toInt32) &&& 858993459)) + ((((((nI v) - ((((nI v).toUInt32 >>> (Int32.toUInt32 1 &&& Int32.toUInt32 31)).toInt32) &&& 1431655765)) &&& 858993459) + (((((nI v) - ((((nI v).toUInt32 >>> (Int32.toUInt32 1 &&& Int32.toUInt32 31)).toInt32) &&& 1431655765)).toUInt32 >>> (Int32.toUInt32 2 &&& Int32.toUInt32 31)).toInt32) &&& 858993459)).toUInt32 >>> (Int32.toUInt32 4 &&& Int32.toUInt32 31)).toInt32)) &&& 252645135) + ((((((((nI v) - ((((nI v).toUInt32 >>> (Int32.toUInt32 1 &&& Int32.toUInt32 31)).toInt32) &&& 1431655765)) &&& 858993459) + (((((nI v) - ((((nI v).toUInt32 >>> (Int32.toUInt32 1 &&& Int32.toUInt32 31)).toInt32) &&& 1431655765)).toUInt32 >>> (Int32.toUInt32 2 &&& Int32.toUInt32 31)).toInt32) &&& 858993459)) + ((((((nI v) - ((((nI v).toUInt32 >>> (Int32.toUInt32 1 &&& Int32.toUInt32 31)).toInt32) &&& 1431655765)) &&& 858993459) + (((((nI v) - ((((nI v).toUInt32 >>> (Int32.toUInt32 1 &&& Int32.toUInt32 31)).toInt32) &&& 1431655765)).toUInt32 >>> (Int32.toUInt32 2 &&& Int32.toUInt32 31)).toInt32) &&& 858993459)).toUInt32 >>> (Int32.toUInt32 4 &&& Int32.toUInt32 31)).toInt32)) &&& 252645135).toUInt32 >>> (Int32.toUInt32 8 &&& Int32.toUInt32 31)).toInt32)).toUInt32 >>> (Int32.toUInt32 16 &&& Int32.toUInt32 31)).toInt32)))]) dJ6_bitCount_0f7a4_47 rfl (by decide) [0] rfl ?_
  refine g_iload_n F dJ6_bitCount_0f7a4_48 rfl 0 rfl ?_
  refine g_bipush F (v := 63) dJ6_bitCount_0f7a4_49 (by decide) ?_
  refine g_iand F dJ6_bitCount_0f7a4_51 ?_
  exact g_endI (hR _ _ dJ6_bitCount_0f7a4_52) ((show _ = bcE (nI v) from rfl).trans (bc_ok v hv)) rfl
set_option maxHeartbeats 1000000 in
set_option maxRecDepth 100000 in
theorem kX1_isMember (l : Launch) (D : va_G) (cI cZ cQ : ClassId) (v : Int32) : Ct l D (gTy cI cZ cQ) yX1_isMember wsX1_isMember ({ frames := 0, cells := 0, slots := 0, locals := 0 }) [.int v] ([]) (some (.int (bI (S_mem v)))) ([]) := by
  refine ct_ofZ (cc := cX1_isMember) (nL := 1) (own := RX1) (by decide) rfl rfl ⟨rfl, rfl⟩ (Nat.le_of_ble_eq_true rfl) (by simp only [List.map]) (by first | rfl | exact bI_nar _) (fun p e s m below meth c A Q F hR => ?_)
  refine g_iload_n F dX1_isMember_0 rfl 0 rfl ?_
  refine g_if_lt F 14 dX1_isMember_1 (by decide) (fun c1 => ?_) (fun c1 => ?_)
  · refine g_iconst F (v := 0) dX1_isMember_14 (by decide) ?_
    exact g_endI (hR _ _ dX1_isMember_15) (by first | (simp only [S_mem, bI, c1, Bool.false_eq_true, ↓reduceIte]; done) | (with_reducible rfl) | (simp [S_mem, bI, c1, Bool.false_eq_true, ↓reduceIte]; done)) rfl
  · refine g_iload_n F dX1_isMember_4 rfl 0 rfl ?_
    refine g_bipush F (v := 6) dX1_isMember_5 (by decide) ?_
    refine g_icmp_ge F 14 dX1_isMember_7 (by decide) (fun c2 => ?_) (fun c2 => ?_)
    · refine g_iconst F (v := 0) dX1_isMember_14 (by decide) ?_
      exact g_endI (hR _ _ dX1_isMember_15) (by first | (simp only [S_mem, bI, c1, c2, Bool.false_eq_true, ↓reduceIte]; done) | (with_reducible rfl) | (simp [S_mem, bI, c1, c2, Bool.false_eq_true, ↓reduceIte]; done)) rfl
    · refine g_iconst F (v := 1) dX1_isMember_10 (by decide) ?_
      refine g_goto F 15 dX1_isMember_11 (by decide) ?_
      exact g_endI (hR _ _ dX1_isMember_15) (by first | (simp only [S_mem, bI, c1, c2, Bool.false_eq_true, ↓reduceIte]; done) | (with_reducible rfl) | (simp [S_mem, bI, c1, c2, Bool.false_eq_true, ↓reduceIte]; done)) rfl
theorem zX0_sent_f27 : Cond.fieldLink RX0 27 (TX0 5).1 (TX0 5).2.1 (TX0 5).2.2.1 ∈ wsX0_sent := by decide +kernel
theorem zX0_sent_f30 : Cond.fieldLink RX0 30 (TX0 6).1 (TX0 6).2.1 (TX0 6).2.2.1 ∈ wsX0_sent := by decide +kernel
theorem zX0_sent_inX0 : ∀ w ∈ u_ws RX0 TX0 14, w ∈ wsX0_sent := by decide +kernel
set_option maxHeartbeats 1000000 in
set_option maxRecDepth 100000 in
theorem kX0_sent (l : Launch) (D : va_G) (cI cZ cQ : ClassId) (b : Nat → Nat) (f : Row) : Ct l D (gTy cI cZ cQ) yX0_sent wsX0_sent ({ frames := 0, cells := 0, slots := 0, locals := 0 }) [.ref (b 0)] (CR cI b f) (some (.int (S_letters f))) (CR cI b f) := by
  refine ct_ofI (cc := cX0_sent) (nL := 1) (own := RX0) (by decide) rfl rfl ⟨rfl, rfl⟩ (Nat.le_of_ble_eq_true rfl) CR_same (fun p e s m below meth c A Q F hR => ?_)
  refine g_aload_n F dX0_sent_0 rfl 0 rfl ?_
  refine g_lF71 F zX0_sent_inX0 zX0_sent_f27 dX0_sent_1 ?_
  refine g_aload_n F dX0_sent_4 rfl 0 rfl ?_
  refine g_lF72 F zX0_sent_inX0 zX0_sent_f30 dX0_sent_5 ?_
  refine g_iadd F dX0_sent_8 ?_
  exact g_endI (hR _ _ dX0_sent_9) rfl rfl
theorem zX0_bitsOf_f33 : Cond.fieldLink RX0 33 (TX0 7).1 (TX0 7).2.1 (TX0 7).2.2.1 ∈ wsX0_bitsOf := by decide +kernel
theorem zX0_bitsOf_inX0 : ∀ w ∈ u_ws RX0 TX0 14, w ∈ wsX0_bitsOf := by decide +kernel
set_option maxHeartbeats 1000000 in
set_option maxRecDepth 100000 in
theorem kX0_bitsOf (l : Launch) (D : va_G) (cI cZ cQ : ClassId) (b : Nat → Nat) (f : Row) (v : Int32) : Ct l D (gTy cI cZ cQ) yX0_bitsOf wsX0_bitsOf ({ frames := 0, cells := 0, slots := 0, locals := 0 }) [.ref (b 0), .int v] (CR cI b f) (some (.int (S_those f v))) (CR cI b f) := by
  refine ct_ofI (cc := cX0_bitsOf) (nL := 4) (own := RX0) (by decide) rfl rfl ⟨rfl, rfl⟩ (Nat.le_of_ble_eq_true rfl) CR_same (fun p e s m below meth c A Q F hR => ?_)
  refine g_iconst F (v := 0) dX0_bitsOf_0 (by decide) ?_
  refine g_istore_n F (lv' := [(0, .ref (b 0)), (1, .int v), (2, .int 0)]) dX0_bitsOf_1 rfl (by decide) [1, 2, 0] rfl ?_
  refine g_iconst F (v := 0) dX0_bitsOf_2 (by decide) ?_
  refine g_istore_n F (lv' := [(0, .ref (b 0)), (1, .int v), (2, .int 0), (3, .int 0)]) dX0_bitsOf_3 rfl (by decide) [1, 2, 3, 0] rfl ?_
  refine g_all (w0 := CR cI b f) (lv0 := [(0, .ref (b 0)), (1, .int v), (2, .int (it (S_thoseStep f v) 0 0)), (3, .int (nI 0))]) (st0 := []) rfl rfl rfl ?_
  refine g_for 6 (fun i => True) (fun i => CR cI b f) (fun i => [(0, .ref (b 0)), (1, .int v), (2, .int (it (S_thoseStep f v) i 0)), (3, .int (nI i))]) (fun i hi hIi ihi => ?_) 0 (Nat.zero_le _) trivial
  refine g_iload_n F dX0_bitsOf_4 rfl 3 rfl ?_
  refine g_bipush F (v := 6) dX0_bitsOf_5 (by decide) ?_
  refine g_icmp_ge F 32 dX0_bitsOf_7 (by decide) (fun c1 => ?_) (fun c1 => ?_)
  · have hx_c1 : 6 = i := lp_ge hi (by decide) c1
    subst hx_c1
    refine g_iload_n F dX0_bitsOf_32 rfl 2 rfl ?_
    exact g_endI (hR _ _ dX0_bitsOf_33) rfl rfl
  · have hlti : i < 6 := lp_lt hi (by decide) c1
    refine g_aload_n F dX0_bitsOf_10 rfl 0 rfl ?_
    refine g_lR1 F zX0_bitsOf_inX0 zX0_bitsOf_f33 dX0_bitsOf_11 ?_
    refine g_iload_n F dX0_bitsOf_14 rfl 3 rfl ?_
    refine g_lA1 F rfl (by omega) dX0_bitsOf_15 ?_
    refine g_iload_n F dX0_bitsOf_16 rfl 1 rfl ?_
    refine g_icmp_ne F 26 dX0_bitsOf_17 (by decide) (fun c2 => ?_) (fun c2 => ?_)
    · refine g_iinc F (lv' := [(0, .ref (b 0)), (1, .int v), (2, .int (it (S_thoseStep f v) i 0)), (3, .int (nI (i + 1)))]) (nI (i + 1)) dX0_bitsOf_26 3 rfl (nI_add i 1) (by decide) [1, 2, 3, 0] rfl ?_
      refine g_goto F 4 dX0_bitsOf_29 (by decide) ?_
      refine g_all (w0 := CR cI b f) (lv0 := [(0, .ref (b 0)), (1, .int v), (2, .int (it (S_thoseStep f v) (i + 1) 0)), (3, .int (nI (i + 1)))]) (st0 := []) rfl (by first | (simp only [it_s, S_thoseStep, or_z, c2, Bool.false_eq_true, ↓reduceIte]; done) | (with_reducible rfl) | (simp [it_s, S_thoseStep, or_z, c2, Bool.false_eq_true, ↓reduceIte]; done)) rfl ?_
      exact ihi hlti trivial
    · refine g_iload_n F dX0_bitsOf_20 rfl 2 rfl ?_
      refine g_iconst F (v := 1) dX0_bitsOf_21 (by decide) ?_
      refine g_iload_n F dX0_bitsOf_22 rfl 3 rfl ?_
      refine g_ishl F dX0_bitsOf_23 ?_
      refine g_ior F dX0_bitsOf_24 ?_
      refine g_istore_n F (lv' := [(0, .ref (b 0)), (1, .int v), (2, .int ((it (S_thoseStep f v) i 0) ||| (1 <<< ((nI i) &&& 31)))), (3, .int (nI i))]) dX0_bitsOf_25 rfl (by decide) [1, 2, 0, 3] rfl ?_
      refine g_iinc F (lv' := [(0, .ref (b 0)), (1, .int v), (2, .int ((it (S_thoseStep f v) i 0) ||| (1 <<< ((nI i) &&& 31)))), (3, .int (nI (i + 1)))]) (nI (i + 1)) dX0_bitsOf_26 3 rfl (nI_add i 1) (by decide) [1, 2, 3, 0] rfl ?_
      refine g_goto F 4 dX0_bitsOf_29 (by decide) ?_
      refine g_all (w0 := CR cI b f) (lv0 := [(0, .ref (b 0)), (1, .int v), (2, .int (it (S_thoseStep f v) (i + 1) 0)), (3, .int (nI (i + 1)))]) (st0 := []) rfl (by first | (simp only [it_s, S_thoseStep, or_z, c2, Bool.false_eq_true, ↓reduceIte]; done) | (with_reducible rfl) | (simp [it_s, S_thoseStep, or_z, c2, Bool.false_eq_true, ↓reduceIte]; done)) rfl ?_
      exact ihi hlti trivial
theorem zX0_knows_f37 : Cond.fieldLink RX0 37 (TX0 8).1 (TX0 8).2.1 (TX0 8).2.2.1 ∈ wsX0_knows := by decide +kernel
theorem zX0_knows_inX0 : ∀ w ∈ u_ws RX0 TX0 14, w ∈ wsX0_knows := by decide +kernel
set_option maxHeartbeats 1000000 in
set_option maxRecDepth 100000 in
theorem kX0_knows (l : Launch) (D : va_G) (cI cZ cQ : ClassId) (b : Nat → Nat) (f : Row) (k o : Nat) (hk : k < 6) (ho : o < 6) : Ct l D (gTy cI cZ cQ) yX0_knows wsX0_knows ({ frames := 0, cells := 0, slots := 0, locals := 0 }) [.ref (b 0), .int (nI k), .int (nI o)] (CR cI b f) (some (.int (bI (S_has (f (6 + k)) (nI o))))) (CR cI b f) := by
  refine ct_ofZ (cc := cX0_knows) (nL := 3) (own := RX0) (by decide) rfl rfl ⟨rfl, rfl⟩ (Nat.le_of_ble_eq_true rfl) CR_same (by first | rfl | exact bI_nar _) (fun p e s m below meth c A Q F hR => ?_)
  refine g_aload_n F dX0_knows_0 rfl 0 rfl ?_
  refine g_lR2 F zX0_knows_inX0 zX0_knows_f37 dX0_knows_1 ?_
  refine g_iload_n F dX0_knows_4 rfl 1 rfl ?_
  refine g_lA2 F rfl (by omega) dX0_knows_5 ?_
  refine g_iload_n F dX0_knows_6 rfl 2 rfl ?_
  refine g_ishr F dX0_knows_7 ?_
  refine g_iconst F (v := 1) dX0_knows_8 (by decide) ?_
  refine g_iand F dX0_knows_9 ?_
  refine g_if_eq F 17 dX0_knows_10 (by decide) (fun c1 => ?_) (fun c1 => ?_)
  · refine g_iconst F (v := 0) dX0_knows_17 (by decide) ?_
    exact g_endI (hR _ _ dX0_knows_18) (by rw [has_00.mp c1]; rfl) rfl
  · refine g_iconst F (v := 1) dX0_knows_13 (by decide) ?_
    refine g_goto F 18 dX0_knows_14 (by decide) ?_
    exact g_endI (hR _ _ dX0_knows_18) (by rw [has_01.mp c1]; rfl) rfl
theorem zX0_isOpen_f49 : Cond.fieldLink RX0 49 (TX0 12).1 (TX0 12).2.1 (TX0 12).2.2.1 ∈ wsX0_isOpen := by decide +kernel
theorem zX0_isOpen_inX0 : ∀ w ∈ u_ws RX0 TX0 14, w ∈ wsX0_isOpen := by decide +kernel
set_option maxHeartbeats 1000000 in
set_option maxRecDepth 100000 in
theorem kX0_isOpen (l : Launch) (D : va_G) (cI cZ cQ : ClassId) (b : Nat → Nat) (f : Row) (k o : Nat) (hk : k < 6) (ho : o < 6) : Ct l D (gTy cI cZ cQ) yX0_isOpen wsX0_isOpen ({ frames := 0, cells := 0, slots := 0, locals := 0 }) [.ref (b 0), .int (nI k), .int (nI o)] (CR cI b f) (some (.int (bI (!(S_has (f (73 + k)) (nI o)))))) (CR cI b f) := by
  refine ct_ofZ (cc := cX0_isOpen) (nL := 3) (own := RX0) (by decide) rfl rfl ⟨rfl, rfl⟩ (Nat.le_of_ble_eq_true rfl) CR_same (by first | rfl | exact bI_nar _) (fun p e s m below meth c A Q F hR => ?_)
  refine g_aload_n F dX0_isOpen_0 rfl 0 rfl ?_
  refine g_lR6 F zX0_isOpen_inX0 zX0_isOpen_f49 dX0_isOpen_1 ?_
  refine g_iload_n F dX0_isOpen_4 rfl 1 rfl ?_
  refine g_lA6 F rfl (by omega) dX0_isOpen_5 ?_
  refine g_iload_n F dX0_isOpen_6 rfl 2 rfl ?_
  refine g_ishr F dX0_isOpen_7 ?_
  refine g_iconst F (v := 1) dX0_isOpen_8 (by decide) ?_
  refine g_iand F dX0_isOpen_9 ?_
  refine g_if_ne F 17 dX0_isOpen_10 (by decide) (fun c1 => ?_) (fun c1 => ?_)
  · refine g_iconst F (v := 0) dX0_isOpen_17 (by decide) ?_
    exact g_endI (hR _ _ dX0_isOpen_18) (by rw [has_01.mp c1]; rfl) rfl
  · refine g_iconst F (v := 1) dX0_isOpen_13 (by decide) ?_
    refine g_goto F 18 dX0_isOpen_14 (by decide) ?_
    exact g_endI (hR _ _ dX0_isOpen_18) (by rw [has_00.mp c1]; rfl) rfl
theorem zX0_countOf_f37 : Cond.fieldLink RX0 37 (TX0 8).1 (TX0 8).2.1 (TX0 8).2.2.1 ∈ wsX0_countOf := by decide +kernel
theorem zX0_countOf_inX0 : ∀ w ∈ u_ws RX0 TX0 14, w ∈ wsX0_countOf := by decide +kernel
set_option maxHeartbeats 1000000 in
set_option maxRecDepth 100000 in
theorem kX0_countOf (l : Launch) (D : va_G) (cI cZ cQ : ClassId) (b : Nat → Nat) (f : Row) (k : Nat) (hk : k < 6) (hn : ¬ f k = 0) (hK : Kn f) : Ct l D (gTy cI cZ cQ) yX0_countOf wsX0_countOf ({ frames := 1, cells := 0, slots := 0, locals := 20 }) [.ref (b 0), .int (nI k)] (CR cI b f) (some (.int (S_count f k))) (CR cI b f) := by
  refine ct_ofI (cc := cX0_countOf) (nL := 2) (own := RX0) (by decide) rfl rfl ⟨rfl, rfl⟩ (Nat.le_of_ble_eq_true rfl) CR_same (fun p e s m below meth c A Q F hR => ?_)
  obtain ⟨v, hv, ev⟩ := hK k hk
  refine g_iconst F (v := 1) dX0_countOf_0 (by decide) ?_
  refine g_aload_n F dX0_countOf_1 rfl 0 rfl ?_
  refine g_lR2 F zX0_countOf_inX0 zX0_countOf_f37 dX0_countOf_2 ?_
  refine g_iload_n F dX0_countOf_5 rfl 1 rfl ?_
  refine g_lA2 F rfl (by omega) dX0_countOf_6 ?_
  refine g_as (nI v) ev ?_
  refine g_callSn F (As := [.int (nI v)]) (st := [.int 1]) (kJ6_bitCount_0f7a4 l D cI cZ cQ v hv) (va_cwS 1 F.2.2.2.2.1 gX0_countOf_J6_bitCount_0f7a4 rfl rfl rfl (by decide +kernel) ⟨Nat.le_of_ble_eq_true rfl, Nat.le_of_ble_eq_true rfl⟩) rfl rfl (Nat.le_of_ble_eq_true rfl) ⟨Nat.zero_le _, Nat.zero_le _⟩ dX0_countOf_7 ?_
  refine g_iadd F dX0_countOf_10 ?_
  exact g_endI (hR _ _ dX0_countOf_11) (by unfold S_count; rw [if_neg hn, ev]) rfl
theorem zX0_countTold_f33 : Cond.fieldLink RX0 33 (TX0 7).1 (TX0 7).2.1 (TX0 7).2.2.1 ∈ wsX0_countTold := by decide +kernel
theorem zX0_countTold_inX0 : ∀ w ∈ u_ws RX0 TX0 14, w ∈ wsX0_countTold := by decide +kernel
set_option maxHeartbeats 1000000 in
set_option maxRecDepth 100000 in
theorem kX0_countTold (l : Launch) (D : va_G) (cI cZ cQ : ClassId) (b : Nat → Nat) (f : Row) (k : Nat) (hk : k < 6) (hK : Kn f) : Ct l D (gTy cI cZ cQ) yX0_countTold wsX0_countTold ({ frames := 2, cells := 0, slots := 0, locals := 41 }) [.ref (b 0), .int (nI k)] (CR cI b f) (some (.int (S_count f k))) (CR cI b f) := by
  refine ct_ofI (cc := cX0_countTold) (nL := 2) (own := RX0) (by decide) rfl rfl ⟨rfl, rfl⟩ (Nat.le_of_ble_eq_true rfl) CR_same (fun p e s m below meth c A Q F hR => ?_)
  refine g_aload_n F dX0_countTold_0 rfl 0 rfl ?_
  refine g_lR1 F zX0_countTold_inX0 zX0_countTold_f33 dX0_countTold_1 ?_
  refine g_iload_n F dX0_countTold_4 rfl 1 rfl ?_
  refine g_lA1 F rfl (by omega) dX0_countTold_5 ?_
  refine g_if_ne F 13 dX0_countTold_6 (by decide) (fun c1 => ?_) (fun c1 => ?_)
  · refine g_aload_n F dX0_countTold_13 rfl 0 rfl ?_
    refine g_iload_n F dX0_countTold_14 rfl 1 rfl ?_
    refine g_callVs F (As := [.int (nI k)]) (st := []) (kX0_countOf l D cI cZ cQ b f k (by omega) c1 hK) 0 rfl rfl (cwV 1 F.2.2.2.2.1 gX0_countTold_X0_countOf rfl rfl rfl (by decide +kernel) ⟨Nat.le_of_ble_eq_true rfl, Nat.le_of_ble_eq_true rfl⟩) rfl rfl (Nat.le_of_ble_eq_true rfl) ⟨Nat.zero_le _, Nat.zero_le _⟩ dX0_countTold_15 ?_
    exact g_endI (hR _ _ dX0_countTold_18) rfl rfl
  · refine g_iconst F (v := 0) dX0_countTold_9 (by decide) ?_
    refine g_goto F 18 dX0_countTold_10 (by decide) ?_
    exact g_endI (hR _ _ dX0_countTold_18) (by unfold S_count; rw [if_pos c1]) rfl
theorem zX0_spanOf_f15 : Cond.fieldLink RX0 15 (TX0 1).1 (TX0 1).2.1 (TX0 1).2.2.1 ∈ wsX0_spanOf := by decide +kernel
theorem zX0_spanOf_f18 : Cond.fieldLink RX0 18 (TX0 2).1 (TX0 2).2.1 (TX0 2).2.2.1 ∈ wsX0_spanOf := by decide +kernel
theorem zX0_spanOf_f9 : Cond.fieldLink RX0 9 (TX0 0).1 (TX0 0).2.1 (TX0 0).2.2.1 ∈ wsX0_spanOf := by decide +kernel
theorem zX0_spanOf_imath : Cond.initialized "java/lang/Math" ∈ wsX0_spanOf := by decide +kernel
theorem zX0_spanOf_inX0 : ∀ w ∈ u_ws RX0 TX0 14, w ∈ wsX0_spanOf := by decide +kernel
theorem zX0_spanOf_kmmax : Cond.code Lib.Math.max.name Lib.Math.max.code 2 (some .int) ∈ wsX0_spanOf := by decide +kernel
theorem zX0_spanOf_l77 : Cond.methodLink RX0 77 Lib.Math.max.name ∈ wsX0_spanOf := by decide +kernel
theorem zX0_spanOf_smmax : Cond.static Lib.Math.max.name ∈ wsX0_spanOf := by decide +kernel
set_option maxHeartbeats 1000000 in
set_option maxRecDepth 100000 in
theorem kX0_spanOf (l : Launch) (D : va_G) (cI cZ cQ : ClassId) (b : Nat → Nat) (f : Row) (v : Int32) (hz : Z67 f) : Ct l D (gTy cI cZ cQ) yX0_spanOf wsX0_spanOf ({ frames := 1, cells := 0, slots := 0, locals := 21 }) [.ref (b 0), .int v] (CR cI b f) (some (.int (S_span f v))) (CR cI b f) := by
  refine ct_ofI (cc := cX0_spanOf) (nL := 3) (own := RX0) (by decide) rfl rfl ⟨rfl, rfl⟩ (Nat.le_of_ble_eq_true rfl) CR_same (fun p e s m below meth c A Q F hR => ?_)
  refine g_iconst F (v := 1) dX0_spanOf_0 (by decide) ?_
  refine g_aload_n F dX0_spanOf_1 rfl 0 rfl ?_
  refine g_lF67 F zX0_spanOf_inX0 zX0_spanOf_f15 dX0_spanOf_2 ?_
  refine g_mmax F zX0_spanOf_l77 zX0_spanOf_smmax zX0_spanOf_imath zX0_spanOf_kmmax (Nat.le_of_ble_eq_true rfl) (Nat.le_of_ble_eq_true rfl) (Nat.zero_le _) (Nat.zero_le _) dX0_spanOf_5 ?_
  refine g_istore_n F (lv' := [(0, .ref (b 0)), (1, .int v), (2, .int (if 1 < f 67 then f 67 else 1))]) dX0_spanOf_8 rfl (by decide) [1, 2, 0] rfl ?_
  refine g_aload_n F dX0_spanOf_9 rfl 0 rfl ?_
  refine g_lF68 F zX0_spanOf_inX0 zX0_spanOf_f18 dX0_spanOf_10 ?_
  refine g_iload_n F dX0_spanOf_13 rfl 1 rfl ?_
  refine g_aload_n F dX0_spanOf_14 rfl 0 rfl ?_
  refine g_lF66 F zX0_spanOf_inX0 zX0_spanOf_f9 dX0_spanOf_15 ?_
  refine g_imul F dX0_spanOf_18 ?_
  refine g_iload_n F dX0_spanOf_19 rfl 2 rfl ?_
  refine g_iadd F dX0_spanOf_20 ?_
  refine g_iconst F (v := 1) dX0_spanOf_21 (by decide) ?_
  refine g_isub F dX0_spanOf_22 ?_
  refine g_iload_n F dX0_spanOf_23 rfl 2 rfl ?_
  refine g_idiv F dX0_spanOf_24 (by rw [mx1 hz]; exact hz.ne) ?_
  refine g_mmax F zX0_spanOf_l77 zX0_spanOf_smmax zX0_spanOf_imath zX0_spanOf_kmmax (Nat.le_of_ble_eq_true rfl) (Nat.le_of_ble_eq_true rfl) (Nat.zero_le _) (Nat.zero_le _) dX0_spanOf_25 ?_
  exact g_endI (hR _ _ dX0_spanOf_28) ((show _ = C_span f v from rfl).trans (C_span_eq hz)) rfl
theorem zX0_waitOf_c83 : Cond.constant RX0 83 (65536) ∈ wsX0_waitOf := by decide +kernel
theorem zX0_waitOf_f24 : Cond.fieldLink RX0 24 (TX0 4).1 (TX0 4).2.1 (TX0 4).2.2.1 ∈ wsX0_waitOf := by decide +kernel
theorem zX0_waitOf_imath : Cond.initialized "java/lang/Math" ∈ wsX0_waitOf := by decide +kernel
theorem zX0_waitOf_inX0 : ∀ w ∈ u_ws RX0 TX0 14, w ∈ wsX0_waitOf := by decide +kernel
theorem zX0_waitOf_kmmax : Cond.code Lib.Math.max.name Lib.Math.max.code 2 (some .int) ∈ wsX0_waitOf := by decide +kernel
theorem zX0_waitOf_l77 : Cond.methodLink RX0 77 Lib.Math.max.name ∈ wsX0_waitOf := by decide +kernel
theorem zX0_waitOf_smmax : Cond.static Lib.Math.max.name ∈ wsX0_waitOf := by decide +kernel
set_option maxHeartbeats 1000000 in
set_option maxRecDepth 100000 in
theorem kX0_waitOf (l : Launch) (D : va_G) (cI cZ cQ : ClassId) (b : Nat → Nat) (f : Row) (v : Int32) (hz : Z67 f) : Ct l D (gTy cI cZ cQ) yX0_waitOf wsX0_waitOf ({ frames := 2, cells := 0, slots := 0, locals := 43 }) [.ref (b 0), .int v] (CR cI b f) (some (.int (S_waitV f v))) (CR cI b (S_draw f)) := by
  refine ct_ofI (cc := cX0_waitOf) (nL := 3) (own := RX0) (by decide) rfl rfl ⟨rfl, rfl⟩ (Nat.le_of_ble_eq_true rfl) CR_same (fun p e s m below meth c A Q F hR => ?_)
  refine g_aload_n F dX0_waitOf_0 rfl 0 rfl ?_
  refine g_sipush F (v := 25173) dX0_waitOf_1 (by decide) ?_
  refine g_aload_n F dX0_waitOf_4 rfl 0 rfl ?_
  refine g_lF69 F zX0_waitOf_inX0 zX0_waitOf_f24 dX0_waitOf_5 ?_
  refine g_imul F dX0_waitOf_8 ?_
  refine g_sipush F (v := 13849) dX0_waitOf_9 (by decide) ?_
  refine g_iadd F dX0_waitOf_12 ?_
  refine g_ldc F zX0_waitOf_c83 dX0_waitOf_13 ?_
  refine g_irem F dX0_waitOf_15 (by decide) ?_
  refine g_cF69 F zX0_waitOf_inX0 zX0_waitOf_f24 dX0_waitOf_16 ?_
  refine g_aload_n F dX0_waitOf_19 rfl 0 rfl ?_
  refine g_lF69 F zX0_waitOf_inX0 zX0_waitOf_f24 dX0_waitOf_20 ?_
  refine g_bipush F (v := 16) dX0_waitOf_23 (by decide) ?_
  refine g_idiv F dX0_waitOf_25 (by decide) ?_
  refine g_iconst F (v := 5) dX0_waitOf_26 (by decide) ?_
  refine g_irem F dX0_waitOf_27 (by decide) ?_
  refine g_istore_n F (lv' := [(0, .ref (b 0)), (1, .int v), (2, .int ((((upd f 69 (((25173 * (f 69)) + 13849) - ((25173 * (f 69)) + 13849) / 65536 * 65536)) 69) / 16) - (((upd f 69 (((25173 * (f 69)) + 13849) - ((25173 * (f 69)) + 13849) / 65536 * 65536)) 69) / 16) / 5 * 5))]) dX0_waitOf_28 rfl (by decide) [1, 2, 0] rfl ?_
  refine g_iconst F (v := 1) dX0_waitOf_29 (by decide) ?_
  refine g_aload_n F dX0_waitOf_30 rfl 0 rfl ?_
  refine g_iload_n F dX0_waitOf_31 rfl 1 rfl ?_
  refine g_callVs F (As := [.int v]) (st := [.int 1]) (kX0_spanOf l D cI cZ cQ b (upd f 69 (((25173 * (f 69)) + 13849) - ((25173 * (f 69)) + 13849) / 65536 * 65536)) v (Z_upd hz (by omega))) 0 rfl rfl (cwV 1 F.2.2.2.2.1 gX0_waitOf_X0_spanOf rfl rfl rfl (by decide +kernel) ⟨Nat.le_of_ble_eq_true rfl, Nat.le_of_ble_eq_true rfl⟩) rfl rfl (Nat.le_of_ble_eq_true rfl) ⟨Nat.zero_le _, Nat.zero_le _⟩ dX0_waitOf_32 ?_
  refine g_iconst F (v := 2) dX0_waitOf_35 (by decide) ?_
  refine g_iload_n F dX0_waitOf_36 rfl 2 rfl ?_
  refine g_iadd F dX0_waitOf_37 ?_
  refine g_imul F dX0_waitOf_38 ?_
  refine g_iconst F (v := 4) dX0_waitOf_39 (by decide) ?_
  refine g_idiv F dX0_waitOf_40 (by decide) ?_
  refine g_mmax F zX0_waitOf_l77 zX0_waitOf_smmax zX0_waitOf_imath zX0_waitOf_kmmax (Nat.le_of_ble_eq_true rfl) (Nat.le_of_ble_eq_true rfl) (Nat.zero_le _) (Nat.zero_le _) dX0_waitOf_41 ?_
  exact g_endI (hR _ _ dX0_waitOf_44) ((show _ = (if 1 < S_span (S_draw f) v * (2 + S_drawV f) / 4 then S_span (S_draw f) v * (2 + S_drawV f) / 4 else 1) from rfl).trans C_wait_eq) rfl
theorem zX0_begin_f21 : Cond.fieldLink RX0 21 (TX0 3).1 (TX0 3).2.1 (TX0 3).2.2.1 ∈ wsX0_begin := by decide +kernel
theorem zX0_begin_f40 : Cond.fieldLink RX0 40 (TX0 9).1 (TX0 9).2.1 (TX0 9).2.2.1 ∈ wsX0_begin := by decide +kernel
theorem zX0_begin_f43 : Cond.fieldLink RX0 43 (TX0 10).1 (TX0 10).2.1 (TX0 10).2.2.1 ∈ wsX0_begin := by decide +kernel
theorem zX0_begin_inX0 : ∀ w ∈ u_ws RX0 TX0 14, w ∈ wsX0_begin := by decide +kernel
set_option maxHeartbeats 1000000 in
set_option maxRecDepth 100000 in
theorem kX0_begin (l : Launch) (D : va_G) (cI cZ cQ : ClassId) (b : Nat → Nat) (f : Row) (k : Nat) (hk : k < 6) (hz : Z67 f) : Ct l D (gTy cI cZ cQ) yX0_begin wsX0_begin ({ frames := 3, cells := 0, slots := 0, locals := 65 }) [.ref (b 0), .int (nI k)] (CR cI b f) none (CR cI b (S_begin f k)) := by
  refine ct_ofV (cc := cX0_begin) (nL := 2) (own := RX0) (by decide) rfl rfl ⟨rfl, rfl⟩ (Nat.le_of_ble_eq_true rfl) CR_same (fun p e s m below meth c A Q F hR => ?_)
  refine g_aload_n F dX0_begin_0 rfl 0 rfl ?_
  refine g_lR3 F zX0_begin_inX0 zX0_begin_f40 dX0_begin_1 ?_
  refine g_iload_n F dX0_begin_4 rfl 1 rfl ?_
  refine g_aload_n F dX0_begin_5 rfl 0 rfl ?_
  refine g_lF70 F zX0_begin_inX0 zX0_begin_f21 dX0_begin_6 ?_
  refine g_cA3 F rfl (by omega) dX0_begin_9 ?_
  refine g_aload_n F dX0_begin_10 rfl 0 rfl ?_
  refine g_lR4 F zX0_begin_inX0 zX0_begin_f43 dX0_begin_11 ?_
  refine g_iload_n F dX0_begin_14 rfl 1 rfl ?_
  refine g_aload_n F dX0_begin_15 rfl 0 rfl ?_
  refine g_lF70 F zX0_begin_inX0 zX0_begin_f21 dX0_begin_16 ?_
  refine g_aload_n F dX0_begin_19 rfl 0 rfl ?_
  refine g_iconst F (v := 1) dX0_begin_20 (by decide) ?_
  refine g_callVs F (As := [.int 1]) (st := [.int ((upd f (48 + k) (f 70)) 70), .int (nI k), .ref (b 4)]) (kX0_waitOf l D cI cZ cQ b (upd f (48 + k) (f 70)) 1 (Z_upd hz (by omega))) 0 rfl rfl (cwV 1 F.2.2.2.2.1 gX0_begin_X0_waitOf rfl rfl rfl (by decide +kernel) ⟨Nat.le_of_ble_eq_true rfl, Nat.le_of_ble_eq_true rfl⟩) rfl rfl (Nat.le_of_ble_eq_true rfl) ⟨Nat.zero_le _, Nat.zero_le _⟩ dX0_begin_21 ?_
  refine g_iadd F dX0_begin_24 ?_
  refine g_cA4 F rfl (by omega) dX0_begin_25 ?_
  exact g_endV (hR _ _ dX0_begin_26) rfl
theorem zX0_goAway_f33 : Cond.fieldLink RX0 33 (TX0 7).1 (TX0 7).2.1 (TX0 7).2.2.1 ∈ wsX0_goAway := by decide +kernel
theorem zX0_goAway_f37 : Cond.fieldLink RX0 37 (TX0 8).1 (TX0 8).2.1 (TX0 8).2.2.1 ∈ wsX0_goAway := by decide +kernel
theorem zX0_goAway_f40 : Cond.fieldLink RX0 40 (TX0 9).1 (TX0 9).2.1 (TX0 9).2.2.1 ∈ wsX0_goAway := by decide +kernel
theorem zX0_goAway_f43 : Cond.fieldLink RX0 43 (TX0 10).1 (TX0 10).2.1 (TX0 10).2.2.1 ∈ wsX0_goAway := by decide +kernel
theorem zX0_goAway_f46 : Cond.fieldLink RX0 46 (TX0 11).1 (TX0 11).2.1 (TX0 11).2.2.1 ∈ wsX0_goAway := by decide +kernel
theorem zX0_goAway_inX0 : ∀ w ∈ u_ws RX0 TX0 14, w ∈ wsX0_goAway := by decide +kernel
set_option maxHeartbeats 1000000 in
set_option maxRecDepth 100000 in
theorem kX0_goAway (l : Launch) (D : va_G) (cI cZ cQ : ClassId) (b : Nat → Nat) (f : Row) (k : Nat) (hk : k < 6) : Ct l D (gTy cI cZ cQ) yX0_goAway wsX0_goAway ({ frames := 0, cells := 0, slots := 0, locals := 0 }) [.ref (b 0), .int (nI k)] (CR cI b f) none (CR cI b (S_goAway f k)) := by
  refine ct_ofV (cc := cX0_goAway) (nL := 2) (own := RX0) (by decide) rfl rfl ⟨rfl, rfl⟩ (Nat.le_of_ble_eq_true rfl) CR_same (fun p e s m below meth c A Q F hR => ?_)
  refine g_aload_n F dX0_goAway_0 rfl 0 rfl ?_
  refine g_lR1 F zX0_goAway_inX0 zX0_goAway_f33 dX0_goAway_1 ?_
  refine g_iload_n F dX0_goAway_4 rfl 1 rfl ?_
  refine g_iconst F (v := 0) dX0_goAway_5 (by decide) ?_
  refine g_cA1 F rfl (by omega) dX0_goAway_6 ?_
  refine g_aload_n F dX0_goAway_7 rfl 0 rfl ?_
  refine g_lR2 F zX0_goAway_inX0 zX0_goAway_f37 dX0_goAway_8 ?_
  refine g_iload_n F dX0_goAway_11 rfl 1 rfl ?_
  refine g_iconst F (v := 0) dX0_goAway_12 (by decide) ?_
  refine g_cA2 F rfl (by omega) dX0_goAway_13 ?_
  refine g_aload_n F dX0_goAway_14 rfl 0 rfl ?_
  refine g_lR3 F zX0_goAway_inX0 zX0_goAway_f40 dX0_goAway_15 ?_
  refine g_iload_n F dX0_goAway_18 rfl 1 rfl ?_
  refine g_iconst F (v := 0) dX0_goAway_19 (by decide) ?_
  refine g_cA3 F rfl (by omega) dX0_goAway_20 ?_
  refine g_aload_n F dX0_goAway_21 rfl 0 rfl ?_
  refine g_lR4 F zX0_goAway_inX0 zX0_goAway_f43 dX0_goAway_22 ?_
  refine g_iload_n F dX0_goAway_25 rfl 1 rfl ?_
  refine g_iconst F (v := 0) dX0_goAway_26 (by decide) ?_
  refine g_cA4 F rfl (by omega) dX0_goAway_27 ?_
  refine g_aload_n F dX0_goAway_28 rfl 0 rfl ?_
  refine g_lR5 F zX0_goAway_inX0 zX0_goAway_f46 dX0_goAway_29 ?_
  refine g_iload_n F dX0_goAway_32 rfl 1 rfl ?_
  refine g_iconst F (v := 0) dX0_goAway_33 (by decide) ?_
  refine g_cA5 F rfl (by omega) dX0_goAway_34 ?_
  exact g_endV (hR _ _ dX0_goAway_35) rfl
theorem zX0_reaches_f33 : Cond.fieldLink RX0 33 (TX0 7).1 (TX0 7).2.1 (TX0 7).2.2.1 ∈ wsX0_reaches := by decide +kernel
theorem zX0_reaches_inX0 : ∀ w ∈ u_ws RX0 TX0 14, w ∈ wsX0_reaches := by decide +kernel
set_option maxHeartbeats 1000000 in
set_option maxRecDepth 100000 in
theorem kX0_reaches (l : Launch) (D : va_G) (cI cZ cQ : ClassId) (b : Nat → Nat) (f : Row) (k o : Nat) (hk : k < 6) (ho : o < 6) : Ct l D (gTy cI cZ cQ) yX0_reaches wsX0_reaches ({ frames := 1, cells := 0, slots := 0, locals := 22 }) [.ref (b 0), .int (nI k), .int (nI o)] (CR cI b f) (some (.int (bI (S_reaches f k o)))) (CR cI b f) := by
  refine ct_ofZ (cc := cX0_reaches) (nL := 3) (own := RX0) (by decide) rfl rfl ⟨rfl, rfl⟩ (Nat.le_of_ble_eq_true rfl) CR_same (by first | rfl | exact bI_nar _) (fun p e s m below meth c A Q F hR => ?_)
  refine g_iload_n F dX0_reaches_0 rfl 1 rfl ?_
  refine g_iload_n F dX0_reaches_1 rfl 2 rfl ?_
  refine g_icmp_eq F 27 dX0_reaches_2 (by decide) (fun c1 => ?_) (fun c1 => ?_)
  · refine g_iconst F (v := 0) dX0_reaches_27 (by decide) ?_
    exact g_endI (hR _ _ dX0_reaches_28) (by unfold S_reaches; rw [if_pos c1.symm]; rfl) rfl
  · refine g_aload_n F dX0_reaches_5 rfl 0 rfl ?_
    refine g_lR1 F zX0_reaches_inX0 zX0_reaches_f33 dX0_reaches_6 ?_
    refine g_iload_n F dX0_reaches_9 rfl 2 rfl ?_
    refine g_lA1 F rfl (by omega) dX0_reaches_10 ?_
    refine g_if_eq F 27 dX0_reaches_11 (by decide) (fun c2 => ?_) (fun c2 => ?_)
    · refine g_iconst F (v := 0) dX0_reaches_27 (by decide) ?_
      exact g_endI (hR _ _ dX0_reaches_28) (by unfold S_reaches; rw [if_neg (fun q => c1 q.symm), if_pos c2]; rfl) rfl
    · refine g_aload_n F dX0_reaches_14 rfl 0 rfl ?_
      refine g_iload_n F dX0_reaches_15 rfl 1 rfl ?_
      refine g_iload_n F dX0_reaches_16 rfl 2 rfl ?_
      refine g_callVs F (As := [.int (nI k), .int (nI o)]) (st := []) (kX0_isOpen l D cI cZ cQ b f k o (by omega) (by omega)) 0 rfl rfl (cwV 2 F.2.2.2.2.1 gX0_reaches_X0_isOpen rfl rfl rfl (by decide +kernel) ⟨Nat.le_of_ble_eq_true rfl, Nat.le_of_ble_eq_true rfl⟩) rfl rfl (Nat.le_of_ble_eq_true rfl) ⟨Nat.zero_le _, Nat.zero_le _⟩ dX0_reaches_17 ?_
      refine g_beq F 27 dX0_reaches_20 (by decide) (fun c3 => ?_) (fun c3 => ?_)
      · refine g_iconst F (v := 0) dX0_reaches_27 (by decide) ?_
        exact g_endI (hR _ _ dX0_reaches_28) (by unfold S_reaches; rw [if_neg (fun q => c1 q.symm), if_neg c2]; simp_all [bI]) rfl
      · refine g_iconst F (v := 1) dX0_reaches_23 (by decide) ?_
        refine g_goto F 28 dX0_reaches_24 (by decide) ?_
        exact g_endI (hR _ _ dX0_reaches_28) (by unfold S_reaches; rw [if_neg (fun q => c1 q.symm), if_neg c2]; simp_all [bI]) rfl
theorem zX0_sendReport_f21 : Cond.fieldLink RX0 21 (TX0 3).1 (TX0 3).2.1 (TX0 3).2.2.1 ∈ wsX0_sendReport := by decide +kernel
theorem zX0_sendReport_f27 : Cond.fieldLink RX0 27 (TX0 5).1 (TX0 5).2.1 (TX0 5).2.2.1 ∈ wsX0_sendReport := by decide +kernel
theorem zX0_sendReport_f37 : Cond.fieldLink RX0 37 (TX0 8).1 (TX0 8).2.1 (TX0 8).2.2.1 ∈ wsX0_sendReport := by decide +kernel
theorem zX0_sendReport_f52 : Cond.fieldLink RX0 52 (TX0 13).1 (TX0 13).2.1 (TX0 13).2.2.1 ∈ wsX0_sendReport := by decide +kernel
theorem zX0_sendReport_inX0 : ∀ w ∈ u_ws RX0 TX0 14, w ∈ wsX0_sendReport := by decide +kernel
set_option maxHeartbeats 1000000 in
set_option maxRecDepth 100000 in
theorem kX0_sendReport (l : Launch) (D : va_G) (cI cZ cQ : ClassId) (b : Nat → Nat) (f : Row) (k : Nat) (hk : k < 6) : Ct l D (gTy cI cZ cQ) yX0_sendReport wsX0_sendReport ({ frames := 2, cells := 0, slots := 0, locals := 44 }) [.ref (b 0), .int (nI k)] (CR cI b f) none (CR cI b (S_report f k)) := by
  refine ct_ofV (cc := cX0_sendReport) (nL := 3) (own := RX0) (by decide) rfl rfl ⟨rfl, rfl⟩ (Nat.le_of_ble_eq_true rfl) CR_same (fun p e s m below meth c A Q F hR => ?_)
  refine g_aload_n F dX0_sendReport_0 rfl 0 rfl ?_
  refine g_dup F dX0_sendReport_1 rfl ?_
  refine g_lF71 F zX0_sendReport_inX0 zX0_sendReport_f27 dX0_sendReport_2 ?_
  refine g_iconst F (v := 1) dX0_sendReport_5 (by decide) ?_
  refine g_iadd F dX0_sendReport_6 ?_
  refine g_cF71 F zX0_sendReport_inX0 zX0_sendReport_f27 dX0_sendReport_7 ?_
  refine g_iconst F (v := 0) dX0_sendReport_10 (by decide) ?_
  refine g_istore_n F (lv' := [(0, .ref (b 0)), (1, .int (nI k)), (2, .int 0)]) dX0_sendReport_11 rfl (by decide) [1, 2, 0] rfl ?_
  refine g_all (w0 := CR cI b (it (S_repStep k) 0 (S_rep0 f))) (lv0 := [(0, .ref (b 0)), (1, .int (nI k)), (2, .int (nI 0))]) (st0 := []) rfl rfl rfl ?_
  refine g_for 6 (fun i => True) (fun i => CR cI b (it (S_repStep k) i (S_rep0 f))) (fun i => [(0, .ref (b 0)), (1, .int (nI k)), (2, .int (nI i))]) (fun i hi hIi ihi => ?_) 0 (Nat.zero_le _) trivial
  dsimp only [it_s] at ihi ⊢
  generalize hg_g : it (S_repStep k) i (S_rep0 f) = g at ihi ⊢
  refine g_iload_n F dX0_sendReport_12 rfl 2 rfl ?_
  refine g_bipush F (v := 6) dX0_sendReport_13 (by decide) ?_
  refine g_icmp_ge F 60 dX0_sendReport_15 (by decide) (fun c1 => ?_) (fun c1 => ?_)
  · have hx_c1 : 6 = i := lp_ge hi (by decide) c1
    subst hx_c1
    subst hg_g
    exact g_endV (hR _ _ dX0_sendReport_60) rfl
  · have hlti : i < 6 := lp_lt hi (by decide) c1
    refine g_aload_n F dX0_sendReport_18 rfl 0 rfl ?_
    refine g_iload_n F dX0_sendReport_19 rfl 1 rfl ?_
    refine g_iload_n F dX0_sendReport_20 rfl 2 rfl ?_
    refine g_callVs F (As := [.int (nI k), .int (nI i)]) (st := []) (kX0_reaches l D cI cZ cQ b g k i (by omega) (by omega)) 0 rfl rfl (cwV 2 F.2.2.2.2.1 gX0_sendReport_X0_reaches rfl rfl rfl (by decide +kernel) ⟨Nat.le_of_ble_eq_true rfl, Nat.le_of_ble_eq_true rfl⟩) rfl rfl (Nat.le_of_ble_eq_true rfl) ⟨Nat.zero_le _, Nat.zero_le _⟩ dX0_sendReport_21 ?_
    refine g_beq F 54 dX0_sendReport_24 (by decide) (fun c2 => ?_) (fun c2 => ?_)
    · refine g_iinc F (lv' := [(0, .ref (b 0)), (1, .int (nI k)), (2, .int (nI (i + 1)))]) (nI (i + 1)) dX0_sendReport_54 2 rfl (nI_add i 1) (by decide) [1, 2, 0] rfl ?_
      refine g_goto F 12 dX0_sendReport_57 (by decide) ?_
      refine g_all (w0 := CR cI b (S_repStep k i g)) (lv0 := [(0, .ref (b 0)), (1, .int (nI k)), (2, .int (nI (i + 1)))]) (st0 := []) (by first | (simp only [S_repStep, S_kn, c2, Bool.false_eq_true, ↓reduceIte]; done) | (with_reducible rfl) | (simp [S_repStep, S_kn, c2, Bool.false_eq_true, ↓reduceIte]; done)) rfl rfl ?_
      exact ihi hlti trivial
    · refine g_aload_n F dX0_sendReport_27 rfl 0 rfl ?_
      refine g_lR2 F zX0_sendReport_inX0 zX0_sendReport_f37 dX0_sendReport_28 ?_
      refine g_iload_n F dX0_sendReport_31 rfl 2 rfl ?_
      refine g_dup2 F dX0_sendReport_32 rfl rfl ?_
      refine g_lA2 F rfl (by omega) dX0_sendReport_33 ?_
      refine g_iconst F (v := 1) dX0_sendReport_34 (by decide) ?_
      refine g_iload_n F dX0_sendReport_35 rfl 1 rfl ?_
      refine g_ishl F dX0_sendReport_36 ?_
      refine g_ior F dX0_sendReport_37 ?_
      refine g_cA2 F rfl (by omega) dX0_sendReport_38 ?_
      refine g_aload_n F dX0_sendReport_39 rfl 0 rfl ?_
      refine g_lR7 F zX0_sendReport_inX0 zX0_sendReport_f52 dX0_sendReport_40 ?_
      refine g_iload_n F dX0_sendReport_43 rfl 2 rfl ?_
      refine g_bipush F (v := 6) dX0_sendReport_44 (by decide) ?_
      refine g_imul F dX0_sendReport_46 ?_
      refine g_as (nI (i * 6)) (pk_mul i 6) ?_
      refine g_iload_n F dX0_sendReport_47 rfl 1 rfl ?_
      refine g_iadd F dX0_sendReport_48 ?_
      refine g_as (nI (i * 6 + k)) (nI_add (i * 6) k) ?_
      refine g_aload_n F dX0_sendReport_49 rfl 0 rfl ?_
      refine g_lF70 F zX0_sendReport_inX0 zX0_sendReport_f21 dX0_sendReport_50 ?_
      refine g_cA7 F rfl (by omega) dX0_sendReport_53 ?_
      refine g_aw (CR cI b (upd (upd g (6 + i) ((g (6 + i)) ||| (1 <<< ((nI k) &&& 31)))) (12 + 6 * i + k) ((upd g (6 + i) ((g (6 + i)) ||| (1 <<< ((nI k) &&& 31)))) 70))) (congrArg (fun z => CR cI b (upd (upd g (6 + i) ((g (6 + i)) ||| (1 <<< ((nI k) &&& 31)))) z ((upd g (6 + i) ((g (6 + i)) ||| (1 <<< ((nI k) &&& 31)))) 70))) (by omega)) ?_
      refine g_iinc F (lv' := [(0, .ref (b 0)), (1, .int (nI k)), (2, .int (nI (i + 1)))]) (nI (i + 1)) dX0_sendReport_54 2 rfl (nI_add i 1) (by decide) [1, 2, 0] rfl ?_
      refine g_goto F 12 dX0_sendReport_57 (by decide) ?_
      refine g_all (w0 := CR cI b (S_repStep k i g)) (lv0 := [(0, .ref (b 0)), (1, .int (nI k)), (2, .int (nI (i + 1)))]) (st0 := []) (by first | (simp only [S_repStep, S_kn, c2, Bool.false_eq_true, ↓reduceIte]; done) | (with_reducible rfl) | (simp [S_repStep, S_kn, c2, Bool.false_eq_true, ↓reduceIte]; done)) rfl rfl ?_
      exact ihi hlti trivial
theorem zX0_restart_f21 : Cond.fieldLink RX0 21 (TX0 3).1 (TX0 3).2.1 (TX0 3).2.2.1 ∈ wsX0_restart := by decide +kernel
theorem zX0_restart_f27 : Cond.fieldLink RX0 27 (TX0 5).1 (TX0 5).2.1 (TX0 5).2.2.1 ∈ wsX0_restart := by decide +kernel
theorem zX0_restart_f30 : Cond.fieldLink RX0 30 (TX0 6).1 (TX0 6).2.1 (TX0 6).2.2.1 ∈ wsX0_restart := by decide +kernel
theorem zX0_restart_f49 : Cond.fieldLink RX0 49 (TX0 12).1 (TX0 12).2.1 (TX0 12).2.2.1 ∈ wsX0_restart := by decide +kernel
theorem zX0_restart_inX0 : ∀ w ∈ u_ws RX0 TX0 14, w ∈ wsX0_restart := by decide +kernel
set_option maxHeartbeats 1000000 in
set_option maxRecDepth 100000 in
theorem kX0_restart (l : Launch) (D : va_G) (cI cZ cQ : ClassId) (b : Nat → Nat) (f : Row) : Ct l D (gTy cI cZ cQ) yX0_restart wsX0_restart ({ frames := 1, cells := 0, slots := 0, locals := 21 }) [.ref (b 0)] (CR cI b f) none (CR cI b (S_restart f)) := by
  refine ct_ofV (cc := cX0_restart) (nL := 2) (own := RX0) (by decide) rfl rfl ⟨rfl, rfl⟩ (Nat.le_of_ble_eq_true rfl) CR_same (fun p e s m below meth c A Q F hR => ?_)
  refine g_aload_n F dX0_restart_0 rfl 0 rfl ?_
  refine g_iconst F (v := 0) dX0_restart_1 (by decide) ?_
  refine g_cF70 F zX0_restart_inX0 zX0_restart_f21 dX0_restart_2 ?_
  refine g_aload_n F dX0_restart_5 rfl 0 rfl ?_
  refine g_iconst F (v := 0) dX0_restart_6 (by decide) ?_
  refine g_cF71 F zX0_restart_inX0 zX0_restart_f27 dX0_restart_7 ?_
  refine g_aload_n F dX0_restart_10 rfl 0 rfl ?_
  refine g_iconst F (v := 0) dX0_restart_11 (by decide) ?_
  refine g_cF72 F zX0_restart_inX0 zX0_restart_f30 dX0_restart_12 ?_
  refine g_iconst F (v := 0) dX0_restart_15 (by decide) ?_
  refine g_istore_n F (lv' := [(0, .ref (b 0)), (1, .int 0)]) dX0_restart_16 rfl (by decide) [1, 0] rfl ?_
  refine g_all (w0 := CR cI b (it S_rsStep 0 (S_rs0 f))) (lv0 := [(0, .ref (b 0)), (1, .int (nI 0))]) (st0 := []) rfl rfl rfl ?_
  refine g_for 6 (fun i => True) (fun i => CR cI b (it S_rsStep i (S_rs0 f))) (fun i => [(0, .ref (b 0)), (1, .int (nI i))]) (fun i hi hIi ihi => ?_) 0 (Nat.zero_le _) trivial
  dsimp only [it_s] at ihi ⊢
  generalize hg_g : it S_rsStep i (S_rs0 f) = g at ihi ⊢
  refine g_iload_n F dX0_restart_17 rfl 1 rfl ?_
  refine g_bipush F (v := 6) dX0_restart_18 (by decide) ?_
  refine g_icmp_ge F 41 dX0_restart_20 (by decide) (fun c1 => ?_) (fun c1 => ?_)
  · have hx_c1 : 6 = i := lp_ge hi (by decide) c1
    subst hx_c1
    subst hg_g
    exact g_endV (hR _ _ dX0_restart_41) rfl
  · have hlti : i < 6 := lp_lt hi (by decide) c1
    refine g_aload_n F dX0_restart_23 rfl 0 rfl ?_
    refine g_iload_n F dX0_restart_24 rfl 1 rfl ?_
    refine g_callVs F (As := [.int (nI i)]) (st := []) (kX0_goAway l D cI cZ cQ b g i (by omega)) 0 rfl rfl (cwV 1 F.2.2.2.2.1 gX0_restart_X0_goAway rfl rfl rfl (by decide +kernel) ⟨Nat.le_of_ble_eq_true rfl, Nat.le_of_ble_eq_true rfl⟩) rfl rfl (Nat.le_of_ble_eq_true rfl) ⟨Nat.zero_le _, Nat.zero_le _⟩ dX0_restart_25 ?_
    refine g_aload_n F dX0_restart_28 rfl 0 rfl ?_
    refine g_lR6 F zX0_restart_inX0 zX0_restart_f49 dX0_restart_29 ?_
    refine g_iload_n F dX0_restart_32 rfl 1 rfl ?_
    refine g_iconst F (v := 0) dX0_restart_33 (by decide) ?_
    refine g_cA6 F rfl (by omega) dX0_restart_34 ?_
    refine g_iinc F (lv' := [(0, .ref (b 0)), (1, .int (nI (i + 1)))]) (nI (i + 1)) dX0_restart_35 1 rfl (nI_add i 1) (by decide) [1, 0] rfl ?_
    refine g_goto F 17 dX0_restart_38 (by decide) ?_
    refine g_all (w0 := CR cI b (S_rsStep i g)) (lv0 := [(0, .ref (b 0)), (1, .int (nI (i + 1)))]) (st0 := []) rfl rfl rfl ?_
    exact ihi hlti trivial
theorem zX0_isAtRest_f33 : Cond.fieldLink RX0 33 (TX0 7).1 (TX0 7).2.1 (TX0 7).2.2.1 ∈ wsX0_isAtRest := by decide +kernel
theorem zX0_isAtRest_f37 : Cond.fieldLink RX0 37 (TX0 8).1 (TX0 8).2.1 (TX0 8).2.2.1 ∈ wsX0_isAtRest := by decide +kernel
theorem zX0_isAtRest_inX0 : ∀ w ∈ u_ws RX0 TX0 14, w ∈ wsX0_isAtRest := by decide +kernel
set_option maxHeartbeats 1000000 in
set_option maxRecDepth 100000 in
theorem kX0_isAtRest (l : Launch) (D : va_G) (cI cZ cQ : ClassId) (b : Nat → Nat) (f : Row) : Ct l D (gTy cI cZ cQ) yX0_isAtRest wsX0_isAtRest ({ frames := 1, cells := 0, slots := 0, locals := 23 }) [.ref (b 0)] (CR cI b f) (some (.int (bI (S_restN f 6)))) (CR cI b f) := by
  refine ct_ofZ (cc := cX0_isAtRest) (nL := 3) (own := RX0) (by decide) rfl rfl ⟨rfl, rfl⟩ (Nat.le_of_ble_eq_true rfl) CR_same (by first | rfl | exact bI_nar _) (fun p e s m below meth c A Q F hR => ?_)
  refine g_aload_n F dX0_isAtRest_0 rfl 0 rfl ?_
  refine g_iconst F (v := 1) dX0_isAtRest_1 (by decide) ?_
  refine g_callVs F (As := [.int 1]) (st := []) (kX0_bitsOf l D cI cZ cQ b f 1 ) 0 rfl rfl (cwV 1 F.2.2.2.2.1 gX0_isAtRest_X0_bitsOf rfl rfl rfl (by decide +kernel) ⟨Nat.le_of_ble_eq_true rfl, Nat.le_of_ble_eq_true rfl⟩) rfl rfl (Nat.le_of_ble_eq_true rfl) ⟨Nat.zero_le _, Nat.zero_le _⟩ dX0_isAtRest_2 ?_
  refine g_istore_n F (lv' := [(0, .ref (b 0)), (1, .int (S_those f 1))]) dX0_isAtRest_5 rfl (by decide) [1, 0] rfl ?_
  refine g_iconst F (v := 0) dX0_isAtRest_6 (by decide) ?_
  refine g_istore_n F (lv' := [(0, .ref (b 0)), (1, .int (S_those f 1)), (2, .int 0)]) dX0_isAtRest_7 rfl (by decide) [1, 2, 0] rfl ?_
  refine g_all (w0 := CR cI b f) (lv0 := [(0, .ref (b 0)), (1, .int (S_those f 1)), (2, .int (nI 0))]) (st0 := []) rfl rfl rfl ?_
  refine g_for 6 (fun i => S_restN f i = true) (fun i => CR cI b f) (fun i => [(0, .ref (b 0)), (1, .int (S_those f 1)), (2, .int (nI i))]) (fun i hi hIi ihi => ?_) 0 (Nat.zero_le _) rfl
  refine g_iload_n F dX0_isAtRest_8 rfl 2 rfl ?_
  refine g_bipush F (v := 6) dX0_isAtRest_9 (by decide) ?_
  refine g_icmp_ge F 58 dX0_isAtRest_11 (by decide) (fun c1 => ?_) (fun c1 => ?_)
  · have hx_c1 : 6 = i := lp_ge hi (by decide) c1
    subst hx_c1
    refine g_iconst F (v := 1) dX0_isAtRest_58 (by decide) ?_
    exact g_endI (hR _ _ dX0_isAtRest_59) (by rw [show S_restN f 6 = true from hIi]; rfl) rfl
  · have hlti : i < 6 := lp_lt hi (by decide) c1
    refine g_aload_n F dX0_isAtRest_14 rfl 0 rfl ?_
    refine g_lR1 F zX0_isAtRest_inX0 zX0_isAtRest_f33 dX0_isAtRest_15 ?_
    refine g_iload_n F dX0_isAtRest_18 rfl 2 rfl ?_
    refine g_lA1 F rfl (by omega) dX0_isAtRest_19 ?_
    refine g_iconst F (v := 2) dX0_isAtRest_20 (by decide) ?_
    refine g_icmp_eq F 50 dX0_isAtRest_21 (by decide) (fun c2 => ?_) (fun c2 => ?_)
    · refine g_iconst F (v := 0) dX0_isAtRest_50 (by decide) ?_
      exact g_endI (hR _ _ dX0_isAtRest_51) (by rw [S_restN_f (i := i) (by simp_all [S_restOk]) 6 hlti]; rfl) rfl
    · refine g_aload_n F dX0_isAtRest_24 rfl 0 rfl ?_
      refine g_lR1 F zX0_isAtRest_inX0 zX0_isAtRest_f33 dX0_isAtRest_25 ?_
      refine g_iload_n F dX0_isAtRest_28 rfl 2 rfl ?_
      refine g_lA1 F rfl (by omega) dX0_isAtRest_29 ?_
      refine g_iconst F (v := 1) dX0_isAtRest_30 (by decide) ?_
      refine g_icmp_ne F 52 dX0_isAtRest_31 (by decide) (fun c3 => ?_) (fun c3 => ?_)
      · refine g_iinc F (lv' := [(0, .ref (b 0)), (1, .int (S_those f 1)), (2, .int (nI (i + 1)))]) (nI (i + 1)) dX0_isAtRest_52 2 rfl (nI_add i 1) (by decide) [1, 2, 0] rfl ?_
        refine g_goto F 8 dX0_isAtRest_55 (by decide) ?_
        refine g_all (w0 := CR cI b f) (lv0 := [(0, .ref (b 0)), (1, .int (S_those f 1)), (2, .int (nI (i + 1)))]) (st0 := []) rfl rfl rfl ?_
        exact ihi hlti (by unfold S_restN; rw [show S_restN f i = true from hIi]; simp_all [S_restOk])
      · refine g_aload_n F dX0_isAtRest_34 rfl 0 rfl ?_
        refine g_lR2 F zX0_isAtRest_inX0 zX0_isAtRest_f37 dX0_isAtRest_35 ?_
        refine g_iload_n F dX0_isAtRest_38 rfl 2 rfl ?_
        refine g_lA2 F rfl (by omega) dX0_isAtRest_39 ?_
        refine g_iload_n F dX0_isAtRest_40 rfl 1 rfl ?_
        refine g_iconst F (v := 1) dX0_isAtRest_41 (by decide) ?_
        refine g_iload_n F dX0_isAtRest_42 rfl 2 rfl ?_
        refine g_ishl F dX0_isAtRest_43 ?_
        refine g_iconst F (v := (-1)) dX0_isAtRest_44 (by decide) ?_
        refine g_ixor F dX0_isAtRest_45 ?_
        refine g_iand F dX0_isAtRest_46 ?_
        refine g_icmp_eq F 52 dX0_isAtRest_47 (by decide) (fun c4 => ?_) (fun c4 => ?_)
        · refine g_iinc F (lv' := [(0, .ref (b 0)), (1, .int (S_those f 1)), (2, .int (nI (i + 1)))]) (nI (i + 1)) dX0_isAtRest_52 2 rfl (nI_add i 1) (by decide) [1, 2, 0] rfl ?_
          refine g_goto F 8 dX0_isAtRest_55 (by decide) ?_
          refine g_all (w0 := CR cI b f) (lv0 := [(0, .ref (b 0)), (1, .int (S_those f 1)), (2, .int (nI (i + 1)))]) (st0 := []) rfl rfl rfl ?_
          exact ihi hlti (by unfold S_restN; rw [show S_restN f i = true from hIi]; simp_all [S_restOk])
        · refine g_iconst F (v := 0) dX0_isAtRest_50 (by decide) ?_
          exact g_endI (hR _ _ dX0_isAtRest_51) (by rw [S_restN_f (i := i) (by simp_all [S_restOk]) 6 hlti]; rfl) rfl
theorem zX0_feltBits_f33 : Cond.fieldLink RX0 33 (TX0 7).1 (TX0 7).2.1 (TX0 7).2.2.1 ∈ wsX0_feltBits := by decide +kernel
theorem zX0_feltBits_f37 : Cond.fieldLink RX0 37 (TX0 8).1 (TX0 8).2.1 (TX0 8).2.2.1 ∈ wsX0_feltBits := by decide +kernel
theorem zX0_feltBits_inX0 : ∀ w ∈ u_ws RX0 TX0 14, w ∈ wsX0_feltBits := by decide +kernel
set_option maxHeartbeats 1000000 in
set_option maxRecDepth 100000 in
theorem kX0_feltBits (l : Launch) (D : va_G) (cI cZ cQ : ClassId) (b : Nat → Nat) (f : Row) : Ct l D (gTy cI cZ cQ) yX0_feltBits wsX0_feltBits ({ frames := 0, cells := 0, slots := 0, locals := 0 }) [.ref (b 0)] (CR cI b f) (some (.int (S_felt f))) (CR cI b f) := by
  refine ct_ofI (cc := cX0_feltBits) (nL := 3) (own := RX0) (by decide) rfl rfl ⟨rfl, rfl⟩ (Nat.le_of_ble_eq_true rfl) CR_same (fun p e s m below meth c A Q F hR => ?_)
  refine g_iconst F (v := 0) dX0_feltBits_0 (by decide) ?_
  refine g_istore_n F (lv' := [(0, .ref (b 0)), (1, .int 0)]) dX0_feltBits_1 rfl (by decide) [1, 0] rfl ?_
  refine g_iconst F (v := 0) dX0_feltBits_2 (by decide) ?_
  refine g_istore_n F (lv' := [(0, .ref (b 0)), (1, .int 0), (2, .int 0)]) dX0_feltBits_3 rfl (by decide) [1, 2, 0] rfl ?_
  refine g_all (w0 := CR cI b f) (lv0 := [(0, .ref (b 0)), (1, .int (it (S_feltStep f) 0 0)), (2, .int (nI 0))]) (st0 := []) rfl rfl rfl ?_
  refine g_for 6 (fun i => True) (fun i => CR cI b f) (fun i => [(0, .ref (b 0)), (1, .int (it (S_feltStep f) i 0)), (2, .int (nI i))]) (fun i hi hIi ihi => ?_) 0 (Nat.zero_le _) trivial
  refine g_iload_n F dX0_feltBits_4 rfl 2 rfl ?_
  refine g_bipush F (v := 6) dX0_feltBits_5 (by decide) ?_
  refine g_icmp_ge F 40 dX0_feltBits_7 (by decide) (fun c1 => ?_) (fun c1 => ?_)
  · have hx_c1 : 6 = i := lp_ge hi (by decide) c1
    subst hx_c1
    refine g_iload_n F dX0_feltBits_40 rfl 1 rfl ?_
    exact g_endI (hR _ _ dX0_feltBits_41) rfl rfl
  · have hlti : i < 6 := lp_lt hi (by decide) c1
    refine g_iload_n F dX0_feltBits_10 rfl 1 rfl ?_
    refine g_aload_n F dX0_feltBits_11 rfl 0 rfl ?_
    refine g_lR2 F zX0_feltBits_inX0 zX0_feltBits_f37 dX0_feltBits_12 ?_
    refine g_iload_n F dX0_feltBits_15 rfl 2 rfl ?_
    refine g_lA2 F rfl (by omega) dX0_feltBits_16 ?_
    refine g_ior F dX0_feltBits_17 ?_
    refine g_istore_n F (lv' := [(0, .ref (b 0)), (1, .int ((it (S_feltStep f) i 0) ||| (f (6 + i)))), (2, .int (nI i))]) dX0_feltBits_18 rfl (by decide) [1, 0, 2] rfl ?_
    refine g_aload_n F dX0_feltBits_19 rfl 0 rfl ?_
    refine g_lR1 F zX0_feltBits_inX0 zX0_feltBits_f33 dX0_feltBits_20 ?_
    refine g_iload_n F dX0_feltBits_23 rfl 2 rfl ?_
    refine g_lA1 F rfl (by omega) dX0_feltBits_24 ?_
    refine g_if_eq F 34 dX0_feltBits_25 (by decide) (fun c2 => ?_) (fun c2 => ?_)
    · refine g_iinc F (lv' := [(0, .ref (b 0)), (1, .int ((it (S_feltStep f) i 0) ||| (f (6 + i)))), (2, .int (nI (i + 1)))]) (nI (i + 1)) dX0_feltBits_34 2 rfl (nI_add i 1) (by decide) [1, 2, 0] rfl ?_
      refine g_goto F 4 dX0_feltBits_37 (by decide) ?_
      refine g_all (w0 := CR cI b f) (lv0 := [(0, .ref (b 0)), (1, .int (it (S_feltStep f) (i + 1) 0)), (2, .int (nI (i + 1)))]) (st0 := []) rfl (by first | (simp only [it_s, S_feltStep, c2, Bool.false_eq_true, ↓reduceIte]; done) | (with_reducible rfl) | (simp [it_s, S_feltStep, c2, Bool.false_eq_true, ↓reduceIte]; done)) rfl ?_
      exact ihi hlti trivial
    · refine g_iload_n F dX0_feltBits_28 rfl 1 rfl ?_
      refine g_iconst F (v := 1) dX0_feltBits_29 (by decide) ?_
      refine g_iload_n F dX0_feltBits_30 rfl 2 rfl ?_
      refine g_ishl F dX0_feltBits_31 ?_
      refine g_ior F dX0_feltBits_32 ?_
      refine g_istore_n F (lv' := [(0, .ref (b 0)), (1, .int (((it (S_feltStep f) i 0) ||| (f (6 + i))) ||| (1 <<< ((nI i) &&& 31)))), (2, .int (nI i))]) dX0_feltBits_33 rfl (by decide) [1, 0, 2] rfl ?_
      refine g_iinc F (lv' := [(0, .ref (b 0)), (1, .int (((it (S_feltStep f) i 0) ||| (f (6 + i))) ||| (1 <<< ((nI i) &&& 31)))), (2, .int (nI (i + 1)))]) (nI (i + 1)) dX0_feltBits_34 2 rfl (nI_add i 1) (by decide) [1, 2, 0] rfl ?_
      refine g_goto F 4 dX0_feltBits_37 (by decide) ?_
      refine g_all (w0 := CR cI b f) (lv0 := [(0, .ref (b 0)), (1, .int (it (S_feltStep f) (i + 1) 0)), (2, .int (nI (i + 1)))]) (st0 := []) rfl (by first | (simp only [it_s, S_feltStep, c2, Bool.false_eq_true, ↓reduceIte]; done) | (with_reducible rfl) | (simp [it_s, S_feltStep, c2, Bool.false_eq_true, ↓reduceIte]; done)) rfl ?_
      exact ihi hlti trivial
theorem zX0_leaveOnly_f37 : Cond.fieldLink RX0 37 (TX0 8).1 (TX0 8).2.1 (TX0 8).2.2.1 ∈ wsX0_leaveOnly := by decide +kernel
theorem zX0_leaveOnly_inX0 : ∀ w ∈ u_ws RX0 TX0 14, w ∈ wsX0_leaveOnly := by decide +kernel
set_option maxHeartbeats 1000000 in
set_option maxRecDepth 100000 in
theorem kX0_leaveOnly (l : Launch) (D : va_G) (cI cZ cQ : ClassId) (b : Nat → Nat) (f : Row) (v : Int32) : Ct l D (gTy cI cZ cQ) yX0_leaveOnly wsX0_leaveOnly ({ frames := 1, cells := 0, slots := 0, locals := 21 }) [.ref (b 0), .int v] (CR cI b f) none (CR cI b (S_only f v)) := by
  refine ct_ofV (cc := cX0_leaveOnly) (nL := 3) (own := RX0) (by decide) rfl rfl ⟨rfl, rfl⟩ (Nat.le_of_ble_eq_true rfl) CR_same (fun p e s m below meth c A Q F hR => ?_)
  refine g_iconst F (v := 0) dX0_leaveOnly_0 (by decide) ?_
  refine g_istore_n F (lv' := [(0, .ref (b 0)), (1, .int v), (2, .int 0)]) dX0_leaveOnly_1 rfl (by decide) [1, 2, 0] rfl ?_
  refine g_all (w0 := CR cI b (it (S_onlyStep v) 0 f)) (lv0 := [(0, .ref (b 0)), (1, .int v), (2, .int (nI 0))]) (st0 := []) rfl rfl rfl ?_
  refine g_for 6 (fun i => True) (fun i => CR cI b (it (S_onlyStep v) i f)) (fun i => [(0, .ref (b 0)), (1, .int v), (2, .int (nI i))]) (fun i hi hIi ihi => ?_) 0 (Nat.zero_le _) trivial
  dsimp only [it_s] at ihi ⊢
  generalize hg_g : it (S_onlyStep v) i f = g at ihi ⊢
  refine g_iload_n F dX0_leaveOnly_2 rfl 2 rfl ?_
  refine g_bipush F (v := 6) dX0_leaveOnly_3 (by decide) ?_
  refine g_icmp_ge F 37 dX0_leaveOnly_5 (by decide) (fun c1 => ?_) (fun c1 => ?_)
  · have hx_c1 : 6 = i := lp_ge hi (by decide) c1
    subst hx_c1
    subst hg_g
    exact g_endV (hR _ _ dX0_leaveOnly_37) rfl
  · have hlti : i < 6 := lp_lt hi (by decide) c1
    refine g_aload_n F dX0_leaveOnly_8 rfl 0 rfl ?_
    refine g_lR2 F zX0_leaveOnly_inX0 zX0_leaveOnly_f37 dX0_leaveOnly_9 ?_
    refine g_iload_n F dX0_leaveOnly_12 rfl 2 rfl ?_
    refine g_dup2 F dX0_leaveOnly_13 rfl rfl ?_
    refine g_lA2 F rfl (by omega) dX0_leaveOnly_14 ?_
    refine g_iload_n F dX0_leaveOnly_15 rfl 1 rfl ?_
    refine g_iand F dX0_leaveOnly_16 ?_
    refine g_cA2 F rfl (by omega) dX0_leaveOnly_17 ?_
    refine g_iload_n F dX0_leaveOnly_18 rfl 1 rfl ?_
    refine g_iload_n F dX0_leaveOnly_19 rfl 2 rfl ?_
    refine g_ishr F dX0_leaveOnly_20 ?_
    refine g_iconst F (v := 1) dX0_leaveOnly_21 (by decide) ?_
    refine g_iand F dX0_leaveOnly_22 ?_
    refine g_if_ne F 31 dX0_leaveOnly_23 (by decide) (fun c2 => ?_) (fun c2 => ?_)
    · refine g_iinc F (lv' := [(0, .ref (b 0)), (1, .int v), (2, .int (nI (i + 1)))]) (nI (i + 1)) dX0_leaveOnly_31 2 rfl (nI_add i 1) (by decide) [1, 2, 0] rfl ?_
      refine g_goto F 2 dX0_leaveOnly_34 (by decide) ?_
      refine g_all (w0 := CR cI b (S_onlyStep v i g)) (lv0 := [(0, .ref (b 0)), (1, .int v), (2, .int (nI (i + 1)))]) (st0 := []) (by unfold S_onlyStep; rw [if_pos (has_01.mp c2)]) rfl rfl ?_
      exact ihi hlti trivial
    · refine g_aload_n F dX0_leaveOnly_26 rfl 0 rfl ?_
      refine g_iload_n F dX0_leaveOnly_27 rfl 2 rfl ?_
      refine g_callVs F (As := [.int (nI i)]) (st := []) (kX0_goAway l D cI cZ cQ b (upd g (6 + i) ((g (6 + i)) &&& v)) i (by omega)) 0 rfl rfl (cwV 1 F.2.2.2.2.1 gX0_leaveOnly_X0_goAway rfl rfl rfl (by decide +kernel) ⟨Nat.le_of_ble_eq_true rfl, Nat.le_of_ble_eq_true rfl⟩) rfl rfl (Nat.le_of_ble_eq_true rfl) ⟨Nat.zero_le _, Nat.zero_le _⟩ dX0_leaveOnly_28 ?_
      refine g_iinc F (lv' := [(0, .ref (b 0)), (1, .int v), (2, .int (nI (i + 1)))]) (nI (i + 1)) dX0_leaveOnly_31 2 rfl (nI_add i 1) (by decide) [1, 2, 0] rfl ?_
      refine g_goto F 2 dX0_leaveOnly_34 (by decide) ?_
      refine g_all (w0 := CR cI b (S_onlyStep v i g)) (lv0 := [(0, .ref (b 0)), (1, .int v), (2, .int (nI (i + 1)))]) (st0 := []) (by unfold S_onlyStep; rw [has_00.mp c2]; rfl) rfl rfl ?_
      exact ihi hlti trivial
theorem zX0_turnWay_f49 : Cond.fieldLink RX0 49 (TX0 12).1 (TX0 12).2.1 (TX0 12).2.2.1 ∈ wsX0_turnWay := by decide +kernel
theorem zX0_turnWay_inX0 : ∀ w ∈ u_ws RX0 TX0 14, w ∈ wsX0_turnWay := by decide +kernel
set_option maxHeartbeats 1000000 in
set_option maxRecDepth 100000 in
theorem kX0_turnWay (l : Launch) (D : va_G) (cI cZ cQ : ClassId) (b : Nat → Nat) (f : Row) (k o : Nat) (hk : k < 6) (ho : o < 6) (hko : ¬ k = o) : Ct l D (gTy cI cZ cQ) yX0_turnWay wsX0_turnWay ({ frames := 0, cells := 0, slots := 0, locals := 0 }) [.ref (b 0), .int (nI k), .int (nI o)] (CR cI b f) (some (.int 1)) (CR cI b (S_turn f k o)) := by
  refine ct_ofZ (cc := cX0_turnWay) (nL := 3) (own := RX0) (by decide) rfl rfl ⟨rfl, rfl⟩ (Nat.le_of_ble_eq_true rfl) CR_same (by first | rfl | exact bI_nar _) (fun p e s m below meth c A Q F hR => ?_)
  refine g_iload_n F dX0_turnWay_0 rfl 1 rfl ?_
  refine g_iload_n F dX0_turnWay_1 rfl 2 rfl ?_
  refine g_icmp_ne F 7 dX0_turnWay_2 (by decide) (fun c1 => ?_) (fun c1 => ?_)
  · refine g_aload_n F dX0_turnWay_7 rfl 0 rfl ?_
    refine g_lR6 F zX0_turnWay_inX0 zX0_turnWay_f49 dX0_turnWay_8 ?_
    refine g_iload_n F dX0_turnWay_11 rfl 1 rfl ?_
    refine g_dup2 F dX0_turnWay_12 rfl rfl ?_
    refine g_lA6 F rfl (by omega) dX0_turnWay_13 ?_
    refine g_iconst F (v := 1) dX0_turnWay_14 (by decide) ?_
    refine g_iload_n F dX0_turnWay_15 rfl 2 rfl ?_
    refine g_ishl F dX0_turnWay_16 ?_
    refine g_ixor F dX0_turnWay_17 ?_
    refine g_cA6 F rfl (by omega) dX0_turnWay_18 ?_
    refine g_iconst F (v := 1) dX0_turnWay_19 (by decide) ?_
    exact g_endI (hR _ _ dX0_turnWay_20) rfl rfl
  · exact absurd ((nI_eq (by omega) (by omega)).mp c1) hko
theorem zX0_forgetOld_f21 : Cond.fieldLink RX0 21 (TX0 3).1 (TX0 3).2.1 (TX0 3).2.2.1 ∈ wsX0_forgetOld := by decide +kernel
theorem zX0_forgetOld_f37 : Cond.fieldLink RX0 37 (TX0 8).1 (TX0 8).2.1 (TX0 8).2.2.1 ∈ wsX0_forgetOld := by decide +kernel
theorem zX0_forgetOld_f52 : Cond.fieldLink RX0 52 (TX0 13).1 (TX0 13).2.1 (TX0 13).2.2.1 ∈ wsX0_forgetOld := by decide +kernel
theorem zX0_forgetOld_inX0 : ∀ w ∈ u_ws RX0 TX0 14, w ∈ wsX0_forgetOld := by decide +kernel
set_option maxHeartbeats 1000000 in
set_option maxRecDepth 100000 in
theorem kX0_forgetOld (l : Launch) (D : va_G) (cI cZ cQ : ClassId) (b : Nat → Nat) (f : Row) (k : Nat) (hk : k < 6) (hn : ¬ f k = 0) (hK : Kn f) (hz : Z67 f) : Ct l D (gTy cI cZ cQ) yX0_forgetOld wsX0_forgetOld ({ frames := 2, cells := 0, slots := 0, locals := 43 }) [.ref (b 0), .int (nI k)] (CR cI b f) none (CR cI b (S_forget f k)) := by
  refine ct_ofV (cc := cX0_forgetOld) (nL := 5) (own := RX0) (by decide) rfl rfl ⟨rfl, rfl⟩ (Nat.le_of_ble_eq_true rfl) CR_same (fun p e s m below meth c A Q F hR => ?_)
  refine g_iconst F (v := 5) dX0_forgetOld_0 (by decide) ?_
  refine g_aload_n F dX0_forgetOld_1 rfl 0 rfl ?_
  refine g_aload_n F dX0_forgetOld_2 rfl 0 rfl ?_
  refine g_iload_n F dX0_forgetOld_3 rfl 1 rfl ?_
  refine g_callVs F (As := [.int (nI k)]) (st := [.ref (b 0), .int 5]) (kX0_countOf l D cI cZ cQ b f k (by omega) hn hK) 0 rfl rfl (cwV 1 F.2.2.2.2.1 gX0_forgetOld_X0_countOf rfl rfl rfl (by decide +kernel) ⟨Nat.le_of_ble_eq_true rfl, Nat.le_of_ble_eq_true rfl⟩) rfl rfl (Nat.le_of_ble_eq_true rfl) ⟨Nat.zero_le _, Nat.zero_le _⟩ dX0_forgetOld_4 ?_
  refine g_callVs F (As := [.int (S_count f k)]) (st := [.int 5]) (kX0_spanOf l D cI cZ cQ b f (S_count f k) hz) 0 rfl rfl (cwV 1 F.2.2.2.2.1 gX0_forgetOld_X0_spanOf rfl rfl rfl (by decide +kernel) ⟨Nat.le_of_ble_eq_true rfl, Nat.le_of_ble_eq_true rfl⟩) rfl rfl (Nat.le_of_ble_eq_true rfl) ⟨Nat.zero_le _, Nat.zero_le _⟩ dX0_forgetOld_7 ?_
  refine g_imul F dX0_forgetOld_10 ?_
  refine g_istore_n F (lv' := [(0, .ref (b 0)), (1, .int (nI k)), (2, .int (5 * (S_span f (S_count f k))))]) dX0_forgetOld_11 rfl (by decide) [1, 2, 0] rfl ?_
  refine g_iconst F (v := 0) dX0_forgetOld_12 (by decide) ?_
  refine g_istore_n F (lv' := [(0, .ref (b 0)), (1, .int (nI k)), (2, .int (5 * (S_span f (S_count f k)))), (3, .int 0)]) dX0_forgetOld_13 rfl (by decide) [1, 2, 3, 0] rfl ?_
  refine g_all (w0 := CR cI b (it (S_forStep k (S_most f k)) 0 f)) (lv0 := [(0, .ref (b 0)), (1, .int (nI k)), (2, .int (S_most f k)), (3, .int (nI 0))]) (st0 := []) rfl rfl rfl ?_
  refine g_for 6 (fun i => True) (fun i => CR cI b (it (S_forStep k (S_most f k)) i f)) (fun i => [(0, .ref (b 0)), (1, .int (nI k)), (2, .int (S_most f k)), (3, .int (nI i))]) (fun i hi hIi ihi => ?_) 0 (Nat.zero_le _) trivial
  dsimp only [it_s] at ihi ⊢
  generalize hg_g : it (S_forStep k (S_most f k)) i f = g at ihi ⊢
  refine g_iload_n F dX0_forgetOld_14 rfl 3 rfl ?_
  refine g_bipush F (v := 6) dX0_forgetOld_15 (by decide) ?_
  refine g_icmp_ge F 73 dX0_forgetOld_17 (by decide) (fun c1 => ?_) (fun c1 => ?_)
  · have hx_c1 : 6 = i := lp_ge hi (by decide) c1
    subst hx_c1
    subst hg_g
    exact g_endV (hR _ _ dX0_forgetOld_73) rfl
  · have hlti : i < 6 := lp_lt hi (by decide) c1
    refine g_aload_n F dX0_forgetOld_20 rfl 0 rfl ?_
    refine g_lF70 F zX0_forgetOld_inX0 zX0_forgetOld_f21 dX0_forgetOld_21 ?_
    refine g_aload_n F dX0_forgetOld_24 rfl 0 rfl ?_
    refine g_lR7 F zX0_forgetOld_inX0 zX0_forgetOld_f52 dX0_forgetOld_25 ?_
    refine g_iload_n F dX0_forgetOld_28 rfl 1 rfl ?_
    refine g_bipush F (v := 6) dX0_forgetOld_29 (by decide) ?_
    refine g_imul F dX0_forgetOld_31 ?_
    refine g_as (nI (k * 6)) (pk_mul k 6) ?_
    refine g_iload_n F dX0_forgetOld_32 rfl 3 rfl ?_
    refine g_iadd F dX0_forgetOld_33 ?_
    refine g_as (nI (k * 6 + i)) (nI_add (k * 6) i) ?_
    refine g_lA7 F rfl (by omega) dX0_forgetOld_34 ?_
    refine g_as (g (12 + 6 * k + i)) (congrArg g (by omega)) ?_
    refine g_isub F dX0_forgetOld_35 ?_
    refine g_istore F (lv' := [(0, .ref (b 0)), (1, .int (nI k)), (2, .int (S_most f k)), (3, .int (nI i)), (4, .int ((g 70) - (g (12 + 6 * k + i))))]) dX0_forgetOld_36 (by decide) [1, 2, 3, 4, 0] rfl ?_
    refine g_aload_n F dX0_forgetOld_38 rfl 0 rfl ?_
    refine g_iload_n F dX0_forgetOld_39 rfl 1 rfl ?_
    refine g_iload_n F dX0_forgetOld_40 rfl 3 rfl ?_
    refine g_callVs F (As := [.int (nI k), .int (nI i)]) (st := []) (kX0_knows l D cI cZ cQ b g k i (by omega) (by omega)) 0 rfl rfl (cwV 2 F.2.2.2.2.1 gX0_forgetOld_X0_knows rfl rfl rfl (by decide +kernel) ⟨Nat.le_of_ble_eq_true rfl, Nat.le_of_ble_eq_true rfl⟩) rfl rfl (Nat.le_of_ble_eq_true rfl) ⟨Nat.zero_le _, Nat.zero_le _⟩ dX0_forgetOld_41 ?_
    refine g_beq F 67 dX0_forgetOld_44 (by decide) (fun c2 => ?_) (fun c2 => ?_)
    · refine g_iinc F (lv' := [(0, .ref (b 0)), (1, .int (nI k)), (2, .int (S_most f k)), (3, .int (nI (i + 1))), (4, .int ((g 70) - (g (12 + 6 * k + i))))]) (nI (i + 1)) dX0_forgetOld_67 3 rfl (nI_add i 1) (by decide) [1, 2, 3, 0, 4] rfl ?_
      refine g_goto F 14 dX0_forgetOld_70 (by decide) ?_
      refine g_lvs [0, 1, 2, 3] rfl ?_
      refine g_all (w0 := CR cI b (S_forStep k (S_most f k) i g)) (lv0 := [(0, .ref (b 0)), (1, .int (nI k)), (2, .int (S_most f k)), (3, .int (nI (i + 1)))]) (st0 := []) (by rw [S_fs_no (S_old_a c2)]) rfl rfl ?_
      exact ihi hlti trivial
    · refine g_iload F dX0_forgetOld_47 4 rfl ?_
      refine g_iload_n F dX0_forgetOld_49 rfl 2 rfl ?_
      refine g_icmp_le F 67 dX0_forgetOld_50 (by decide) (fun c3 => ?_) (fun c3 => ?_)
      · refine g_iinc F (lv' := [(0, .ref (b 0)), (1, .int (nI k)), (2, .int (S_most f k)), (3, .int (nI (i + 1))), (4, .int ((g 70) - (g (12 + 6 * k + i))))]) (nI (i + 1)) dX0_forgetOld_67 3 rfl (nI_add i 1) (by decide) [1, 2, 3, 0, 4] rfl ?_
        refine g_goto F 14 dX0_forgetOld_70 (by decide) ?_
        refine g_lvs [0, 1, 2, 3] rfl ?_
        refine g_all (w0 := CR cI b (S_forStep k (S_most f k) i g)) (lv0 := [(0, .ref (b 0)), (1, .int (nI k)), (2, .int (S_most f k)), (3, .int (nI (i + 1)))]) (st0 := []) (by rw [S_fs_no (S_old_b c2 c3)]) rfl rfl ?_
        exact ihi hlti trivial
      · refine g_aload_n F dX0_forgetOld_53 rfl 0 rfl ?_
        refine g_lR2 F zX0_forgetOld_inX0 zX0_forgetOld_f37 dX0_forgetOld_54 ?_
        refine g_iload_n F dX0_forgetOld_57 rfl 1 rfl ?_
        refine g_dup2 F dX0_forgetOld_58 rfl rfl ?_
        refine g_lA2 F rfl (by omega) dX0_forgetOld_59 ?_
        refine g_iconst F (v := 1) dX0_forgetOld_60 (by decide) ?_
        refine g_iload_n F dX0_forgetOld_61 rfl 3 rfl ?_
        refine g_ishl F dX0_forgetOld_62 ?_
        refine g_iconst F (v := (-1)) dX0_forgetOld_63 (by decide) ?_
        refine g_ixor F dX0_forgetOld_64 ?_
        refine g_iand F dX0_forgetOld_65 ?_
        refine g_cA2 F rfl (by omega) dX0_forgetOld_66 ?_
        refine g_iinc F (lv' := [(0, .ref (b 0)), (1, .int (nI k)), (2, .int (S_most f k)), (3, .int (nI (i + 1))), (4, .int ((g 70) - (g (12 + 6 * k + i))))]) (nI (i + 1)) dX0_forgetOld_67 3 rfl (nI_add i 1) (by decide) [1, 2, 3, 0, 4] rfl ?_
        refine g_goto F 14 dX0_forgetOld_70 (by decide) ?_
        refine g_lvs [0, 1, 2, 3] rfl ?_
        refine g_all (w0 := CR cI b (S_forStep k (S_most f k) i g)) (lv0 := [(0, .ref (b 0)), (1, .int (nI k)), (2, .int (S_most f k)), (3, .int (nI (i + 1)))]) (st0 := []) (by rw [S_fs_yes (S_old_c c2 c3)]) rfl rfl ?_
        exact ihi hlti trivial
end
section
/-! what holds of a row in every run: kinds, whom it knows, times; n bounds the clock, G the goers -/
def S19 (x : Int32) : Prop := ∃ z : Nat, 1 ≤ z ∧ z ≤ 9 ∧ x = nI z
def Tm (n G : Nat) (f : Row) : Prop := ∃ q : Nat, q ≤ n ∧ f 70 = nI q ∧ ∀ k, k < 6 → (∃ b : Nat, b ≤ q ∧ f (48 + k) = nI b) ∧ (∃ d : Nat, d ≤ q + 16777216 ∧ f (54 + k) = nI d) ∧ ∃ g : Nat, g ≤ G ∧ f (60 + k) = nI g
def Aw (f : Row) : Prop := ∀ k, k < 6 → (f k = 0 ∧ f (6 + k) = 0 ∧ f (48 + k) = 0 ∧ f (54 + k) = 0 ∧ f (60 + k) = 0) ∨ (f k = 1 ∧ f (60 + k) = 0) ∨ f k = 2
def Ow (f : Row) : Prop := ∀ k, k < 6 → S_has (f (6 + k)) (nI k) = false
def Sz (f : Row) : Prop := S19 (f 66) ∧ S19 (f 67) ∧ S19 (f 68) ∧ ∃ z : Nat, z < 65536 ∧ f 69 = nI z
def Inv (n G : Nat) (f : Row) : Prop := Aw f ∧ Kn f ∧ Ow f ∧ Sz f ∧ Tm n G f
theorem Inv.aw {n G : Nat} {f : Row} (h : Inv n G f) : Aw f := h.1
theorem Inv.kn {n G : Nat} {f : Row} (h : Inv n G f) : Kn f := h.2.1
theorem Inv.ow {n G : Nat} {f : Row} (h : Inv n G f) : Ow f := h.2.2.1
theorem Inv.sz {n G : Nat} {f : Row} (h : Inv n G f) : Sz f := h.2.2.2.1
theorem Inv.tm {n G : Nat} {f : Row} (h : Inv n G f) : Tm n G f := h.2.2.2.2
theorem S19.ge {x : Int32} (h : S19 x) : 1 ≤ x := by
  obtain ⟨z, h1, h2, e⟩ := h
  rw [e]
  exact nI_le (a := 1) h1 (by omega)
theorem Inv.z {n G : Nat} {f : Row} (h : Inv n G f) : Z67 f := h.sz.2.1.ge
theorem Inv.mono {n G n' G' : Nat} {f : Row} (h : Inv n G f) (h1 : n ≤ n') (h2 : G ≤ G') : Inv n' G' f := by
  obtain ⟨a, b, c, d, q, hq, e, ht⟩ := h
  refine ⟨a, b, c, d, q, Nat.le_trans hq h1, e, fun k hk => ?_⟩
  obtain ⟨x, y, g, hg, eg⟩ := ht k hk
  exact ⟨x, y, g, Nat.le_trans hg h2, eg⟩
theorem Inv.one {n G : Nat} {f : Row} {k : Nat} (h : Inv n G f) (hk : k < 6) (h0 : ¬ f k = 0) (h2 : ¬ f k = 2) : f k = 1 := by
  rcases h.aw k hk with q | q | q
  · exact absurd q.1 h0
  · exact q.1
  · exact absurd q h2
def S_hear (k o : Nat) (g : Row) : Row := if S_has (S_bg g o (6 + o)) (nI k) then (if S_bk g k o o = 1 then S_bbeg (S_bdue (S_bk g k o) o (S_count (S_bg g o) o)) o (S_count (S_bg g o) o) (S_bk g k o 70) else S_bk g k o) else S_bk g k o
theorem S_byeStep_t {k o : Nat} {g : Row} (h1 : S_reaches g k o = true) : S_byeStep k o g = S_hear k o g := by unfold S_byeStep S_hear; rw [if_pos h1]
theorem bg_t {g : Row} {o : Nat} (h : g o = 2) : S_bg g o = upd g (60 + o) (g (60 + o) + 1) := by unfold S_bg; rw [if_pos h]
theorem bg_f {g : Row} {o : Nat} (h : ¬ g o = 2) : S_bg g o = g := by
  unfold S_bg
  rw [if_neg h]
  exact up_same (by rw [show (0 : Int32) = nI 0 from rfl]; exact (Int32.add_zero _).symm)
theorem bg_6 {g : Row} {o j : Nat} (hj : ¬ j = 60 + o) : S_bg g o j = g j := pk_un hj
theorem Kn_bg {g : Row} {o : Nat} (h : Kn g) (ho : o < 6) : Kn (S_bg g o) := Kn_upd h (by omega)
theorem bit_clr : ∀ k, k < 6 → ∀ v, v < 64 → S_has (nI v) (nI k) = false → nI v &&& ((1 <<< (nI k &&& 31)) ^^^ (-1)) = nI v := by decide +kernel
theorem hear_a {k o : Nat} {g : Row} (hK : Kn g) (hk : k < 6) (ho : o < 6) (h : S_has (S_bg g o (6 + o)) (nI k) = false) : S_bg g o = S_hear k o g := by
  have e : S_hear k o g = S_bk g k o := by unfold S_hear; rw [h]; rfl
  rw [e]
  unfold S_bk
  obtain ⟨v, hv, ev⟩ := hK o ho
  have e2 : S_bg g o (6 + o) = nI v := by rw [bg_6 (by omega), ev]
  rw [e2] at h ⊢
  rw [bit_clr k hk v hv h]
  exact (up_same e2).symm
theorem hear_b {k o : Nat} {g : Row} (h : S_has (S_bg g o (6 + o)) (nI k) = true) (h1 : ¬ S_bk g k o o = 1) : S_bk g k o = S_hear k o g := by unfold S_hear; rw [if_pos h, if_neg h1]
theorem hear_c {k o : Nat} {g : Row} (h : S_has (S_bg g o (6 + o)) (nI k) = true) (h1 : S_bk g k o o = 1) : S_bbeg (S_bdue (S_bk g k o) o (S_count (S_bg g o) o)) o (S_count (S_bg g o) o) (S_bk g k o 70) = S_hear k o g := by unfold S_hear; rw [if_pos h, if_pos h1]
theorem left_nat {d q : Nat} (hd : d < 2 ^ 30) (hq : q < 2 ^ 30) : (if 0 < nI d - nI q then nI d - nI q else 0) = (if nI d ≤ nI q then (0 : Int32) else nI d - nI q) := by
  rcases Nat.lt_or_ge q d with h | h
  · rw [pk_sub (by omega), if_pos (by exact nI_lt (a := 0) (by omega) (by omega)), if_neg (by rw [nI_leI (by omega) (by omega)]; omega)]
  · rw [if_pos (nI_le h (by omega)), if_neg]
    intro q2
    rcases Nat.lt_or_ge d q with h3 | h3
    · exact absurd (pk_sneg hq h3) (Int32.not_lt.mpr (Int32.le_of_lt q2))
    · have : d = q := by omega
      subst this
      rw [Int32.sub_self] at q2
      exact absurd q2 (by decide)
theorem bk_hi {g : Row} {k o j : Nat} (h1 : ¬ j = 60 + o) (h2 : ¬ j = 6 + o) : S_bk g k o j = g j := by
  unfold S_bk
  rw [pk_un h2, bg_6 h1]
theorem left_eq {n G : Nat} {g : Row} {k o : Nat} (hI : Inv n G g) (hn : n ≤ 1048576) (ho : o < 6) : (if 0 < S_bk g k o (54 + o) - S_bk g k o 70 then S_bk g k o (54 + o) - S_bk g k o 70 else 0) = S_bleft (S_bk g k o) o := by
  unfold S_bleft
  rw [bk_hi (by omega) (by omega), bk_hi (by omega) (by omega)]
  obtain ⟨q, hq, e, ht⟩ := hI.tm
  obtain ⟨-, ⟨d, hd, ed⟩, -⟩ := ht o ho
  rw [e, ed]
  exact left_nat (by omega) (by omega)
theorem mem_nI {k : Nat} (h : k < 6) : S_mem (nI k) = true := by
  unfold S_mem
  rw [if_neg (nI_pos (by omega)), if_neg (by rw [show (6 : Int32) = nI 6 from rfl, nI_leI (by decide) (by omega)]; omega)]
theorem enter_eq {n G : Nat} {f : Row} {k : Nat} (hI : Inv n G f) (hk : k < 6) (h0 : f k = 0) : S_begin (upd f k 1) k = S_joins f k := by
  have h6 : f (6 + k) = 0 ∧ f (60 + k) = 0 := by
    rcases hI.aw k hk with q | q | q
    · exact ⟨q.2.1, q.2.2.2.2⟩
    · rw [h0] at q; exact absurd q.1 (by decide)
    · rw [h0] at q; exact absurd q (by decide)
  have e : S_begin0 (upd f k 1) k = S_joins0 f k := by
    unfold S_begin0 S_joins0
    rw [up_same (f := upd f k 1) (i := 6 + k) (by rw [pk_un (by omega)]; exact h6.1), up_same (f := upd f k 1) (i := 60 + k) (by rw [pk_un (by omega)]; exact h6.2)]
  unfold S_begin S_joins
  rw [e]
theorem leave_eq {f : Row} {k : Nat} : S_begin (upd (upd f k 2) (60 + k) 1) k = S_leaves1 f k := by
  unfold S_begin S_leaves1
  rfl
theorem report_lo {f : Row} {k j : Nat} (hj : j < 6) : S_report f k j = f j := by
  unfold S_report
  exact it_ind (P := fun (g : Row) => g j = f j) (N := 6) (by unfold S_rep0; exact pk_un (by omega)) (fun i x hi hx => by
    unfold S_repStep
    split
    · rw [pk_un (by omega)]; unfold S_kn; rw [pk_un (by omega)]; exact hx
    · exact hx) 6 (Nat.le_refl 6)
theorem lrep_k {f : Row} {k : Nat} (hk : k < 6) : S_lrep f k k = f k := by
  unfold S_lrep
  rw [pk_un (by omega), report_lo hk]
theorem bit_or : ∀ k, k < 6 → ∀ v, v < 64 → ∃ u, u < 64 ∧ nI v ||| (1 <<< (nI k &&& 31)) = nI u := by decide +kernel
theorem bit_and : ∀ k, k < 6 → ∀ v, v < 64 → ∃ u, u < 64 ∧ nI v &&& ((1 <<< (nI k &&& 31)) ^^^ (-1)) = nI u := by decide +kernel
theorem Kn_set {f : Row} {k : Nat} {x : Int32} (h : Kn f) (hx : ∃ v : Nat, v < 64 ∧ x = nI v) : Kn (upd f (6 + k) x) := fun j hj => by
  by_cases q : j = k
  · subst q; rw [pk_us]; exact hx
  · rw [pk_un (by omega)]; exact h j hj
theorem Kn_report {f : Row} {k : Nat} (h : Kn f) (hk : k < 6) : Kn (S_report f k) := by
  unfold S_report
  exact it_ind (P := Kn) (N := 6) (Kn_upd h (by omega)) (fun i x hi hx => by
    unfold S_repStep
    split
    · refine Kn_upd (Kn_set hx ?_) (by omega)
      obtain ⟨v, hv, e⟩ := hx i hi
      rw [e]
      exact bit_or k hk v hv
    · exact hx) 6 (Nat.le_refl 6)
theorem Kn_lrep {f : Row} {k : Nat} (h : Kn f) (hk : k < 6) : Kn (S_lrep f k) := Kn_upd (Kn_report h hk) (by omega)
theorem forget_0 {g : Row} {k : Nat} (h : g (6 + k) = 0) : S_forget g k = g := by
  unfold S_forget
  exact it_ind (P := fun (x : Row) => x = g) (N := 6) rfl (fun i x hi hx => by
    subst hx
    refine S_fs_no (S_old_a ?_)
    rw [h]
    exact (by decide : ∀ i, i < 6 → S_has 0 (nI i) = false) i hi) 6 (Nat.le_refl 6)
theorem look_a {f : Row} {k : Nat} {x : Int32} (hw : S_lw f k = x) (h : ¬ S_draw f (48 + k) + x ≤ S_draw f 70) : S_look f k = upd (S_draw f) (54 + k) (S_draw f (48 + k) + x) := by
  subst hw; unfold S_look; rw [if_neg h]
theorem look_b {f : Row} {k : Nat} {x : Int32} (hw : S_lw f k = x) (h : S_draw f (48 + k) + x ≤ S_draw f 70) (h1 : ¬ f k = 1) : S_look f k = S_bye (S_draw f) k := by
  subst hw; unfold S_look; rw [if_pos h, if_neg h1]
theorem look_c {f : Row} {k : Nat} {x : Int32} (hw : S_lw f k = x) (h : S_draw f (48 + k) + x ≤ S_draw f 70) (h1 : f k = 1) : S_look f k = upd (S_draw (S_lrep (S_draw f) k)) (54 + k) (S_lrep (S_draw f) k 70 + S_waitV (S_lrep (S_draw f) k) (S_count (S_lrep (S_draw f) k) k)) := by
  subst hw; unfold S_look; rw [if_pos h, if_pos h1]
theorem lw_1 {f : Row} {k : Nat} (h : f k = 1) : S_lw f k = S_waitV f (S_count f k) := by unfold S_lw; rw [if_pos h]
theorem lw_2 {f : Row} {k : Nat} (h : ¬ f k = 1) : S_lw f k = S_waitV f (f (60 + k)) := by unfold S_lw; rw [if_neg h]
def S_eod (f : Row) (k : Nat) : Row := if f k = 0 then S_joins f k else if f k = 1 then S_leaves f k else f
end
section
/-! the steps keep it -/
def MemV (q G k : Nat) (a kn b d g : Int32) : Prop := ((a = 0 ∧ kn = 0 ∧ b = 0 ∧ d = 0 ∧ g = 0) ∨ (a = 1 ∧ g = 0) ∨ a = 2) ∧ (∃ v : Nat, v < 64 ∧ kn = nI v) ∧ S_has kn (nI k) = false ∧ (∃ x : Nat, x ≤ q ∧ b = nI x) ∧ (∃ y : Nat, y ≤ q + 16777216 ∧ d = nI y) ∧ ∃ z : Nat, z ≤ G ∧ g = nI z
theorem Inv_iff {n G : Nat} {f : Row} : Inv n G f ↔ Sz f ∧ ∃ q : Nat, q ≤ n ∧ f 70 = nI q ∧ ∀ k, k < 6 → MemV q G k (f k) (f (6 + k)) (f (48 + k)) (f (54 + k)) (f (60 + k)) := by
  constructor
  · rintro ⟨ha, hk, ho, hs, q, hq, e, ht⟩
    exact ⟨hs, q, hq, e, fun k h => ⟨ha k h, hk k h, ho k h, (ht k h).1, (ht k h).2.1, (ht k h).2.2⟩⟩
  · rintro ⟨hs, q, hq, e, hm⟩
    exact ⟨fun k h => (hm k h).1, fun k h => (hm k h).2.1, fun k h => (hm k h).2.2.1, hs, q, hq, e, fun k h => (hm k h).2.2.2⟩
theorem MemV.mono {q q' G G' k : Nat} {a kn b d g : Int32} (h : MemV q G k a kn b d g) (h1 : q ≤ q') (h2 : G ≤ G') : MemV q' G' k a kn b d g := by
  obtain ⟨h3, h4, h5, ⟨x, hx, ex⟩, ⟨y, hy, ey⟩, z, hz, ez⟩ := h
  exact ⟨h3, h4, h5, ⟨x, by omega, ex⟩, ⟨y, by omega, ey⟩, z, by omega, ez⟩
theorem Sz_upd {f : Row} {j : Nat} {x : Int32} (h : Sz f) (h6 : ¬ j = 66) (h7 : ¬ j = 67) (h8 : ¬ j = 68) (h9 : ¬ j = 69) : Sz (upd f j x) := by
  unfold Sz
  rw [pk_un (fun q => h6 q.symm), pk_un (fun q => h7 q.symm), pk_un (fun q => h8 q.symm), pk_un (fun q => h9 q.symm)]
  exact h
/-- a place that is none of a member's, nor a size, nor the clock -/
theorem Inv_free {n G : Nat} {f : Row} {j : Nat} {x : Int32} (h : Inv n G f) (hj : (12 ≤ j ∧ j < 48) ∨ 71 ≤ j) : Inv n G (upd f j x) := by
  obtain ⟨hs, q, hq, e, hm⟩ := Inv_iff.mp h
  refine Inv_iff.mpr ⟨Sz_upd hs (by omega) (by omega) (by omega) (by omega), q, hq, by rw [pk_un (by omega)]; exact e, fun k hk => ?_⟩
  rw [pk_un (by omega), pk_un (by omega), pk_un (by omega), pk_un (by omega), pk_un (by omega)]
  exact hm k hk
/-- the row changes at one member alone -/
theorem Inv_mem {n G G' : Nat} {f f' : Row} {k : Nat} (h : Inv n G f) (hG : G ≤ G') (hk : k < 6) (hs : Sz f') (h70 : f' 70 = f 70) (hne : ∀ j, j < 6 → ¬ j = k → f' j = f j ∧ f' (6 + j) = f (6 + j) ∧ f' (48 + j) = f (48 + j) ∧ f' (54 + j) = f (54 + j) ∧ f' (60 + j) = f (60 + j))
    (hm : ∀ q, q ≤ n → f 70 = nI q → MemV q G k (f k) (f (6 + k)) (f (48 + k)) (f (54 + k)) (f (60 + k)) → MemV q G' k (f' k) (f' (6 + k)) (f' (48 + k)) (f' (54 + k)) (f' (60 + k))) : Inv n G' f' := by
  obtain ⟨-, q, hq, e, hm0⟩ := Inv_iff.mp h
  refine Inv_iff.mpr ⟨hs, q, hq, by rw [h70]; exact e, fun j hj => ?_⟩
  by_cases c : j = k
  · subst c; exact hm q hq e (hm0 j hj)
  · obtain ⟨a, b, c1, d, g⟩ := hne j hj c
    rw [a, b, c1, d, g]
    exact (hm0 j hj).mono (Nat.le_refl _) hG
theorem draw_nat {f : Row} (h : Sz f) : ∃ z : Nat, z < 65536 ∧ S_draw f 69 = nI z := by
  obtain ⟨-, -, -, z, hz, e⟩ := h
  refine ⟨(25173 * z + 13849) % 65536, Nat.mod_lt _ (by decide), ?_⟩
  unfold S_draw jrem
  rw [pk_us, e, show (25173 : Int32) = nI 25173 from rfl, show (13849 : Int32) = nI 13849 from rfl, show (65536 : Int32) = nI 65536 from rfl, pk_mul, nI_add]
  exact pk_rem (by omega) (by decide) (by decide)
theorem Sz_draw {f : Row} (h : Sz f) : Sz (S_draw f) := by
  refine ⟨?_, ?_, ?_, draw_nat h⟩
  · unfold S_draw; rw [pk_un (by decide)]; exact h.1
  · unfold S_draw; rw [pk_un (by decide)]; exact h.2.1
  · unfold S_draw; rw [pk_un (by decide)]; exact h.2.2.1
theorem draw_ne {f : Row} {j : Nat} (h : ¬ j = 69) : S_draw f j = f j := by unfold S_draw; exact pk_un h
theorem Inv_draw {n G : Nat} {f : Row} (h : Inv n G f) : Inv n G (S_draw f) := by
  obtain ⟨hs, q, hq, e, hm⟩ := Inv_iff.mp h
  refine Inv_iff.mpr ⟨Sz_draw hs, q, hq, by rw [draw_ne (by decide)]; exact e, fun k hk => ?_⟩
  rw [draw_ne (by omega), draw_ne (by omega), draw_ne (by omega), draw_ne (by omega), draw_ne (by omega)]
  exact hm k hk
theorem drawV_nat {f : Row} (h : Sz f) : ∃ d : Nat, d < 5 ∧ S_drawV f = nI d := by
  obtain ⟨z, hz, e⟩ := draw_nat h
  refine ⟨z / 16 % 5, Nat.mod_lt _ (by decide), ?_⟩
  unfold S_drawV jrem
  rw [e, show (16 : Int32) = nI 16 from rfl, show (5 : Int32) = nI 5 from rfl, pk_div (by omega) (by decide) (by decide)]
  exact pk_rem (by omega) (by decide) (by decide)
theorem span_nat {f : Row} {j : Nat} (h : Sz f) (hj : j ≤ 1048576) : ∃ t : Nat, t ≤ 9437193 ∧ S_span f (nI j) = nI t := by
  obtain ⟨⟨a, a1, a2, ea⟩, ⟨b, b1, b2, eb⟩, ⟨c, c1, c2, ec⟩, -⟩ := h
  have hja : j * a ≤ 1048576 * 9 := Nat.mul_le_mul hj a2
  have e : S_up f (nI j) = nI ((j * a + b - 1) / b) := by
    unfold S_up
    rw [ea, eb, pk_mul, nI_add, show (1 : Int32) = nI 1 from rfl, pk_sub (by omega), pk_div (by omega) (by omega) (by omega)]
  have hd : (j * a + b - 1) / b ≤ j * a + b - 1 := Nat.div_le_self _ _
  unfold S_span
  rw [e, ec]
  split
  · exact ⟨c, by omega, rfl⟩
  · exact ⟨_, by omega, rfl⟩
theorem wait_nat {f : Row} {j : Nat} (h : Sz f) (hj : j ≤ 1048576) : ∃ w : Nat, w ≤ 16777216 ∧ S_waitV f (nI j) = nI w := by
  obtain ⟨t, ht, et⟩ := span_nat h hj
  obtain ⟨d, hd, ed⟩ := drawV_nat h
  have htd : t * (2 + d) ≤ 9437193 * 6 := Nat.mul_le_mul ht (by omega)
  have e : S_wait0 f (nI j) = nI (t * (2 + d) / 4) := by
    unfold S_wait0
    rw [et, ed, show (2 : Int32) = nI 2 from rfl, nI_add, pk_mul, show (4 : Int32) = nI 4 from rfl, pk_div (by omega) (by decide) (by decide)]
  unfold S_waitV
  rw [e]
  split
  · exact ⟨1, by decide, rfl⟩
  · exact ⟨_, by omega, rfl⟩
theorem count_nat (f : Row) (k : Nat) : ∃ c : Nat, c ≤ 7 ∧ S_count f k = nI c ∧ (¬ f k = 0 → 1 ≤ c) := by
  unfold S_count
  split
  · next q => exact ⟨0, by decide, rfl, fun z => absurd q z⟩
  · obtain ⟨j, hj, e⟩ := S_ones_n (f (6 + k)) 6
    refine ⟨1 + j, by omega, ?_, fun _ => by omega⟩
    unfold S_ones
    rw [e, show (1 : Int32) = nI 1 from rfl, nI_add]
theorem bit_or_has : ∀ k, k < 6 → ∀ o, o < 6 → ¬ o = k → ∀ v, v < 64 → S_has (nI v) (nI o) = false → S_has (nI v ||| (1 <<< (nI k &&& 31))) (nI o) = false := by decide +kernel
theorem bit_and_has : ∀ k, k < 6 → ∀ o, o < 6 → ∀ v, v < 64 → S_has (nI v) (nI o) = false → S_has (nI v &&& ((1 <<< (nI k &&& 31)) ^^^ (-1))) (nI o) = false := by decide +kernel
/-- only whom it knows, of one that is not away -/
theorem MemV_kn {q G k : Nat} {a kn b d g kn' : Int32} (h : MemV q G k a kn b d g) (ha : ¬ a = 0) (h1 : ∃ v : Nat, v < 64 ∧ kn' = nI v) (h2 : S_has kn' (nI k) = false) : MemV q G k a kn' b d g :=
  ⟨h.1.elim (fun z => absurd z.1 ha) Or.inr, h1, h2, h.2.2.2⟩
theorem Inv_kn {n G : Nat} {f : Row} {k : Nat} {x : Int32} (h : Inv n G f) (hk : k < 6) (ha : ¬ f k = 0) (h1 : ∃ v : Nat, v < 64 ∧ x = nI v) (h2 : S_has x (nI k) = false) : Inv n G (upd f (6 + k) x) := by
  refine Inv_mem (k := k) h (Nat.le_refl _) hk (Sz_upd h.sz (by omega) (by omega) (by omega) (by omega)) (pk_un (by omega)) (fun j hj hne => ⟨pk_un (by omega), pk_un (by omega), pk_un (by omega), pk_un (by omega), pk_un (by omega)⟩) (fun q hq e hm => ?_)
  rw [pk_us, pk_un (by omega), pk_un (by omega), pk_un (by omega), pk_un (by omega)]
  exact MemV_kn hm ha h1 h2
theorem Inv_due {n G : Nat} {f : Row} {k : Nat} {x : Int32} (h : Inv n G f) (hk : k < 6) (ha : ¬ f k = 0) (h1 : ∀ q, q ≤ n → f 70 = nI q → ∃ y : Nat, y ≤ q + 16777216 ∧ x = nI y) : Inv n G (upd f (54 + k) x) := by
  refine Inv_mem (k := k) h (Nat.le_refl _) hk (Sz_upd h.sz (by omega) (by omega) (by omega) (by omega)) (pk_un (by omega)) (fun j hj hne => ⟨pk_un (by omega), pk_un (by omega), pk_un (by omega), pk_un (by omega), pk_un (by omega)⟩) (fun q hq e hm => ?_)
  rw [pk_us, pk_un (by omega), pk_un (by omega), pk_un (by omega), pk_un (by omega)]
  exact ⟨hm.1.elim (fun z => absurd z.1 ha) Or.inr, hm.2.1, hm.2.2.1, hm.2.2.2.1, h1 q hq e, hm.2.2.2.2.2⟩
theorem Inv_beg {n G : Nat} {f : Row} {k : Nat} {x : Int32} (h : Inv n G f) (hk : k < 6) (ha : ¬ f k = 0) (h1 : ∀ q, q ≤ n → f 70 = nI q → ∃ y : Nat, y ≤ q ∧ x = nI y) : Inv n G (upd f (48 + k) x) := by
  refine Inv_mem (k := k) h (Nat.le_refl _) hk (Sz_upd h.sz (by omega) (by omega) (by omega) (by omega)) (pk_un (by omega)) (fun j hj hne => ⟨pk_un (by omega), pk_un (by omega), pk_un (by omega), pk_un (by omega), pk_un (by omega)⟩) (fun q hq e hm => ?_)
  rw [pk_us, pk_un (by omega), pk_un (by omega), pk_un (by omega), pk_un (by omega)]
  exact ⟨hm.1.elim (fun z => absurd z.1 ha) Or.inr, hm.2.1, hm.2.2.1, h1 q hq e, hm.2.2.2.2⟩
theorem Inv_report {n G : Nat} {f : Row} {k : Nat} (h : Inv n G f) (hk : k < 6) : Inv n G (S_report f k) := by
  unfold S_report
  refine it_ind (P := Inv n G) (N := 6) (Inv_free h (by omega)) (fun o g ho hg => ?_) 6 (Nat.le_refl 6)
  unfold S_repStep
  split
  · next hr =>
    refine Inv_free ?_ (by omega)
    obtain ⟨v, hv, ev⟩ := hg.kn o ho
    have hok : ¬ o = k := by
      intro q
      unfold S_reaches at hr
      rw [q, if_pos rfl] at hr
      cases hr
    refine Inv_kn hg ho (S_reaches_o hr) (by rw [ev]; exact bit_or k hk v hv) ?_
    have := hg.ow o ho
    rw [ev] at this ⊢
    exact bit_or_has k hk o ho hok v hv this
  · exact hg
theorem report_70 {f : Row} {k : Nat} (hk : k < 6) : S_report f k 70 = f 70 := by
  unfold S_report
  exact it_ind (P := fun (g : Row) => g 70 = f 70) (N := 6) (by unfold S_rep0; exact pk_un (by decide)) (fun i x hi hx => by
    unfold S_repStep
    split
    · rw [pk_un (by omega)]; unfold S_kn; rw [pk_un (by omega)]; exact hx
    · exact hx) 6 (Nat.le_refl 6)
theorem Inv_lrep {n G : Nat} {f : Row} {k : Nat} (h : Inv n G f) (hk : k < 6) (h0 : ¬ f k = 0) : Inv n G (S_lrep f k) :=
  Inv_beg (Inv_report h hk) hk (by rw [report_lo hk]; exact h0) (fun q hq e => ⟨q, Nat.le_refl _, e⟩)
theorem Inv_tick0 {n G : Nat} {f : Row} (h : Inv n G f) : Inv (n + 1) G (S_tick0 f) := by
  obtain ⟨hs, q, hq, e, hm⟩ := Inv_iff.mp h
  unfold S_tick0
  refine Inv_iff.mpr ⟨Sz_upd hs (by decide) (by decide) (by decide) (by decide), q + 1, by omega, by rw [pk_us, e, nI_1], fun k hk => ?_⟩
  rw [pk_un (by omega), pk_un (by omega), pk_un (by omega), pk_un (by omega), pk_un (by omega)]
  exact (hm k hk).mono (by omega) (Nat.le_refl _)
theorem Inv_forget {n G : Nat} {f : Row} {k : Nat} (h : Inv n G f) (hk : k < 6) (h0 : ¬ f k = 0) : Inv n G (S_forget f k) := by
  unfold S_forget
  refine (it_ind (P := fun g => Inv n G g ∧ g k = f k) (N := 6) ⟨h, rfl⟩ (fun o g ho hg => ?_) 6 (Nat.le_refl 6)).1
  unfold S_forStep
  refine ⟨?_, by rw [pk_un (by omega)]; exact hg.2⟩
  obtain ⟨v, hv, ev⟩ := hg.1.kn k hk
  have hw := hg.1.ow k hk
  rw [ev] at hw ⊢
  split
  · exact Inv_kn hg.1 hk (by rw [hg.2]; exact h0) (bit_and o ho v hv) (bit_and_has o ho k hk v hv hw)
  · exact Inv_kn hg.1 hk (by rw [hg.2]; exact h0) ⟨v, hv, and_m1 _⟩ (by rw [and_m1]; exact hw)
theorem Inv_bye0 {n G : Nat} {f : Row} {k : Nat} (h : Inv n G f) (hk : k < 6) : Inv n G (S_bye0 f k) := sorry
theorem Inv_byeStep {n G : Nat} {g : Row} {k o : Nat} (h : Inv n G g) (hk : k < 6) (ho : o < 6) (hn : n ≤ 1048576) : Inv n (G + 1) (S_byeStep k o g) := sorry
theorem Inv_byes {n G : Nat} {f : Row} {k : Nat} (h : Inv n G f) (hk : k < 6) (hn : n ≤ 1048576) : ∀ i, i ≤ 6 → Inv n (G + i) (it (S_byeStep k) i (S_bye0 f k)) := by
  intro i
  induction i with
  | zero => intro _; exact Inv_bye0 h hk
  | succ i ih =>
    intro hi
    rw [it_s]
    exact (Inv_byeStep (n := n) (G := G + i) (ih (by omega)) hk (by omega) hn).mono (Nat.le_refl _) (by omega)
theorem Inv_bye {n G : Nat} {f : Row} {k : Nat} (h : Inv n G f) (hk : k < 6) (hn : n ≤ 1048576) : Inv n (G + 6) (S_bye f k) := by
  unfold S_bye
  exact Inv_byes h hk hn 6 (Nat.le_refl 6)
theorem Inv_look {n G : Nat} {f : Row} {k : Nat} (h : Inv n G f) (hk : k < 6) (h0 : ¬ f k = 0) (hn : n ≤ 1048576) (hG : G ≤ 1048576) : Inv n (G + 6) (S_look f k) := sorry
theorem Inv_dueStep {n G : Nat} {g : Row} {k : Nat} (h : Inv n G g) (hk : k < 6) (hn : n ≤ 1048576) (hG : G ≤ 1048576) : Inv n (G + 6) (S_dueStep k g) := by
  unfold S_dueStep
  split
  · exact h.mono (Nat.le_refl _) (by omega)
  · next h0 =>
    split
    · exact h.mono (Nat.le_refl _) (by omega)
    · exact Inv_look h hk h0 hn hG
theorem Inv_dues {n G : Nat} {f : Row} (h : Inv n G f) (hn : n + 1 ≤ 1048576) (hG : G + 36 ≤ 1048576) : ∀ i, i ≤ 6 → Inv (n + 1) (G + 6 * i) (it S_dueStep i (S_tick0 f)) := by
  intro i
  induction i with
  | zero => intro _; exact Inv_tick0 h
  | succ i ih =>
    intro hi
    rw [it_s]
    exact (Inv_dueStep (n := n + 1) (G := G + 6 * i) (ih (by omega)) (by omega) hn (by omega)).mono (Nat.le_refl _) (by omega)
theorem Inv_fgStep {n G : Nat} {g : Row} {k : Nat} (h : Inv n G g) (hk : k < 6) : Inv n G (S_fgStep k g) := by
  unfold S_fgStep
  split
  · next h1 => exact Inv_forget h hk (by rw [h1]; decide)
  · exact h
theorem Inv_fgs {n G : Nat} {f : Row} (h : Inv n G f) (hn : n + 1 ≤ 1048576) (hG : G + 36 ≤ 1048576) : ∀ i, i ≤ 6 → Inv (n + 1) (G + 36) (it S_fgStep i (S_tick1 f)) := by
  intro i
  induction i with
  | zero => intro _; rw [it_0]; unfold S_tick1; exact (Inv_dues h hn hG 6 (Nat.le_refl 6)).mono (Nat.le_refl _) (by omega)
  | succ i ih =>
    intro hi
    rw [it_s]
    exact Inv_fgStep (ih (by omega)) (by omega)
theorem Inv_tick {n G : Nat} {f : Row} (h : Inv n G f) (hn : n + 1 ≤ 1048576) (hG : G + 36 ≤ 1048576) : Inv (n + 1) (G + 36) (S_tick f) := by
  unfold S_tick
  exact Inv_fgs h hn hG 6 (Nat.le_refl 6)
theorem Inv_ticks {n G : Nat} {f : Row} (h : Inv n G f) (m : Nat) (hn : n + m ≤ 1048576) (hG : G + 36 * m ≤ 1048576) : ∀ i, i ≤ m → Inv (n + i) (G + 36 * i) (S_ticks f i) := by
  intro i
  induction i with
  | zero => intro _; exact h
  | succ i ih =>
    intro hi
    rw [S_ticks_s]
    exact (Inv_tick (n := n + i) (G := G + 36 * i) (ih (by omega)) (by omega) (by omega)).mono (by omega) (by omega)
theorem Inv_joins {n G : Nat} {f : Row} {k : Nat} (h : Inv n G f) (hk : k < 6) (h0 : f k = 0) : Inv n G (S_joins f k) := sorry
theorem Inv_leaves {n G : Nat} {f : Row} {k : Nat} (h : Inv n G f) (hk : k < 6) (h1 : f k = 1) (hn : n ≤ 1048576) (hG : 1 ≤ G) : Inv n (G + 6) (S_leaves f k) := sorry
end
