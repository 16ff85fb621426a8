def R_RS : String := "ReserveSteps"
def F_RS : u_T := fun k => match k with
  | 0 => ("ReserveSteps", "now", "I", false)
  | 1 => ("ReserveSteps", "pieceCount", "I", false)
  | 2 => ("ReserveSteps", "links", "[I", true)
  | 3 => ("ReserveSteps", "closed", "[Z", true)
  | 4 => ("ReserveSteps", "robots", "LReserveSteps$Robots;", true)
  | _ => ("ReserveSteps", "grants", "LReserveSteps$Grants;", true)
def t_RS : Nat → FieldType := fun k => match k with
  | 0 => .int
  | 1 => .int
  | 2 => .array .int
  | 3 => .array .boolean
  | 4 => .object "ReserveSteps$Robots"
  | _ => .object "ReserveSteps$Grants"
theorem n_RS : ∀ a, a < 6 → ∀ b, b < 6 → a ≠ b → (F_RS a).2.1 ≠ (F_RS b).2.1 := by decide +kernel
theorem t_RS_ok : ∀ k, k < 6 → parseFieldDescriptor (F_RS k).2.2.1 = some (t_RS k) := by decide +kernel
def R_Rb : String := "ReserveSteps$Robots"
def F_Rb : u_T := fun k => match k with
  | 0 => ("ReserveSteps$Robots", "size", "I", false)
  | 1 => ("ReserveSteps$Robots", "piece", "[I", true)
  | 2 => ("ReserveSteps$Robots", "hasTail", "[Z", true)
  | 3 => ("ReserveSteps$Robots", "tailPiece", "[I", true)
  | 4 => ("ReserveSteps$Robots", "waitsFor", "[I", true)
  | 5 => ("ReserveSteps$Robots", "halted", "[Z", true)
  | _ => ("ReserveSteps$Robots", "reported", "[I", true)
def t_Rb : Nat → FieldType := fun k => match k with
  | 0 => .int
  | 1 => .array .int
  | 2 => .array .boolean
  | 3 => .array .int
  | 4 => .array .int
  | 5 => .array .boolean
  | _ => .array .int
theorem n_Rb : ∀ a, a < 7 → ∀ b, b < 7 → a ≠ b → (F_Rb a).2.1 ≠ (F_Rb b).2.1 := by decide +kernel
theorem t_Rb_ok : ∀ k, k < 7 → parseFieldDescriptor (F_Rb k).2.2.1 = some (t_Rb k) := by decide +kernel
def R_Gr : String := "ReserveSteps$Grants"
def F_Gr : u_T := fun k => match k with
  | 0 => ("ReserveSteps$Grants", "size", "I", false)
  | 1 => ("ReserveSteps$Grants", "robot", "[I", true)
  | 2 => ("ReserveSteps$Grants", "piece", "[I", true)
  | 3 => ("ReserveSteps$Grants", "from", "[I", true)
  | 4 => ("ReserveSteps$Grants", "to", "[I", true)
  | 5 => ("ReserveSteps$Grants", "priority", "[I", true)
  | _ => ("ReserveSteps$Grants", "state", "[I", true)
def t_Gr : Nat → FieldType := fun k => match k with
  | 0 => .int
  | 1 => .array .int
  | 2 => .array .int
  | 3 => .array .int
  | 4 => .array .int
  | 5 => .array .int
  | _ => .array .int
theorem n_Gr : ∀ a, a < 7 → ∀ b, b < 7 → a ≠ b → (F_Gr a).2.1 ≠ (F_Gr b).2.1 := by decide +kernel
theorem t_Gr_ok : ∀ k, k < 7 → parseFieldDescriptor (F_Gr k).2.2.1 = some (t_Gr k) := by decide +kernel
def R_Mo : String := "ReserveStepsModel"
def F_Mo : u_T := fun k => match k with
  | 0 => ("ReserveStepsModel", "code", "I", false)
  | 1 => ("ReserveStepsModel", "now", "I", false)
  | 2 => ("ReserveStepsModel", "pieces", "I", false)
  | 3 => ("ReserveStepsModel", "closed", "[Z", true)
  | 4 => ("ReserveStepsModel", "linked", "[Z", true)
  | 5 => ("ReserveStepsModel", "robots", "I", false)
  | 6 => ("ReserveStepsModel", "at", "[I", true)
  | 7 => ("ReserveStepsModel", "long0", "[Z", true)
  | 8 => ("ReserveStepsModel", "tail", "[I", true)
  | 9 => ("ReserveStepsModel", "waits", "[I", true)
  | 10 => ("ReserveStepsModel", "latest", "[I", true)
  | 11 => ("ReserveStepsModel", "halted", "[Z", true)
  | 12 => ("ReserveStepsModel", "grants", "I", false)
  | 13 => ("ReserveStepsModel", "owner", "[I", true)
  | 14 => ("ReserveStepsModel", "where", "[I", true)
  | 15 => ("ReserveStepsModel", "from", "[I", true)
  | 16 => ("ReserveStepsModel", "to", "[I", true)
  | 17 => ("ReserveStepsModel", "rank", "[I", true)
  | _ => ("ReserveStepsModel", "state", "[I", true)
def t_Mo : Nat → FieldType := fun k => match k with
  | 0 => .int
  | 1 => .int
  | 2 => .int
  | 3 => .array .boolean
  | 4 => .array .boolean
  | 5 => .int
  | 6 => .array .int
  | 7 => .array .boolean
  | 8 => .array .int
  | 9 => .array .int
  | 10 => .array .int
  | 11 => .array .boolean
  | 12 => .int
  | 13 => .array .int
  | 14 => .array .int
  | 15 => .array .int
  | 16 => .array .int
  | 17 => .array .int
  | _ => .array .int
theorem n_Mo : ∀ a, a < 19 → ∀ b, b < 19 → a ≠ b → (F_Mo a).2.1 ≠ (F_Mo b).2.1 := by decide +kernel
theorem t_Mo_ok : ∀ k, k < 19 → parseFieldDescriptor (F_Mo k).2.2.1 = some (t_Mo k) := by decide +kernel
abbrev b_RS_needPiece : ByteArray := prog_1_method_20_code
def y_RS_needPiece : MethodName := ⟨R_RS, "needPiece", "(I)V"⟩
abbrev b_RS_needRobot : ByteArray := prog_1_method_21_code
def y_RS_needRobot : MethodName := ⟨R_RS, "needRobot", "(I)V"⟩
abbrev b_RS_needGrant : ByteArray := prog_1_method_22_code
def y_RS_needGrant : MethodName := ⟨R_RS, "needGrant", "(I)V"⟩
abbrev b_RS_needSpan : ByteArray := prog_1_method_23_code
def y_RS_needSpan : MethodName := ⟨R_RS, "needSpan", "(II)V"⟩
abbrev b_RS_needPriority : ByteArray := prog_1_method_24_code
def y_RS_needPriority : MethodName := ⟨R_RS, "needPriority", "(I)V"⟩
abbrev b_RS_piece : ByteArray := prog_1_method_2_code
def y_RS_piece : MethodName := ⟨R_RS, "piece", "()I"⟩
abbrev b_RS_link : ByteArray := prog_1_method_3_code
def y_RS_link : MethodName := ⟨R_RS, "link", "(IIZ)I"⟩
abbrev b_Rb_standingOn : ByteArray := prog_3_method_4_code
def y_Rb_standingOn : MethodName := ⟨R_Rb, "standingOn", "(I)I"⟩
abbrev b_Rb_add : ByteArray := prog_3_method_2_code
def y_Rb_add : MethodName := ⟨R_Rb, "add", "(IZI)I"⟩
abbrev b_RS_robot : ByteArray := prog_1_method_4_code
def y_RS_robot : MethodName := ⟨R_RS, "robot", "(IZ)I"⟩
abbrev b_Rb_isSilent : ByteArray := prog_3_method_3_code
def y_Rb_isSilent : MethodName := ⟨R_Rb, "isSilent", "(II)Z"⟩
abbrev b_RS_needActive : ByteArray := prog_1_method_25_code
def y_RS_needActive : MethodName := ⟨R_RS, "needActive", "(I)V"⟩
abbrev b_Rb_otherStandsOn : ByteArray := prog_3_method_5_code
def y_Rb_otherStandsOn : MethodName := ⟨R_Rb, "otherStandsOn", "(II)Z"⟩
abbrev b_Gr_hasBegun : ByteArray := prog_2_method_6_code
def y_Gr_hasBegun : MethodName := ⟨R_Gr, "hasBegun", "(II)Z"⟩
abbrev b_Gr_isLive : ByteArray := prog_2_method_3_code
def y_Gr_isLive : MethodName := ⟨R_Gr, "isLive", "(I)Z"⟩
abbrev b_Gr_isLiveFor : ByteArray := prog_2_method_5_code
def y_Gr_isLiveFor : MethodName := ⟨R_Gr, "isLiveFor", "(II)Z"⟩
abbrev b_Gr_sharesTime : ByteArray := prog_2_method_7_code
def y_Gr_sharesTime : MethodName := ⟨R_Gr, "sharesTime", "(III)Z"⟩
abbrev b_Gr_isRival : ByteArray := prog_2_method_9_code
def y_Gr_isRival : MethodName := ⟨R_Gr, "isRival", "(IIIII)Z"⟩
abbrev b_RS_firstBar : ByteArray := prog_1_method_27_code
def y_RS_firstBar : MethodName := ⟨R_RS, "firstBar", "(IIIII)I"⟩
abbrev b_Gr_takeFromOthers : ByteArray := prog_2_method_10_code
def y_Gr_takeFromOthers : MethodName := ⟨R_Gr, "takeFromOthers", "(IIII)V"⟩
abbrev b_Gr_add : ByteArray := prog_2_method_2_code
def y_Gr_add : MethodName := ⟨R_Gr, "add", "(IIIII)I"⟩
abbrev b_RS_ask : ByteArray := prog_1_method_5_code
def y_RS_ask : MethodName := ⟨R_RS, "ask", "(IIIII)I"⟩
abbrev b_Gr_isLiveOf : ByteArray := prog_2_method_4_code
def y_Gr_isLiveOf : MethodName := ⟨R_Gr, "isLiveOf", "(II)Z"⟩
abbrev b_Gr_liveOf : ByteArray := prog_2_method_17_code
def y_Gr_liveOf : MethodName := ⟨R_Gr, "liveOf", "(I)I"⟩
abbrev b_RS_free : ByteArray := prog_1_method_6_code
def y_RS_free : MethodName := ⟨R_RS, "free", "(I)I"⟩
abbrev b_Gr_areMeeting : ByteArray := prog_2_method_8_code
def y_Gr_areMeeting : MethodName := ⟨R_Gr, "areMeeting", "(II)Z"⟩
abbrev b_RS_meets : ByteArray := prog_1_method_7_code
def y_RS_meets : MethodName := ⟨R_RS, "meets", "(II)Z"⟩
abbrev b_RS_areLinked : ByteArray := prog_1_method_26_code
def y_RS_areLinked : MethodName := ⟨R_RS, "areLinked", "(II)Z"⟩
abbrev b_Gr_firstBegun : ByteArray := prog_2_method_14_code
def y_Gr_firstBegun : MethodName := ⟨R_Gr, "firstBegun", "(III)I"⟩
abbrev b_Rb_moveTo : ByteArray := prog_3_method_6_code
def y_Rb_moveTo : MethodName := ⟨R_Rb, "moveTo", "(II)V"⟩
abbrev b_RS_step : ByteArray := prog_1_method_8_code
def y_RS_step : MethodName := ⟨R_RS, "step", "(II)I"⟩
abbrev b_RS_pull : ByteArray := prog_1_method_9_code
def y_RS_pull : MethodName := ⟨R_RS, "pull", "(I)I"⟩
abbrev b_Rb_ringByWaiting : ByteArray := prog_3_method_7_code
def y_Rb_ringByWaiting : MethodName := ⟨R_Rb, "ringByWaiting", "(II)I"⟩
abbrev b_RS_await : ByteArray := prog_1_method_10_code
def y_RS_await : MethodName := ⟨R_RS, "await", "(II)I"⟩
abbrev b_Gr_greatestPriority : ByteArray := prog_2_method_16_code
def y_Gr_greatestPriority : MethodName := ⟨R_Gr, "greatestPriority", "(II)I"⟩
abbrev b_RS_next : ByteArray := prog_1_method_11_code
def y_RS_next : MethodName := ⟨R_RS, "next", "(I)I"⟩
abbrev b_Gr_takeAllFor : ByteArray := prog_2_method_11_code
def y_Gr_takeAllFor : MethodName := ⟨R_Gr, "takeAllFor", "(I)I"⟩
abbrev b_RS_zone : ByteArray := prog_1_method_12_code
def y_RS_zone : MethodName := ⟨R_RS, "zone", "(IZ)I"⟩
abbrev b_Gr_freeAllOf : ByteArray := prog_2_method_12_code
def y_Gr_freeAllOf : MethodName := ⟨R_Gr, "freeAllOf", "(I)I"⟩
abbrev b_RS_halt : ByteArray := prog_1_method_13_code
def y_RS_halt : MethodName := ⟨R_RS, "halt", "(IZ)I"⟩
abbrev b_RS_report : ByteArray := prog_1_method_14_code
def y_RS_report : MethodName := ⟨R_RS, "report", "(I)Z"⟩
abbrev b_Gr_endAllBy : ByteArray := prog_2_method_13_code
def y_Gr_endAllBy : MethodName := ⟨R_Gr, "endAllBy", "(I)I"⟩
abbrev b_RS_pass : ByteArray := prog_1_method_15_code
def y_RS_pass : MethodName := ⟨R_RS, "pass", "(I)I"⟩
abbrev b_Gr_robotGranted : ByteArray := prog_2_method_15_code
def y_Gr_robotGranted : MethodName := ⟨R_Gr, "robotGranted", "(II)I"⟩
abbrev b_RS_holder : ByteArray := prog_1_method_16_code
def y_RS_holder : MethodName := ⟨R_RS, "holder", "(II)I"⟩
abbrev b_RS_told : ByteArray := prog_1_method_17_code
def y_RS_told : MethodName := ⟨R_RS, "told", "(II)I"⟩
abbrev b_RS_grant : ByteArray := prog_1_method_18_code
def y_RS_grant : MethodName := ⟨R_RS, "grant", "(II)I"⟩
abbrev b_Gr_allLive : ByteArray := prog_2_method_18_code
def y_Gr_allLive : MethodName := ⟨R_Gr, "allLive", "()I"⟩
abbrev b_Rb_allWaiting : ByteArray := prog_3_method_8_code
def y_Rb_allWaiting : MethodName := ⟨R_Rb, "allWaiting", "()I"⟩
abbrev b_Gr_livePairsMeeting : ByteArray := prog_2_method_19_code
def y_Gr_livePairsMeeting : MethodName := ⟨R_Gr, "livePairsMeeting", "()I"⟩
abbrev b_RS_count : ByteArray := prog_1_method_19_code
def y_RS_count : MethodName := ⟨R_RS, "count", "(I)I"⟩
abbrev b_Mo_thrown : ByteArray := prog_5_method_2_code
def y_Mo_thrown : MethodName := ⟨R_Mo, "thrown", "()I"⟩
abbrev b_Mo_in : ByteArray := prog_5_method_3_code
def y_Mo_in : MethodName := ⟨R_Mo, "in", "(III)Z"⟩
abbrev b_Mo_isPiece : ByteArray := prog_5_method_4_code
def y_Mo_isPiece : MethodName := ⟨R_Mo, "isPiece", "(I)Z"⟩
abbrev b_Mo_isRobot : ByteArray := prog_5_method_5_code
def y_Mo_isRobot : MethodName := ⟨R_Mo, "isRobot", "(I)Z"⟩
abbrev b_Mo_isGrant : ByteArray := prog_5_method_6_code
def y_Mo_isGrant : MethodName := ⟨R_Mo, "isGrant", "(I)Z"⟩
abbrev b_Mo_piece : ByteArray := prog_5_method_7_code
def y_Mo_piece : MethodName := ⟨R_Mo, "piece", "()I"⟩
abbrev b_Mo_link : ByteArray := prog_5_method_8_code
def y_Mo_link : MethodName := ⟨R_Mo, "link", "(IIZ)I"⟩
abbrev b_Mo_standing : ByteArray := prog_5_method_9_code
def y_Mo_standing : MethodName := ⟨R_Mo, "standing", "(I)I"⟩
abbrev b_Mo_robot : ByteArray := prog_5_method_10_code
def y_Mo_robot : MethodName := ⟨R_Mo, "robot", "(IZ)I"⟩
abbrev b_Mo_isSilent : ByteArray := prog_5_method_11_code
def y_Mo_isSilent : MethodName := ⟨R_Mo, "isSilent", "(I)Z"⟩
abbrev b_Mo_meet : ByteArray := prog_5_method_12_code
def y_Mo_meet : MethodName := ⟨R_Mo, "meet", "(II)Z"⟩
abbrev b_Mo_isTaken : ByteArray := prog_5_method_13_code
def y_Mo_isTaken : MethodName := ⟨R_Mo, "isTaken", "(II)Z"⟩
abbrev b_Mo_isRival : ByteArray := prog_5_method_15_code
def y_Mo_isRival : MethodName := ⟨R_Mo, "isRival", "(II)Z"⟩
abbrev b_Mo_ask : ByteArray := prog_5_method_14_code
def y_Mo_ask : MethodName := ⟨R_Mo, "ask", "(IIIII)I"⟩
abbrev b_Mo_liveOf : ByteArray := prog_5_method_16_code
def y_Mo_liveOf : MethodName := ⟨R_Mo, "liveOf", "(I)I"⟩
abbrev b_Mo_free : ByteArray := prog_5_method_17_code
def y_Mo_free : MethodName := ⟨R_Mo, "free", "(I)I"⟩
abbrev b_Mo_meets : ByteArray := prog_5_method_18_code
def y_Mo_meets : MethodName := ⟨R_Mo, "meets", "(II)Z"⟩
abbrev b_Mo_step : ByteArray := prog_5_method_19_code
def y_Mo_step : MethodName := ⟨R_Mo, "step", "(II)I"⟩
abbrev b_Mo_pull : ByteArray := prog_5_method_20_code
def y_Mo_pull : MethodName := ⟨R_Mo, "pull", "(I)I"⟩
abbrev b_Mo_await : ByteArray := prog_5_method_21_code
def y_Mo_await : MethodName := ⟨R_Mo, "await", "(II)I"⟩
abbrev b_Mo_bestOf : ByteArray := prog_5_method_22_code
def y_Mo_bestOf : MethodName := ⟨R_Mo, "bestOf", "(II)I"⟩
abbrev b_Mo_next : ByteArray := prog_5_method_23_code
def y_Mo_next : MethodName := ⟨R_Mo, "next", "(I)I"⟩
abbrev b_Mo_zone : ByteArray := prog_5_method_24_code
def y_Mo_zone : MethodName := ⟨R_Mo, "zone", "(IZ)I"⟩
abbrev b_Mo_halt : ByteArray := prog_5_method_25_code
def y_Mo_halt : MethodName := ⟨R_Mo, "halt", "(IZ)I"⟩
abbrev b_Mo_report : ByteArray := prog_5_method_26_code
def y_Mo_report : MethodName := ⟨R_Mo, "report", "(I)Z"⟩
abbrev b_Mo_pass : ByteArray := prog_5_method_27_code
def y_Mo_pass : MethodName := ⟨R_Mo, "pass", "(I)I"⟩
abbrev b_Mo_holder : ByteArray := prog_5_method_28_code
def y_Mo_holder : MethodName := ⟨R_Mo, "holder", "(II)I"⟩
abbrev b_Mo_told : ByteArray := prog_5_method_29_code
def y_Mo_told : MethodName := ⟨R_Mo, "told", "(II)I"⟩
abbrev b_Mo_grant : ByteArray := prog_5_method_30_code
def y_Mo_grant : MethodName := ⟨R_Mo, "grant", "(II)I"⟩
abbrev b_Mo_count : ByteArray := prog_5_method_31_code
def y_Mo_count : MethodName := ⟨R_Mo, "count", "(I)I"⟩
abbrev b_bitCount : ByteArray := prog_9_method_49_code
def y_bitCount : MethodName := ⟨"java/lang/Integer", "bitCount", "(I)I"⟩
abbrev b_RS_init : ByteArray := prog_1_method_1_code
def y_RS_init : MethodName := ⟨R_RS, "<init>", "()V"⟩
abbrev b_Rb_init : ByteArray := prog_3_method_1_code
def y_Rb_init : MethodName := ⟨R_Rb, "<init>", "()V"⟩
abbrev b_Gr_init : ByteArray := prog_2_method_1_code
def y_Gr_init : MethodName := ⟨R_Gr, "<init>", "()V"⟩
abbrev b_Mo_init : ByteArray := prog_5_method_1_code
def y_Mo_init : MethodName := ⟨R_Mo, "<init>", "()V"⟩
abbrev b_Lw_piece : ByteArray := method_3_code
def y_Lw_piece : MethodName := ⟨R_law, "piece", "(LReserveSteps;[J)I"⟩
abbrev b_Lw_link : ByteArray := method_4_code
def y_Lw_link : MethodName := ⟨R_law, "link", "(LReserveSteps;IIZ[J)I"⟩
abbrev b_Lw_robot : ByteArray := method_5_code
def y_Lw_robot : MethodName := ⟨R_law, "robot", "(LReserveSteps;IZ[J)I"⟩
abbrev b_Lw_ask : ByteArray := method_6_code
def y_Lw_ask : MethodName := ⟨R_law, "ask", "(LReserveSteps;IIIII[J)I"⟩
abbrev b_Lw_free : ByteArray := method_7_code
def y_Lw_free : MethodName := ⟨R_law, "free", "(LReserveSteps;I[J)I"⟩
abbrev b_Lw_meets : ByteArray := method_8_code
def y_Lw_meets : MethodName := ⟨R_law, "meets", "(LReserveSteps;II[J)I"⟩
abbrev b_Lw_step : ByteArray := method_9_code
def y_Lw_step : MethodName := ⟨R_law, "step", "(LReserveSteps;II[J)I"⟩
abbrev b_Lw_pull : ByteArray := method_10_code
def y_Lw_pull : MethodName := ⟨R_law, "pull", "(LReserveSteps;I[J)I"⟩
abbrev b_Lw_await : ByteArray := method_11_code
def y_Lw_await : MethodName := ⟨R_law, "await", "(LReserveSteps;II[J)I"⟩
abbrev b_Lw_next : ByteArray := method_12_code
def y_Lw_next : MethodName := ⟨R_law, "next", "(LReserveSteps;I[J)I"⟩
abbrev b_Lw_zone : ByteArray := method_13_code
def y_Lw_zone : MethodName := ⟨R_law, "zone", "(LReserveSteps;IZ[J)I"⟩
abbrev b_Lw_halt : ByteArray := method_14_code
def y_Lw_halt : MethodName := ⟨R_law, "halt", "(LReserveSteps;IZ[J)I"⟩
abbrev b_Lw_report : ByteArray := method_15_code
def y_Lw_report : MethodName := ⟨R_law, "report", "(LReserveSteps;I[J)I"⟩
abbrev b_Lw_pass : ByteArray := method_16_code
def y_Lw_pass : MethodName := ⟨R_law, "pass", "(LReserveSteps;I[J)I"⟩
abbrev b_Lw_holder : ByteArray := method_17_code
def y_Lw_holder : MethodName := ⟨R_law, "holder", "(LReserveSteps;II[J)I"⟩
abbrev b_Lw_told : ByteArray := method_18_code
def y_Lw_told : MethodName := ⟨R_law, "told", "(LReserveSteps;II[J)I"⟩
abbrev b_Lw_grant : ByteArray := method_19_code
def y_Lw_grant : MethodName := ⟨R_law, "grant", "(LReserveSteps;II[J)I"⟩
def WALL : List Cond := lw_tbl.filter goodWord
theorem WALL_good : GoodIn lw_tbl WALL := fun w h => ⟨(List.mem_filter.mp h).1, good_of_word (List.mem_filter.mp h).2⟩
theorem wIn {w : Cond} (i : Nat) (h : lw_tbl[i]? = some w) (hg : goodWord w = true) : w ∈ WALL := List.mem_filter.mpr ⟨List.mem_of_getElem? h, hg⟩
theorem i_RS : ∀ w ∈ u_ws R_RS F_RS 6, w ∈ WALL := fun w h => List.mem_filter.mpr ⟨(by decide +kernel : ∀ w ∈ u_ws R_RS F_RS 6, w ∈ lw_tbl) w h, (by decide +kernel : ∀ w ∈ u_ws R_RS F_RS 6, goodWord w = true) w h⟩
theorem i_Rb : ∀ w ∈ u_ws R_Rb F_Rb 7, w ∈ WALL := fun w h => List.mem_filter.mpr ⟨(by decide +kernel : ∀ w ∈ u_ws R_Rb F_Rb 7, w ∈ lw_tbl) w h, (by decide +kernel : ∀ w ∈ u_ws R_Rb F_Rb 7, goodWord w = true) w h⟩
theorem i_Gr : ∀ w ∈ u_ws R_Gr F_Gr 7, w ∈ WALL := fun w h => List.mem_filter.mpr ⟨(by decide +kernel : ∀ w ∈ u_ws R_Gr F_Gr 7, w ∈ lw_tbl) w h, (by decide +kernel : ∀ w ∈ u_ws R_Gr F_Gr 7, goodWord w = true) w h⟩
theorem i_Mo : ∀ w ∈ u_ws R_Mo F_Mo 19, w ∈ WALL := fun w h => List.mem_filter.mpr ⟨(by decide +kernel : ∀ w ∈ u_ws R_Mo F_Mo 19, w ∈ lw_tbl) w h, (by decide +kernel : ∀ w ∈ u_ws R_Mo F_Mo 19, goodWord w = true) w h⟩
def xNames : List String := ["java/lang/RuntimeException", "java/lang/Exception"]
def xCasts : List (String × String) := [("java/util/NoSuchElementException", "java/util/NoSuchElementException"), ("java/lang/IllegalArgumentException", "java/lang/IllegalArgumentException"), ("java/lang/IllegalStateException", "java/lang/IllegalStateException"), ("java/lang/UnsupportedOperationException", "java/lang/UnsupportedOperationException")]
def xDecls : List MethodName := [⟨"java/lang/RuntimeException", "<init>", "(Ljava/lang/String;)V"⟩, ⟨"java/lang/Exception", "<init>", "(Ljava/lang/String;)V"⟩, ⟨"java/lang/Throwable", "<init>", "(Ljava/lang/String;)V"⟩]
def xNocs : List (String × String) := [("java/util/NoSuchElementException", "java/lang/IllegalArgumentException"), ("java/util/NoSuchElementException", "java/lang/IllegalStateException"), ("java/util/NoSuchElementException", "java/lang/UnsupportedOperationException"), ("java/lang/IllegalArgumentException", "java/util/NoSuchElementException"), ("java/lang/IllegalArgumentException", "java/lang/IllegalStateException"), ("java/lang/IllegalArgumentException", "java/lang/UnsupportedOperationException"), ("java/lang/IllegalStateException", "java/util/NoSuchElementException"), ("java/lang/IllegalStateException", "java/lang/IllegalArgumentException"), ("java/lang/IllegalStateException", "java/lang/UnsupportedOperationException"), ("java/lang/UnsupportedOperationException", "java/util/NoSuchElementException"), ("java/lang/UnsupportedOperationException", "java/lang/IllegalArgumentException"), ("java/lang/UnsupportedOperationException", "java/lang/IllegalStateException")]
def xStrs : List (String × Nat × String) := [(R_RS, 40, "no room for a piece"), (R_RS, 51, "a piece is not linked with itself"), (R_RS, 65, "the piece is closed or a robot stands on it"), (R_RS, 71, "no room for a robot"), (R_RS, 91, "no room for a grant"), (R_RS, 117, "the grant is not live"), (R_RS, 137, "the pieces are not linked"), (R_RS, 149, "the robot stands on its own piece alone"), (R_RS, 151, "no other robot stands on the piece"), (R_RS, 163, "the zone is so already, or a robot stands on the piece"), (R_RS, 171, "the robot is so already"), (R_RS, 179, "the time is before now or above the last one"), (R_RS, 184, "the time is before now"), (R_RS, 189, "nothing is told of a robot by this number"), (R_RS, 201, "nothing is told of a grant by this number"), (R_RS, 215, "no such piece"), (R_RS, 218, "no such robot"), (R_RS, 220, "no such grant"), (R_RS, 222, "the span begins before now, is empty or ends too late"), (R_RS, 224, "there is no such priority"), (R_RS, 226, "the robot is halted or silent")]
def xBad : List Cond := xCasts.map (fun q => .castable q.1 q.2) ++ xDecls.map (fun x => .declares x)
theorem xa_0 : ∀ w ∈ (nx_at R_RS 42 7 prog_14_method_2_code "java/lang/UnsupportedOperationException" "java/lang/RuntimeException" ["java/lang/Exception"]).filter goodWord, w ∈ WALL := fun w h => List.mem_filter.mpr ⟨(by decide +kernel : ∀ w ∈ (nx_at R_RS 42 7 prog_14_method_2_code "java/lang/UnsupportedOperationException" "java/lang/RuntimeException" ["java/lang/Exception"]).filter goodWord, w ∈ lw_tbl) w h, (List.mem_filter.mp h).2⟩
theorem xb_0 : ∀ w ∈ (nx_at R_RS 42 7 prog_14_method_2_code "java/lang/UnsupportedOperationException" "java/lang/RuntimeException" ["java/lang/Exception"]).filter (fun w => !goodWord w), w ∈ xBad := by decide +kernel
theorem xc_0 : ∀ w ∈ nx_at R_RS 42 7 prog_14_method_2_code "java/lang/UnsupportedOperationException" "java/lang/RuntimeException" ["java/lang/Exception"], vx_ot w = true := by decide +kernel
theorem xa_1 : ∀ w ∈ (nx_at R_RS 53 7 prog_7_method_2_code "java/lang/IllegalArgumentException" "java/lang/RuntimeException" ["java/lang/Exception"]).filter goodWord, w ∈ WALL := fun w h => List.mem_filter.mpr ⟨(by decide +kernel : ∀ w ∈ (nx_at R_RS 53 7 prog_7_method_2_code "java/lang/IllegalArgumentException" "java/lang/RuntimeException" ["java/lang/Exception"]).filter goodWord, w ∈ lw_tbl) w h, (List.mem_filter.mp h).2⟩
theorem xb_1 : ∀ w ∈ (nx_at R_RS 53 7 prog_7_method_2_code "java/lang/IllegalArgumentException" "java/lang/RuntimeException" ["java/lang/Exception"]).filter (fun w => !goodWord w), w ∈ xBad := by decide +kernel
theorem xc_1 : ∀ w ∈ nx_at R_RS 53 7 prog_7_method_2_code "java/lang/IllegalArgumentException" "java/lang/RuntimeException" ["java/lang/Exception"], vx_ot w = true := by decide +kernel
theorem xa_2 : ∀ w ∈ (nx_at R_RS 67 7 prog_8_method_2_code "java/lang/IllegalStateException" "java/lang/RuntimeException" ["java/lang/Exception"]).filter goodWord, w ∈ WALL := fun w h => List.mem_filter.mpr ⟨(by decide +kernel : ∀ w ∈ (nx_at R_RS 67 7 prog_8_method_2_code "java/lang/IllegalStateException" "java/lang/RuntimeException" ["java/lang/Exception"]).filter goodWord, w ∈ lw_tbl) w h, (List.mem_filter.mp h).2⟩
theorem xb_2 : ∀ w ∈ (nx_at R_RS 67 7 prog_8_method_2_code "java/lang/IllegalStateException" "java/lang/RuntimeException" ["java/lang/Exception"]).filter (fun w => !goodWord w), w ∈ xBad := by decide +kernel
theorem xc_2 : ∀ w ∈ nx_at R_RS 67 7 prog_8_method_2_code "java/lang/IllegalStateException" "java/lang/RuntimeException" ["java/lang/Exception"], vx_ot w = true := by decide +kernel
theorem xa_3 : ∀ w ∈ (nx_at R_RS 217 13 prog_15_method_4_code "java/util/NoSuchElementException" "java/lang/RuntimeException" ["java/lang/Exception"]).filter goodWord, w ∈ WALL := fun w h => List.mem_filter.mpr ⟨(by decide +kernel : ∀ w ∈ (nx_at R_RS 217 13 prog_15_method_4_code "java/util/NoSuchElementException" "java/lang/RuntimeException" ["java/lang/Exception"]).filter goodWord, w ∈ lw_tbl) w h, (List.mem_filter.mp h).2⟩
theorem xb_3 : ∀ w ∈ (nx_at R_RS 217 13 prog_15_method_4_code "java/util/NoSuchElementException" "java/lang/RuntimeException" ["java/lang/Exception"]).filter (fun w => !goodWord w), w ∈ xBad := by decide +kernel
theorem xc_3 : ∀ w ∈ nx_at R_RS 217 13 prog_15_method_4_code "java/util/NoSuchElementException" "java/lang/RuntimeException" ["java/lang/Exception"], vx_ot w = true := by decide +kernel
set_option maxRecDepth 100000 in
theorem k_0 : (.fieldLink R_RS 13 "ReserveSteps" "pieceCount" "I" : Cond) ∈ WALL := wIn 113 (by decide +kernel) (by decide +kernel)
set_option maxRecDepth 100000 in
theorem k_1 : (.classLink R_RS 213 "java/util/NoSuchElementException" : Cond) ∈ WALL := wIn 249 (by decide +kernel) (by decide +kernel)
set_option maxRecDepth 100000 in
theorem k_2 : (.initialized "java/util/NoSuchElementException" : Cond) ∈ WALL := wIn 28 (by decide +kernel) (by decide +kernel)
set_option maxRecDepth 100000 in
theorem k_3 : (.fieldLink R_RS 27 "ReserveSteps" "robots" "LReserveSteps$Robots;" : Cond) ∈ WALL := wIn 116 (by decide +kernel) (by decide +kernel)
set_option maxRecDepth 100000 in
theorem k_4 : (.fieldLink R_RS 68 "ReserveSteps$Robots" "size" "I" : Cond) ∈ WALL := wIn 48 (by decide +kernel) (by decide +kernel)
set_option maxRecDepth 100000 in
theorem k_5 : (.fieldLink R_RS 34 "ReserveSteps" "grants" "LReserveSteps$Grants;" : Cond) ∈ WALL := wIn 117 (by decide +kernel) (by decide +kernel)
set_option maxRecDepth 100000 in
theorem k_6 : (.fieldLink R_RS 90 "ReserveSteps$Grants" "size" "I" : Cond) ∈ WALL := wIn 84 (by decide +kernel) (by decide +kernel)
set_option maxRecDepth 100000 in
theorem k_7 : (.fieldLink R_RS 7 "ReserveSteps" "now" "I" : Cond) ∈ WALL := wIn 112 (by decide +kernel) (by decide +kernel)
set_option maxRecDepth 100000 in
theorem k_8 : (.classLink R_RS 49 "java/lang/IllegalArgumentException" : Cond) ∈ WALL := wIn 265 (by decide +kernel) (by decide +kernel)
set_option maxRecDepth 100000 in
theorem k_9 : (.initialized "java/lang/IllegalArgumentException" : Cond) ∈ WALL := wIn 29 (by decide +kernel) (by decide +kernel)
set_option maxRecDepth 100000 in
theorem k_10 : (.classLink R_RS 38 "java/lang/UnsupportedOperationException" : Cond) ∈ WALL := wIn 167 (by decide +kernel) (by decide +kernel)
set_option maxRecDepth 100000 in
theorem k_11 : (.initialized "java/lang/UnsupportedOperationException" : Cond) ∈ WALL := wIn 27 (by decide +kernel) (by decide +kernel)
set_option maxRecDepth 100000 in
theorem k_12 : (.methodLink R_RS 45 y_RS_needPiece : Cond) ∈ WALL := wIn 245 (by decide +kernel) (by decide +kernel)
set_option maxRecDepth 100000 in
theorem k_13 : (.instanceMethod y_RS_needPiece : Cond) ∈ WALL := wIn 247 (by decide +kernel) (by decide +kernel)
set_option maxRecDepth 100000 in
theorem k_14 : (.selects R_RS y_RS_needPiece y_RS_needPiece : Cond) ∈ WALL := wIn 1 (by decide +kernel) (by decide +kernel)
set_option maxRecDepth 100000 in
theorem k_15 : (.initialized R_RS : Cond) ∈ WALL := wIn 20 (by decide +kernel) (by decide +kernel)
set_option maxRecDepth 100000 in
theorem k_16 : (.code y_RS_needPiece b_RS_needPiece 2 none : Cond) ∈ WALL := wIn 248 rfl (by decide +kernel)
set_option maxRecDepth 100000 in
theorem k_17 : (.fieldLink R_RS 16 "ReserveSteps" "links" "[I" : Cond) ∈ WALL := wIn 114 (by decide +kernel) (by decide +kernel)
set_option maxRecDepth 100000 in
theorem k_18 : (.methodLink R_RS 54 y_bitCount : Cond) ∈ WALL := wIn 281 (by decide +kernel) (by decide +kernel)
set_option maxRecDepth 100000 in
theorem k_19 : (.static y_bitCount : Cond) ∈ WALL := wIn 282 (by decide +kernel) (by decide +kernel)
set_option maxRecDepth 100000 in
theorem k_20 : (.initialized "java/lang/Integer" : Cond) ∈ WALL := wIn 30 (by decide +kernel) (by decide +kernel)
set_option maxRecDepth 100000 in
theorem k_21 : (.code y_bitCount b_bitCount 1 (some .int) : Cond) ∈ WALL := wIn 283 rfl (by decide +kernel)
set_option maxRecDepth 100000 in
theorem k_22 : (.fieldLink R_Rb 9 "ReserveSteps$Robots" "size" "I" : Cond) ∈ WALL := wIn 47 (by decide +kernel) (by decide +kernel)
set_option maxRecDepth 100000 in
theorem k_23 : (.fieldLink R_Rb 15 "ReserveSteps$Robots" "piece" "[I" : Cond) ∈ WALL := wIn 49 (by decide +kernel) (by decide +kernel)
set_option maxRecDepth 100000 in
theorem k_24 : (.fieldLink R_Rb 23 "ReserveSteps$Robots" "tailPiece" "[I" : Cond) ∈ WALL := wIn 52 (by decide +kernel) (by decide +kernel)
set_option maxRecDepth 100000 in
theorem k_25 : (.fieldLink R_Rb 19 "ReserveSteps$Robots" "hasTail" "[Z" : Cond) ∈ WALL := wIn 51 (by decide +kernel) (by decide +kernel)
set_option maxRecDepth 100000 in
theorem k_26 : (.fieldLink R_Rb 26 "ReserveSteps$Robots" "waitsFor" "[I" : Cond) ∈ WALL := wIn 54 (by decide +kernel) (by decide +kernel)
set_option maxRecDepth 100000 in
theorem k_27 : (.fieldLink R_Rb 29 "ReserveSteps$Robots" "halted" "[Z" : Cond) ∈ WALL := wIn 56 (by decide +kernel) (by decide +kernel)
set_option maxRecDepth 100000 in
theorem k_28 : (.fieldLink R_Rb 32 "ReserveSteps$Robots" "reported" "[I" : Cond) ∈ WALL := wIn 58 (by decide +kernel) (by decide +kernel)
set_option maxRecDepth 100000 in
theorem k_29 : (.fieldLink R_RS 20 "ReserveSteps" "closed" "[Z" : Cond) ∈ WALL := wIn 115 (by decide +kernel) (by decide +kernel)
set_option maxRecDepth 100000 in
theorem k_30 : (.methodLink R_RS 60 y_Rb_standingOn : Cond) ∈ WALL := wIn 295 (by decide +kernel) (by decide +kernel)
set_option maxRecDepth 100000 in
theorem k_31 : (.instanceMethod y_Rb_standingOn : Cond) ∈ WALL := wIn 296 (by decide +kernel) (by decide +kernel)
set_option maxRecDepth 100000 in
theorem k_32 : (.selects R_Rb y_Rb_standingOn y_Rb_standingOn : Cond) ∈ WALL := wIn 297 (by decide +kernel) (by decide +kernel)
set_option maxRecDepth 100000 in
theorem k_33 : (.initialized R_Rb : Cond) ∈ WALL := wIn 21 (by decide +kernel) (by decide +kernel)
set_option maxRecDepth 100000 in
theorem k_34 : (.code y_Rb_standingOn b_Rb_standingOn 3 (some .int) : Cond) ∈ WALL := wIn 298 rfl (by decide +kernel)
set_option maxRecDepth 100000 in
theorem k_35 : (.methodLink R_RS 73 y_Rb_add : Cond) ∈ WALL := wIn 316 (by decide +kernel) (by decide +kernel)
set_option maxRecDepth 100000 in
theorem k_36 : (.instanceMethod y_Rb_add : Cond) ∈ WALL := wIn 317 (by decide +kernel) (by decide +kernel)
set_option maxRecDepth 100000 in
theorem k_37 : (.selects R_Rb y_Rb_add y_Rb_add : Cond) ∈ WALL := wIn 318 (by decide +kernel) (by decide +kernel)
set_option maxRecDepth 100000 in
theorem k_38 : (.code y_Rb_add b_Rb_add 5 (some .int) : Cond) ∈ WALL := wIn 319 rfl (by decide +kernel)
set_option maxRecDepth 100000 in
theorem k_39 : (.classLink R_RS 63 "java/lang/IllegalStateException" : Cond) ∈ WALL := wIn 299 (by decide +kernel) (by decide +kernel)
set_option maxRecDepth 100000 in
theorem k_40 : (.initialized "java/lang/IllegalStateException" : Cond) ∈ WALL := wIn 31 (by decide +kernel) (by decide +kernel)
set_option maxRecDepth 100000 in
theorem k_41 : (.fieldLink R_RS 168 "ReserveSteps$Robots" "halted" "[Z" : Cond) ∈ WALL := wIn 57 (by decide +kernel) (by decide +kernel)
set_option maxRecDepth 100000 in
theorem k_42 : (.methodLink R_RS 176 y_Rb_isSilent : Cond) ∈ WALL := wIn 346 (by decide +kernel) (by decide +kernel)
set_option maxRecDepth 100000 in
theorem k_43 : (.instanceMethod y_Rb_isSilent : Cond) ∈ WALL := wIn 347 (by decide +kernel) (by decide +kernel)
set_option maxRecDepth 100000 in
theorem k_44 : (.selects R_Rb y_Rb_isSilent y_Rb_isSilent : Cond) ∈ WALL := wIn 348 (by decide +kernel) (by decide +kernel)
set_option maxRecDepth 100000 in
theorem k_45 : (.code y_Rb_isSilent b_Rb_isSilent 3 (some .boolean) : Cond) ∈ WALL := wIn 349 rfl (by decide +kernel)
set_option maxRecDepth 100000 in
theorem k_46 : (.methodLink R_Rb 35 y_Rb_standingOn : Cond) ∈ WALL := wIn 356 (by decide +kernel) (by decide +kernel)
set_option maxRecDepth 100000 in
theorem k_47 : (.fieldLink R_Gr 22 "ReserveSteps$Grants" "from" "[I" : Cond) ∈ WALL := wIn 89 (by decide +kernel) (by decide +kernel)
set_option maxRecDepth 100000 in
theorem k_48 : (.fieldLink R_Gr 31 "ReserveSteps$Grants" "state" "[I" : Cond) ∈ WALL := wIn 95 (by decide +kernel) (by decide +kernel)
set_option maxRecDepth 100000 in
theorem k_49 : (.methodLink R_Gr 34 y_Gr_isLive : Cond) ∈ WALL := wIn 139 (by decide +kernel) (by decide +kernel)
set_option maxRecDepth 100000 in
theorem k_50 : (.instanceMethod y_Gr_isLive : Cond) ∈ WALL := wIn 140 (by decide +kernel) (by decide +kernel)
set_option maxRecDepth 100000 in
theorem k_51 : (.selects R_Gr y_Gr_isLive y_Gr_isLive : Cond) ∈ WALL := wIn 141 (by decide +kernel) (by decide +kernel)
set_option maxRecDepth 100000 in
theorem k_52 : (.initialized R_Gr : Cond) ∈ WALL := wIn 22 (by decide +kernel) (by decide +kernel)
set_option maxRecDepth 100000 in
theorem k_53 : (.code y_Gr_isLive b_Gr_isLive 2 (some .boolean) : Cond) ∈ WALL := wIn 142 rfl (by decide +kernel)
set_option maxRecDepth 100000 in
theorem k_54 : (.fieldLink R_Gr 19 "ReserveSteps$Grants" "piece" "[I" : Cond) ∈ WALL := wIn 87 (by decide +kernel) (by decide +kernel)
set_option maxRecDepth 100000 in
theorem k_55 : (.fieldLink R_Gr 25 "ReserveSteps$Grants" "to" "[I" : Cond) ∈ WALL := wIn 91 (by decide +kernel) (by decide +kernel)
set_option maxRecDepth 100000 in
theorem k_56 : (.methodLink R_Gr 42 y_Gr_isLiveFor : Cond) ∈ WALL := wIn 369 (by decide +kernel) (by decide +kernel)
set_option maxRecDepth 100000 in
theorem k_57 : (.instanceMethod y_Gr_isLiveFor : Cond) ∈ WALL := wIn 370 (by decide +kernel) (by decide +kernel)
set_option maxRecDepth 100000 in
theorem k_58 : (.selects R_Gr y_Gr_isLiveFor y_Gr_isLiveFor : Cond) ∈ WALL := wIn 371 (by decide +kernel) (by decide +kernel)
set_option maxRecDepth 100000 in
theorem k_59 : (.code y_Gr_isLiveFor b_Gr_isLiveFor 3 (some .boolean) : Cond) ∈ WALL := wIn 372 rfl (by decide +kernel)
set_option maxRecDepth 100000 in
theorem k_60 : (.fieldLink R_Gr 15 "ReserveSteps$Grants" "robot" "[I" : Cond) ∈ WALL := wIn 85 (by decide +kernel) (by decide +kernel)
set_option maxRecDepth 100000 in
theorem k_61 : (.methodLink R_Gr 38 y_Gr_sharesTime : Cond) ∈ WALL := wIn 155 (by decide +kernel) (by decide +kernel)
set_option maxRecDepth 100000 in
theorem k_62 : (.instanceMethod y_Gr_sharesTime : Cond) ∈ WALL := wIn 156 (by decide +kernel) (by decide +kernel)
set_option maxRecDepth 100000 in
theorem k_63 : (.selects R_Gr y_Gr_sharesTime y_Gr_sharesTime : Cond) ∈ WALL := wIn 157 (by decide +kernel) (by decide +kernel)
set_option maxRecDepth 100000 in
theorem k_64 : (.code y_Gr_sharesTime b_Gr_sharesTime 4 (some .boolean) : Cond) ∈ WALL := wIn 158 rfl (by decide +kernel)
set_option maxRecDepth 100000 in
theorem k_65 : (.fieldLink R_RS 198 "ReserveSteps$Grants" "priority" "[I" : Cond) ∈ WALL := wIn 94 (by decide +kernel) (by decide +kernel)
set_option maxRecDepth 100000 in
theorem k_66 : (.methodLink R_RS 231 y_Gr_isRival : Cond) ∈ WALL := wIn 365 (by decide +kernel) (by decide +kernel)
set_option maxRecDepth 100000 in
theorem k_67 : (.instanceMethod y_Gr_isRival : Cond) ∈ WALL := wIn 366 (by decide +kernel) (by decide +kernel)
set_option maxRecDepth 100000 in
theorem k_68 : (.selects R_Gr y_Gr_isRival y_Gr_isRival : Cond) ∈ WALL := wIn 367 (by decide +kernel) (by decide +kernel)
set_option maxRecDepth 100000 in
theorem k_69 : (.code y_Gr_isRival b_Gr_isRival 6 (some .boolean) : Cond) ∈ WALL := wIn 368 rfl (by decide +kernel)
set_option maxRecDepth 100000 in
theorem k_70 : (.methodLink R_RS 228 y_Gr_hasBegun : Cond) ∈ WALL := wIn 361 (by decide +kernel) (by decide +kernel)
set_option maxRecDepth 100000 in
theorem k_71 : (.instanceMethod y_Gr_hasBegun : Cond) ∈ WALL := wIn 362 (by decide +kernel) (by decide +kernel)
set_option maxRecDepth 100000 in
theorem k_72 : (.selects R_Gr y_Gr_hasBegun y_Gr_hasBegun : Cond) ∈ WALL := wIn 363 (by decide +kernel) (by decide +kernel)
set_option maxRecDepth 100000 in
theorem k_73 : (.code y_Gr_hasBegun b_Gr_hasBegun 3 (some .boolean) : Cond) ∈ WALL := wIn 364 rfl (by decide +kernel)
set_option maxRecDepth 100000 in
theorem k_74 : (.fieldLink R_Gr 9 "ReserveSteps$Grants" "size" "I" : Cond) ∈ WALL := wIn 83 (by decide +kernel) (by decide +kernel)
set_option maxRecDepth 100000 in
theorem k_75 : (.methodLink R_Gr 46 y_Gr_isRival : Cond) ∈ WALL := wIn 377 (by decide +kernel) (by decide +kernel)
set_option maxRecDepth 100000 in
theorem k_76 : (.fieldLink R_Gr 28 "ReserveSteps$Grants" "priority" "[I" : Cond) ∈ WALL := wIn 93 (by decide +kernel) (by decide +kernel)
set_option maxRecDepth 100000 in
theorem k_77 : (.methodLink R_RS 77 y_RS_needRobot : Cond) ∈ WALL := wIn 327 (by decide +kernel) (by decide +kernel)
set_option maxRecDepth 100000 in
theorem k_78 : (.instanceMethod y_RS_needRobot : Cond) ∈ WALL := wIn 329 (by decide +kernel) (by decide +kernel)
set_option maxRecDepth 100000 in
theorem k_79 : (.selects R_RS y_RS_needRobot y_RS_needRobot : Cond) ∈ WALL := wIn 2 (by decide +kernel) (by decide +kernel)
set_option maxRecDepth 100000 in
theorem k_80 : (.code y_RS_needRobot b_RS_needRobot 2 none : Cond) ∈ WALL := wIn 330 rfl (by decide +kernel)
set_option maxRecDepth 100000 in
theorem k_81 : (.methodLink R_RS 80 y_RS_needSpan : Cond) ∈ WALL := wIn 332 (by decide +kernel) (by decide +kernel)
set_option maxRecDepth 100000 in
theorem k_82 : (.instanceMethod y_RS_needSpan : Cond) ∈ WALL := wIn 334 (by decide +kernel) (by decide +kernel)
set_option maxRecDepth 100000 in
theorem k_83 : (.selects R_RS y_RS_needSpan y_RS_needSpan : Cond) ∈ WALL := wIn 3 (by decide +kernel) (by decide +kernel)
set_option maxRecDepth 100000 in
theorem k_84 : (.code y_RS_needSpan b_RS_needSpan 3 none : Cond) ∈ WALL := wIn 335 rfl (by decide +kernel)
set_option maxRecDepth 100000 in
theorem k_85 : (.methodLink R_RS 84 y_RS_needPriority : Cond) ∈ WALL := wIn 337 (by decide +kernel) (by decide +kernel)
set_option maxRecDepth 100000 in
theorem k_86 : (.instanceMethod y_RS_needPriority : Cond) ∈ WALL := wIn 339 (by decide +kernel) (by decide +kernel)
set_option maxRecDepth 100000 in
theorem k_87 : (.selects R_RS y_RS_needPriority y_RS_needPriority : Cond) ∈ WALL := wIn 4 (by decide +kernel) (by decide +kernel)
set_option maxRecDepth 100000 in
theorem k_88 : (.code y_RS_needPriority b_RS_needPriority 2 none : Cond) ∈ WALL := wIn 340 rfl (by decide +kernel)
set_option maxRecDepth 100000 in
theorem k_89 : (.methodLink R_RS 87 y_RS_needActive : Cond) ∈ WALL := wIn 342 (by decide +kernel) (by decide +kernel)
set_option maxRecDepth 100000 in
theorem k_90 : (.instanceMethod y_RS_needActive : Cond) ∈ WALL := wIn 344 (by decide +kernel) (by decide +kernel)
set_option maxRecDepth 100000 in
theorem k_91 : (.selects R_RS y_RS_needActive y_RS_needActive : Cond) ∈ WALL := wIn 5 (by decide +kernel) (by decide +kernel)
set_option maxRecDepth 100000 in
theorem k_92 : (.code y_RS_needActive b_RS_needActive 2 none : Cond) ∈ WALL := wIn 345 rfl (by decide +kernel)
set_option maxRecDepth 100000 in
theorem k_93 : (.fieldLink R_RS 93 "ReserveSteps$Robots" "reported" "[I" : Cond) ∈ WALL := wIn 59 (by decide +kernel) (by decide +kernel)
set_option maxRecDepth 100000 in
theorem k_94 : (.methodLink R_RS 96 y_Rb_otherStandsOn : Cond) ∈ WALL := wIn 352 (by decide +kernel) (by decide +kernel)
set_option maxRecDepth 100000 in
theorem k_95 : (.instanceMethod y_Rb_otherStandsOn : Cond) ∈ WALL := wIn 353 (by decide +kernel) (by decide +kernel)
set_option maxRecDepth 100000 in
theorem k_96 : (.selects R_Rb y_Rb_otherStandsOn y_Rb_otherStandsOn : Cond) ∈ WALL := wIn 354 (by decide +kernel) (by decide +kernel)
set_option maxRecDepth 100000 in
theorem k_97 : (.code y_Rb_otherStandsOn b_Rb_otherStandsOn 4 (some .boolean) : Cond) ∈ WALL := wIn 355 rfl (by decide +kernel)
set_option maxRecDepth 100000 in
theorem k_98 : (.methodLink R_RS 100 y_RS_firstBar : Cond) ∈ WALL := wIn 357 (by decide +kernel) (by decide +kernel)
set_option maxRecDepth 100000 in
theorem k_99 : (.instanceMethod y_RS_firstBar : Cond) ∈ WALL := wIn 359 (by decide +kernel) (by decide +kernel)
set_option maxRecDepth 100000 in
theorem k_100 : (.selects R_RS y_RS_firstBar y_RS_firstBar : Cond) ∈ WALL := wIn 6 (by decide +kernel) (by decide +kernel)
set_option maxRecDepth 100000 in
theorem k_101 : (.code y_RS_firstBar b_RS_firstBar 8 (some .int) : Cond) ∈ WALL := wIn 360 rfl (by decide +kernel)
set_option maxRecDepth 100000 in
theorem k_102 : (.methodLink R_RS 104 y_Gr_takeFromOthers : Cond) ∈ WALL := wIn 373 (by decide +kernel) (by decide +kernel)
set_option maxRecDepth 100000 in
theorem k_103 : (.instanceMethod y_Gr_takeFromOthers : Cond) ∈ WALL := wIn 374 (by decide +kernel) (by decide +kernel)
set_option maxRecDepth 100000 in
theorem k_104 : (.selects R_Gr y_Gr_takeFromOthers y_Gr_takeFromOthers : Cond) ∈ WALL := wIn 375 (by decide +kernel) (by decide +kernel)
set_option maxRecDepth 100000 in
theorem k_105 : (.code y_Gr_takeFromOthers b_Gr_takeFromOthers 6 none : Cond) ∈ WALL := wIn 376 rfl (by decide +kernel)
set_option maxRecDepth 100000 in
theorem k_106 : (.methodLink R_RS 108 y_Gr_add : Cond) ∈ WALL := wIn 378 (by decide +kernel) (by decide +kernel)
set_option maxRecDepth 100000 in
theorem k_107 : (.instanceMethod y_Gr_add : Cond) ∈ WALL := wIn 379 (by decide +kernel) (by decide +kernel)
set_option maxRecDepth 100000 in
theorem k_108 : (.selects R_Gr y_Gr_add y_Gr_add : Cond) ∈ WALL := wIn 380 (by decide +kernel) (by decide +kernel)
set_option maxRecDepth 100000 in
theorem k_109 : (.code y_Gr_add b_Gr_add 6 (some .int) : Cond) ∈ WALL := wIn 381 rfl (by decide +kernel)
set_option maxRecDepth 100000 in
theorem k_110 : (.methodLink R_Gr 50 y_Gr_isLiveOf : Cond) ∈ WALL := wIn 400 (by decide +kernel) (by decide +kernel)
set_option maxRecDepth 100000 in
theorem k_111 : (.instanceMethod y_Gr_isLiveOf : Cond) ∈ WALL := wIn 401 (by decide +kernel) (by decide +kernel)
set_option maxRecDepth 100000 in
theorem k_112 : (.selects R_Gr y_Gr_isLiveOf y_Gr_isLiveOf : Cond) ∈ WALL := wIn 402 (by decide +kernel) (by decide +kernel)
set_option maxRecDepth 100000 in
theorem k_113 : (.code y_Gr_isLiveOf b_Gr_isLiveOf 3 (some .boolean) : Cond) ∈ WALL := wIn 403 rfl (by decide +kernel)
set_option maxRecDepth 100000 in
theorem k_114 : (.methodLink R_RS 110 y_RS_needGrant : Cond) ∈ WALL := wIn 389 (by decide +kernel) (by decide +kernel)
set_option maxRecDepth 100000 in
theorem k_115 : (.instanceMethod y_RS_needGrant : Cond) ∈ WALL := wIn 391 (by decide +kernel) (by decide +kernel)
set_option maxRecDepth 100000 in
theorem k_116 : (.selects R_RS y_RS_needGrant y_RS_needGrant : Cond) ∈ WALL := wIn 7 (by decide +kernel) (by decide +kernel)
set_option maxRecDepth 100000 in
theorem k_117 : (.code y_RS_needGrant b_RS_needGrant 2 none : Cond) ∈ WALL := wIn 392 rfl (by decide +kernel)
set_option maxRecDepth 100000 in
theorem k_118 : (.methodLink R_RS 113 y_Gr_isLive : Cond) ∈ WALL := wIn 394 (by decide +kernel) (by decide +kernel)
set_option maxRecDepth 100000 in
theorem k_119 : (.fieldLink R_RS 119 "ReserveSteps$Grants" "state" "[I" : Cond) ∈ WALL := wIn 96 (by decide +kernel) (by decide +kernel)
set_option maxRecDepth 100000 in
theorem k_120 : (.fieldLink R_RS 122 "ReserveSteps$Grants" "robot" "[I" : Cond) ∈ WALL := wIn 86 (by decide +kernel) (by decide +kernel)
set_option maxRecDepth 100000 in
theorem k_121 : (.methodLink R_RS 125 y_Gr_liveOf : Cond) ∈ WALL := wIn 396 (by decide +kernel) (by decide +kernel)
set_option maxRecDepth 100000 in
theorem k_122 : (.instanceMethod y_Gr_liveOf : Cond) ∈ WALL := wIn 397 (by decide +kernel) (by decide +kernel)
set_option maxRecDepth 100000 in
theorem k_123 : (.selects R_Gr y_Gr_liveOf y_Gr_liveOf : Cond) ∈ WALL := wIn 398 (by decide +kernel) (by decide +kernel)
set_option maxRecDepth 100000 in
theorem k_124 : (.code y_Gr_liveOf b_Gr_liveOf 4 (some .int) : Cond) ∈ WALL := wIn 399 rfl (by decide +kernel)
set_option maxRecDepth 100000 in
theorem k_125 : (.methodLink R_RS 128 y_Gr_areMeeting : Cond) ∈ WALL := wIn 411 (by decide +kernel) (by decide +kernel)
set_option maxRecDepth 100000 in
theorem k_126 : (.instanceMethod y_Gr_areMeeting : Cond) ∈ WALL := wIn 152 (by decide +kernel) (by decide +kernel)
set_option maxRecDepth 100000 in
theorem k_127 : (.selects R_Gr y_Gr_areMeeting y_Gr_areMeeting : Cond) ∈ WALL := wIn 153 (by decide +kernel) (by decide +kernel)
set_option maxRecDepth 100000 in
theorem k_128 : (.code y_Gr_areMeeting b_Gr_areMeeting 3 (some .boolean) : Cond) ∈ WALL := wIn 154 rfl (by decide +kernel)
set_option maxRecDepth 100000 in
theorem k_129 : (.methodLink R_Gr 53 y_Gr_hasBegun : Cond) ∈ WALL := wIn 428 (by decide +kernel) (by decide +kernel)
set_option maxRecDepth 100000 in
theorem k_130 : (.fieldLink R_RS 131 "ReserveSteps$Robots" "piece" "[I" : Cond) ∈ WALL := wIn 50 (by decide +kernel) (by decide +kernel)
set_option maxRecDepth 100000 in
theorem k_131 : (.methodLink R_RS 134 y_RS_areLinked : Cond) ∈ WALL := wIn 419 (by decide +kernel) (by decide +kernel)
set_option maxRecDepth 100000 in
theorem k_132 : (.instanceMethod y_RS_areLinked : Cond) ∈ WALL := wIn 421 (by decide +kernel) (by decide +kernel)
set_option maxRecDepth 100000 in
theorem k_133 : (.selects R_RS y_RS_areLinked y_RS_areLinked : Cond) ∈ WALL := wIn 8 (by decide +kernel) (by decide +kernel)
set_option maxRecDepth 100000 in
theorem k_134 : (.code y_RS_areLinked b_RS_areLinked 3 (some .boolean) : Cond) ∈ WALL := wIn 422 rfl (by decide +kernel)
set_option maxRecDepth 100000 in
theorem k_135 : (.methodLink R_RS 139 y_Gr_firstBegun : Cond) ∈ WALL := wIn 424 (by decide +kernel) (by decide +kernel)
set_option maxRecDepth 100000 in
theorem k_136 : (.instanceMethod y_Gr_firstBegun : Cond) ∈ WALL := wIn 425 (by decide +kernel) (by decide +kernel)
set_option maxRecDepth 100000 in
theorem k_137 : (.selects R_Gr y_Gr_firstBegun y_Gr_firstBegun : Cond) ∈ WALL := wIn 426 (by decide +kernel) (by decide +kernel)
set_option maxRecDepth 100000 in
theorem k_138 : (.code y_Gr_firstBegun b_Gr_firstBegun 5 (some .int) : Cond) ∈ WALL := wIn 427 rfl (by decide +kernel)
set_option maxRecDepth 100000 in
theorem k_139 : (.methodLink R_RS 143 y_Rb_moveTo : Cond) ∈ WALL := wIn 429 (by decide +kernel) (by decide +kernel)
set_option maxRecDepth 100000 in
theorem k_140 : (.instanceMethod y_Rb_moveTo : Cond) ∈ WALL := wIn 430 (by decide +kernel) (by decide +kernel)
set_option maxRecDepth 100000 in
theorem k_141 : (.selects R_Rb y_Rb_moveTo y_Rb_moveTo : Cond) ∈ WALL := wIn 431 (by decide +kernel) (by decide +kernel)
set_option maxRecDepth 100000 in
theorem k_142 : (.code y_Rb_moveTo b_Rb_moveTo 3 none : Cond) ∈ WALL := wIn 432 rfl (by decide +kernel)
set_option maxRecDepth 100000 in
theorem k_143 : (.fieldLink R_RS 146 "ReserveSteps$Robots" "tailPiece" "[I" : Cond) ∈ WALL := wIn 53 (by decide +kernel) (by decide +kernel)
set_option maxRecDepth 100000 in
theorem k_144 : (.methodLink R_RS 153 y_Rb_ringByWaiting : Cond) ∈ WALL := wIn 449 (by decide +kernel) (by decide +kernel)
set_option maxRecDepth 100000 in
theorem k_145 : (.instanceMethod y_Rb_ringByWaiting : Cond) ∈ WALL := wIn 450 (by decide +kernel) (by decide +kernel)
set_option maxRecDepth 100000 in
theorem k_146 : (.selects R_Rb y_Rb_ringByWaiting y_Rb_ringByWaiting : Cond) ∈ WALL := wIn 451 (by decide +kernel) (by decide +kernel)
set_option maxRecDepth 100000 in
theorem k_147 : (.code y_Rb_ringByWaiting b_Rb_ringByWaiting 6 (some .int) : Cond) ∈ WALL := wIn 452 rfl (by decide +kernel)
set_option maxRecDepth 100000 in
theorem k_148 : (.fieldLink R_RS 157 "ReserveSteps$Robots" "waitsFor" "[I" : Cond) ∈ WALL := wIn 55 (by decide +kernel) (by decide +kernel)
set_option maxRecDepth 100000 in
theorem k_149 : (.methodLink R_Gr 56 Lib.Math.max.name : Cond) ∈ WALL := wIn 464 (by decide +kernel) (by decide +kernel)
set_option maxRecDepth 100000 in
theorem k_150 : (.static Lib.Math.max.name : Cond) ∈ WALL := wIn 465 (by decide +kernel) (by decide +kernel)
set_option maxRecDepth 100000 in
theorem k_151 : (.initialized "java/lang/Math" : Cond) ∈ WALL := wIn 32 (by decide +kernel) (by decide +kernel)
set_option maxRecDepth 100000 in
theorem k_152 : (.code Lib.Math.max.name Lib.Math.max.code 2 (some .int) : Cond) ∈ WALL := wIn 466 rfl (by decide +kernel)
set_option maxRecDepth 100000 in
theorem k_153 : (.methodLink R_RS 160 y_Gr_greatestPriority : Cond) ∈ WALL := wIn 460 (by decide +kernel) (by decide +kernel)
set_option maxRecDepth 100000 in
theorem k_154 : (.instanceMethod y_Gr_greatestPriority : Cond) ∈ WALL := wIn 461 (by decide +kernel) (by decide +kernel)
set_option maxRecDepth 100000 in
theorem k_155 : (.selects R_Gr y_Gr_greatestPriority y_Gr_greatestPriority : Cond) ∈ WALL := wIn 462 (by decide +kernel) (by decide +kernel)
set_option maxRecDepth 100000 in
theorem k_156 : (.code y_Gr_greatestPriority b_Gr_greatestPriority 5 (some .int) : Cond) ∈ WALL := wIn 463 rfl (by decide +kernel)
set_option maxRecDepth 100000 in
theorem k_157 : (.methodLink R_RS 165 y_Gr_takeAllFor : Cond) ∈ WALL := wIn 475 (by decide +kernel) (by decide +kernel)
set_option maxRecDepth 100000 in
theorem k_158 : (.instanceMethod y_Gr_takeAllFor : Cond) ∈ WALL := wIn 476 (by decide +kernel) (by decide +kernel)
set_option maxRecDepth 100000 in
theorem k_159 : (.selects R_Gr y_Gr_takeAllFor y_Gr_takeAllFor : Cond) ∈ WALL := wIn 477 (by decide +kernel) (by decide +kernel)
set_option maxRecDepth 100000 in
theorem k_160 : (.code y_Gr_takeAllFor b_Gr_takeAllFor 4 (some .int) : Cond) ∈ WALL := wIn 478 rfl (by decide +kernel)
set_option maxRecDepth 100000 in
theorem k_161 : (.methodLink R_RS 173 y_Gr_freeAllOf : Cond) ∈ WALL := wIn 487 (by decide +kernel) (by decide +kernel)
set_option maxRecDepth 100000 in
theorem k_162 : (.instanceMethod y_Gr_freeAllOf : Cond) ∈ WALL := wIn 488 (by decide +kernel) (by decide +kernel)
set_option maxRecDepth 100000 in
theorem k_163 : (.selects R_Gr y_Gr_freeAllOf y_Gr_freeAllOf : Cond) ∈ WALL := wIn 489 (by decide +kernel) (by decide +kernel)
set_option maxRecDepth 100000 in
theorem k_164 : (.code y_Gr_freeAllOf b_Gr_freeAllOf 4 (some .int) : Cond) ∈ WALL := wIn 490 rfl (by decide +kernel)
set_option maxRecDepth 100000 in
theorem k_165 : (.methodLink R_RS 181 y_Gr_endAllBy : Cond) ∈ WALL := wIn 506 (by decide +kernel) (by decide +kernel)
set_option maxRecDepth 100000 in
theorem k_166 : (.instanceMethod y_Gr_endAllBy : Cond) ∈ WALL := wIn 507 (by decide +kernel) (by decide +kernel)
set_option maxRecDepth 100000 in
theorem k_167 : (.selects R_Gr y_Gr_endAllBy y_Gr_endAllBy : Cond) ∈ WALL := wIn 508 (by decide +kernel) (by decide +kernel)
set_option maxRecDepth 100000 in
theorem k_168 : (.code y_Gr_endAllBy b_Gr_endAllBy 4 (some .int) : Cond) ∈ WALL := wIn 509 rfl (by decide +kernel)
set_option maxRecDepth 100000 in
theorem k_169 : (.methodLink R_RS 186 y_Gr_robotGranted : Cond) ∈ WALL := wIn 518 (by decide +kernel) (by decide +kernel)
set_option maxRecDepth 100000 in
theorem k_170 : (.instanceMethod y_Gr_robotGranted : Cond) ∈ WALL := wIn 519 (by decide +kernel) (by decide +kernel)
set_option maxRecDepth 100000 in
theorem k_171 : (.selects R_Gr y_Gr_robotGranted y_Gr_robotGranted : Cond) ∈ WALL := wIn 520 (by decide +kernel) (by decide +kernel)
set_option maxRecDepth 100000 in
theorem k_172 : (.code y_Gr_robotGranted b_Gr_robotGranted 4 (some .int) : Cond) ∈ WALL := wIn 521 rfl (by decide +kernel)
set_option maxRecDepth 100000 in
theorem k_173 : (.fieldLink R_RS 191 "ReserveSteps$Grants" "piece" "[I" : Cond) ∈ WALL := wIn 88 (by decide +kernel) (by decide +kernel)
set_option maxRecDepth 100000 in
theorem k_174 : (.fieldLink R_RS 192 "ReserveSteps$Grants" "from" "[I" : Cond) ∈ WALL := wIn 90 (by decide +kernel) (by decide +kernel)
set_option maxRecDepth 100000 in
theorem k_175 : (.fieldLink R_RS 195 "ReserveSteps$Grants" "to" "[I" : Cond) ∈ WALL := wIn 92 (by decide +kernel) (by decide +kernel)
set_option maxRecDepth 100000 in
theorem k_176 : (.methodLink R_Gr 62 y_Gr_areMeeting : Cond) ∈ WALL := wIn 151 (by decide +kernel) (by decide +kernel)
set_option maxRecDepth 100000 in
theorem k_177 : (.methodLink R_RS 203 y_Gr_allLive : Cond) ∈ WALL := wIn 135 (by decide +kernel) (by decide +kernel)
set_option maxRecDepth 100000 in
theorem k_178 : (.instanceMethod y_Gr_allLive : Cond) ∈ WALL := wIn 136 (by decide +kernel) (by decide +kernel)
set_option maxRecDepth 100000 in
theorem k_179 : (.selects R_Gr y_Gr_allLive y_Gr_allLive : Cond) ∈ WALL := wIn 137 (by decide +kernel) (by decide +kernel)
set_option maxRecDepth 100000 in
theorem k_180 : (.code y_Gr_allLive b_Gr_allLive 3 (some .int) : Cond) ∈ WALL := wIn 138 rfl (by decide +kernel)
set_option maxRecDepth 100000 in
theorem k_181 : (.methodLink R_RS 207 y_Rb_allWaiting : Cond) ∈ WALL := wIn 143 (by decide +kernel) (by decide +kernel)
set_option maxRecDepth 100000 in
theorem k_182 : (.instanceMethod y_Rb_allWaiting : Cond) ∈ WALL := wIn 144 (by decide +kernel) (by decide +kernel)
set_option maxRecDepth 100000 in
theorem k_183 : (.selects R_Rb y_Rb_allWaiting y_Rb_allWaiting : Cond) ∈ WALL := wIn 145 (by decide +kernel) (by decide +kernel)
set_option maxRecDepth 100000 in
theorem k_184 : (.code y_Rb_allWaiting b_Rb_allWaiting 3 (some .int) : Cond) ∈ WALL := wIn 146 rfl (by decide +kernel)
set_option maxRecDepth 100000 in
theorem k_185 : (.methodLink R_RS 210 y_Gr_livePairsMeeting : Cond) ∈ WALL := wIn 147 (by decide +kernel) (by decide +kernel)
set_option maxRecDepth 100000 in
theorem k_186 : (.instanceMethod y_Gr_livePairsMeeting : Cond) ∈ WALL := wIn 148 (by decide +kernel) (by decide +kernel)
set_option maxRecDepth 100000 in
theorem k_187 : (.selects R_Gr y_Gr_livePairsMeeting y_Gr_livePairsMeeting : Cond) ∈ WALL := wIn 149 (by decide +kernel) (by decide +kernel)
set_option maxRecDepth 100000 in
theorem k_188 : (.code y_Gr_livePairsMeeting b_Gr_livePairsMeeting 4 (some .int) : Cond) ∈ WALL := wIn 150 rfl (by decide +kernel)
set_option maxRecDepth 100000 in
theorem k_189 : (.fieldLink R_Mo 53 "ReserveStepsModel" "code" "I" : Cond) ∈ WALL := wIn 544 (by decide +kernel) (by decide +kernel)
set_option maxRecDepth 100000 in
theorem k_190 : (.fieldLink R_Mo 57 "ReserveStepsModel" "pieces" "I" : Cond) ∈ WALL := wIn 546 (by decide +kernel) (by decide +kernel)
set_option maxRecDepth 100000 in
theorem k_191 : (.methodLink R_Mo 60 y_Mo_in : Cond) ∈ WALL := wIn 618 (by decide +kernel) (by decide +kernel)
set_option maxRecDepth 100000 in
theorem k_192 : (.static y_Mo_in : Cond) ∈ WALL := wIn 619 (by decide +kernel) (by decide +kernel)
set_option maxRecDepth 100000 in
theorem k_193 : (.initialized R_Mo : Cond) ∈ WALL := wIn 23 (by decide +kernel) (by decide +kernel)
set_option maxRecDepth 100000 in
theorem k_194 : (.code y_Mo_in b_Mo_in 3 (some .boolean) : Cond) ∈ WALL := wIn 620 rfl (by decide +kernel)
set_option maxRecDepth 100000 in
theorem k_195 : (.fieldLink R_Mo 64 "ReserveStepsModel" "robots" "I" : Cond) ∈ WALL := wIn 549 (by decide +kernel) (by decide +kernel)
set_option maxRecDepth 100000 in
theorem k_196 : (.fieldLink R_Mo 67 "ReserveStepsModel" "grants" "I" : Cond) ∈ WALL := wIn 556 (by decide +kernel) (by decide +kernel)
set_option maxRecDepth 100000 in
theorem k_197 : (.methodLink R_Mo 70 y_Mo_isPiece : Cond) ∈ WALL := wIn 614 (by decide +kernel) (by decide +kernel)
set_option maxRecDepth 100000 in
theorem k_198 : (.instanceMethod y_Mo_isPiece : Cond) ∈ WALL := wIn 616 (by decide +kernel) (by decide +kernel)
set_option maxRecDepth 100000 in
theorem k_199 : (.selects R_Mo y_Mo_isPiece y_Mo_isPiece : Cond) ∈ WALL := wIn 9 (by decide +kernel) (by decide +kernel)
set_option maxRecDepth 100000 in
theorem k_200 : (.code y_Mo_isPiece b_Mo_isPiece 2 (some .boolean) : Cond) ∈ WALL := wIn 617 rfl (by decide +kernel)
set_option maxRecDepth 100000 in
theorem k_201 : (.fieldLink R_Mo 13 "ReserveStepsModel" "linked" "[Z" : Cond) ∈ WALL := wIn 548 (by decide +kernel) (by decide +kernel)
set_option maxRecDepth 100000 in
theorem k_202 : (.fieldLink R_Mo 16 "ReserveStepsModel" "at" "[I" : Cond) ∈ WALL := wIn 550 (by decide +kernel) (by decide +kernel)
set_option maxRecDepth 100000 in
theorem k_203 : (.fieldLink R_Mo 23 "ReserveStepsModel" "tail" "[I" : Cond) ∈ WALL := wIn 552 (by decide +kernel) (by decide +kernel)
set_option maxRecDepth 100000 in
theorem k_204 : (.methodLink R_Mo 74 y_Mo_standing : Cond) ∈ WALL := wIn 625 (by decide +kernel) (by decide +kernel)
set_option maxRecDepth 100000 in
theorem k_205 : (.instanceMethod y_Mo_standing : Cond) ∈ WALL := wIn 627 (by decide +kernel) (by decide +kernel)
set_option maxRecDepth 100000 in
theorem k_206 : (.selects R_Mo y_Mo_standing y_Mo_standing : Cond) ∈ WALL := wIn 10 (by decide +kernel) (by decide +kernel)
set_option maxRecDepth 100000 in
theorem k_207 : (.code y_Mo_standing b_Mo_standing 3 (some .int) : Cond) ∈ WALL := wIn 628 rfl (by decide +kernel)
set_option maxRecDepth 100000 in
theorem k_208 : (.fieldLink R_Mo 7 "ReserveStepsModel" "closed" "[Z" : Cond) ∈ WALL := wIn 547 (by decide +kernel) (by decide +kernel)
set_option maxRecDepth 100000 in
theorem k_209 : (.fieldLink R_Mo 20 "ReserveStepsModel" "long0" "[Z" : Cond) ∈ WALL := wIn 551 (by decide +kernel) (by decide +kernel)
set_option maxRecDepth 100000 in
theorem k_210 : (.fieldLink R_Mo 26 "ReserveStepsModel" "waits" "[I" : Cond) ∈ WALL := wIn 553 (by decide +kernel) (by decide +kernel)
set_option maxRecDepth 100000 in
theorem k_211 : (.fieldLink R_Mo 29 "ReserveStepsModel" "latest" "[I" : Cond) ∈ WALL := wIn 554 (by decide +kernel) (by decide +kernel)
set_option maxRecDepth 100000 in
theorem k_212 : (.fieldLink R_Mo 78 "ReserveStepsModel" "now" "I" : Cond) ∈ WALL := wIn 545 (by decide +kernel) (by decide +kernel)
set_option maxRecDepth 100000 in
theorem k_213 : (.fieldLink R_Mo 38 "ReserveStepsModel" "where" "[I" : Cond) ∈ WALL := wIn 558 (by decide +kernel) (by decide +kernel)
set_option maxRecDepth 100000 in
theorem k_214 : (.fieldLink R_Mo 41 "ReserveStepsModel" "from" "[I" : Cond) ∈ WALL := wIn 559 (by decide +kernel) (by decide +kernel)
set_option maxRecDepth 100000 in
theorem k_215 : (.fieldLink R_Mo 44 "ReserveStepsModel" "to" "[I" : Cond) ∈ WALL := wIn 560 (by decide +kernel) (by decide +kernel)
set_option maxRecDepth 100000 in
theorem k_216 : (.fieldLink R_Mo 50 "ReserveStepsModel" "state" "[I" : Cond) ∈ WALL := wIn 562 (by decide +kernel) (by decide +kernel)
set_option maxRecDepth 100000 in
theorem k_217 : (.fieldLink R_Mo 35 "ReserveStepsModel" "owner" "[I" : Cond) ∈ WALL := wIn 557 (by decide +kernel) (by decide +kernel)
set_option maxRecDepth 100000 in
theorem k_218 : (.methodLink R_Mo 94 y_Mo_meet : Cond) ∈ WALL := wIn 649 (by decide +kernel) (by decide +kernel)
set_option maxRecDepth 100000 in
theorem k_219 : (.instanceMethod y_Mo_meet : Cond) ∈ WALL := wIn 651 (by decide +kernel) (by decide +kernel)
set_option maxRecDepth 100000 in
theorem k_220 : (.selects R_Mo y_Mo_meet y_Mo_meet : Cond) ∈ WALL := wIn 15 (by decide +kernel) (by decide +kernel)
set_option maxRecDepth 100000 in
theorem k_221 : (.code y_Mo_meet b_Mo_meet 3 (some .boolean) : Cond) ∈ WALL := wIn 652 rfl (by decide +kernel)
set_option maxRecDepth 100000 in
theorem k_222 : (.methodLink R_Mo 81 y_Mo_isRobot : Cond) ∈ WALL := wIn 633 (by decide +kernel) (by decide +kernel)
set_option maxRecDepth 100000 in
theorem k_223 : (.instanceMethod y_Mo_isRobot : Cond) ∈ WALL := wIn 635 (by decide +kernel) (by decide +kernel)
set_option maxRecDepth 100000 in
theorem k_224 : (.selects R_Mo y_Mo_isRobot y_Mo_isRobot : Cond) ∈ WALL := wIn 11 (by decide +kernel) (by decide +kernel)
set_option maxRecDepth 100000 in
theorem k_225 : (.code y_Mo_isRobot b_Mo_isRobot 2 (some .boolean) : Cond) ∈ WALL := wIn 636 rfl (by decide +kernel)
set_option maxRecDepth 100000 in
theorem k_226 : (.fieldLink R_Mo 32 "ReserveStepsModel" "halted" "[Z" : Cond) ∈ WALL := wIn 555 (by decide +kernel) (by decide +kernel)
set_option maxRecDepth 100000 in
theorem k_227 : (.methodLink R_Mo 84 y_Mo_isSilent : Cond) ∈ WALL := wIn 637 (by decide +kernel) (by decide +kernel)
set_option maxRecDepth 100000 in
theorem k_228 : (.instanceMethod y_Mo_isSilent : Cond) ∈ WALL := wIn 639 (by decide +kernel) (by decide +kernel)
set_option maxRecDepth 100000 in
theorem k_229 : (.selects R_Mo y_Mo_isSilent y_Mo_isSilent : Cond) ∈ WALL := wIn 12 (by decide +kernel) (by decide +kernel)
set_option maxRecDepth 100000 in
theorem k_230 : (.code y_Mo_isSilent b_Mo_isSilent 2 (some .boolean) : Cond) ∈ WALL := wIn 640 rfl (by decide +kernel)
set_option maxRecDepth 100000 in
theorem k_231 : (.methodLink R_Mo 87 y_Mo_isTaken : Cond) ∈ WALL := wIn 641 (by decide +kernel) (by decide +kernel)
set_option maxRecDepth 100000 in
theorem k_232 : (.instanceMethod y_Mo_isTaken : Cond) ∈ WALL := wIn 643 (by decide +kernel) (by decide +kernel)
set_option maxRecDepth 100000 in
theorem k_233 : (.selects R_Mo y_Mo_isTaken y_Mo_isTaken : Cond) ∈ WALL := wIn 13 (by decide +kernel) (by decide +kernel)
set_option maxRecDepth 100000 in
theorem k_234 : (.code y_Mo_isTaken b_Mo_isTaken 3 (some .boolean) : Cond) ∈ WALL := wIn 644 rfl (by decide +kernel)
set_option maxRecDepth 100000 in
theorem k_235 : (.fieldLink R_Mo 47 "ReserveStepsModel" "rank" "[I" : Cond) ∈ WALL := wIn 561 (by decide +kernel) (by decide +kernel)
set_option maxRecDepth 100000 in
theorem k_236 : (.methodLink R_Mo 91 y_Mo_isRival : Cond) ∈ WALL := wIn 645 (by decide +kernel) (by decide +kernel)
set_option maxRecDepth 100000 in
theorem k_237 : (.instanceMethod y_Mo_isRival : Cond) ∈ WALL := wIn 647 (by decide +kernel) (by decide +kernel)
set_option maxRecDepth 100000 in
theorem k_238 : (.selects R_Mo y_Mo_isRival y_Mo_isRival : Cond) ∈ WALL := wIn 14 (by decide +kernel) (by decide +kernel)
set_option maxRecDepth 100000 in
theorem k_239 : (.code y_Mo_isRival b_Mo_isRival 3 (some .boolean) : Cond) ∈ WALL := wIn 648 rfl (by decide +kernel)
set_option maxRecDepth 100000 in
theorem k_240 : (.methodLink R_Mo 97 y_Mo_isGrant : Cond) ∈ WALL := wIn 657 (by decide +kernel) (by decide +kernel)
set_option maxRecDepth 100000 in
theorem k_241 : (.instanceMethod y_Mo_isGrant : Cond) ∈ WALL := wIn 659 (by decide +kernel) (by decide +kernel)
set_option maxRecDepth 100000 in
theorem k_242 : (.selects R_Mo y_Mo_isGrant y_Mo_isGrant : Cond) ∈ WALL := wIn 16 (by decide +kernel) (by decide +kernel)
set_option maxRecDepth 100000 in
theorem k_243 : (.code y_Mo_isGrant b_Mo_isGrant 2 (some .boolean) : Cond) ∈ WALL := wIn 660 rfl (by decide +kernel)
set_option maxRecDepth 100000 in
theorem k_244 : (.methodLink R_Mo 100 y_Mo_liveOf : Cond) ∈ WALL := wIn 661 (by decide +kernel) (by decide +kernel)
set_option maxRecDepth 100000 in
theorem k_245 : (.instanceMethod y_Mo_liveOf : Cond) ∈ WALL := wIn 663 (by decide +kernel) (by decide +kernel)
set_option maxRecDepth 100000 in
theorem k_246 : (.selects R_Mo y_Mo_liveOf y_Mo_liveOf : Cond) ∈ WALL := wIn 17 (by decide +kernel) (by decide +kernel)
set_option maxRecDepth 100000 in
theorem k_247 : (.code y_Mo_liveOf b_Mo_liveOf 4 (some .int) : Cond) ∈ WALL := wIn 664 rfl (by decide +kernel)
set_option maxRecDepth 100000 in
theorem k_248 : (.methodLink R_Mo 103 y_Mo_bestOf : Cond) ∈ WALL := wIn 685 (by decide +kernel) (by decide +kernel)
set_option maxRecDepth 100000 in
theorem k_249 : (.instanceMethod y_Mo_bestOf : Cond) ∈ WALL := wIn 687 (by decide +kernel) (by decide +kernel)
set_option maxRecDepth 100000 in
theorem k_250 : (.selects R_Mo y_Mo_bestOf y_Mo_bestOf : Cond) ∈ WALL := wIn 18 (by decide +kernel) (by decide +kernel)
set_option maxRecDepth 100000 in
theorem k_251 : (.code y_Mo_bestOf b_Mo_bestOf 5 (some .int) : Cond) ∈ WALL := wIn 688 rfl (by decide +kernel)
set_option maxRecDepth 100000 in
theorem k_252 : (.methodLink R_Rb 3 Lib.objectInit : Cond) ∈ WALL := wIn 46 (by decide +kernel) (by decide +kernel)
set_option maxRecDepth 100000 in
theorem k_253 : (.instanceMethod Lib.objectInit : Cond) ∈ WALL := wIn 39 (by decide +kernel) (by decide +kernel)
set_option maxRecDepth 100000 in
theorem k_254 : (.code Lib.objectInit ⟨#[0xb1]⟩ 1 none : Cond) ∈ WALL := wIn 40 rfl (by decide +kernel)
set_option maxRecDepth 100000 in
theorem k_255 : (.arrayClass .int : Cond) ∈ WALL := wIn 75 (by decide +kernel) (by decide +kernel)
set_option maxRecDepth 100000 in
theorem k_256 : (.arrayClass .boolean : Cond) ∈ WALL := wIn 76 (by decide +kernel) (by decide +kernel)
set_option maxRecDepth 100000 in
theorem k_257 : (.methodLink R_Gr 3 Lib.objectInit : Cond) ∈ WALL := wIn 82 (by decide +kernel) (by decide +kernel)
set_option maxRecDepth 100000 in
theorem k_258 : (.methodLink R_Mo 1 Lib.objectInit : Cond) ∈ WALL := wIn 543 (by decide +kernel) (by decide +kernel)
set_option maxRecDepth 100000 in
theorem k_259 : (.methodLink R_RS 1 Lib.objectInit : Cond) ∈ WALL := wIn 38 (by decide +kernel) (by decide +kernel)
set_option maxRecDepth 100000 in
theorem k_260 : (.classLink R_RS 24 R_Rb : Cond) ∈ WALL := wIn 41 (by decide +kernel) (by decide +kernel)
set_option maxRecDepth 100000 in
theorem k_261 : (.instantiable R_Rb 7 : Cond) ∈ WALL := wIn 42 (by decide +kernel) (by decide +kernel)
set_option maxRecDepth 100000 in
theorem k_262 : (.code y_Rb_init b_Rb_init 1 none : Cond) ∈ WALL := wIn 45 rfl (by decide +kernel)
set_option maxRecDepth 100000 in
theorem k_263 : (.instanceMethod y_Rb_init : Cond) ∈ WALL := wIn 44 (by decide +kernel) (by decide +kernel)
set_option maxRecDepth 100000 in
theorem k_264 : (.classLink R_RS 31 R_Gr : Cond) ∈ WALL := wIn 77 (by decide +kernel) (by decide +kernel)
set_option maxRecDepth 100000 in
theorem k_265 : (.instantiable R_Gr 7 : Cond) ∈ WALL := wIn 78 (by decide +kernel) (by decide +kernel)
set_option maxRecDepth 100000 in
theorem k_266 : (.code y_Gr_init b_Gr_init 1 none : Cond) ∈ WALL := wIn 81 rfl (by decide +kernel)
set_option maxRecDepth 100000 in
theorem k_267 : (.instanceMethod y_Gr_init : Cond) ∈ WALL := wIn 80 (by decide +kernel) (by decide +kernel)
set_option maxRecDepth 100000 in
theorem k_268 : (.constant "java/lang/Integer" 265 1431655765 : Cond) ∈ WALL := wIn 284 (by decide +kernel) (by decide +kernel)
set_option maxRecDepth 100000 in
theorem k_269 : (.constant "java/lang/Integer" 266 858993459 : Cond) ∈ WALL := wIn 285 (by decide +kernel) (by decide +kernel)
set_option maxRecDepth 100000 in
theorem k_270 : (.constant "java/lang/Integer" 267 252645135 : Cond) ∈ WALL := wIn 286 (by decide +kernel) (by decide +kernel)
set_option maxRecDepth 100000 in
theorem k_271 : (.methodLink R_law 7 y_RS_piece : Cond) ∈ WALL := wIn 163 (by decide +kernel) (by decide +kernel)
set_option maxRecDepth 100000 in
theorem k_272 : (.instanceMethod y_RS_piece : Cond) ∈ WALL := wIn 164 (by decide +kernel) (by decide +kernel)
set_option maxRecDepth 100000 in
theorem k_273 : (.selects R_RS y_RS_piece y_RS_piece : Cond) ∈ WALL := wIn 165 (by decide +kernel) (by decide +kernel)
set_option maxRecDepth 100000 in
theorem k_274 : (.code y_RS_piece b_RS_piece 1 (some .int) : Cond) ∈ WALL := wIn 166 rfl (by decide +kernel)
set_option maxRecDepth 100000 in
theorem k_275 : (.classLink R_law 13 "java/lang/UnsupportedOperationException" : Cond) ∈ WALL := wIn 162 (by decide +kernel) (by decide +kernel)
set_option maxRecDepth 100000 in
theorem k_276 : (.methodLink R_law 15 y_RS_link : Cond) ∈ WALL := wIn 241 (by decide +kernel) (by decide +kernel)
set_option maxRecDepth 100000 in
theorem k_277 : (.instanceMethod y_RS_link : Cond) ∈ WALL := wIn 242 (by decide +kernel) (by decide +kernel)
set_option maxRecDepth 100000 in
theorem k_278 : (.selects R_RS y_RS_link y_RS_link : Cond) ∈ WALL := wIn 243 (by decide +kernel) (by decide +kernel)
set_option maxRecDepth 100000 in
theorem k_279 : (.code y_RS_link b_RS_link 4 (some .int) : Cond) ∈ WALL := wIn 244 rfl (by decide +kernel)
set_option maxRecDepth 100000 in
theorem k_280 : (.classLink R_law 19 "java/util/NoSuchElementException" : Cond) ∈ WALL := wIn 239 (by decide +kernel) (by decide +kernel)
set_option maxRecDepth 100000 in
theorem k_281 : (.classLink R_law 21 "java/lang/IllegalArgumentException" : Cond) ∈ WALL := wIn 240 (by decide +kernel) (by decide +kernel)
set_option maxRecDepth 100000 in
theorem k_282 : (.methodLink R_law 23 y_RS_robot : Cond) ∈ WALL := wIn 291 (by decide +kernel) (by decide +kernel)
set_option maxRecDepth 100000 in
theorem k_283 : (.instanceMethod y_RS_robot : Cond) ∈ WALL := wIn 292 (by decide +kernel) (by decide +kernel)
set_option maxRecDepth 100000 in
theorem k_284 : (.selects R_RS y_RS_robot y_RS_robot : Cond) ∈ WALL := wIn 293 (by decide +kernel) (by decide +kernel)
set_option maxRecDepth 100000 in
theorem k_285 : (.code y_RS_robot b_RS_robot 3 (some .int) : Cond) ∈ WALL := wIn 294 rfl (by decide +kernel)
set_option maxRecDepth 100000 in
theorem k_286 : (.classLink R_law 27 "java/lang/IllegalStateException" : Cond) ∈ WALL := wIn 290 (by decide +kernel) (by decide +kernel)
set_option maxRecDepth 100000 in
theorem k_287 : (.methodLink R_law 29 y_RS_ask : Cond) ∈ WALL := wIn 323 (by decide +kernel) (by decide +kernel)
set_option maxRecDepth 100000 in
theorem k_288 : (.instanceMethod y_RS_ask : Cond) ∈ WALL := wIn 324 (by decide +kernel) (by decide +kernel)
set_option maxRecDepth 100000 in
theorem k_289 : (.selects R_RS y_RS_ask y_RS_ask : Cond) ∈ WALL := wIn 325 (by decide +kernel) (by decide +kernel)
set_option maxRecDepth 100000 in
theorem k_290 : (.code y_RS_ask b_RS_ask 7 (some .int) : Cond) ∈ WALL := wIn 326 rfl (by decide +kernel)
set_option maxRecDepth 100000 in
theorem k_291 : (.methodLink R_law 33 y_RS_free : Cond) ∈ WALL := wIn 385 (by decide +kernel) (by decide +kernel)
set_option maxRecDepth 100000 in
theorem k_292 : (.instanceMethod y_RS_free : Cond) ∈ WALL := wIn 386 (by decide +kernel) (by decide +kernel)
set_option maxRecDepth 100000 in
theorem k_293 : (.selects R_RS y_RS_free y_RS_free : Cond) ∈ WALL := wIn 387 (by decide +kernel) (by decide +kernel)
set_option maxRecDepth 100000 in
theorem k_294 : (.code y_RS_free b_RS_free 2 (some .int) : Cond) ∈ WALL := wIn 388 rfl (by decide +kernel)
set_option maxRecDepth 100000 in
theorem k_295 : (.methodLink R_law 37 y_RS_meets : Cond) ∈ WALL := wIn 407 (by decide +kernel) (by decide +kernel)
set_option maxRecDepth 100000 in
theorem k_296 : (.instanceMethod y_RS_meets : Cond) ∈ WALL := wIn 408 (by decide +kernel) (by decide +kernel)
set_option maxRecDepth 100000 in
theorem k_297 : (.selects R_RS y_RS_meets y_RS_meets : Cond) ∈ WALL := wIn 409 (by decide +kernel) (by decide +kernel)
set_option maxRecDepth 100000 in
theorem k_298 : (.code y_RS_meets b_RS_meets 3 (some .boolean) : Cond) ∈ WALL := wIn 410 rfl (by decide +kernel)
set_option maxRecDepth 100000 in
theorem k_299 : (.methodLink R_law 41 y_RS_step : Cond) ∈ WALL := wIn 415 (by decide +kernel) (by decide +kernel)
set_option maxRecDepth 100000 in
theorem k_300 : (.instanceMethod y_RS_step : Cond) ∈ WALL := wIn 416 (by decide +kernel) (by decide +kernel)
set_option maxRecDepth 100000 in
theorem k_301 : (.selects R_RS y_RS_step y_RS_step : Cond) ∈ WALL := wIn 417 (by decide +kernel) (by decide +kernel)
set_option maxRecDepth 100000 in
theorem k_302 : (.code y_RS_step b_RS_step 4 (some .int) : Cond) ∈ WALL := wIn 418 rfl (by decide +kernel)
set_option maxRecDepth 100000 in
theorem k_303 : (.methodLink R_law 45 y_RS_pull : Cond) ∈ WALL := wIn 436 (by decide +kernel) (by decide +kernel)
set_option maxRecDepth 100000 in
theorem k_304 : (.instanceMethod y_RS_pull : Cond) ∈ WALL := wIn 437 (by decide +kernel) (by decide +kernel)
set_option maxRecDepth 100000 in
theorem k_305 : (.selects R_RS y_RS_pull y_RS_pull : Cond) ∈ WALL := wIn 438 (by decide +kernel) (by decide +kernel)
set_option maxRecDepth 100000 in
theorem k_306 : (.code y_RS_pull b_RS_pull 3 (some .int) : Cond) ∈ WALL := wIn 439 rfl (by decide +kernel)
set_option maxRecDepth 100000 in
theorem k_307 : (.methodLink R_law 48 y_RS_await : Cond) ∈ WALL := wIn 444 (by decide +kernel) (by decide +kernel)
set_option maxRecDepth 100000 in
theorem k_308 : (.instanceMethod y_RS_await : Cond) ∈ WALL := wIn 445 (by decide +kernel) (by decide +kernel)
set_option maxRecDepth 100000 in
theorem k_309 : (.selects R_RS y_RS_await y_RS_await : Cond) ∈ WALL := wIn 446 (by decide +kernel) (by decide +kernel)
set_option maxRecDepth 100000 in
theorem k_310 : (.code y_RS_await b_RS_await 4 (some .int) : Cond) ∈ WALL := wIn 447 rfl (by decide +kernel)
set_option maxRecDepth 100000 in
theorem k_311 : (.methodLink R_law 51 y_RS_next : Cond) ∈ WALL := wIn 456 (by decide +kernel) (by decide +kernel)
set_option maxRecDepth 100000 in
theorem k_312 : (.instanceMethod y_RS_next : Cond) ∈ WALL := wIn 457 (by decide +kernel) (by decide +kernel)
set_option maxRecDepth 100000 in
theorem k_313 : (.selects R_RS y_RS_next y_RS_next : Cond) ∈ WALL := wIn 458 (by decide +kernel) (by decide +kernel)
set_option maxRecDepth 100000 in
theorem k_314 : (.code y_RS_next b_RS_next 6 (some .int) : Cond) ∈ WALL := wIn 459 rfl (by decide +kernel)
set_option maxRecDepth 100000 in
theorem k_315 : (.methodLink R_law 54 y_RS_zone : Cond) ∈ WALL := wIn 470 (by decide +kernel) (by decide +kernel)
set_option maxRecDepth 100000 in
theorem k_316 : (.instanceMethod y_RS_zone : Cond) ∈ WALL := wIn 471 (by decide +kernel) (by decide +kernel)
set_option maxRecDepth 100000 in
theorem k_317 : (.selects R_RS y_RS_zone y_RS_zone : Cond) ∈ WALL := wIn 472 (by decide +kernel) (by decide +kernel)
set_option maxRecDepth 100000 in
theorem k_318 : (.code y_RS_zone b_RS_zone 3 (some .int) : Cond) ∈ WALL := wIn 473 rfl (by decide +kernel)
set_option maxRecDepth 100000 in
theorem k_319 : (.methodLink R_law 57 y_RS_halt : Cond) ∈ WALL := wIn 482 (by decide +kernel) (by decide +kernel)
set_option maxRecDepth 100000 in
theorem k_320 : (.instanceMethod y_RS_halt : Cond) ∈ WALL := wIn 483 (by decide +kernel) (by decide +kernel)
set_option maxRecDepth 100000 in
theorem k_321 : (.selects R_RS y_RS_halt y_RS_halt : Cond) ∈ WALL := wIn 484 (by decide +kernel) (by decide +kernel)
set_option maxRecDepth 100000 in
theorem k_322 : (.code y_RS_halt b_RS_halt 3 (some .int) : Cond) ∈ WALL := wIn 485 rfl (by decide +kernel)
set_option maxRecDepth 100000 in
theorem k_323 : (.methodLink R_law 60 y_RS_report : Cond) ∈ WALL := wIn 494 (by decide +kernel) (by decide +kernel)
set_option maxRecDepth 100000 in
theorem k_324 : (.instanceMethod y_RS_report : Cond) ∈ WALL := wIn 495 (by decide +kernel) (by decide +kernel)
set_option maxRecDepth 100000 in
theorem k_325 : (.selects R_RS y_RS_report y_RS_report : Cond) ∈ WALL := wIn 496 (by decide +kernel) (by decide +kernel)
set_option maxRecDepth 100000 in
theorem k_326 : (.code y_RS_report b_RS_report 3 (some .boolean) : Cond) ∈ WALL := wIn 497 rfl (by decide +kernel)
set_option maxRecDepth 100000 in
theorem k_327 : (.methodLink R_law 64 y_RS_pass : Cond) ∈ WALL := wIn 501 (by decide +kernel) (by decide +kernel)
set_option maxRecDepth 100000 in
theorem k_328 : (.instanceMethod y_RS_pass : Cond) ∈ WALL := wIn 502 (by decide +kernel) (by decide +kernel)
set_option maxRecDepth 100000 in
theorem k_329 : (.selects R_RS y_RS_pass y_RS_pass : Cond) ∈ WALL := wIn 503 (by decide +kernel) (by decide +kernel)
set_option maxRecDepth 100000 in
theorem k_330 : (.code y_RS_pass b_RS_pass 2 (some .int) : Cond) ∈ WALL := wIn 504 rfl (by decide +kernel)
set_option maxRecDepth 100000 in
theorem k_331 : (.methodLink R_law 67 y_RS_holder : Cond) ∈ WALL := wIn 513 (by decide +kernel) (by decide +kernel)
set_option maxRecDepth 100000 in
theorem k_332 : (.instanceMethod y_RS_holder : Cond) ∈ WALL := wIn 514 (by decide +kernel) (by decide +kernel)
set_option maxRecDepth 100000 in
theorem k_333 : (.selects R_RS y_RS_holder y_RS_holder : Cond) ∈ WALL := wIn 515 (by decide +kernel) (by decide +kernel)
set_option maxRecDepth 100000 in
theorem k_334 : (.code y_RS_holder b_RS_holder 4 (some .int) : Cond) ∈ WALL := wIn 516 rfl (by decide +kernel)
set_option maxRecDepth 100000 in
theorem k_335 : (.methodLink R_law 70 y_RS_told : Cond) ∈ WALL := wIn 525 (by decide +kernel) (by decide +kernel)
set_option maxRecDepth 100000 in
theorem k_336 : (.instanceMethod y_RS_told : Cond) ∈ WALL := wIn 526 (by decide +kernel) (by decide +kernel)
set_option maxRecDepth 100000 in
theorem k_337 : (.selects R_RS y_RS_told y_RS_told : Cond) ∈ WALL := wIn 527 (by decide +kernel) (by decide +kernel)
set_option maxRecDepth 100000 in
theorem k_338 : (.code y_RS_told b_RS_told 3 (some .int) : Cond) ∈ WALL := wIn 528 rfl (by decide +kernel)
set_option maxRecDepth 100000 in
theorem k_339 : (.methodLink R_law 73 y_RS_grant : Cond) ∈ WALL := wIn 533 (by decide +kernel) (by decide +kernel)
set_option maxRecDepth 100000 in
theorem k_340 : (.instanceMethod y_RS_grant : Cond) ∈ WALL := wIn 534 (by decide +kernel) (by decide +kernel)
set_option maxRecDepth 100000 in
theorem k_341 : (.selects R_RS y_RS_grant y_RS_grant : Cond) ∈ WALL := wIn 535 (by decide +kernel) (by decide +kernel)
set_option maxRecDepth 100000 in
theorem k_342 : (.code y_RS_grant b_RS_grant 3 (some .int) : Cond) ∈ WALL := wIn 536 rfl (by decide +kernel)
set_option maxRecDepth 100000 in
theorem k_343 : (.methodLink R_law 80 y_Lw_piece : Cond) ∈ WALL := wIn 159 (by decide +kernel) (by decide +kernel)
set_option maxRecDepth 100000 in
theorem k_344 : (.static y_Lw_piece : Cond) ∈ WALL := wIn 160 (by decide +kernel) (by decide +kernel)
set_option maxRecDepth 100000 in
theorem k_345 : (.initialized R_law : Cond) ∈ WALL := wIn 19 (by decide +kernel) (by decide +kernel)
set_option maxRecDepth 100000 in
theorem k_346 : (.codeWith y_Lw_piece b_Lw_piece 3 (some .int) [(0, 8, 11, 13)] : Cond) ∈ WALL := wIn 161 rfl (by decide +kernel)
set_option maxRecDepth 100000 in
theorem k_347 : (.methodLink R_law 85 y_Mo_piece : Cond) ∈ WALL := wIn 606 (by decide +kernel) (by decide +kernel)
set_option maxRecDepth 100000 in
theorem k_348 : (.instanceMethod y_Mo_piece : Cond) ∈ WALL := wIn 607 (by decide +kernel) (by decide +kernel)
set_option maxRecDepth 100000 in
theorem k_349 : (.selects R_Mo y_Mo_piece y_Mo_piece : Cond) ∈ WALL := wIn 608 (by decide +kernel) (by decide +kernel)
set_option maxRecDepth 100000 in
theorem k_350 : (.code y_Mo_piece b_Mo_piece 1 (some .int) : Cond) ∈ WALL := wIn 609 rfl (by decide +kernel)
set_option maxRecDepth 100000 in
theorem k_351 : (.methodLink R_law 86 y_Lw_link : Cond) ∈ WALL := wIn 236 (by decide +kernel) (by decide +kernel)
set_option maxRecDepth 100000 in
theorem k_352 : (.static y_Lw_link : Cond) ∈ WALL := wIn 237 (by decide +kernel) (by decide +kernel)
set_option maxRecDepth 100000 in
theorem k_353 : (.codeWith y_Lw_link b_Lw_link 6 (some .int) [(0, 12, 15, 19), (0, 12, 19, 21)] : Cond) ∈ WALL := wIn 238 rfl (by decide +kernel)
set_option maxRecDepth 100000 in
theorem k_354 : (.methodLink R_law 89 y_Mo_link : Cond) ∈ WALL := wIn 610 (by decide +kernel) (by decide +kernel)
set_option maxRecDepth 100000 in
theorem k_355 : (.instanceMethod y_Mo_link : Cond) ∈ WALL := wIn 611 (by decide +kernel) (by decide +kernel)
set_option maxRecDepth 100000 in
theorem k_356 : (.selects R_Mo y_Mo_link y_Mo_link : Cond) ∈ WALL := wIn 612 (by decide +kernel) (by decide +kernel)
set_option maxRecDepth 100000 in
theorem k_357 : (.code y_Mo_link b_Mo_link 6 (some .int) : Cond) ∈ WALL := wIn 613 rfl (by decide +kernel)
set_option maxRecDepth 100000 in
theorem k_358 : (.methodLink R_law 90 y_Lw_robot : Cond) ∈ WALL := wIn 287 (by decide +kernel) (by decide +kernel)
set_option maxRecDepth 100000 in
theorem k_359 : (.static y_Lw_robot : Cond) ∈ WALL := wIn 288 (by decide +kernel) (by decide +kernel)
set_option maxRecDepth 100000 in
theorem k_360 : (.codeWith y_Lw_robot b_Lw_robot 5 (some .int) [(0, 10, 13, 19), (0, 10, 17, 27), (0, 10, 21, 13)] : Cond) ∈ WALL := wIn 289 rfl (by decide +kernel)
set_option maxRecDepth 100000 in
theorem k_361 : (.methodLink R_law 93 y_Mo_robot : Cond) ∈ WALL := wIn 621 (by decide +kernel) (by decide +kernel)
set_option maxRecDepth 100000 in
theorem k_362 : (.instanceMethod y_Mo_robot : Cond) ∈ WALL := wIn 622 (by decide +kernel) (by decide +kernel)
set_option maxRecDepth 100000 in
theorem k_363 : (.selects R_Mo y_Mo_robot y_Mo_robot : Cond) ∈ WALL := wIn 623 (by decide +kernel) (by decide +kernel)
set_option maxRecDepth 100000 in
theorem k_364 : (.code y_Mo_robot b_Mo_robot 3 (some .int) : Cond) ∈ WALL := wIn 624 rfl (by decide +kernel)
set_option maxRecDepth 100000 in
theorem k_365 : (.methodLink R_law 94 y_Lw_ask : Cond) ∈ WALL := wIn 320 (by decide +kernel) (by decide +kernel)
set_option maxRecDepth 100000 in
theorem k_366 : (.static y_Lw_ask : Cond) ∈ WALL := wIn 321 (by decide +kernel) (by decide +kernel)
set_option maxRecDepth 100000 in
theorem k_367 : (.codeWith y_Lw_ask b_Lw_ask 8 (some .int) [(0, 16, 19, 19), (0, 16, 23, 21), (0, 16, 27, 27), (0, 16, 31, 13)] : Cond) ∈ WALL := wIn 322 rfl (by decide +kernel)
set_option maxRecDepth 100000 in
theorem k_368 : (.methodLink R_law 97 y_Mo_ask : Cond) ∈ WALL := wIn 629 (by decide +kernel) (by decide +kernel)
set_option maxRecDepth 100000 in
theorem k_369 : (.instanceMethod y_Mo_ask : Cond) ∈ WALL := wIn 630 (by decide +kernel) (by decide +kernel)
set_option maxRecDepth 100000 in
theorem k_370 : (.selects R_Mo y_Mo_ask y_Mo_ask : Cond) ∈ WALL := wIn 631 (by decide +kernel) (by decide +kernel)
set_option maxRecDepth 100000 in
theorem k_371 : (.code y_Mo_ask b_Mo_ask 8 (some .int) : Cond) ∈ WALL := wIn 632 rfl (by decide +kernel)
set_option maxRecDepth 100000 in
theorem k_372 : (.methodLink R_law 98 y_Lw_free : Cond) ∈ WALL := wIn 382 (by decide +kernel) (by decide +kernel)
set_option maxRecDepth 100000 in
theorem k_373 : (.static y_Lw_free : Cond) ∈ WALL := wIn 383 (by decide +kernel) (by decide +kernel)
set_option maxRecDepth 100000 in
theorem k_374 : (.codeWith y_Lw_free b_Lw_free 4 (some .int) [(0, 9, 12, 19), (0, 9, 15, 27)] : Cond) ∈ WALL := wIn 384 rfl (by decide +kernel)
set_option maxRecDepth 100000 in
theorem k_375 : (.methodLink R_law 101 y_Mo_free : Cond) ∈ WALL := wIn 653 (by decide +kernel) (by decide +kernel)
set_option maxRecDepth 100000 in
theorem k_376 : (.instanceMethod y_Mo_free : Cond) ∈ WALL := wIn 654 (by decide +kernel) (by decide +kernel)
set_option maxRecDepth 100000 in
theorem k_377 : (.selects R_Mo y_Mo_free y_Mo_free : Cond) ∈ WALL := wIn 655 (by decide +kernel) (by decide +kernel)
set_option maxRecDepth 100000 in
theorem k_378 : (.code y_Mo_free b_Mo_free 2 (some .int) : Cond) ∈ WALL := wIn 656 rfl (by decide +kernel)
set_option maxRecDepth 100000 in
theorem k_379 : (.methodLink R_law 102 y_Lw_meets : Cond) ∈ WALL := wIn 404 (by decide +kernel) (by decide +kernel)
set_option maxRecDepth 100000 in
theorem k_380 : (.static y_Lw_meets : Cond) ∈ WALL := wIn 405 (by decide +kernel) (by decide +kernel)
set_option maxRecDepth 100000 in
theorem k_381 : (.codeWith y_Lw_meets b_Lw_meets 5 (some .int) [(0, 17, 20, 19)] : Cond) ∈ WALL := wIn 406 rfl (by decide +kernel)
set_option maxRecDepth 100000 in
theorem k_382 : (.methodLink R_law 105 y_Mo_meets : Cond) ∈ WALL := wIn 665 (by decide +kernel) (by decide +kernel)
set_option maxRecDepth 100000 in
theorem k_383 : (.instanceMethod y_Mo_meets : Cond) ∈ WALL := wIn 666 (by decide +kernel) (by decide +kernel)
set_option maxRecDepth 100000 in
theorem k_384 : (.selects R_Mo y_Mo_meets y_Mo_meets : Cond) ∈ WALL := wIn 667 (by decide +kernel) (by decide +kernel)
set_option maxRecDepth 100000 in
theorem k_385 : (.code y_Mo_meets b_Mo_meets 3 (some .boolean) : Cond) ∈ WALL := wIn 668 rfl (by decide +kernel)
set_option maxRecDepth 100000 in
theorem k_386 : (.methodLink R_law 106 y_Lw_step : Cond) ∈ WALL := wIn 412 (by decide +kernel) (by decide +kernel)
set_option maxRecDepth 100000 in
theorem k_387 : (.static y_Lw_step : Cond) ∈ WALL := wIn 413 (by decide +kernel) (by decide +kernel)
set_option maxRecDepth 100000 in
theorem k_388 : (.codeWith y_Lw_step b_Lw_step 5 (some .int) [(0, 10, 13, 19), (0, 10, 17, 21), (0, 10, 21, 27)] : Cond) ∈ WALL := wIn 414 rfl (by decide +kernel)
set_option maxRecDepth 100000 in
theorem k_389 : (.methodLink R_law 108 y_Mo_step : Cond) ∈ WALL := wIn 669 (by decide +kernel) (by decide +kernel)
set_option maxRecDepth 100000 in
theorem k_390 : (.instanceMethod y_Mo_step : Cond) ∈ WALL := wIn 670 (by decide +kernel) (by decide +kernel)
set_option maxRecDepth 100000 in
theorem k_391 : (.selects R_Mo y_Mo_step y_Mo_step : Cond) ∈ WALL := wIn 671 (by decide +kernel) (by decide +kernel)
set_option maxRecDepth 100000 in
theorem k_392 : (.code y_Mo_step b_Mo_step 4 (some .int) : Cond) ∈ WALL := wIn 672 rfl (by decide +kernel)
set_option maxRecDepth 100000 in
theorem k_393 : (.methodLink R_law 109 y_Lw_pull : Cond) ∈ WALL := wIn 433 (by decide +kernel) (by decide +kernel)
set_option maxRecDepth 100000 in
theorem k_394 : (.static y_Lw_pull : Cond) ∈ WALL := wIn 434 (by decide +kernel) (by decide +kernel)
set_option maxRecDepth 100000 in
theorem k_395 : (.codeWith y_Lw_pull b_Lw_pull 4 (some .int) [(0, 9, 12, 19), (0, 9, 15, 27)] : Cond) ∈ WALL := wIn 435 rfl (by decide +kernel)
set_option maxRecDepth 100000 in
theorem k_396 : (.methodLink R_law 111 y_Mo_pull : Cond) ∈ WALL := wIn 673 (by decide +kernel) (by decide +kernel)
set_option maxRecDepth 100000 in
theorem k_397 : (.instanceMethod y_Mo_pull : Cond) ∈ WALL := wIn 674 (by decide +kernel) (by decide +kernel)
set_option maxRecDepth 100000 in
theorem k_398 : (.selects R_Mo y_Mo_pull y_Mo_pull : Cond) ∈ WALL := wIn 675 (by decide +kernel) (by decide +kernel)
set_option maxRecDepth 100000 in
theorem k_399 : (.code y_Mo_pull b_Mo_pull 3 (some .int) : Cond) ∈ WALL := wIn 676 rfl (by decide +kernel)
set_option maxRecDepth 100000 in
theorem k_400 : (.methodLink R_law 112 y_Lw_await : Cond) ∈ WALL := wIn 441 (by decide +kernel) (by decide +kernel)
set_option maxRecDepth 100000 in
theorem k_401 : (.static y_Lw_await : Cond) ∈ WALL := wIn 442 (by decide +kernel) (by decide +kernel)
set_option maxRecDepth 100000 in
theorem k_402 : (.codeWith y_Lw_await b_Lw_await 5 (some .int) [(0, 10, 13, 19), (0, 10, 17, 27)] : Cond) ∈ WALL := wIn 443 rfl (by decide +kernel)
set_option maxRecDepth 100000 in
theorem k_403 : (.methodLink R_law 114 y_Mo_await : Cond) ∈ WALL := wIn 677 (by decide +kernel) (by decide +kernel)
set_option maxRecDepth 100000 in
theorem k_404 : (.instanceMethod y_Mo_await : Cond) ∈ WALL := wIn 678 (by decide +kernel) (by decide +kernel)
set_option maxRecDepth 100000 in
theorem k_405 : (.selects R_Mo y_Mo_await y_Mo_await : Cond) ∈ WALL := wIn 679 (by decide +kernel) (by decide +kernel)
set_option maxRecDepth 100000 in
theorem k_406 : (.code y_Mo_await b_Mo_await 5 (some .int) : Cond) ∈ WALL := wIn 680 rfl (by decide +kernel)
set_option maxRecDepth 100000 in
theorem k_407 : (.methodLink R_law 115 y_Mo_thrown : Cond) ∈ WALL := wIn 602 (by decide +kernel) (by decide +kernel)
set_option maxRecDepth 100000 in
theorem k_408 : (.instanceMethod y_Mo_thrown : Cond) ∈ WALL := wIn 603 (by decide +kernel) (by decide +kernel)
set_option maxRecDepth 100000 in
theorem k_409 : (.selects R_Mo y_Mo_thrown y_Mo_thrown : Cond) ∈ WALL := wIn 604 (by decide +kernel) (by decide +kernel)
set_option maxRecDepth 100000 in
theorem k_410 : (.code y_Mo_thrown b_Mo_thrown 1 (some .int) : Cond) ∈ WALL := wIn 605 rfl (by decide +kernel)
set_option maxRecDepth 100000 in
theorem k_411 : (.methodLink R_law 118 y_Lw_next : Cond) ∈ WALL := wIn 453 (by decide +kernel) (by decide +kernel)
set_option maxRecDepth 100000 in
theorem k_412 : (.static y_Lw_next : Cond) ∈ WALL := wIn 454 (by decide +kernel) (by decide +kernel)
set_option maxRecDepth 100000 in
theorem k_413 : (.codeWith y_Lw_next b_Lw_next 4 (some .int) [(0, 9, 12, 19)] : Cond) ∈ WALL := wIn 455 rfl (by decide +kernel)
set_option maxRecDepth 100000 in
theorem k_414 : (.methodLink R_law 120 y_Mo_next : Cond) ∈ WALL := wIn 681 (by decide +kernel) (by decide +kernel)
set_option maxRecDepth 100000 in
theorem k_415 : (.instanceMethod y_Mo_next : Cond) ∈ WALL := wIn 682 (by decide +kernel) (by decide +kernel)
set_option maxRecDepth 100000 in
theorem k_416 : (.selects R_Mo y_Mo_next y_Mo_next : Cond) ∈ WALL := wIn 683 (by decide +kernel) (by decide +kernel)
set_option maxRecDepth 100000 in
theorem k_417 : (.code y_Mo_next b_Mo_next 4 (some .int) : Cond) ∈ WALL := wIn 684 rfl (by decide +kernel)
set_option maxRecDepth 100000 in
theorem k_418 : (.methodLink R_law 121 y_Lw_zone : Cond) ∈ WALL := wIn 467 (by decide +kernel) (by decide +kernel)
set_option maxRecDepth 100000 in
theorem k_419 : (.static y_Lw_zone : Cond) ∈ WALL := wIn 468 (by decide +kernel) (by decide +kernel)
set_option maxRecDepth 100000 in
theorem k_420 : (.codeWith y_Lw_zone b_Lw_zone 5 (some .int) [(0, 10, 13, 19), (0, 10, 17, 27)] : Cond) ∈ WALL := wIn 469 rfl (by decide +kernel)
set_option maxRecDepth 100000 in
theorem k_421 : (.methodLink R_law 123 y_Mo_zone : Cond) ∈ WALL := wIn 689 (by decide +kernel) (by decide +kernel)
set_option maxRecDepth 100000 in
theorem k_422 : (.instanceMethod y_Mo_zone : Cond) ∈ WALL := wIn 690 (by decide +kernel) (by decide +kernel)
set_option maxRecDepth 100000 in
theorem k_423 : (.selects R_Mo y_Mo_zone y_Mo_zone : Cond) ∈ WALL := wIn 691 (by decide +kernel) (by decide +kernel)
set_option maxRecDepth 100000 in
theorem k_424 : (.code y_Mo_zone b_Mo_zone 5 (some .int) : Cond) ∈ WALL := wIn 692 rfl (by decide +kernel)
set_option maxRecDepth 100000 in
theorem k_425 : (.methodLink R_law 124 y_Lw_halt : Cond) ∈ WALL := wIn 479 (by decide +kernel) (by decide +kernel)
set_option maxRecDepth 100000 in
theorem k_426 : (.static y_Lw_halt : Cond) ∈ WALL := wIn 480 (by decide +kernel) (by decide +kernel)
set_option maxRecDepth 100000 in
theorem k_427 : (.codeWith y_Lw_halt b_Lw_halt 5 (some .int) [(0, 10, 13, 19), (0, 10, 17, 27)] : Cond) ∈ WALL := wIn 481 rfl (by decide +kernel)
set_option maxRecDepth 100000 in
theorem k_428 : (.methodLink R_law 126 y_Mo_halt : Cond) ∈ WALL := wIn 693 (by decide +kernel) (by decide +kernel)
set_option maxRecDepth 100000 in
theorem k_429 : (.instanceMethod y_Mo_halt : Cond) ∈ WALL := wIn 694 (by decide +kernel) (by decide +kernel)
set_option maxRecDepth 100000 in
theorem k_430 : (.selects R_Mo y_Mo_halt y_Mo_halt : Cond) ∈ WALL := wIn 695 (by decide +kernel) (by decide +kernel)
set_option maxRecDepth 100000 in
theorem k_431 : (.code y_Mo_halt b_Mo_halt 5 (some .int) : Cond) ∈ WALL := wIn 696 rfl (by decide +kernel)
set_option maxRecDepth 100000 in
theorem k_432 : (.methodLink R_law 127 y_Lw_report : Cond) ∈ WALL := wIn 491 (by decide +kernel) (by decide +kernel)
set_option maxRecDepth 100000 in
theorem k_433 : (.static y_Lw_report : Cond) ∈ WALL := wIn 492 (by decide +kernel) (by decide +kernel)
set_option maxRecDepth 100000 in
theorem k_434 : (.codeWith y_Lw_report b_Lw_report 4 (some .int) [(0, 16, 19, 19)] : Cond) ∈ WALL := wIn 493 rfl (by decide +kernel)
set_option maxRecDepth 100000 in
theorem k_435 : (.methodLink R_law 129 y_Mo_report : Cond) ∈ WALL := wIn 697 (by decide +kernel) (by decide +kernel)
set_option maxRecDepth 100000 in
theorem k_436 : (.instanceMethod y_Mo_report : Cond) ∈ WALL := wIn 698 (by decide +kernel) (by decide +kernel)
set_option maxRecDepth 100000 in
theorem k_437 : (.selects R_Mo y_Mo_report y_Mo_report : Cond) ∈ WALL := wIn 699 (by decide +kernel) (by decide +kernel)
set_option maxRecDepth 100000 in
theorem k_438 : (.code y_Mo_report b_Mo_report 3 (some .boolean) : Cond) ∈ WALL := wIn 700 rfl (by decide +kernel)
set_option maxRecDepth 100000 in
theorem k_439 : (.methodLink R_law 130 y_Lw_pass : Cond) ∈ WALL := wIn 498 (by decide +kernel) (by decide +kernel)
set_option maxRecDepth 100000 in
theorem k_440 : (.static y_Lw_pass : Cond) ∈ WALL := wIn 499 (by decide +kernel) (by decide +kernel)
set_option maxRecDepth 100000 in
theorem k_441 : (.codeWith y_Lw_pass b_Lw_pass 4 (some .int) [(0, 9, 12, 21)] : Cond) ∈ WALL := wIn 500 rfl (by decide +kernel)
set_option maxRecDepth 100000 in
theorem k_442 : (.methodLink R_law 132 y_Mo_pass : Cond) ∈ WALL := wIn 701 (by decide +kernel) (by decide +kernel)
set_option maxRecDepth 100000 in
theorem k_443 : (.instanceMethod y_Mo_pass : Cond) ∈ WALL := wIn 702 (by decide +kernel) (by decide +kernel)
set_option maxRecDepth 100000 in
theorem k_444 : (.selects R_Mo y_Mo_pass y_Mo_pass : Cond) ∈ WALL := wIn 703 (by decide +kernel) (by decide +kernel)
set_option maxRecDepth 100000 in
theorem k_445 : (.code y_Mo_pass b_Mo_pass 4 (some .int) : Cond) ∈ WALL := wIn 704 rfl (by decide +kernel)
set_option maxRecDepth 100000 in
theorem k_446 : (.methodLink R_law 133 y_Lw_holder : Cond) ∈ WALL := wIn 510 (by decide +kernel) (by decide +kernel)
set_option maxRecDepth 100000 in
theorem k_447 : (.static y_Lw_holder : Cond) ∈ WALL := wIn 511 (by decide +kernel) (by decide +kernel)
set_option maxRecDepth 100000 in
theorem k_448 : (.codeWith y_Lw_holder b_Lw_holder 5 (some .int) [(0, 10, 13, 19), (0, 10, 17, 21)] : Cond) ∈ WALL := wIn 512 rfl (by decide +kernel)
set_option maxRecDepth 100000 in
theorem k_449 : (.methodLink R_law 135 y_Mo_holder : Cond) ∈ WALL := wIn 705 (by decide +kernel) (by decide +kernel)
set_option maxRecDepth 100000 in
theorem k_450 : (.instanceMethod y_Mo_holder : Cond) ∈ WALL := wIn 706 (by decide +kernel) (by decide +kernel)
set_option maxRecDepth 100000 in
theorem k_451 : (.selects R_Mo y_Mo_holder y_Mo_holder : Cond) ∈ WALL := wIn 707 (by decide +kernel) (by decide +kernel)
set_option maxRecDepth 100000 in
theorem k_452 : (.code y_Mo_holder b_Mo_holder 4 (some .int) : Cond) ∈ WALL := wIn 708 rfl (by decide +kernel)
set_option maxRecDepth 100000 in
theorem k_453 : (.methodLink R_law 136 y_Lw_told : Cond) ∈ WALL := wIn 522 (by decide +kernel) (by decide +kernel)
set_option maxRecDepth 100000 in
theorem k_454 : (.static y_Lw_told : Cond) ∈ WALL := wIn 523 (by decide +kernel) (by decide +kernel)
set_option maxRecDepth 100000 in
theorem k_455 : (.codeWith y_Lw_told b_Lw_told 5 (some .int) [(0, 10, 13, 19), (0, 10, 17, 21)] : Cond) ∈ WALL := wIn 524 rfl (by decide +kernel)
set_option maxRecDepth 100000 in
theorem k_456 : (.methodLink R_law 138 y_Mo_told : Cond) ∈ WALL := wIn 709 (by decide +kernel) (by decide +kernel)
set_option maxRecDepth 100000 in
theorem k_457 : (.instanceMethod y_Mo_told : Cond) ∈ WALL := wIn 710 (by decide +kernel) (by decide +kernel)
set_option maxRecDepth 100000 in
theorem k_458 : (.selects R_Mo y_Mo_told y_Mo_told : Cond) ∈ WALL := wIn 711 (by decide +kernel) (by decide +kernel)
set_option maxRecDepth 100000 in
theorem k_459 : (.code y_Mo_told b_Mo_told 3 (some .int) : Cond) ∈ WALL := wIn 712 rfl (by decide +kernel)
set_option maxRecDepth 100000 in
theorem k_460 : (.methodLink R_law 139 y_Lw_grant : Cond) ∈ WALL := wIn 530 (by decide +kernel) (by decide +kernel)
set_option maxRecDepth 100000 in
theorem k_461 : (.static y_Lw_grant : Cond) ∈ WALL := wIn 531 (by decide +kernel) (by decide +kernel)
set_option maxRecDepth 100000 in
theorem k_462 : (.codeWith y_Lw_grant b_Lw_grant 5 (some .int) [(0, 10, 13, 19), (0, 10, 17, 21)] : Cond) ∈ WALL := wIn 532 rfl (by decide +kernel)
set_option maxRecDepth 100000 in
theorem k_463 : (.methodLink R_law 141 y_Mo_grant : Cond) ∈ WALL := wIn 713 (by decide +kernel) (by decide +kernel)
set_option maxRecDepth 100000 in
theorem k_464 : (.instanceMethod y_Mo_grant : Cond) ∈ WALL := wIn 714 (by decide +kernel) (by decide +kernel)
set_option maxRecDepth 100000 in
theorem k_465 : (.selects R_Mo y_Mo_grant y_Mo_grant : Cond) ∈ WALL := wIn 715 (by decide +kernel) (by decide +kernel)
set_option maxRecDepth 100000 in
theorem k_466 : (.code y_Mo_grant b_Mo_grant 3 (some .int) : Cond) ∈ WALL := wIn 716 rfl (by decide +kernel)
set_option maxRecDepth 100000 in
theorem k_467 : (.methodLink R_law 142 y_RS_count : Cond) ∈ WALL := wIn 131 (by decide +kernel) (by decide +kernel)
set_option maxRecDepth 100000 in
theorem k_468 : (.instanceMethod y_RS_count : Cond) ∈ WALL := wIn 132 (by decide +kernel) (by decide +kernel)
set_option maxRecDepth 100000 in
theorem k_469 : (.selects R_RS y_RS_count y_RS_count : Cond) ∈ WALL := wIn 133 (by decide +kernel) (by decide +kernel)
set_option maxRecDepth 100000 in
theorem k_470 : (.code y_RS_count b_RS_count 2 (some .int) : Cond) ∈ WALL := wIn 134 rfl (by decide +kernel)
set_option maxRecDepth 100000 in
theorem k_471 : (.methodLink R_law 145 y_Mo_count : Cond) ∈ WALL := wIn 717 (by decide +kernel) (by decide +kernel)
set_option maxRecDepth 100000 in
theorem k_472 : (.instanceMethod y_Mo_count : Cond) ∈ WALL := wIn 718 (by decide +kernel) (by decide +kernel)
set_option maxRecDepth 100000 in
theorem k_473 : (.selects R_Mo y_Mo_count y_Mo_count : Cond) ∈ WALL := wIn 719 (by decide +kernel) (by decide +kernel)
set_option maxRecDepth 100000 in
theorem k_474 : (.code y_Mo_count b_Mo_count 5 (some .int) : Cond) ∈ WALL := wIn 720 rfl (by decide +kernel)
set_option maxRecDepth 100000 in
theorem k_475 : (.instantiable R_RS 6 : Cond) ∈ WALL := wIn 34 (by decide +kernel) (by decide +kernel)
set_option maxRecDepth 100000 in
theorem k_476 : (.instantiable R_Mo 19 : Cond) ∈ WALL := wIn 539 (by decide +kernel) (by decide +kernel)
set_option maxRecDepth 100000 in
theorem k_477 : (.classLink R_law 8 R_RS : Cond) ∈ WALL := wIn 33 (by decide +kernel) (by decide +kernel)
set_option maxRecDepth 100000 in
theorem k_478 : (.code y_RS_init b_RS_init 1 none : Cond) ∈ WALL := wIn 37 rfl (by decide +kernel)
set_option maxRecDepth 100000 in
theorem k_479 : (.methodLink R_law 76 y_RS_init : Cond) ∈ WALL := wIn 35 (by decide +kernel) (by decide +kernel)
set_option maxRecDepth 100000 in
theorem k_480 : (.instanceMethod y_RS_init : Cond) ∈ WALL := wIn 36 (by decide +kernel) (by decide +kernel)
set_option maxRecDepth 100000 in
theorem k_481 : (.classLink R_law 77 R_Mo : Cond) ∈ WALL := wIn 538 (by decide +kernel) (by decide +kernel)
set_option maxRecDepth 100000 in
theorem k_482 : (.code y_Mo_init b_Mo_init 1 none : Cond) ∈ WALL := wIn 542 rfl (by decide +kernel)
set_option maxRecDepth 100000 in
theorem k_483 : (.methodLink R_law 79 y_Mo_init : Cond) ∈ WALL := wIn 540 (by decide +kernel) (by decide +kernel)
set_option maxRecDepth 100000 in
theorem k_484 : (.instanceMethod y_Mo_init : Cond) ∈ WALL := wIn 541 (by decide +kernel) (by decide +kernel)
set_option maxRecDepth 100000 in
theorem k_485 : (.arrayClass .long : Cond) ∈ WALL := wIn 721 (by decide +kernel) (by decide +kernel)
def w_RS_needPiece : List Cond := .code y_RS_needPiece b_RS_needPiece 2 none :: WALL
def w_RS_needRobot : List Cond := .code y_RS_needRobot b_RS_needRobot 2 none :: WALL
def w_RS_needGrant : List Cond := .code y_RS_needGrant b_RS_needGrant 2 none :: WALL
def w_RS_needSpan : List Cond := .code y_RS_needSpan b_RS_needSpan 3 none :: WALL
def w_RS_needPriority : List Cond := .code y_RS_needPriority b_RS_needPriority 2 none :: WALL
def w_RS_piece : List Cond := .code y_RS_piece b_RS_piece 1 (some .int) :: WALL
def w_RS_link : List Cond := .code y_RS_link b_RS_link 4 (some .int) :: WALL
def w_Rb_standingOn : List Cond := .code y_Rb_standingOn b_Rb_standingOn 3 (some .int) :: WALL
def w_Rb_add : List Cond := .code y_Rb_add b_Rb_add 5 (some .int) :: WALL
def w_RS_robot : List Cond := .code y_RS_robot b_RS_robot 3 (some .int) :: WALL
def w_Rb_isSilent : List Cond := .code y_Rb_isSilent b_Rb_isSilent 3 (some .boolean) :: WALL
def w_RS_needActive : List Cond := .code y_RS_needActive b_RS_needActive 2 none :: WALL
def w_Rb_otherStandsOn : List Cond := .code y_Rb_otherStandsOn b_Rb_otherStandsOn 4 (some .boolean) :: WALL
def w_Gr_hasBegun : List Cond := .code y_Gr_hasBegun b_Gr_hasBegun 3 (some .boolean) :: WALL
def w_Gr_isLive : List Cond := .code y_Gr_isLive b_Gr_isLive 2 (some .boolean) :: WALL
def w_Gr_isLiveFor : List Cond := .code y_Gr_isLiveFor b_Gr_isLiveFor 3 (some .boolean) :: WALL
def w_Gr_sharesTime : List Cond := .code y_Gr_sharesTime b_Gr_sharesTime 4 (some .boolean) :: WALL
def w_Gr_isRival : List Cond := .code y_Gr_isRival b_Gr_isRival 6 (some .boolean) :: WALL
def w_RS_firstBar : List Cond := .code y_RS_firstBar b_RS_firstBar 8 (some .int) :: WALL
def w_Gr_takeFromOthers : List Cond := .code y_Gr_takeFromOthers b_Gr_takeFromOthers 6 none :: WALL
def w_Gr_add : List Cond := .code y_Gr_add b_Gr_add 6 (some .int) :: WALL
def w_RS_ask : List Cond := .code y_RS_ask b_RS_ask 7 (some .int) :: WALL
def w_Gr_isLiveOf : List Cond := .code y_Gr_isLiveOf b_Gr_isLiveOf 3 (some .boolean) :: WALL
def w_Gr_liveOf : List Cond := .code y_Gr_liveOf b_Gr_liveOf 4 (some .int) :: WALL
def w_RS_free : List Cond := .code y_RS_free b_RS_free 2 (some .int) :: WALL
def w_Gr_areMeeting : List Cond := .code y_Gr_areMeeting b_Gr_areMeeting 3 (some .boolean) :: WALL
def w_RS_meets : List Cond := .code y_RS_meets b_RS_meets 3 (some .boolean) :: WALL
def w_RS_areLinked : List Cond := .code y_RS_areLinked b_RS_areLinked 3 (some .boolean) :: WALL
def w_Gr_firstBegun : List Cond := .code y_Gr_firstBegun b_Gr_firstBegun 5 (some .int) :: WALL
def w_Rb_moveTo : List Cond := .code y_Rb_moveTo b_Rb_moveTo 3 none :: WALL
def w_RS_step : List Cond := .code y_RS_step b_RS_step 4 (some .int) :: WALL
def w_RS_pull : List Cond := .code y_RS_pull b_RS_pull 3 (some .int) :: WALL
def w_Rb_ringByWaiting : List Cond := .code y_Rb_ringByWaiting b_Rb_ringByWaiting 6 (some .int) :: WALL
def w_RS_await : List Cond := .code y_RS_await b_RS_await 4 (some .int) :: WALL
def w_Gr_greatestPriority : List Cond := .code y_Gr_greatestPriority b_Gr_greatestPriority 5 (some .int) :: WALL
def w_RS_next : List Cond := .code y_RS_next b_RS_next 6 (some .int) :: WALL
def w_Gr_takeAllFor : List Cond := .code y_Gr_takeAllFor b_Gr_takeAllFor 4 (some .int) :: WALL
def w_RS_zone : List Cond := .code y_RS_zone b_RS_zone 3 (some .int) :: WALL
def w_Gr_freeAllOf : List Cond := .code y_Gr_freeAllOf b_Gr_freeAllOf 4 (some .int) :: WALL
def w_RS_halt : List Cond := .code y_RS_halt b_RS_halt 3 (some .int) :: WALL
def w_RS_report : List Cond := .code y_RS_report b_RS_report 3 (some .boolean) :: WALL
def w_Gr_endAllBy : List Cond := .code y_Gr_endAllBy b_Gr_endAllBy 4 (some .int) :: WALL
def w_RS_pass : List Cond := .code y_RS_pass b_RS_pass 2 (some .int) :: WALL
def w_Gr_robotGranted : List Cond := .code y_Gr_robotGranted b_Gr_robotGranted 4 (some .int) :: WALL
def w_RS_holder : List Cond := .code y_RS_holder b_RS_holder 4 (some .int) :: WALL
def w_RS_told : List Cond := .code y_RS_told b_RS_told 3 (some .int) :: WALL
def w_RS_grant : List Cond := .code y_RS_grant b_RS_grant 3 (some .int) :: WALL
def w_Gr_allLive : List Cond := .code y_Gr_allLive b_Gr_allLive 3 (some .int) :: WALL
def w_Rb_allWaiting : List Cond := .code y_Rb_allWaiting b_Rb_allWaiting 3 (some .int) :: WALL
def w_Gr_livePairsMeeting : List Cond := .code y_Gr_livePairsMeeting b_Gr_livePairsMeeting 4 (some .int) :: WALL
def w_RS_count : List Cond := .code y_RS_count b_RS_count 2 (some .int) :: WALL
def w_Mo_thrown : List Cond := .code y_Mo_thrown b_Mo_thrown 1 (some .int) :: WALL
def w_Mo_in : List Cond := .code y_Mo_in b_Mo_in 3 (some .boolean) :: WALL
def w_Mo_isPiece : List Cond := .code y_Mo_isPiece b_Mo_isPiece 2 (some .boolean) :: WALL
def w_Mo_isRobot : List Cond := .code y_Mo_isRobot b_Mo_isRobot 2 (some .boolean) :: WALL
def w_Mo_isGrant : List Cond := .code y_Mo_isGrant b_Mo_isGrant 2 (some .boolean) :: WALL
def w_Mo_piece : List Cond := .code y_Mo_piece b_Mo_piece 1 (some .int) :: WALL
def w_Mo_link : List Cond := .code y_Mo_link b_Mo_link 6 (some .int) :: WALL
def w_Mo_standing : List Cond := .code y_Mo_standing b_Mo_standing 3 (some .int) :: WALL
def w_Mo_robot : List Cond := .code y_Mo_robot b_Mo_robot 3 (some .int) :: WALL
def w_Mo_isSilent : List Cond := .code y_Mo_isSilent b_Mo_isSilent 2 (some .boolean) :: WALL
def w_Mo_meet : List Cond := .code y_Mo_meet b_Mo_meet 3 (some .boolean) :: WALL
def w_Mo_isTaken : List Cond := .code y_Mo_isTaken b_Mo_isTaken 3 (some .boolean) :: WALL
def w_Mo_isRival : List Cond := .code y_Mo_isRival b_Mo_isRival 3 (some .boolean) :: WALL
def w_Mo_ask : List Cond := .code y_Mo_ask b_Mo_ask 8 (some .int) :: WALL
def w_Mo_liveOf : List Cond := .code y_Mo_liveOf b_Mo_liveOf 4 (some .int) :: WALL
def w_Mo_free : List Cond := .code y_Mo_free b_Mo_free 2 (some .int) :: WALL
def w_Mo_meets : List Cond := .code y_Mo_meets b_Mo_meets 3 (some .boolean) :: WALL
def w_Mo_step : List Cond := .code y_Mo_step b_Mo_step 4 (some .int) :: WALL
def w_Mo_pull : List Cond := .code y_Mo_pull b_Mo_pull 3 (some .int) :: WALL
def w_Mo_await : List Cond := .code y_Mo_await b_Mo_await 5 (some .int) :: WALL
def w_Mo_bestOf : List Cond := .code y_Mo_bestOf b_Mo_bestOf 5 (some .int) :: WALL
def w_Mo_next : List Cond := .code y_Mo_next b_Mo_next 4 (some .int) :: WALL
def w_Mo_zone : List Cond := .code y_Mo_zone b_Mo_zone 5 (some .int) :: WALL
def w_Mo_halt : List Cond := .code y_Mo_halt b_Mo_halt 5 (some .int) :: WALL
def w_Mo_report : List Cond := .code y_Mo_report b_Mo_report 3 (some .boolean) :: WALL
def w_Mo_pass : List Cond := .code y_Mo_pass b_Mo_pass 4 (some .int) :: WALL
def w_Mo_holder : List Cond := .code y_Mo_holder b_Mo_holder 4 (some .int) :: WALL
def w_Mo_told : List Cond := .code y_Mo_told b_Mo_told 3 (some .int) :: WALL
def w_Mo_grant : List Cond := .code y_Mo_grant b_Mo_grant 3 (some .int) :: WALL
def w_Mo_count : List Cond := .code y_Mo_count b_Mo_count 5 (some .int) :: WALL
def w_bitCount : List Cond := .code y_bitCount b_bitCount 1 (some .int) :: WALL
def w_RS_init : List Cond := .code y_RS_init b_RS_init 1 none :: WALL
def w_Rb_init : List Cond := .code y_Rb_init b_Rb_init 1 none :: WALL
def w_Gr_init : List Cond := .code y_Gr_init b_Gr_init 1 none :: WALL
def w_Mo_init : List Cond := .code y_Mo_init b_Mo_init 1 none :: WALL
def w_Lw_piece : List Cond := .codeWith y_Lw_piece b_Lw_piece 3 (some .int) [(0, 8, 11, 13)] :: WALL
def w_Lw_link : List Cond := .codeWith y_Lw_link b_Lw_link 6 (some .int) [(0, 12, 15, 19), (0, 12, 19, 21)] :: WALL
def w_Lw_robot : List Cond := .codeWith y_Lw_robot b_Lw_robot 5 (some .int) [(0, 10, 13, 19), (0, 10, 17, 27), (0, 10, 21, 13)] :: WALL
def w_Lw_ask : List Cond := .codeWith y_Lw_ask b_Lw_ask 8 (some .int) [(0, 16, 19, 19), (0, 16, 23, 21), (0, 16, 27, 27), (0, 16, 31, 13)] :: WALL
def w_Lw_free : List Cond := .codeWith y_Lw_free b_Lw_free 4 (some .int) [(0, 9, 12, 19), (0, 9, 15, 27)] :: WALL
def w_Lw_meets : List Cond := .codeWith y_Lw_meets b_Lw_meets 5 (some .int) [(0, 17, 20, 19)] :: WALL
def w_Lw_step : List Cond := .codeWith y_Lw_step b_Lw_step 5 (some .int) [(0, 10, 13, 19), (0, 10, 17, 21), (0, 10, 21, 27)] :: WALL
def w_Lw_pull : List Cond := .codeWith y_Lw_pull b_Lw_pull 4 (some .int) [(0, 9, 12, 19), (0, 9, 15, 27)] :: WALL
def w_Lw_await : List Cond := .codeWith y_Lw_await b_Lw_await 5 (some .int) [(0, 10, 13, 19), (0, 10, 17, 27)] :: WALL
def w_Lw_next : List Cond := .codeWith y_Lw_next b_Lw_next 4 (some .int) [(0, 9, 12, 19)] :: WALL
def w_Lw_zone : List Cond := .codeWith y_Lw_zone b_Lw_zone 5 (some .int) [(0, 10, 13, 19), (0, 10, 17, 27)] :: WALL
def w_Lw_halt : List Cond := .codeWith y_Lw_halt b_Lw_halt 5 (some .int) [(0, 10, 13, 19), (0, 10, 17, 27)] :: WALL
def w_Lw_report : List Cond := .codeWith y_Lw_report b_Lw_report 4 (some .int) [(0, 16, 19, 19)] :: WALL
def w_Lw_pass : List Cond := .codeWith y_Lw_pass b_Lw_pass 4 (some .int) [(0, 9, 12, 21)] :: WALL
def w_Lw_holder : List Cond := .codeWith y_Lw_holder b_Lw_holder 5 (some .int) [(0, 10, 13, 19), (0, 10, 17, 21)] :: WALL
def w_Lw_told : List Cond := .codeWith y_Lw_told b_Lw_told 5 (some .int) [(0, 10, 13, 19), (0, 10, 17, 21)] :: WALL
def w_Lw_grant : List Cond := .codeWith y_Lw_grant b_Lw_grant 5 (some .int) [(0, 10, 13, 19), (0, 10, 17, 21)] :: WALL
abbrev classes : List vw_C := [(R_RS, F_RS, 6), (R_Rb, F_Rb, 7), (R_Gr, F_Gr, 7), (R_Mo, F_Mo, 19)]
