/-! names: classes, their fields, the words that hold throughout -/
def R_Events : String := "MeterBox$Events"
def T_Events : u_T := fun k => match k with
  | 0 => ("MeterBox$Events", "kept", "[I", true)
  | _ => ("MeterBox$Events", "size", "I", false)
def ty_Events : Nat → FieldType := fun k => match k with
  | 0 => .array .int
  | _ => .int
theorem nm_Events : ∀ a, a < 2 → ∀ b, b < 2 → a ≠ b → (T_Events a).2.1 ≠ (T_Events b).2.1 := by decide +kernel
theorem ty_Events_ok : ∀ k, k < 2 → parseFieldDescriptor (T_Events k).2.2.1 = some (ty_Events k) := by decide +kernel
def R_Flash : String := "MeterBox$Flash"
def T_Flash : u_T := fun k => match k with
  | 0 => ("MeterBox$Flash", "words", "[J", true)
  | 1 => ("MeterBox$Flash", "wear", "[I", true)
  | 2 => ("MeterBox$Flash", "draft", "[J", true)
  | 3 => ("MeterBox$Flash", "latest", "I", false)
  | _ => ("MeterBox$Flash", "cutAfter", "I", false)
def ty_Flash : Nat → FieldType := fun k => match k with
  | 0 => .array .long
  | 1 => .array .int
  | 2 => .array .long
  | 3 => .int
  | _ => .int
theorem nm_Flash : ∀ a, a < 5 → ∀ b, b < 5 → a ≠ b → (T_Flash a).2.1 ≠ (T_Flash b).2.1 := by decide +kernel
theorem ty_Flash_ok : ∀ k, k < 5 → parseFieldDescriptor (T_Flash k).2.2.1 = some (ty_Flash k) := by decide +kernel
def R_Line : String := "MeterBox$Line"
def T_Line : u_T := fun k => match k with
  | 0 => ("MeterBox$Line", "bytes", "[I", true)
  | 1 => ("MeterBox$Line", "plainAnswer", "[I", true)
  | 2 => ("MeterBox$Line", "answerBytes", "[I", true)
  | 3 => ("MeterBox$Line", "length", "I", false)
  | 4 => ("MeterBox$Line", "answerLength", "I", false)
  | 5 => ("MeterBox$Line", "begun", "Z", false)
  | _ => ("MeterBox$Line", "escaped", "Z", false)
def ty_Line : Nat → FieldType := fun k => match k with
  | 0 => .array .int
  | 1 => .array .int
  | 2 => .array .int
  | 3 => .int
  | 4 => .int
  | 5 => .boolean
  | _ => .boolean
theorem nm_Line : ∀ a, a < 7 → ∀ b, b < 7 → a ≠ b → (T_Line a).2.1 ≠ (T_Line b).2.1 := by decide +kernel
theorem ty_Line_ok : ∀ k, k < 7 → parseFieldDescriptor (T_Line k).2.2.1 = some (ty_Line k) := by decide +kernel
def R_Plans : String := "MeterBox$Plans"
def T_Plans : u_T := fun k => match k with
  | 0 => ("MeterBox$Plans", "minutes", "[I", true)
  | _ => ("MeterBox$Plans", "tariffs", "[I", true)
def ty_Plans : Nat → FieldType := fun k => match k with
  | 0 => .array .int
  | _ => .array .int
theorem nm_Plans : ∀ a, a < 2 → ∀ b, b < 2 → a ≠ b → (T_Plans a).2.1 ≠ (T_Plans b).2.1 := by decide +kernel
theorem ty_Plans_ok : ∀ k, k < 2 → parseFieldDescriptor (T_Plans k).2.2.1 = some (ty_Plans k) := by decide +kernel
def R_State : String := "MeterBox$State"
def T_State : u_T := fun k => match k with
  | 0 => ("MeterBox$State", "registers", "[D", true)
  | 1 => ("MeterBox$State", "time", "I", false)
  | 2 => ("MeterBox$State", "credit", "D", false)
  | 3 => ("MeterBox$State", "highest", "D", false)
  | 4 => ("MeterBox$State", "last", "I", false)
  | 5 => ("MeterBox$State", "relayOpen", "Z", false)
  | _ => ("MeterBox$State", "emergencyUsed", "Z", false)
def ty_State : Nat → FieldType := fun k => match k with
  | 0 => .array .double
  | 1 => .int
  | 2 => .double
  | 3 => .double
  | 4 => .int
  | 5 => .boolean
  | _ => .boolean
theorem nm_State : ∀ a, a < 7 → ∀ b, b < 7 → a ≠ b → (T_State a).2.1 ≠ (T_State b).2.1 := by decide +kernel
theorem ty_State_ok : ∀ k, k < 7 → parseFieldDescriptor (T_State k).2.2.1 = some (ty_State k) := by decide +kernel
def R_Box : String := "MeterBox"
def T_Box : u_T := fun k => match k with
  | 0 => ("MeterBox", "prices", "[D", true)
  | 1 => ("MeterBox", "plans", "LMeterBox$Plans;", true)
  | 2 => ("MeterBox", "state", "LMeterBox$State;", true)
  | 3 => ("MeterBox", "events", "LMeterBox$Events;", true)
  | 4 => ("MeterBox", "memory", "LMeterBox$Flash;", true)
  | 5 => ("MeterBox", "line", "LMeterBox$Line;", true)
  | _ => ("MeterBox", "on", "Z", false)
def ty_Box : Nat → FieldType := fun k => match k with
  | 0 => .array .double
  | 1 => .object "MeterBox$Plans"
  | 2 => .object "MeterBox$State"
  | 3 => .object "MeterBox$Events"
  | 4 => .object "MeterBox$Flash"
  | 5 => .object "MeterBox$Line"
  | _ => .boolean
theorem nm_Box : ∀ a, a < 7 → ∀ b, b < 7 → a ≠ b → (T_Box a).2.1 ≠ (T_Box b).2.1 := by decide +kernel
theorem ty_Box_ok : ∀ k, k < 7 → parseFieldDescriptor (T_Box k).2.2.1 = some (ty_Box k) := by decide +kernel
def R_Mod : String := "MeterBoxModel"
def T_Mod : u_T := fun k => match k with
  | 0 => ("MeterBoxModel", "thrown", "I", false)
  | 1 => ("MeterBoxModel", "on", "Z", false)
  | 2 => ("MeterBoxModel", "time", "I", false)
  | 3 => ("MeterBoxModel", "credit", "D", false)
  | 4 => ("MeterBoxModel", "registers", "[D", true)
  | 5 => ("MeterBoxModel", "highest", "D", false)
  | 6 => ("MeterBoxModel", "last", "I", false)
  | 7 => ("MeterBoxModel", "open", "Z", false)
  | 8 => ("MeterBoxModel", "emergency", "Z", false)
  | 9 => ("MeterBoxModel", "prices", "[D", true)
  | 10 => ("MeterBoxModel", "minutes", "[I", true)
  | 11 => ("MeterBoxModel", "tariffs", "[I", true)
  | 12 => ("MeterBoxModel", "events", "[I", true)
  | 13 => ("MeterBoxModel", "eventCount", "I", false)
  | 14 => ("MeterBoxModel", "words", "[J", true)
  | 15 => ("MeterBoxModel", "wear", "[I", true)
  | 16 => ("MeterBoxModel", "place", "I", false)
  | 17 => ("MeterBoxModel", "cut", "I", false)
  | 18 => ("MeterBoxModel", "trouble", "I", false)
  | 19 => ("MeterBoxModel", "begun", "Z", false)
  | 20 => ("MeterBoxModel", "escaped", "Z", false)
  | 21 => ("MeterBoxModel", "bytes", "[I", true)
  | 22 => ("MeterBoxModel", "count", "I", false)
  | 23 => ("MeterBoxModel", "reply", "[I", true)
  | _ => ("MeterBoxModel", "replyCount", "I", false)
def ty_Mod : Nat → FieldType := fun k => match k with
  | 0 => .int
  | 1 => .boolean
  | 2 => .int
  | 3 => .double
  | 4 => .array .double
  | 5 => .double
  | 6 => .int
  | 7 => .boolean
  | 8 => .boolean
  | 9 => .array .double
  | 10 => .array .int
  | 11 => .array .int
  | 12 => .array .int
  | 13 => .int
  | 14 => .array .long
  | 15 => .array .int
  | 16 => .int
  | 17 => .int
  | 18 => .int
  | 19 => .boolean
  | 20 => .boolean
  | 21 => .array .int
  | 22 => .int
  | 23 => .array .int
  | _ => .int
theorem nm_Mod : ∀ a, a < 25 → ∀ b, b < 25 → a ≠ b → (T_Mod a).2.1 ≠ (T_Mod b).2.1 := by decide +kernel
theorem ty_Mod_ok : ∀ k, k < 25 → parseFieldDescriptor (T_Mod k).2.2.1 = some (ty_Mod k) := by decide +kernel
def R_Law : String := "MeterBoxLaw"
abbrev CL : List vw_C := [(R_Events, T_Events, 2), (R_Flash, T_Flash, 5), (R_Line, T_Line, 7), (R_Plans, T_Plans, 2), (R_State, T_State, 7), (R_Box, T_Box, 7), (R_Mod, T_Mod, 25)]
def TB : List Cond := lw_tbl.filter goodWord
theorem TB_lw : ∀ w ∈ TB, w ∈ lw_tbl := fun _ h => (List.mem_filter.mp h).1
theorem TB_good : ∀ w ∈ TB, goodWord w = true := fun _ h => (List.mem_filter.mp h).2
theorem TB_mem {w : Cond} (i : Nat) (h : lw_tbl[i]? = some w) (hg : goodWord w = true) : w ∈ TB := List.mem_filter.mpr ⟨List.mem_of_getElem? h, hg⟩
theorem in_Events : ∀ w ∈ u_ws R_Events T_Events 2, w ∈ TB := by decide +kernel
theorem in_Flash : ∀ w ∈ u_ws R_Flash T_Flash 5, w ∈ TB := by decide +kernel
theorem in_Line : ∀ w ∈ u_ws R_Line T_Line 7, w ∈ TB := by decide +kernel
theorem in_Plans : ∀ w ∈ u_ws R_Plans T_Plans 2, w ∈ TB := by decide +kernel
theorem in_State : ∀ w ∈ u_ws R_State T_State 7, w ∈ TB := by decide +kernel
theorem in_Box : ∀ w ∈ u_ws R_Box T_Box 7, w ∈ TB := by decide +kernel
theorem in_Mod : ∀ w ∈ u_ws R_Mod T_Mod 25, w ∈ TB := by decide +kernel
abbrev b_Mod_init : ByteArray := prog_8_method_1_code
def y_Mod_init : MethodName := ⟨R_Mod, "<init>", "()V"⟩
abbrev b_Mod_thrown : ByteArray := prog_8_method_2_code
def y_Mod_thrown : MethodName := ⟨R_Mod, "thrown", "()I"⟩
abbrev b_Mod_raise : ByteArray := prog_8_method_3_code
def y_Mod_raise : MethodName := ⟨R_Mod, "raise", "(I)I"⟩
abbrev b_Mod_in : ByteArray := prog_8_method_4_code
def y_Mod_in : MethodName := ⟨R_Mod, "in", "(III)Z"⟩
abbrev b_Mod_note : ByteArray := prog_8_method_5_code
def y_Mod_note : MethodName := ⟨R_Mod, "note", "(I)V"⟩
abbrev b_Mod_plan : ByteArray := prog_8_method_6_code
def y_Mod_plan : MethodName := ⟨R_Mod, "plan", "(IIII)I"⟩
abbrev b_Mod_tariff : ByteArray := prog_8_method_7_code
def y_Mod_tariff : MethodName := ⟨R_Mod, "tariff", "()I"⟩
abbrev b_Mod_sum : ByteArray := prog_8_method_8_code
def y_Mod_sum : MethodName := ⟨R_Mod, "sum", "(I)J"⟩
abbrev b_Mod_good : ByteArray := prog_8_method_9_code
def y_Mod_good : MethodName := ⟨R_Mod, "good", "(I)Z"⟩
abbrev b_Mod_latest : ByteArray := prog_8_method_10_code
def y_Mod_latest : MethodName := ⟨R_Mod, "latest", "()I"⟩
abbrev b_Mod_nextPlace : ByteArray := prog_8_method_11_code
def y_Mod_nextPlace : MethodName := ⟨R_Mod, "nextPlace", "()I"⟩
abbrev b_Mod_word : ByteArray := prog_8_method_12_code
def y_Mod_word : MethodName := ⟨R_Mod, "word", "(IJ)J"⟩
abbrev b_Mod_saved : ByteArray := prog_8_method_13_code
def y_Mod_saved : MethodName := ⟨R_Mod, "saved", "()J"⟩
abbrev b_Mod_load : ByteArray := prog_8_method_14_code
def y_Mod_load : MethodName := ⟨R_Mod, "load", "()V"⟩
abbrev b_Mod_minute : ByteArray := prog_8_method_15_code
def y_Mod_minute : MethodName := ⟨R_Mod, "minute", "(DD)V"⟩
abbrev b_Mod_use : ByteArray := prog_8_method_16_code
def y_Mod_use : MethodName := ⟨R_Mod, "use", "(DDI)I"⟩
abbrev b_Mod_close : ByteArray := prog_8_method_17_code
def y_Mod_close : MethodName := ⟨R_Mod, "close", "()V"⟩
abbrev b_Mod_checkOf : ByteArray := prog_8_method_18_code
def y_Mod_checkOf : MethodName := ⟨R_Mod, "checkOf", "(J)J"⟩
abbrev b_Mod_work : ByteArray := prog_8_method_19_code
def y_Mod_work : MethodName := ⟨R_Mod, "work", "(II)V"⟩
abbrev b_Mod_token : ByteArray := prog_8_method_20_code
def y_Mod_token : MethodName := ⟨R_Mod, "token", "(J)I"⟩
abbrev b_Mod_emergency : ByteArray := prog_8_method_21_code
def y_Mod_emergency : MethodName := ⟨R_Mod, "emergency", "()I"⟩
abbrev b_Mod_save : ByteArray := prog_8_method_22_code
def y_Mod_save : MethodName := ⟨R_Mod, "save", "()I"⟩
abbrev b_Mod_cut : ByteArray := prog_8_method_23_code
def y_Mod_cut : MethodName := ⟨R_Mod, "cut", "(I)I"⟩
abbrev b_Mod_power : ByteArray := prog_8_method_24_code
def y_Mod_power : MethodName := ⟨R_Mod, "power", "(Z)I"⟩
abbrev b_Mod_stepOf : ByteArray := prog_8_method_25_code
def y_Mod_stepOf : MethodName := ⟨R_Mod, "stepOf", "(II)I"⟩
abbrev b_Mod_fcs : ByteArray := prog_8_method_26_code
def y_Mod_fcs : MethodName := ⟨R_Mod, "fcs", "(I)I"⟩
abbrev b_Mod_scaled : ByteArray := prog_8_method_27_code
def y_Mod_scaled : MethodName := ⟨R_Mod, "scaled", "(D)J"⟩
abbrev b_Mod_known : ByteArray := prog_8_method_28_code
def y_Mod_known : MethodName := ⟨R_Mod, "known", "(II)Z"⟩
abbrev b_Mod_answer : ByteArray := prog_8_method_29_code
def y_Mod_answer : MethodName := ⟨R_Mod, "answer", "(II)J"⟩
abbrev b_Mod_send : ByteArray := prog_8_method_30_code
def y_Mod_send : MethodName := ⟨R_Mod, "send", "(I)V"⟩
abbrev b_Mod_makeReply : ByteArray := prog_8_method_31_code
def y_Mod_makeReply : MethodName := ⟨R_Mod, "makeReply", "(IJ)V"⟩
abbrev b_Mod_end : ByteArray := prog_8_method_32_code
def y_Mod_end : MethodName := ⟨R_Mod, "end", "()I"⟩
abbrev b_Mod_request : ByteArray := prog_8_method_33_code
def y_Mod_request : MethodName := ⟨R_Mod, "request", "(I)I"⟩
abbrev b_Mod_reply : ByteArray := prog_8_method_34_code
def y_Mod_reply : MethodName := ⟨R_Mod, "reply", "(I)I"⟩
abbrev b_Mod_flash : ByteArray := prog_8_method_35_code
def y_Mod_flash : MethodName := ⟨R_Mod, "flash", "(II)J"⟩
abbrev b_Mod_read : ByteArray := prog_8_method_36_code
def y_Mod_read : MethodName := ⟨R_Mod, "read", "(I)D"⟩
abbrev b_Mod_price : ByteArray := prog_8_method_37_code
def y_Mod_price : MethodName := ⟨R_Mod, "price", "(I)D"⟩
abbrev b_Mod_count : ByteArray := prog_8_method_38_code
def y_Mod_count : MethodName := ⟨R_Mod, "count", "(I)I"⟩
abbrev b_Events_init : ByteArray := prog_2_method_1_code
def y_Events_init : MethodName := ⟨R_Events, "<init>", "()V"⟩
abbrev b_Events_add : ByteArray := prog_2_method_2_code
def y_Events_add : MethodName := ⟨R_Events, "add", "(II)V"⟩
abbrev b_Events_clear : ByteArray := prog_2_method_3_code
def y_Events_clear : MethodName := ⟨R_Events, "clear", "()V"⟩
abbrev b_Flash_init : ByteArray := prog_3_method_1_code
def y_Flash_init : MethodName := ⟨R_Flash, "<init>", "()V"⟩
abbrev b_Flash_setCut : ByteArray := prog_3_method_2_code
def y_Flash_setCut : MethodName := ⟨R_Flash, "setCut", "(I)I"⟩
abbrev b_Flash_wordAt : ByteArray := prog_3_method_3_code
def y_Flash_wordAt : MethodName := ⟨R_Flash, "wordAt", "(II)J"⟩
abbrev b_Flash_copyToDraft : ByteArray := prog_3_method_4_code
def y_Flash_copyToDraft : MethodName := ⟨R_Flash, "copyToDraft", "(I)V"⟩
abbrev b_Flash_sumOf : ByteArray := prog_3_method_5_code
def y_Flash_sumOf : MethodName := ⟨R_Flash, "sumOf", "([JI)J"⟩
abbrev b_Flash_isGood : ByteArray := prog_3_method_6_code
def y_Flash_isGood : MethodName := ⟨R_Flash, "isGood", "(I)Z"⟩
abbrev b_Flash_goodSlots : ByteArray := prog_3_method_7_code
def y_Flash_goodSlots : MethodName := ⟨R_Flash, "goodSlots", "()I"⟩
abbrev b_Flash_newestSlot : ByteArray := prog_3_method_8_code
def y_Flash_newestSlot : MethodName := ⟨R_Flash, "newestSlot", "()I"⟩
abbrev b_Flash_nextNumber : ByteArray := prog_3_method_9_code
def y_Flash_nextNumber : MethodName := ⟨R_Flash, "nextNumber", "()J"⟩
abbrev b_Flash_sectorBehind : ByteArray := prog_3_method_11_code
def y_Flash_sectorBehind : MethodName := ⟨R_Flash, "sectorBehind", "(I)I"⟩
abbrev b_Flash_erase : ByteArray := prog_3_method_12_code
def y_Flash_erase : MethodName := ⟨R_Flash, "erase", "(I)V"⟩
abbrev b_Flash_makePlace : ByteArray := prog_3_method_10_code
def y_Flash_makePlace : MethodName := ⟨R_Flash, "makePlace", "()I"⟩
abbrev b_Flash_write : ByteArray := prog_3_method_13_code
def y_Flash_write : MethodName := ⟨R_Flash, "write", "(IJ)Z"⟩
abbrev b_Line_init : ByteArray := prog_4_method_1_code
def y_Line_init : MethodName := ⟨R_Line, "<init>", "()V"⟩
abbrev b_Line_giveUp : ByteArray := prog_4_method_2_code
def y_Line_giveUp : MethodName := ⟨R_Line, "giveUp", "()V"⟩
abbrev b_Line_keepByte : ByteArray := prog_4_method_4_code
def y_Line_keepByte : MethodName := ⟨R_Line, "keepByte", "(I)V"⟩
abbrev b_Line_endsWith : ByteArray := prog_4_method_3_code
def y_Line_endsWith : MethodName := ⟨R_Line, "endsWith", "(I)Z"⟩
abbrev b_Line_isLengthRight : ByteArray := prog_4_method_5_code
def y_Line_isLengthRight : MethodName := ⟨R_Line, "isLengthRight", "()Z"⟩
abbrev b_Line_fcsOf : ByteArray := prog_4_method_9_code
def y_Line_fcsOf : MethodName := ⟨R_Line, "fcsOf", "([II)I"⟩
abbrev b_Line_isFcsRight : ByteArray := prog_4_method_6_code
def y_Line_isFcsRight : MethodName := ⟨R_Line, "isFcsRight", "()Z"⟩
abbrev b_Line_command : ByteArray := prog_4_method_7_code
def y_Line_command : MethodName := ⟨R_Line, "command", "()I"⟩
abbrev b_Line_argument : ByteArray := prog_4_method_8_code
def y_Line_argument : MethodName := ⟨R_Line, "argument", "()I"⟩
abbrev b_Line_frameAnswer : ByteArray := prog_4_method_11_code
def y_Line_frameAnswer : MethodName := ⟨R_Line, "frameAnswer", "()V"⟩
abbrev b_Line_answer : ByteArray := prog_4_method_10_code
def y_Line_answer : MethodName := ⟨R_Line, "answer", "(IJ)I"⟩
abbrev b_Plans_init : ByteArray := prog_5_method_1_code
def y_Plans_init : MethodName := ⟨R_Plans, "<init>", "()V"⟩
abbrev b_Plans_put : ByteArray := prog_5_method_2_code
def y_Plans_put : MethodName := ⟨R_Plans, "put", "(IIII)V"⟩
abbrev b_Plans_size : ByteArray := prog_5_method_3_code
def y_Plans_size : MethodName := ⟨R_Plans, "size", "(I)I"⟩
abbrev b_Plans_tariffAt : ByteArray := prog_5_method_4_code
def y_Plans_tariffAt : MethodName := ⟨R_Plans, "tariffAt", "(I)I"⟩
abbrev b_State_begin : ByteArray := prog_6_method_2_code
def y_State_begin : MethodName := ⟨R_State, "begin", "()V"⟩
abbrev b_State_init : ByteArray := prog_6_method_1_code
def y_State_init : MethodName := ⟨R_State, "<init>", "()V"⟩
abbrev b_State_consume : ByteArray := prog_6_method_3_code
def y_State_consume : MethodName := ⟨R_State, "consume", "(DID)V"⟩
abbrev b_State_isCreditSpent : ByteArray := prog_6_method_4_code
def y_State_isCreditSpent : MethodName := ⟨R_State, "isCreditSpent", "()Z"⟩
abbrev b_State_value : ByteArray := prog_6_method_5_code
def y_State_value : MethodName := ⟨R_State, "value", "(I)D"⟩
abbrev b_Box_thousandths : ByteArray := prog_1_method_29_code
def y_Box_thousandths : MethodName := ⟨R_Box, "thousandths", "(D)J"⟩
abbrev b_State_packInto : ByteArray := prog_6_method_6_code
def y_State_packInto : MethodName := ⟨R_State, "packInto", "([J)V"⟩
abbrev b_State_unpackFrom : ByteArray := prog_6_method_7_code
def y_State_unpackFrom : MethodName := ⟨R_State, "unpackFrom", "([J)V"⟩
abbrev b_Box_init : ByteArray := prog_1_method_1_code
def y_Box_init : MethodName := ⟨R_Box, "<init>", "()V"⟩
abbrev b_Box_requireWithin : ByteArray := prog_1_method_16_code
def y_Box_requireWithin : MethodName := ⟨R_Box, "requireWithin", "(III)V"⟩
abbrev b_Box_plan : ByteArray := prog_1_method_2_code
def y_Box_plan : MethodName := ⟨R_Box, "plan", "(IIII)I"⟩
abbrev b_Box_requireUpTo : ByteArray := prog_1_method_17_code
def y_Box_requireUpTo : MethodName := ⟨R_Box, "requireUpTo", "(DD)V"⟩
abbrev b_Box_requireOn : ByteArray := prog_1_method_18_code
def y_Box_requireOn : MethodName := ⟨R_Box, "requireOn", "()V"⟩
abbrev b_Box_note : ByteArray := prog_1_method_19_code
def y_Box_note : MethodName := ⟨R_Box, "note", "(I)V"⟩
abbrev b_Box_keep : ByteArray := prog_1_method_24_code
def y_Box_keep : MethodName := ⟨R_Box, "keep", "()I"⟩
abbrev b_Box_passMinute : ByteArray := prog_1_method_21_code
def y_Box_passMinute : MethodName := ⟨R_Box, "passMinute", "(DD)V"⟩
abbrev b_Box_use : ByteArray := prog_1_method_3_code
def y_Box_use : MethodName := ⟨R_Box, "use", "(DDI)I"⟩
abbrev b_Box_checkOf : ByteArray := prog_1_method_22_code
def y_Box_checkOf : MethodName := ⟨R_Box, "checkOf", "(J)I"⟩
abbrev b_Box_putToWork : ByteArray := prog_1_method_23_code
def y_Box_putToWork : MethodName := ⟨R_Box, "putToWork", "(II)V"⟩
abbrev b_Box_keepOrThrow : ByteArray := prog_1_method_25_code
def y_Box_keepOrThrow : MethodName := ⟨R_Box, "keepOrThrow", "()I"⟩
abbrev b_Box_closeRelay : ByteArray := prog_1_method_20_code
def y_Box_closeRelay : MethodName := ⟨R_Box, "closeRelay", "()V"⟩
abbrev b_Box_token : ByteArray := prog_1_method_4_code
def y_Box_token : MethodName := ⟨R_Box, "token", "(J)I"⟩
abbrev b_Box_emergency : ByteArray := prog_1_method_5_code
def y_Box_emergency : MethodName := ⟨R_Box, "emergency", "()I"⟩
abbrev b_Box_save : ByteArray := prog_1_method_6_code
def y_Box_save : MethodName := ⟨R_Box, "save", "()I"⟩
abbrev b_Box_cut : ByteArray := prog_1_method_7_code
def y_Box_cut : MethodName := ⟨R_Box, "cut", "(I)I"⟩
abbrev b_Box_load : ByteArray := prog_1_method_26_code
def y_Box_load : MethodName := ⟨R_Box, "load", "()V"⟩
abbrev b_Box_power : ByteArray := prog_1_method_8_code
def y_Box_power : MethodName := ⟨R_Box, "power", "(Z)I"⟩
abbrev b_Box_isKnown : ByteArray := prog_1_method_27_code
def y_Box_isKnown : MethodName := ⟨R_Box, "isKnown", "(II)Z"⟩
abbrev b_Box_numberFor : ByteArray := prog_1_method_28_code
def y_Box_numberFor : MethodName := ⟨R_Box, "numberFor", "(II)J"⟩
abbrev b_Box_request : ByteArray := prog_1_method_9_code
def y_Box_request : MethodName := ⟨R_Box, "request", "(I)I"⟩
abbrev b_Box_reply : ByteArray := prog_1_method_10_code
def y_Box_reply : MethodName := ⟨R_Box, "reply", "(I)I"⟩
abbrev b_Box_flash : ByteArray := prog_1_method_11_code
def y_Box_flash : MethodName := ⟨R_Box, "flash", "(II)J"⟩
abbrev b_Box_read : ByteArray := prog_1_method_12_code
def y_Box_read : MethodName := ⟨R_Box, "read", "(I)D"⟩
abbrev b_Box_price : ByteArray := prog_1_method_13_code
def y_Box_price : MethodName := ⟨R_Box, "price", "(I)D"⟩
abbrev b_Box_countOfState : ByteArray := prog_1_method_15_code
def y_Box_countOfState : MethodName := ⟨R_Box, "countOfState", "(I)I"⟩
abbrev b_Box_count : ByteArray := prog_1_method_14_code
def y_Box_count : MethodName := ⟨R_Box, "count", "(I)I"⟩
abbrev b_Law_plan : ByteArray := method_3_code
def y_Law_plan : MethodName := ⟨R_Law, "plan", "(LMeterBox;IIII[J)I"⟩
abbrev b_Law_use : ByteArray := method_4_code
def y_Law_use : MethodName := ⟨R_Law, "use", "(LMeterBox;DDI[J)I"⟩
abbrev b_Law_token : ByteArray := method_5_code
def y_Law_token : MethodName := ⟨R_Law, "token", "(LMeterBox;J[J)I"⟩
abbrev b_Law_emergency : ByteArray := method_6_code
def y_Law_emergency : MethodName := ⟨R_Law, "emergency", "(LMeterBox;[J)I"⟩
abbrev b_Law_save : ByteArray := method_7_code
def y_Law_save : MethodName := ⟨R_Law, "save", "(LMeterBox;[J)I"⟩
abbrev b_Law_cut : ByteArray := method_8_code
def y_Law_cut : MethodName := ⟨R_Law, "cut", "(LMeterBox;I[J)I"⟩
abbrev b_Law_power : ByteArray := method_9_code
def y_Law_power : MethodName := ⟨R_Law, "power", "(LMeterBox;Z[J)I"⟩
abbrev b_Law_request : ByteArray := method_10_code
def y_Law_request : MethodName := ⟨R_Law, "request", "(LMeterBox;I[J)I"⟩
abbrev b_Law_reply : ByteArray := method_11_code
def y_Law_reply : MethodName := ⟨R_Law, "reply", "(LMeterBox;I[J)I"⟩
abbrev b_Law_flash : ByteArray := method_12_code
def y_Law_flash : MethodName := ⟨R_Law, "flash", "(LMeterBox;II[J)I"⟩
abbrev b_Law_read : ByteArray := method_13_code
def y_Law_read : MethodName := ⟨R_Law, "read", "(LMeterBox;I[D)I"⟩
abbrev b_Law_price : ByteArray := method_14_code
def y_Law_price : MethodName := ⟨R_Law, "price", "(LMeterBox;I[D)I"⟩
abbrev b_Law_count : ByteArray := method_15_code
def y_Law_count : MethodName := ⟨R_Law, "count", "(LMeterBox;I[J)I"⟩
theorem gC {y : MethodName} {b : ByteArray} {n : Nat} {r : Option FieldType} (h5 : Cond.code y b n r ∈ TB) : GoodIn TB (Cond.code y b n r :: TB) := fun w h => (List.mem_cons.mp h).elim (fun e => by rw [e]; exact ⟨h5, good_of_word (TB_good _ h5)⟩) (fun h => ⟨h, good_of_word (TB_good _ h)⟩)
theorem gV {own C : String} {idx : Nat} {y : MethodName} {b : ByteArray} {n : Nat} {r : Option FieldType} (h1 : Cond.methodLink own idx y ∈ TB) (h2 : Cond.instanceMethod y ∈ TB) (h3 : Cond.selects C y y ∈ TB) (h4 : Cond.initialized C ∈ TB) (h5 : Cond.code y b n r ∈ TB) : GoodIn TB (wsV own idx C y (Cond.code y b n r :: TB)) := by
  intro w h
  have q : w ∈ TB := by
    rcases List.mem_append.mp h with h | h
    · simp only [List.mem_cons, List.not_mem_nil, or_false] at h
      rcases h with rfl | rfl | rfl | rfl <;> assumption
    · exact (gC h5 w h).1
  exact ⟨q, good_of_word (TB_good _ q)⟩
theorem gS {own : String} {idx : Nat} {y : MethodName} {b : ByteArray} {n : Nat} {r : Option FieldType} (h1 : Cond.methodLink own idx y ∈ TB) (h2 : Cond.static y ∈ TB) (h4 : Cond.initialized y.cls ∈ TB) (h5 : Cond.code y b n r ∈ TB) : GoodIn TB (va_wsS own idx y (Cond.code y b n r :: TB)) := by
  intro w h
  have q : w ∈ TB := by
    rcases List.mem_append.mp h with h | h
    · simp only [List.mem_cons, List.not_mem_nil, or_false] at h
      rcases h with rfl | rfl | rfl <;> assumption
    · exact (gC h5 w h).1
  exact ⟨q, good_of_word (TB_good _ q)⟩
def w_Mod_init : List Cond := .code y_Mod_init b_Mod_init 2 none :: TB
def w_Mod_thrown : List Cond := .code y_Mod_thrown b_Mod_thrown 1 (some .int) :: TB
def w_Mod_raise : List Cond := .code y_Mod_raise b_Mod_raise 2 (some .int) :: TB
def w_Mod_in : List Cond := .code y_Mod_in b_Mod_in 3 (some .boolean) :: TB
def w_Mod_note : List Cond := .code y_Mod_note b_Mod_note 3 none :: TB
def w_Mod_plan : List Cond := .code y_Mod_plan b_Mod_plan 7 (some .int) :: TB
def w_Mod_tariff : List Cond := .code y_Mod_tariff b_Mod_tariff 4 (some .int) :: TB
def w_Mod_sum : List Cond := .code y_Mod_sum b_Mod_sum 2 (some .long) :: TB
def w_Mod_good : List Cond := .code y_Mod_good b_Mod_good 2 (some .boolean) :: TB
def w_Mod_latest : List Cond := .code y_Mod_latest b_Mod_latest 3 (some .int) :: TB
def w_Mod_nextPlace : List Cond := .code y_Mod_nextPlace b_Mod_nextPlace 5 (some .int) :: TB
def w_Mod_word : List Cond := .code y_Mod_word b_Mod_word 4 (some .long) :: TB
def w_Mod_saved : List Cond := .code y_Mod_saved b_Mod_saved 7 (some .long) :: TB
def w_Mod_load : List Cond := .code y_Mod_load b_Mod_load 8 none :: TB
def w_Mod_minute : List Cond := .code y_Mod_minute b_Mod_minute 11 none :: TB
def w_Mod_use : List Cond := .code y_Mod_use b_Mod_use 8 (some .int) :: TB
def w_Mod_close : List Cond := .code y_Mod_close b_Mod_close 1 none :: TB
def w_Mod_checkOf : List Cond := .code y_Mod_checkOf b_Mod_checkOf 5 (some .long) :: TB
def w_Mod_work : List Cond := .code y_Mod_work b_Mod_work 3 none :: TB
def w_Mod_token : List Cond := .code y_Mod_token b_Mod_token 9 (some .int) :: TB
def w_Mod_emergency : List Cond := .code y_Mod_emergency b_Mod_emergency 1 (some .int) :: TB
def w_Mod_save : List Cond := .code y_Mod_save b_Mod_save 3 (some .int) :: TB
def w_Mod_cut : List Cond := .code y_Mod_cut b_Mod_cut 3 (some .int) :: TB
def w_Mod_power : List Cond := .code y_Mod_power b_Mod_power 4 (some .int) :: TB
def w_Mod_stepOf : List Cond := .code y_Mod_stepOf b_Mod_stepOf 4 (some .int) :: TB
def w_Mod_fcs : List Cond := .code y_Mod_fcs b_Mod_fcs 4 (some .int) :: TB
def w_Mod_scaled : List Cond := .code y_Mod_scaled b_Mod_scaled 3 (some .long) :: TB
def w_Mod_known : List Cond := .code y_Mod_known b_Mod_known 3 (some .boolean) :: TB
def w_Mod_answer : List Cond := .code y_Mod_answer b_Mod_answer 3 (some .long) :: TB
def w_Mod_send : List Cond := .code y_Mod_send b_Mod_send 2 none :: TB
def w_Mod_makeReply : List Cond := .code y_Mod_makeReply b_Mod_makeReply 6 none :: TB
def w_Mod_end : List Cond := .code y_Mod_end b_Mod_end 5 (some .int) :: TB
def w_Mod_request : List Cond := .code y_Mod_request b_Mod_request 2 (some .int) :: TB
def w_Mod_reply : List Cond := .code y_Mod_reply b_Mod_reply 2 (some .int) :: TB
def w_Mod_flash : List Cond := .code y_Mod_flash b_Mod_flash 3 (some .long) :: TB
def w_Mod_read : List Cond := .code y_Mod_read b_Mod_read 2 (some .double) :: TB
def w_Mod_price : List Cond := .code y_Mod_price b_Mod_price 2 (some .double) :: TB
def w_Mod_count : List Cond := .code y_Mod_count b_Mod_count 2 (some .int) :: TB
def w_Events_init : List Cond := .code y_Events_init b_Events_init 1 none :: TB
def w_Events_add : List Cond := .code y_Events_add b_Events_add 3 none :: TB
def w_Events_clear : List Cond := .code y_Events_clear b_Events_clear 1 none :: TB
def w_Flash_init : List Cond := .code y_Flash_init b_Flash_init 1 none :: TB
def w_Flash_setCut : List Cond := .code y_Flash_setCut b_Flash_setCut 3 (some .int) :: TB
def w_Flash_wordAt : List Cond := .code y_Flash_wordAt b_Flash_wordAt 3 (some .long) :: TB
def w_Flash_copyToDraft : List Cond := .code y_Flash_copyToDraft b_Flash_copyToDraft 2 none :: TB
def w_Flash_sumOf : List Cond := .code y_Flash_sumOf b_Flash_sumOf 2 (some .long) :: TB
def w_Flash_isGood : List Cond := .code y_Flash_isGood b_Flash_isGood 3 (some .boolean) :: TB
def w_Flash_goodSlots : List Cond := .code y_Flash_goodSlots b_Flash_goodSlots 3 (some .int) :: TB
def w_Flash_newestSlot : List Cond := .code y_Flash_newestSlot b_Flash_newestSlot 3 (some .int) :: TB
def w_Flash_nextNumber : List Cond := .code y_Flash_nextNumber b_Flash_nextNumber 2 (some .long) :: TB
def w_Flash_sectorBehind : List Cond := .code y_Flash_sectorBehind b_Flash_sectorBehind 4 (some .int) :: TB
def w_Flash_erase : List Cond := .code y_Flash_erase b_Flash_erase 4 none :: TB
def w_Flash_makePlace : List Cond := .code y_Flash_makePlace b_Flash_makePlace 2 (some .int) :: TB
def w_Flash_write : List Cond := .code y_Flash_write b_Flash_write 5 (some .boolean) :: TB
def w_Line_init : List Cond := .code y_Line_init b_Line_init 1 none :: TB
def w_Line_giveUp : List Cond := .code y_Line_giveUp b_Line_giveUp 1 none :: TB
def w_Line_keepByte : List Cond := .code y_Line_keepByte b_Line_keepByte 2 none :: TB
def w_Line_endsWith : List Cond := .code y_Line_endsWith b_Line_endsWith 2 (some .boolean) :: TB
def w_Line_isLengthRight : List Cond := .code y_Line_isLengthRight b_Line_isLengthRight 1 (some .boolean) :: TB
def w_Line_fcsOf : List Cond := .code y_Line_fcsOf b_Line_fcsOf 5 (some .int) :: TB
def w_Line_isFcsRight : List Cond := .code y_Line_isFcsRight b_Line_isFcsRight 2 (some .boolean) :: TB
def w_Line_command : List Cond := .code y_Line_command b_Line_command 1 (some .int) :: TB
def w_Line_argument : List Cond := .code y_Line_argument b_Line_argument 1 (some .int) :: TB
def w_Line_frameAnswer : List Cond := .code y_Line_frameAnswer b_Line_frameAnswer 4 none :: TB
def w_Line_answer : List Cond := .code y_Line_answer b_Line_answer 5 (some .int) :: TB
def w_Plans_init : List Cond := .code y_Plans_init b_Plans_init 1 none :: TB
def w_Plans_put : List Cond := .code y_Plans_put b_Plans_put 5 none :: TB
def w_Plans_size : List Cond := .code y_Plans_size b_Plans_size 4 (some .int) :: TB
def w_Plans_tariffAt : List Cond := .code y_Plans_tariffAt b_Plans_tariffAt 6 (some .int) :: TB
def w_State_begin : List Cond := .code y_State_begin b_State_begin 2 none :: TB
def w_State_init : List Cond := .code y_State_init b_State_init 1 none :: TB
def w_State_consume : List Cond := .code y_State_consume b_State_consume 8 none :: TB
def w_State_isCreditSpent : List Cond := .code y_State_isCreditSpent b_State_isCreditSpent 1 (some .boolean) :: TB
def w_State_value : List Cond := .code y_State_value b_State_value 2 (some .double) :: TB
def w_Box_thousandths : List Cond := .code y_Box_thousandths b_Box_thousandths 2 (some .long) :: TB
def w_State_packInto : List Cond := .code y_State_packInto b_State_packInto 4 none :: TB
def w_State_unpackFrom : List Cond := .code y_State_unpackFrom b_State_unpackFrom 6 none :: TB
def w_Box_init : List Cond := .code y_Box_init b_Box_init 2 none :: TB
def w_Box_requireWithin : List Cond := .code y_Box_requireWithin b_Box_requireWithin 3 none :: TB
def w_Box_plan : List Cond := .code y_Box_plan b_Box_plan 5 (some .int) :: TB
def w_Box_requireUpTo : List Cond := .code y_Box_requireUpTo b_Box_requireUpTo 4 none :: TB
def w_Box_requireOn : List Cond := .code y_Box_requireOn b_Box_requireOn 1 none :: TB
def w_Box_note : List Cond := .code y_Box_note b_Box_note 2 none :: TB
def w_Box_keep : List Cond := .code y_Box_keep b_Box_keep 4 (some .int) :: TB
def w_Box_passMinute : List Cond := .code y_Box_passMinute b_Box_passMinute 7 none :: TB
def w_Box_use : List Cond := .code y_Box_use b_Box_use 8 (some .int) :: TB
def w_Box_checkOf : List Cond := .code y_Box_checkOf b_Box_checkOf 4 (some .int) :: TB
def w_Box_putToWork : List Cond := .code y_Box_putToWork b_Box_putToWork 3 none :: TB
def w_Box_keepOrThrow : List Cond := .code y_Box_keepOrThrow b_Box_keepOrThrow 2 (some .int) :: TB
def w_Box_closeRelay : List Cond := .code y_Box_closeRelay b_Box_closeRelay 1 none :: TB
def w_Box_token : List Cond := .code y_Box_token b_Box_token 9 (some .int) :: TB
def w_Box_emergency : List Cond := .code y_Box_emergency b_Box_emergency 1 (some .int) :: TB
def w_Box_save : List Cond := .code y_Box_save b_Box_save 1 (some .int) :: TB
def w_Box_cut : List Cond := .code y_Box_cut b_Box_cut 2 (some .int) :: TB
def w_Box_load : List Cond := .code y_Box_load b_Box_load 2 none :: TB
def w_Box_power : List Cond := .code y_Box_power b_Box_power 2 (some .int) :: TB
def w_Box_isKnown : List Cond := .code y_Box_isKnown b_Box_isKnown 3 (some .boolean) :: TB
def w_Box_numberFor : List Cond := .code y_Box_numberFor b_Box_numberFor 3 (some .long) :: TB
def w_Box_request : List Cond := .code y_Box_request b_Box_request 4 (some .int) :: TB
def w_Box_reply : List Cond := .code y_Box_reply b_Box_reply 2 (some .int) :: TB
def w_Box_flash : List Cond := .code y_Box_flash b_Box_flash 3 (some .long) :: TB
def w_Box_read : List Cond := .code y_Box_read b_Box_read 2 (some .double) :: TB
def w_Box_price : List Cond := .code y_Box_price b_Box_price 2 (some .double) :: TB
def w_Box_countOfState : List Cond := .code y_Box_countOfState b_Box_countOfState 2 (some .int) :: TB
def w_Box_count : List Cond := .code y_Box_count b_Box_count 2 (some .int) :: TB
def NW : List Cond := [Cond.fieldLinkNest R_Box 228 "MeterBox$State" "time" "I" "MeterBox", Cond.fieldLinkNest R_Box 132 "MeterBox$State" "credit" "D" "MeterBox", Cond.fieldLinkNest R_Box 259 "MeterBox$State" "highest" "D" "MeterBox", Cond.fieldLinkNest R_Box 114 "MeterBox$State" "last" "I" "MeterBox", Cond.fieldLinkNest R_Box 81 "MeterBox$State" "relayOpen" "Z" "MeterBox", Cond.fieldLinkNest R_Box 139 "MeterBox$State" "emergencyUsed" "Z" "MeterBox", Cond.methodLinkNest R_Box 29 y_Events_init "MeterBox", Cond.fieldLinkNest R_Box 300 "MeterBox$Events" "kept" "[I" "MeterBox", Cond.fieldLinkNest R_Box 223 "MeterBox$Events" "size" "I" "MeterBox", Cond.fieldLinkNest R_Box 225 "MeterBox$Flash" "wear" "[I" "MeterBox", Cond.fieldLinkNest R_Box 269 "MeterBox$Flash" "draft" "[J" "MeterBox", Cond.fieldLinkNest R_Box 288 "MeterBox$Flash" "latest" "I" "MeterBox", Cond.methodLinkNest R_Box 43 y_Line_init "MeterBox", Cond.fieldLinkNest R_Box 209 "MeterBox$Line" "answerBytes" "[I" "MeterBox", Cond.fieldLinkNest R_Box 201 "MeterBox$Line" "answerLength" "I" "MeterBox", Cond.methodLinkNest R_State 47 y_Box_thousandths "MeterBox"]
def NWs (U : State) : Prop := ∀ w ∈ NW, va_Nw w U
theorem NW_in : ∀ w ∈ NW, w ∈ lw_tbl := by decide +kernel
theorem NW_kind : ∀ w ∈ NW, (∃ a i b n d h, w = Cond.fieldLinkNest a i b n d h) ∨ ∃ a i x h, w = Cond.methodLinkNest a i x h := by
  intro w h
  simp only [NW, List.mem_cons, List.not_mem_nil, or_false] at h
  rcases h with rfl | rfl | rfl | rfl | rfl | rfl | rfl | rfl | rfl | rfl | rfl | rfl | rfl | rfl | rfl | rfl <;> first | exact Or.inl ⟨_, _, _, _, _, _, rfl⟩ | exact Or.inr ⟨_, _, _, _, rfl⟩
theorem NWs.warm {s U : State} (hW : s.WarmedH U.vm) (h : NWs s) : NWs U := by
  intro w hw
  have h1 := h w hw
  rcases NW_kind w hw with ⟨a, i, b, n, d, h9, rfl⟩ | ⟨a, i, x, h9, rfl⟩
  · exact va_Nw.warmF hW h1
  · exact va_Nw.warmM hW h1
theorem NWs.same {u U : State} (hv : u.vm = U.vm) (h : NWs u) : NWs U := by
  intro w hw
  have h1 := h w hw
  rcases NW_kind w hw with ⟨a, i, b, n, d, h9, rfl⟩ | ⟨a, i, x, h9, rfl⟩
  · exact va_Nw.same rfl hv h1
  · exact va_Nw.same rfl hv h1
theorem n_0 : Cond.fieldLinkNest R_Box 228 "MeterBox$State" "time" "I" "MeterBox" ∈ NW := List.mem_of_getElem? (i := 0) rfl
theorem nw_0 {U : State} {args : Array Value} (h : NWs U) : (Cond.fieldLinkNest R_Box 228 "MeterBox$State" "time" "I" "MeterBox").before args U = true := va_Nw.use rfl (h _ n_0)
theorem n_1 : Cond.fieldLinkNest R_Box 132 "MeterBox$State" "credit" "D" "MeterBox" ∈ NW := List.mem_of_getElem? (i := 1) rfl
theorem nw_1 {U : State} {args : Array Value} (h : NWs U) : (Cond.fieldLinkNest R_Box 132 "MeterBox$State" "credit" "D" "MeterBox").before args U = true := va_Nw.use rfl (h _ n_1)
theorem n_2 : Cond.fieldLinkNest R_Box 259 "MeterBox$State" "highest" "D" "MeterBox" ∈ NW := List.mem_of_getElem? (i := 2) rfl
theorem nw_2 {U : State} {args : Array Value} (h : NWs U) : (Cond.fieldLinkNest R_Box 259 "MeterBox$State" "highest" "D" "MeterBox").before args U = true := va_Nw.use rfl (h _ n_2)
theorem n_3 : Cond.fieldLinkNest R_Box 114 "MeterBox$State" "last" "I" "MeterBox" ∈ NW := List.mem_of_getElem? (i := 3) rfl
theorem nw_3 {U : State} {args : Array Value} (h : NWs U) : (Cond.fieldLinkNest R_Box 114 "MeterBox$State" "last" "I" "MeterBox").before args U = true := va_Nw.use rfl (h _ n_3)
theorem n_4 : Cond.fieldLinkNest R_Box 81 "MeterBox$State" "relayOpen" "Z" "MeterBox" ∈ NW := List.mem_of_getElem? (i := 4) rfl
theorem nw_4 {U : State} {args : Array Value} (h : NWs U) : (Cond.fieldLinkNest R_Box 81 "MeterBox$State" "relayOpen" "Z" "MeterBox").before args U = true := va_Nw.use rfl (h _ n_4)
theorem n_5 : Cond.fieldLinkNest R_Box 139 "MeterBox$State" "emergencyUsed" "Z" "MeterBox" ∈ NW := List.mem_of_getElem? (i := 5) rfl
theorem nw_5 {U : State} {args : Array Value} (h : NWs U) : (Cond.fieldLinkNest R_Box 139 "MeterBox$State" "emergencyUsed" "Z" "MeterBox").before args U = true := va_Nw.use rfl (h _ n_5)
theorem n_6 : Cond.methodLinkNest R_Box 29 y_Events_init "MeterBox" ∈ NW := List.mem_of_getElem? (i := 6) rfl
theorem nw_6 {U : State} {args : Array Value} (h : NWs U) : (Cond.methodLinkNest R_Box 29 y_Events_init "MeterBox").before args U = true := va_Nw.use rfl (h _ n_6)
theorem n_7 : Cond.fieldLinkNest R_Box 300 "MeterBox$Events" "kept" "[I" "MeterBox" ∈ NW := List.mem_of_getElem? (i := 7) rfl
theorem nw_7 {U : State} {args : Array Value} (h : NWs U) : (Cond.fieldLinkNest R_Box 300 "MeterBox$Events" "kept" "[I" "MeterBox").before args U = true := va_Nw.use rfl (h _ n_7)
theorem n_8 : Cond.fieldLinkNest R_Box 223 "MeterBox$Events" "size" "I" "MeterBox" ∈ NW := List.mem_of_getElem? (i := 8) rfl
theorem nw_8 {U : State} {args : Array Value} (h : NWs U) : (Cond.fieldLinkNest R_Box 223 "MeterBox$Events" "size" "I" "MeterBox").before args U = true := va_Nw.use rfl (h _ n_8)
theorem n_9 : Cond.fieldLinkNest R_Box 225 "MeterBox$Flash" "wear" "[I" "MeterBox" ∈ NW := List.mem_of_getElem? (i := 9) rfl
theorem nw_9 {U : State} {args : Array Value} (h : NWs U) : (Cond.fieldLinkNest R_Box 225 "MeterBox$Flash" "wear" "[I" "MeterBox").before args U = true := va_Nw.use rfl (h _ n_9)
theorem n_10 : Cond.fieldLinkNest R_Box 269 "MeterBox$Flash" "draft" "[J" "MeterBox" ∈ NW := List.mem_of_getElem? (i := 10) rfl
theorem nw_10 {U : State} {args : Array Value} (h : NWs U) : (Cond.fieldLinkNest R_Box 269 "MeterBox$Flash" "draft" "[J" "MeterBox").before args U = true := va_Nw.use rfl (h _ n_10)
theorem n_11 : Cond.fieldLinkNest R_Box 288 "MeterBox$Flash" "latest" "I" "MeterBox" ∈ NW := List.mem_of_getElem? (i := 11) rfl
theorem nw_11 {U : State} {args : Array Value} (h : NWs U) : (Cond.fieldLinkNest R_Box 288 "MeterBox$Flash" "latest" "I" "MeterBox").before args U = true := va_Nw.use rfl (h _ n_11)
theorem n_12 : Cond.methodLinkNest R_Box 43 y_Line_init "MeterBox" ∈ NW := List.mem_of_getElem? (i := 12) rfl
theorem nw_12 {U : State} {args : Array Value} (h : NWs U) : (Cond.methodLinkNest R_Box 43 y_Line_init "MeterBox").before args U = true := va_Nw.use rfl (h _ n_12)
theorem n_13 : Cond.fieldLinkNest R_Box 209 "MeterBox$Line" "answerBytes" "[I" "MeterBox" ∈ NW := List.mem_of_getElem? (i := 13) rfl
theorem nw_13 {U : State} {args : Array Value} (h : NWs U) : (Cond.fieldLinkNest R_Box 209 "MeterBox$Line" "answerBytes" "[I" "MeterBox").before args U = true := va_Nw.use rfl (h _ n_13)
theorem n_14 : Cond.fieldLinkNest R_Box 201 "MeterBox$Line" "answerLength" "I" "MeterBox" ∈ NW := List.mem_of_getElem? (i := 14) rfl
theorem nw_14 {U : State} {args : Array Value} (h : NWs U) : (Cond.fieldLinkNest R_Box 201 "MeterBox$Line" "answerLength" "I" "MeterBox").before args U = true := va_Nw.use rfl (h _ n_14)
theorem n_15 : Cond.methodLinkNest R_State 47 y_Box_thousandths "MeterBox" ∈ NW := List.mem_of_getElem? (i := 15) rfl
theorem nw_15 {U : State} {args : Array Value} (h : NWs U) : (Cond.methodLinkNest R_State 47 y_Box_thousandths "MeterBox").before args U = true := va_Nw.use rfl (h _ n_15)
