/-! ===== BEGIN words of one list among another's, by their places ===== -/
theorem goodIn_r {big : List Cond} (ws : List Cond) (ps : List Nat) (hp : ws = ps.filterMap (fun i => big[i]?)) (h : ws.all goodWord = true) : GoodIn big ws := by
  intro w hw
  have h1 := List.all_eq_true.mp h w hw
  rw [hp] at hw
  obtain ⟨i, -, hi⟩ := List.mem_filterMap.mp hw
  have hm : w ∈ big := by first | exact List.mem_of_getElem? hi | exact List.getElem?_mem hi
  exact ⟨hm, good_of_word h1⟩
theorem goodIn_app {big a b : List Cond} (ha : GoodIn big a) (hb : GoodIn big b) : GoodIn big (a ++ b) := fun w h => (List.mem_append.mp h).elim (ha w) (hb w)
theorem goodIn_ca {big a b : List Cond} {c : Cond} (ha : GoodIn big (c :: a)) (hb : GoodIn big b) : GoodIn big (c :: (a ++ b)) := fun w h => (List.mem_cons.mp h).elim (fun e => ha w (List.mem_cons.mpr (Or.inl e))) (fun h => (List.mem_append.mp h).elim (fun h => ha w (List.mem_cons.mpr (Or.inr h))) (hb w))
theorem goodIn_sub {big ws : List Cond} (hm : ∀ w ∈ ws, w ∈ big) (h : ws.all goodWord = true) : GoodIn big ws := fun w hw => ⟨hm w hw, good_of_word (List.all_eq_true.mp h w hw)⟩
/-! ===== END ===== -/

def RX0 : String := "SameKeeper$Code"
def TX0 : u_T := fun k => match k with
  | 0 => ("SameKeeper$Code", "steps", "[I", true)
  | 1 => ("SameKeeper$Code", "stack", "[J", true)
  | 2 => ("SameKeeper$Code", "names", "[J", true)
  | 3 => ("SameKeeper$Code", "counts", "[J", true)
  | 4 => ("SameKeeper$Code", "length", "I", false)
  | _ => ("SameKeeper$Code", "mindsWeek", "Z", false)
def tyX0 : Nat → FieldType := fun k => match k with
  | 0 => .array .int
  | 1 => .array .long
  | 2 => .array .long
  | 3 => .array .long
  | 4 => .int
  | _ => .boolean
abbrev wsX00 : List Cond := u_ws RX0 TX0 6
theorem nmX0 : ∀ a, a < 6 → ∀ b, b < 6 → a ≠ b → (TX0 a).2.1 ≠ (TX0 b).2.1 := by decide +kernel
theorem tyX0_ok : ∀ k, k < 6 → parseFieldDescriptor (TX0 k).2.2.1 = some (tyX0 k) := by decide +kernel
abbrev cX0_init : ByteArray := prog_2_method_1_code
def yX0_init : MethodName := ⟨RX0, "<init>", "()V"⟩
abbrev cX0_clear : ByteArray := prog_2_method_2_code
def yX0_clear : MethodName := ⟨RX0, "clear", "()V"⟩
abbrev cX0_add : ByteArray := prog_2_method_3_code
def yX0_add : MethodName := ⟨RX0, "add", "(I)V"⟩
abbrev cX0_name : ByteArray := prog_2_method_4_code
def yX0_name : MethodName := ⟨RX0, "name", "(IJ)V"⟩
abbrev cX0_nameCount : ByteArray := prog_2_method_5_code
def yX0_nameCount : MethodName := ⟨RX0, "nameCount", "(IJ)V"⟩
abbrev cX0_run : ByteArray := prog_2_method_6_code
def yX0_run : MethodName := ⟨RX0, "run", "(II)J"⟩
abbrev cX0_ofOne : ByteArray := prog_2_method_7_code
def yX0_ofOne : MethodName := ⟨RX0, "ofOne", "(IJ)J"⟩
abbrev cX0_ofTwo : ByteArray := prog_2_method_8_code
def yX0_ofTwo : MethodName := ⟨RX0, "ofTwo", "(IJJ)J"⟩
abbrev cX0_bounded : ByteArray := prog_2_method_9_code
def yX0_bounded : MethodName := ⟨RX0, "bounded", "(J)J"⟩
def RX1 : String := "SameKeeper$Graph"
def TX1 : u_T := fun k => match k with
  | 0 => ("SameKeeper$Graph", "table", "LSameKeeper$Table;", true)
  | 1 => ("SameKeeper$Graph", "leads", "[I", true)
  | 2 => ("SameKeeper$Graph", "allowed", "[I", true)
  | 3 => ("SameKeeper$Graph", "live", "[I", true)
  | 4 => ("SameKeeper$Graph", "ways", "[J", true)
  | 5 => ("SameKeeper$Graph", "comings", "[J", true)
  | 6 => ("SameKeeper$Graph", "gains", "[J", true)
  | 7 => ("SameKeeper$Graph", "days", "I", false)
  | _ => ("SameKeeper$Graph", "start", "I", false)
def tyX1 : Nat → FieldType := fun k => match k with
  | 0 => .object "SameKeeper$Table"
  | 1 => .array .int
  | 2 => .array .int
  | 3 => .array .int
  | 4 => .array .long
  | 5 => .array .long
  | 6 => .array .long
  | 7 => .int
  | _ => .int
abbrev wsX10 : List Cond := u_ws RX1 TX1 9
theorem nmX1 : ∀ a, a < 9 → ∀ b, b < 9 → a ≠ b → (TX1 a).2.1 ≠ (TX1 b).2.1 := by decide +kernel
theorem tyX1_ok : ∀ k, k < 9 → parseFieldDescriptor (TX1 k).2.2.1 = some (tyX1 k) := by decide +kernel
abbrev cX1_init : ByteArray := prog_3_method_1_code
def yX1_init : MethodName := ⟨RX1, "<init>", "(LSameKeeper$Table;)V"⟩
abbrev cX1_lay : ByteArray := prog_3_method_2_code
def yX1_lay : MethodName := ⟨RX1, "lay", "(LSameKeeper$State;II)V"⟩
abbrev cX1_allowOnly : ByteArray := prog_3_method_3_code
def yX1_allowOnly : MethodName := ⟨RX1, "allowOnly", "(II)V"⟩
abbrev cX1_settle : ByteArray := prog_3_method_4_code
def yX1_settle : MethodName := ⟨RX1, "settle", "()Z"⟩
abbrev cX1_next : ByteArray := prog_3_method_5_code
def yX1_next : MethodName := ⟨RX1, "next", "(II)I"⟩
abbrev cX1_moodsOf : ByteArray := prog_3_method_6_code
def yX1_moodsOf : MethodName := ⟨RX1, "moodsOf", "(I)I"⟩
abbrev cX1_takeFirst : ByteArray := prog_3_method_7_code
def yX1_takeFirst : MethodName := ⟨RX1, "takeFirst", "([I)V"⟩
abbrev cX1_countWays : ByteArray := prog_3_method_8_code
def yX1_countWays : MethodName := ⟨RX1, "countWays", "()J"⟩
abbrev cX1_countComings : ByteArray := prog_3_method_9_code
def yX1_countComings : MethodName := ⟨RX1, "countComings", "()V"⟩
abbrev cX1_timesOf : ByteArray := prog_3_method_10_code
def yX1_timesOf : MethodName := ⟨RX1, "timesOf", "(II)J"⟩
abbrev cX1_mostLeft : ByteArray := prog_3_method_11_code
def yX1_mostLeft : MethodName := ⟨RX1, "mostLeft", "(I)J"⟩
abbrev cX1_takeNumbered : ByteArray := prog_3_method_12_code
def yX1_takeNumbered : MethodName := ⟨RX1, "takeNumbered", "(J[I)V"⟩
abbrev cX1_bestPay : ByteArray := prog_3_method_13_code
def yX1_bestPay : MethodName := ⟨RX1, "bestPay", "()J"⟩
abbrev cX1_gainBy : ByteArray := prog_3_method_14_code
def yX1_gainBy : MethodName := ⟨RX1, "gainBy", "(II)J"⟩
abbrev cX1_takeBestPaid : ByteArray := prog_3_method_15_code
def yX1_takeBestPaid : MethodName := ⟨RX1, "takeBestPaid", "([I)V"⟩
def RX2 : String := "SameKeeper$Lock"
def TX2 : u_T := fun k => match k with
  | 0 => ("SameKeeper$Lock", "code", "LSameKeeper$Code;", true)
  | 1 => ("SameKeeper$Lock", "barge", "[I", true)
  | 2 => ("SameKeeper$Lock", "wet", "[I", true)
  | 3 => ("SameKeeper$Lock", "from", "[I", true)
  | 4 => ("SameKeeper$Lock", "to", "[I", true)
  | 5 => ("SameKeeper$Lock", "days", "I", false)
  | 6 => ("SameKeeper$Lock", "mood", "I", false)
  | 7 => ("SameKeeper$Lock", "mute", "I", false)
  | 8 => ("SameKeeper$Lock", "rain", "I", false)
  | _ => ("SameKeeper$Lock", "statements", "I", false)
def tyX2 : Nat → FieldType := fun k => match k with
  | 0 => .object "SameKeeper$Code"
  | 1 => .array .int
  | 2 => .array .int
  | 3 => .array .int
  | 4 => .array .int
  | 5 => .int
  | 6 => .int
  | 7 => .int
  | 8 => .int
  | _ => .int
abbrev wsX20 : List Cond := u_ws RX2 TX2 10
theorem nmX2 : ∀ a, a < 10 → ∀ b, b < 10 → a ≠ b → (TX2 a).2.1 ≠ (TX2 b).2.1 := by decide +kernel
theorem tyX2_ok : ∀ k, k < 10 → parseFieldDescriptor (TX2 k).2.2.1 = some (tyX2 k) := by decide +kernel
abbrev cX2_init : ByteArray := prog_4_method_1_code
def yX2_init : MethodName := ⟨RX2, "<init>", "()V"⟩
abbrev cX2_clear : ByteArray := prog_4_method_2_code
def yX2_clear : MethodName := ⟨RX2, "clear", "()V"⟩
abbrev cX2_hasSum : ByteArray := prog_4_method_3_code
def yX2_hasSum : MethodName := ⟨RX2, "hasSum", "(I)Z"⟩
abbrev cX2_beginSum : ByteArray := prog_4_method_4_code
def yX2_beginSum : MethodName := ⟨RX2, "beginSum", "(I)V"⟩
abbrev cX2_endSum : ByteArray := prog_4_method_5_code
def yX2_endSum : MethodName := ⟨RX2, "endSum", "(I)V"⟩
abbrev cX2_addUntold : ByteArray := prog_4_method_6_code
def yX2_addUntold : MethodName := ⟨RX2, "addUntold", "()V"⟩
def RX3 : String := "SameKeeper$LockText"
def TX3 : u_T := fun k => match k with
  | 0 => ("SameKeeper$LockText", "reader", "LSameKeeper$Reader;", true)
  | 1 => ("SameKeeper$LockText", "ofMood", "LSameKeeper$Sums;", true)
  | _ => ("SameKeeper$LockText", "ofDeed", "LSameKeeper$Sums;", true)
def tyX3 : Nat → FieldType := fun k => match k with
  | 0 => .object "SameKeeper$Reader"
  | 1 => .object "SameKeeper$Sums"
  | _ => .object "SameKeeper$Sums"
abbrev wsX30 : List Cond := u_ws RX3 TX3 3
theorem nmX3 : ∀ a, a < 3 → ∀ b, b < 3 → a ≠ b → (TX3 a).2.1 ≠ (TX3 b).2.1 := by decide +kernel
theorem tyX3_ok : ∀ k, k < 3 → parseFieldDescriptor (TX3 k).2.2.1 = some (tyX3 k) := by decide +kernel
abbrev cX3_init : ByteArray := prog_5_method_1_code
def yX3_init : MethodName := ⟨RX3, "<init>", "(LSameKeeper$Reader;)V"⟩
abbrev cX3_read : ByteArray := prog_5_method_2_code
def yX3_read : MethodName := ⟨RX3, "read", "(LSameKeeper$Lock;)V"⟩
abbrev cX3_readOpening : ByteArray := prog_5_method_3_code
def yX3_readOpening : MethodName := ⟨RX3, "readOpening", "(LSameKeeper$Lock;)V"⟩
abbrev cX3_readNumbers : ByteArray := prog_5_method_4_code
def yX3_readNumbers : MethodName := ⟨RX3, "readNumbers", "(LSameKeeper$Lock;)V"⟩
abbrev cX3_readSumOf : ByteArray := prog_5_method_5_code
def yX3_readSumOf : MethodName := ⟨RX3, "readSumOf", "(LSameKeeper$Lock;ILSameKeeper$Sums;)V"⟩
abbrev cX3_readAmount : ByteArray := prog_5_method_6_code
def yX3_readAmount : MethodName := ⟨RX3, "readAmount", "(LSameKeeper$Lock;[I)V"⟩
abbrev cX3_readMute : ByteArray := prog_5_method_7_code
def yX3_readMute : MethodName := ⟨RX3, "readMute", "(LSameKeeper$Lock;)V"⟩
def RX4 : String := "SameKeeper$Past"
def TX4 : u_T := fun k => match k with
  | 0 => ("SameKeeper$Past", "states", "[LSameKeeper$State;", true)
  | 1 => ("SameKeeper$Past", "acts", "I", false)
  | 2 => ("SameKeeper$Past", "weekOf", "[I", true)
  | 3 => ("SameKeeper$Past", "agreedOf", "[J", true)
  | _ => ("SameKeeper$Past", "moodOf", "[I", true)
def tyX4 : Nat → FieldType := fun k => match k with
  | 0 => .array (.object "SameKeeper$State")
  | 1 => .int
  | 2 => .array .int
  | 3 => .array .long
  | _ => .array .int
abbrev wsX40 : List Cond := u_ws RX4 TX4 5
theorem nmX4 : ∀ a, a < 5 → ∀ b, b < 5 → a ≠ b → (TX4 a).2.1 ≠ (TX4 b).2.1 := by decide +kernel
theorem tyX4_ok : ∀ k, k < 5 → parseFieldDescriptor (TX4 k).2.2.1 = some (tyX4 k) := by decide +kernel
abbrev cX4_init : ByteArray := prog_6_method_1_code
def yX4_init : MethodName := ⟨RX4, "<init>", "()V"⟩
abbrev cX4_forget : ByteArray := prog_6_method_2_code
def yX4_forget : MethodName := ⟨RX4, "forget", "()V"⟩
abbrev cX4_save : ByteArray := prog_6_method_3_code
def yX4_save : MethodName := ⟨RX4, "save", "(LSameKeeper$State;)V"⟩
abbrev cX4_restore : ByteArray := prog_6_method_4_code
def yX4_restore : MethodName := ⟨RX4, "restore", "(LSameKeeper$State;)Z"⟩
abbrev cX4_keep : ByteArray := prog_6_method_5_code
def yX4_keep : MethodName := ⟨RX4, "keep", "(LSameKeeper$State;JI)V"⟩
abbrev cX4_toldOf : ByteArray := prog_6_method_6_code
def yX4_toldOf : MethodName := ⟨RX4, "toldOf", "(I)I"⟩
abbrev cX4_ofKept : ByteArray := prog_6_method_7_code
def yX4_ofKept : MethodName := ⟨RX4, "ofKept", "(II)J"⟩
def RX5 : String := "SameKeeper$Question"
def TX5 : u_T := fun k => match k with
  | 0 => ("SameKeeper$Question", "reader", "LSameKeeper$Reader;", true)
  | 1 => ("SameKeeper$Question", "sums", "LSameKeeper$Sums;", true)
  | 2 => ("SameKeeper$Question", "code", "LSameKeeper$Code;", true)
  | _ => ("SameKeeper$Question", "verb", "I", false)
def tyX5 : Nat → FieldType := fun k => match k with
  | 0 => .object "SameKeeper$Reader"
  | 1 => .object "SameKeeper$Sums"
  | 2 => .object "SameKeeper$Code"
  | _ => .int
abbrev wsX50 : List Cond := u_ws RX5 TX5 4
theorem nmX5 : ∀ a, a < 4 → ∀ b, b < 4 → a ≠ b → (TX5 a).2.1 ≠ (TX5 b).2.1 := by decide +kernel
theorem tyX5_ok : ∀ k, k < 4 → parseFieldDescriptor (TX5 k).2.2.1 = some (tyX5 k) := by decide +kernel
abbrev cX5_init : ByteArray := prog_7_method_1_code
def yX5_init : MethodName := ⟨RX5, "<init>", "(LSameKeeper$Reader;)V"⟩
abbrev cX5_read : ByteArray := prog_7_method_2_code
def yX5_read : MethodName := ⟨RX5, "read", "()V"⟩
abbrev cX5_readTest : ByteArray := prog_7_method_3_code
def yX5_readTest : MethodName := ⟨RX5, "readTest", "()V"⟩
abbrev cX5_readBoth : ByteArray := prog_7_method_4_code
def yX5_readBoth : MethodName := ⟨RX5, "readBoth", "()V"⟩
abbrev cX5_readFact : ByteArray := prog_7_method_5_code
def yX5_readFact : MethodName := ⟨RX5, "readFact", "()V"⟩
abbrev cX5_stepOf : ByteArray := prog_7_method_6_code
def yX5_stepOf : MethodName := ⟨RX5, "stepOf", "(I)I"⟩
abbrev cX5_answer : ByteArray := prog_7_method_7_code
def yX5_answer : MethodName := ⟨RX5, "answer", "(LSameKeeper$State;LSameKeeper$Graph;[I)J"⟩
abbrev cX5_isOfDays : ByteArray := prog_7_method_8_code
def yX5_isOfDays : MethodName := ⟨RX5, "isOfDays", "()Z"⟩
abbrev cX5_nameDay : ByteArray := prog_7_method_9_code
def yX5_nameDay : MethodName := ⟨RX5, "nameDay", "(LSameKeeper$State;LSameKeeper$Graph;II)V"⟩
abbrev cX5_joined : ByteArray := prog_7_method_10_code
def yX5_joined : MethodName := ⟨RX5, "joined", "(JJI)J"⟩
def RX6 : String := "SameKeeper$Reader"
def TX6 : u_T := fun k => match k with
  | 0 => ("SameKeeper$Reader", "tape", "LSameKeeper$Tape;", true)
  | 1 => ("SameKeeper$Reader", "at", "I", false)
  | 2 => ("SameKeeper$Reader", "value", "I", false)
  | 3 => ("SameKeeper$Reader", "open", "I", false)
  | 4 => ("SameKeeper$Reader", "token", "I", false)
  | 5 => ("SameKeeper$Reader", "start", "I", false)
  | 6 => ("SameKeeper$Reader", "fault", "I", false)
  | _ => ("SameKeeper$Reader", "place", "I", false)
def tyX6 : Nat → FieldType := fun k => match k with
  | 0 => .object "SameKeeper$Tape"
  | 1 => .int
  | 2 => .int
  | 3 => .int
  | 4 => .int
  | 5 => .int
  | 6 => .int
  | _ => .int
abbrev wsX60 : List Cond := u_ws RX6 TX6 8
theorem nmX6 : ∀ a, a < 8 → ∀ b, b < 8 → a ≠ b → (TX6 a).2.1 ≠ (TX6 b).2.1 := by decide +kernel
theorem tyX6_ok : ∀ k, k < 8 → parseFieldDescriptor (TX6 k).2.2.1 = some (tyX6 k) := by decide +kernel
abbrev cX6_init : ByteArray := prog_8_method_1_code
def yX6_init : MethodName := ⟨RX6, "<init>", "(LSameKeeper$Tape;)V"⟩
abbrev cX6_begin : ByteArray := prog_8_method_2_code
def yX6_begin : MethodName := ⟨RX6, "begin", "()V"⟩
abbrev cX6_fail : ByteArray := prog_8_method_3_code
def yX6_fail : MethodName := ⟨RX6, "fail", "(II)V"⟩
abbrev cX6_failHere : ByteArray := prog_8_method_4_code
def yX6_failHere : MethodName := ⟨RX6, "failHere", "()V"⟩
abbrev cX6_step : ByteArray := prog_8_method_5_code
def yX6_step : MethodName := ⟨RX6, "step", "()V"⟩
abbrev cX6_readWord : ByteArray := prog_8_method_6_code
def yX6_readWord : MethodName := ⟨RX6, "readWord", "()V"⟩
abbrev cX6_readNumber : ByteArray := prog_8_method_7_code
def yX6_readNumber : MethodName := ⟨RX6, "readNumber", "()V"⟩
abbrev cX6_takes : ByteArray := prog_8_method_8_code
def yX6_takes : MethodName := ⟨RX6, "takes", "(I)Z"⟩
abbrev cX6_needs : ByteArray := prog_8_method_9_code
def yX6_needs : MethodName := ⟨RX6, "needs", "(I)V"⟩
abbrev cX6_takeNumber : ByteArray := prog_8_method_10_code
def yX6_takeNumber : MethodName := ⟨RX6, "takeNumber", "(II)I"⟩
abbrev cX6_opens : ByteArray := prog_8_method_11_code
def yX6_opens : MethodName := ⟨RX6, "opens", "(I)Z"⟩
abbrev cX6_shuts : ByteArray := prog_8_method_12_code
def yX6_shuts : MethodName := ⟨RX6, "shuts", "()V"⟩
def RX7 : String := "SameKeeper$State"
def TX7 : u_T := fun k => match k with
  | 0 => ("SameKeeper$State", "barge", "[I", true)
  | 1 => ("SameKeeper$State", "wet", "[I", true)
  | 2 => ("SameKeeper$State", "days", "I", false)
  | 3 => ("SameKeeper$State", "week", "I", false)
  | 4 => ("SameKeeper$State", "mood", "I", false)
  | 5 => ("SameKeeper$State", "mute", "I", false)
  | _ => ("SameKeeper$State", "kept", "I", false)
def tyX7 : Nat → FieldType := fun k => match k with
  | 0 => .array .int
  | 1 => .array .int
  | 2 => .int
  | 3 => .int
  | 4 => .int
  | 5 => .int
  | _ => .int
abbrev wsX70 : List Cond := u_ws RX7 TX7 7
theorem nmX7 : ∀ a, a < 7 → ∀ b, b < 7 → a ≠ b → (TX7 a).2.1 ≠ (TX7 b).2.1 := by decide +kernel
theorem tyX7_ok : ∀ k, k < 7 → parseFieldDescriptor (TX7 k).2.2.1 = some (tyX7 k) := by decide +kernel
abbrev cX7_init : ByteArray := prog_9_method_1_code
def yX7_init : MethodName := ⟨RX7, "<init>", "()V"⟩
abbrev cX7_begin : ByteArray := prog_9_method_2_code
def yX7_begin : MethodName := ⟨RX7, "begin", "(LSameKeeper$Lock;)V"⟩
abbrev cX7_copy : ByteArray := prog_9_method_3_code
def yX7_copy : MethodName := ⟨RX7, "copy", "(LSameKeeper$State;)V"⟩
abbrev cX7_isMute : ByteArray := prog_9_method_4_code
def yX7_isMute : MethodName := ⟨RX7, "isMute", "(I)Z"⟩
abbrev cX7_amount : ByteArray := prog_9_method_5_code
def yX7_amount : MethodName := ⟨RX7, "amount", "(II)I"⟩
abbrev cX7_put : ByteArray := prog_9_method_6_code
def yX7_put : MethodName := ⟨RX7, "put", "(III)V"⟩
def RX8 : String := "SameKeeper$Sums"
def TX8 : u_T := fun k => match k with
  | 0 => ("SameKeeper$Sums", "reader", "LSameKeeper$Reader;", true)
  | _ => ("SameKeeper$Sums", "kind", "I", true)
def tyX8 : Nat → FieldType := fun k => match k with
  | 0 => .object "SameKeeper$Reader"
  | _ => .int
abbrev wsX80 : List Cond := u_ws RX8 TX8 2
theorem nmX8 : ∀ a, a < 2 → ∀ b, b < 2 → a ≠ b → (TX8 a).2.1 ≠ (TX8 b).2.1 := by decide +kernel
theorem tyX8_ok : ∀ k, k < 2 → parseFieldDescriptor (TX8 k).2.2.1 = some (tyX8 k) := by decide +kernel
abbrev cX8_init : ByteArray := prog_10_method_1_code
def yX8_init : MethodName := ⟨RX8, "<init>", "(LSameKeeper$Reader;I)V"⟩
abbrev cX8_read : ByteArray := prog_10_method_2_code
def yX8_read : MethodName := ⟨RX8, "read", "(LSameKeeper$Code;)V"⟩
abbrev cX8_readSum : ByteArray := prog_10_method_3_code
def yX8_readSum : MethodName := ⟨RX8, "readSum", "(LSameKeeper$Code;)V"⟩
abbrev cX8_readProduct : ByteArray := prog_10_method_4_code
def yX8_readProduct : MethodName := ⟨RX8, "readProduct", "(LSameKeeper$Code;)V"⟩
abbrev cX8_readPart : ByteArray := prog_10_method_5_code
def yX8_readPart : MethodName := ⟨RX8, "readPart", "(LSameKeeper$Code;)V"⟩
abbrev cX8_readPair : ByteArray := prog_10_method_6_code
def yX8_readPair : MethodName := ⟨RX8, "readPair", "(LSameKeeper$Code;I)V"⟩
abbrev cX8_nameInLock : ByteArray := prog_10_method_7_code
def yX8_nameInLock : MethodName := ⟨RX8, "nameInLock", "(I)I"⟩
abbrev cX8_nameInQuestion : ByteArray := prog_10_method_8_code
def yX8_nameInQuestion : MethodName := ⟨RX8, "nameInQuestion", "(I)I"⟩
def RX9 : String := "SameKeeper$Table"
def TX9 : u_T := fun k => match k with
  | 0 => ("SameKeeper$Table", "said", "[I", true)
  | 1 => ("SameKeeper$Table", "turned", "[I", true)
  | 2 => ("SameKeeper$Table", "alone", "[I", true)
  | 3 => ("SameKeeper$Table", "open", "[I", true)
  | 4 => ("SameKeeper$Table", "wages", "[J", true)
  | _ => ("SameKeeper$Table", "keys", "[I", true)
def tyX9 : Nat → FieldType := fun k => match k with
  | 0 => .array .int
  | 1 => .array .int
  | 2 => .array .int
  | 3 => .array .int
  | 4 => .array .long
  | _ => .array .int
abbrev wsX90 : List Cond := u_ws RX9 TX9 6
theorem nmX9 : ∀ a, a < 6 → ∀ b, b < 6 → a ≠ b → (TX9 a).2.1 ≠ (TX9 b).2.1 := by decide +kernel
theorem tyX9_ok : ∀ k, k < 6 → parseFieldDescriptor (TX9 k).2.2.1 = some (tyX9 k) := by decide +kernel
abbrev cX9_init : ByteArray := prog_11_method_1_code
def yX9_init : MethodName := ⟨RX9, "<init>", "()V"⟩
abbrev cX9_forget : ByteArray := prog_11_method_2_code
def yX9_forget : MethodName := ⟨RX9, "forget", "()V"⟩
abbrev cX9_fit : ByteArray := prog_11_method_3_code
def yX9_fit : MethodName := ⟨RX9, "fit", "(LSameKeeper$Lock;LSameKeeper$State;)V"⟩
abbrev cX9_nameDay : ByteArray := prog_11_method_4_code
def yX9_nameDay : MethodName := ⟨RX9, "nameDay", "(LSameKeeper$Code;LSameKeeper$State;I)V"⟩
abbrev cX9_fillWords : ByteArray := prog_11_method_5_code
def yX9_fillWords : MethodName := ⟨RX9, "fillWords", "(LSameKeeper$Lock;I)V"⟩
abbrev cX9_fillDeeds : ByteArray := prog_11_method_6_code
def yX9_fillDeeds : MethodName := ⟨RX9, "fillDeeds", "(LSameKeeper$Lock;I)V"⟩
abbrev cX9_moodsBehind : ByteArray := prog_11_method_7_code
def yX9_moodsBehind : MethodName := ⟨RX9, "moodsBehind", "(III)I"⟩
abbrev cX9_moodsThatSay : ByteArray := prog_11_method_8_code
def yX9_moodsThatSay : MethodName := ⟨RX9, "moodsThatSay", "(II)I"⟩
def RX10 : String := "SameKeeper$Tape"
def TX10 : u_T := fun k => match k with
  | 0 => ("SameKeeper$Tape", "bytes", "[I", true)
  | _ => ("SameKeeper$Tape", "length", "I", false)
def tyX10 : Nat → FieldType := fun k => match k with
  | 0 => .array .int
  | _ => .int
abbrev wsX100 : List Cond := u_ws RX10 TX10 2
theorem nmX10 : ∀ a, a < 2 → ∀ b, b < 2 → a ≠ b → (TX10 a).2.1 ≠ (TX10 b).2.1 := by decide +kernel
theorem tyX10_ok : ∀ k, k < 2 → parseFieldDescriptor (TX10 k).2.2.1 = some (tyX10 k) := by decide +kernel
abbrev cX10_init : ByteArray := prog_12_method_1_code
def yX10_init : MethodName := ⟨RX10, "<init>", "(I)V"⟩
abbrev cX10_add : ByteArray := prog_12_method_2_code
def yX10_add : MethodName := ⟨RX10, "add", "(I)V"⟩
abbrev cX10_addNumber : ByteArray := prog_12_method_3_code
def yX10_addNumber : MethodName := ⟨RX10, "addNumber", "(I)V"⟩
abbrev cX10_left : ByteArray := prog_12_method_4_code
def yX10_left : MethodName := ⟨RX10, "left", "(I)I"⟩
abbrev cX10_checkOf : ByteArray := prog_12_method_5_code
def yX10_checkOf : MethodName := ⟨RX10, "checkOf", "(I)I"⟩
def RX11 : String := "SameKeeper"
def TX11 : u_T := fun k => match k with
  | 0 => ("SameKeeper", "tape", "LSameKeeper$Tape;", true)
  | 1 => ("SameKeeper", "picture", "LSameKeeper$Tape;", true)
  | 2 => ("SameKeeper", "reader", "LSameKeeper$Reader;", true)
  | 3 => ("SameKeeper", "lockText", "LSameKeeper$LockText;", true)
  | 4 => ("SameKeeper", "question", "LSameKeeper$Question;", true)
  | 5 => ("SameKeeper", "held", "LSameKeeper$Lock;", false)
  | 6 => ("SameKeeper", "draft", "LSameKeeper$Lock;", false)
  | 7 => ("SameKeeper", "now", "LSameKeeper$State;", true)
  | 8 => ("SameKeeper", "trial", "LSameKeeper$State;", true)
  | 9 => ("SameKeeper", "past", "LSameKeeper$Past;", true)
  | 10 => ("SameKeeper", "table", "LSameKeeper$Table;", true)
  | 11 => ("SameKeeper", "graph", "LSameKeeper$Graph;", true)
  | 12 => ("SameKeeper", "row", "[I", true)
  | 13 => ("SameKeeper", "otherRow", "[I", true)
  | 14 => ("SameKeeper", "heardRows", "[I", true)
  | 15 => ("SameKeeper", "heardCount", "I", false)
  | 16 => ("SameKeeper", "refused", "[I", true)
  | _ => ("SameKeeper", "drawn", "J", false)
def tyX11 : Nat → FieldType := fun k => match k with
  | 0 => .object "SameKeeper$Tape"
  | 1 => .object "SameKeeper$Tape"
  | 2 => .object "SameKeeper$Reader"
  | 3 => .object "SameKeeper$LockText"
  | 4 => .object "SameKeeper$Question"
  | 5 => .object "SameKeeper$Lock"
  | 6 => .object "SameKeeper$Lock"
  | 7 => .object "SameKeeper$State"
  | 8 => .object "SameKeeper$State"
  | 9 => .object "SameKeeper$Past"
  | 10 => .object "SameKeeper$Table"
  | 11 => .object "SameKeeper$Graph"
  | 12 => .array .int
  | 13 => .array .int
  | 14 => .array .int
  | 15 => .int
  | 16 => .array .int
  | _ => .long
abbrev wsX110 : List Cond := u_ws RX11 TX11 18
theorem nmX11 : ∀ a, a < 18 → ∀ b, b < 18 → a ≠ b → (TX11 a).2.1 ≠ (TX11 b).2.1 := by decide +kernel
theorem tyX11_ok : ∀ k, k < 18 → parseFieldDescriptor (TX11 k).2.2.1 = some (tyX11 k) := by decide +kernel
abbrev cX11_init : ByteArray := prog_1_method_1_code
def yX11_init : MethodName := ⟨RX11, "<init>", "()V"⟩
abbrev cX11_feed : ByteArray := prog_1_method_2_code
def yX11_feed : MethodName := ⟨RX11, "feed", "(IIIII)I"⟩
abbrev cX11_end : ByteArray := prog_1_method_3_code
def yX11_end : MethodName := ⟨RX11, "end", "(I)Z"⟩
abbrev cX11_lock : ByteArray := prog_1_method_4_code
def yX11_lock : MethodName := ⟨RX11, "lock", "()I"⟩
abbrev cX11_fault : ByteArray := prog_1_method_5_code
def yX11_fault : MethodName := ⟨RX11, "fault", "(I)I"⟩
abbrev cX11_has : ByteArray := prog_1_method_6_code
def yX11_has : MethodName := ⟨RX11, "has", "(I)I"⟩
abbrev cX11_day : ByteArray := prog_1_method_7_code
def yX11_day : MethodName := ⟨RX11, "day", "(II)I"⟩
abbrev cX11_told : ByteArray := prog_1_method_8_code
def yX11_told : MethodName := ⟨RX11, "told", "(II)I"⟩
abbrev cX11_does : ByteArray := prog_1_method_9_code
def yX11_does : MethodName := ⟨RX11, "does", "(III)I"⟩
abbrev cX11_kept : ByteArray := prog_1_method_10_code
def yX11_kept : MethodName := ⟨RX11, "kept", "(II)J"⟩
abbrev cX11_weeks : ByteArray := prog_1_method_11_code
def yX11_weeks : MethodName := ⟨RX11, "weeks", "()J"⟩
abbrev cX11_mood : ByteArray := prog_1_method_12_code
def yX11_mood : MethodName := ⟨RX11, "mood", "(II)I"⟩
abbrev cX11_many : ByteArray := prog_1_method_13_code
def yX11_many : MethodName := ⟨RX11, "many", "(II)J"⟩
abbrev cX11_hushed : ByteArray := prog_1_method_14_code
def yX11_hushed : MethodName := ⟨RX11, "hushed", "()I"⟩
abbrev cX11_wished : ByteArray := prog_1_method_15_code
def yX11_wished : MethodName := ⟨RX11, "wished", "(II)I"⟩
abbrev cX11_lies : ByteArray := prog_1_method_16_code
def yX11_lies : MethodName := ⟨RX11, "lies", "()I"⟩
abbrev cX11_later : ByteArray := prog_1_method_17_code
def yX11_later : MethodName := ⟨RX11, "later", "(I)I"⟩
abbrev cX11_ring : ByteArray := prog_1_method_18_code
def yX11_ring : MethodName := ⟨RX11, "ring", "()I"⟩
abbrev cX11_frees : ByteArray := prog_1_method_19_code
def yX11_frees : MethodName := ⟨RX11, "frees", "(II)I"⟩
abbrev cX11_pay : ByteArray := prog_1_method_20_code
def yX11_pay : MethodName := ⟨RX11, "pay", "()J"⟩
abbrev cX11_paid : ByteArray := prog_1_method_21_code
def yX11_paid : MethodName := ⟨RX11, "paid", "(I)I"⟩
abbrev cX11_rest : ByteArray := prog_1_method_22_code
def yX11_rest : MethodName := ⟨RX11, "rest", "()I"⟩
abbrev cX11_unlike : ByteArray := prog_1_method_23_code
def yX11_unlike : MethodName := ⟨RX11, "unlike", "(II)I"⟩
abbrev cX11_known : ByteArray := prog_1_method_24_code
def yX11_known : MethodName := ⟨RX11, "known", "(III)I"⟩
abbrev cX11_sure : ByteArray := prog_1_method_25_code
def yX11_sure : MethodName := ⟨RX11, "sure", "(II)I"⟩
abbrev cX11_hear : ByteArray := prog_1_method_26_code
def yX11_hear : MethodName := ⟨RX11, "hear", "()I"⟩
abbrev cX11_heard : ByteArray := prog_1_method_27_code
def yX11_heard : MethodName := ⟨RX11, "heard", "()J"⟩
abbrev cX11_tells : ByteArray := prog_1_method_28_code
def yX11_tells : MethodName := ⟨RX11, "tells", "(I)J"⟩
abbrev cX11_same : ByteArray := prog_1_method_29_code
def yX11_same : MethodName := ⟨RX11, "same", "(II)I"⟩
abbrev cX11_set : ByteArray := prog_1_method_30_code
def yX11_set : MethodName := ⟨RX11, "set", "(III)Z"⟩
abbrev cX11_mute : ByteArray := prog_1_method_31_code
def yX11_mute : MethodName := ⟨RX11, "mute", "(II)Z"⟩
abbrev cX11_go : ByteArray := prog_1_method_32_code
def yX11_go : MethodName := ⟨RX11, "go", "()I"⟩
abbrev cX11_chance : ByteArray := prog_1_method_33_code
def yX11_chance : MethodName := ⟨RX11, "chance", "(I)I"⟩
abbrev cX11_undo : ByteArray := prog_1_method_34_code
def yX11_undo : MethodName := ⟨RX11, "undo", "()Z"⟩
abbrev cX11_seed : ByteArray := prog_1_method_35_code
def yX11_seed : MethodName := ⟨RX11, "seed", "(I)Z"⟩
abbrev cX11_ask : ByteArray := prog_1_method_36_code
def yX11_ask : MethodName := ⟨RX11, "ask", "()J"⟩
abbrev cX11_image : ByteArray := prog_1_method_37_code
def yX11_image : MethodName := ⟨RX11, "image", "()I"⟩
abbrev cX11_octet : ByteArray := prog_1_method_38_code
def yX11_octet : MethodName := ⟨RX11, "octet", "(I)I"⟩
abbrev cX11_on : ByteArray := prog_1_method_39_code
def yX11_on : MethodName := ⟨RX11, "on", "()Z"⟩
abbrev cX11_status : ByteArray := prog_1_method_40_code
def yX11_status : MethodName := ⟨RX11, "status", "(I)I"⟩
abbrev cX11_refuse : ByteArray := prog_1_method_41_code
def yX11_refuse : MethodName := ⟨RX11, "refuse", "(I)I"⟩
abbrev cX11_refuseIt : ByteArray := prog_1_method_42_code
def yX11_refuseIt : MethodName := ⟨RX11, "refuseIt", "(I)Z"⟩
abbrev cX11_isLocked : ByteArray := prog_1_method_43_code
def yX11_isLocked : MethodName := ⟨RX11, "isLocked", "()Z"⟩
abbrev cX11_isDay : ByteArray := prog_1_method_44_code
def yX11_isDay : MethodName := ⟨RX11, "isDay", "(I)Z"⟩
abbrev cX11_isDigit : ByteArray := prog_1_method_45_code
def yX11_isDigit : MethodName := ⟨RX11, "isDigit", "(I)Z"⟩
abbrev cX11_isWordOf : ByteArray := prog_1_method_46_code
def yX11_isWordOf : MethodName := ⟨RX11, "isWordOf", "(II)Z"⟩
abbrev cX11_lookAt : ByteArray := prog_1_method_47_code
def yX11_lookAt : MethodName := ⟨RX11, "lookAt", "(LSameKeeper$State;)Z"⟩
abbrev cX11_lookByWord : ByteArray := prog_1_method_48_code
def yX11_lookByWord : MethodName := ⟨RX11, "lookByWord", "(II)Z"⟩
abbrev cX11_lookByHeard : ByteArray := prog_1_method_49_code
def yX11_lookByHeard : MethodName := ⟨RX11, "lookByHeard", "()Z"⟩
abbrev cX11_takeWeek : ByteArray := prog_1_method_50_code
def yX11_takeWeek : MethodName := ⟨RX11, "takeWeek", "(I[I)Z"⟩
abbrev cX11_stepAhead : ByteArray := prog_1_method_51_code
def yX11_stepAhead : MethodName := ⟨RX11, "stepAhead", "()Z"⟩
abbrev cX11_fewest : ByteArray := prog_1_method_52_code
def yX11_fewest : MethodName := ⟨RX11, "fewest", "(III)I"⟩
abbrev cX11_serves : ByteArray := prog_1_method_53_code
def yX11_serves : MethodName := ⟨RX11, "serves", "(IIII)Z"⟩
abbrev cX11_isAtRest : ByteArray := prog_1_method_54_code
def yX11_isAtRest : MethodName := ⟨RX11, "isAtRest", "(I)Z"⟩
abbrev cX11_pass : ByteArray := prog_1_method_55_code
def yX11_pass : MethodName := ⟨RX11, "pass", "(J)V"⟩
abbrev cX11_passByChance : ByteArray := prog_1_method_56_code
def yX11_passByChance : MethodName := ⟨RX11, "passByChance", "()Z"⟩
abbrev cX11_draw : ByteArray := prog_1_method_57_code
def yX11_draw : MethodName := ⟨RX11, "draw", "(J)J"⟩
abbrev cX11_tellsRows : ByteArray := prog_1_method_58_code
def yX11_tellsRows : MethodName := ⟨RX11, "tellsRows", "()Z"⟩
abbrev cX11_tellsImage : ByteArray := prog_1_method_59_code
def yX11_tellsImage : MethodName := ⟨RX11, "tellsImage", "()Z"⟩
def RX12 : String := "SameKeeperModel"
def TX12 : u_T := fun k => match k with
  | 0 => ("SameKeeperModel", "tape", "[I", true)
  | 1 => ("SameKeeperModel", "taped", "I", false)
  | 2 => ("SameKeeperModel", "at", "I", false)
  | 3 => ("SameKeeperModel", "end", "I", false)
  | 4 => ("SameKeeperModel", "ended", "I", false)
  | 5 => ("SameKeeperModel", "bad", "I", false)
  | 6 => ("SameKeeperModel", "badPlace", "I", false)
  | 7 => ("SameKeeperModel", "fault", "I", false)
  | 8 => ("SameKeeperModel", "faultPlace", "I", false)
  | 9 => ("SameKeeperModel", "refused", "[I", true)
  | 10 => ("SameKeeperModel", "numberPlace", "I", false)
  | 11 => ("SameKeeperModel", "lockWord", "[C", true)
  | 12 => ("SameKeeperModel", "fromWord", "[C", true)
  | 13 => ("SameKeeperModel", "bargeWord", "[C", true)
  | 14 => ("SameKeeperModel", "wetWord", "[C", true)
  | 15 => ("SameKeeperModel", "muteWord", "[C", true)
  | 16 => ("SameKeeperModel", "saysWord", "[C", true)
  | 17 => ("SameKeeperModel", "doesWord", "[C", true)
  | 18 => ("SameKeeperModel", "wageWord", "[C", true)
  | 19 => ("SameKeeperModel", "rainWord", "[C", true)
  | 20 => ("SameKeeperModel", "lock0", "[I", true)
  | 21 => ("SameKeeperModel", "days0", "[I", true)
  | 22 => ("SameKeeperModel", "rainTold", "I", false)
  | 23 => ("SameKeeperModel", "rain", "I", false)
  | 24 => ("SameKeeperModel", "codeFrom", "[I", true)
  | 25 => ("SameKeeperModel", "codeEnd", "[I", true)
  | 26 => ("SameKeeperModel", "codes", "[I", true)
  | 27 => ("SameKeeperModel", "coded", "I", false)
  | 28 => ("SameKeeperModel", "statements", "I", false)
  | 29 => ("SameKeeperModel", "isLock", "Z", false)
  | 30 => ("SameKeeperModel", "textKind", "I", false)
  | 31 => ("SameKeeperModel", "now", "[I", true)
  | 32 => ("SameKeeperModel", "aside", "[I", true)
  | 33 => ("SameKeeperModel", "askMood", "I", false)
  | 34 => ("SameKeeperModel", "askTold", "I", false)
  | 35 => ("SameKeeperModel", "askAlone", "I", false)
  | 36 => ("SameKeeperModel", "withWord", "[Z", true)
  | 37 => ("SameKeeperModel", "without", "[Z", true)
  | 38 => ("SameKeeperModel", "words", "[I", true)
  | 39 => ("SameKeeperModel", "muteToo", "I", false)
  | 40 => ("SameKeeperModel", "byHeard", "Z", false)
  | 41 => ("SameKeeperModel", "wordDay", "I", false)
  | 42 => ("SameKeeperModel", "wordTold", "I", false)
  | 43 => ("SameKeeperModel", "behind", "[J", true)
  | 44 => ("SameKeeperModel", "before", "[J", true)
  | 45 => ("SameKeeperModel", "ways", "J", false)
  | 46 => ("SameKeeperModel", "path", "[I", true)
  | 47 => ("SameKeeperModel", "isThought", "Z", false)
  | 48 => ("SameKeeperModel", "pays", "[J", true)
  | 49 => ("SameKeeperModel", "wages", "[J", true)
  | 50 => ("SameKeeperModel", "agrees0", "[Z", true)
  | 51 => ("SameKeeperModel", "other0", "[I", true)
  | 52 => ("SameKeeperModel", "rowMany", "I", false)
  | 53 => ("SameKeeperModel", "rows", "[I", true)
  | 54 => ("SameKeeperModel", "kept0", "[I", true)
  | 55 => ("SameKeeperModel", "undoable", "I", false)
  | 56 => ("SameKeeperModel", "newest", "I", false)
  | 57 => ("SameKeeperModel", "seeded", "J", false)
  | 58 => ("SameKeeperModel", "firstAsked", "[C", true)
  | 59 => ("SameKeeperModel", "lastAsked", "[C", true)
  | 60 => ("SameKeeperModel", "oftenAsked", "[C", true)
  | 61 => ("SameKeeperModel", "totalAsked", "[C", true)
  | 62 => ("SameKeeperModel", "mostAsked", "[C", true)
  | 63 => ("SameKeeperModel", "leastAsked", "[C", true)
  | 64 => ("SameKeeperModel", "notAsked", "[C", true)
  | 65 => ("SameKeeperModel", "andAsked", "[C", true)
  | 66 => ("SameKeeperModel", "orAsked", "[C", true)
  | 67 => ("SameKeeperModel", "allAsked", "[C", true)
  | 68 => ("SameKeeperModel", "minAsked", "[C", true)
  | 69 => ("SameKeeperModel", "maxAsked", "[C", true)
  | 70 => ("SameKeeperModel", "moodAsked", "[C", true)
  | 71 => ("SameKeeperModel", "bargeAsked", "[C", true)
  | 72 => ("SameKeeperModel", "wetAsked", "[C", true)
  | 73 => ("SameKeeperModel", "dayAsked", "[C", true)
  | 74 => ("SameKeeperModel", "weekAsked", "[C", true)
  | 75 => ("SameKeeperModel", "toldAsked", "[C", true)
  | 76 => ("SameKeeperModel", "aloneAsked", "[C", true)
  | 77 => ("SameKeeperModel", "numberAsked", "[C", true)
  | 78 => ("SameKeeperModel", "muteAsked", "[C", true)
  | 79 => ("SameKeeperModel", "weeksAsked", "[C", true)
  | 80 => ("SameKeeperModel", "qCodes", "[I", true)
  | 81 => ("SameKeeperModel", "qCoded", "I", false)
  | 82 => ("SameKeeperModel", "qWait", "[I", true)
  | 83 => ("SameKeeperModel", "qWaits", "I", false)
  | 84 => ("SameKeeperModel", "qOpened", "I", false)
  | 85 => ("SameKeeperModel", "qBase", "I", false)
  | 86 => ("SameKeeperModel", "qPile", "[J", true)
  | 87 => ("SameKeeperModel", "qPiled", "I", false)
  | 88 => ("SameKeeperModel", "qAnswer", "J", false)
  | 89 => ("SameKeeperModel", "qIsNew", "Z", false)
  | 90 => ("SameKeeperModel", "octet", "[I", true)
  | _ => ("SameKeeperModel", "octets", "I", false)
def tyX12 : Nat → FieldType := fun k => match k with
  | 0 => .array .int
  | 1 => .int
  | 2 => .int
  | 3 => .int
  | 4 => .int
  | 5 => .int
  | 6 => .int
  | 7 => .int
  | 8 => .int
  | 9 => .array .int
  | 10 => .int
  | 11 => .array .char
  | 12 => .array .char
  | 13 => .array .char
  | 14 => .array .char
  | 15 => .array .char
  | 16 => .array .char
  | 17 => .array .char
  | 18 => .array .char
  | 19 => .array .char
  | 20 => .array .int
  | 21 => .array .int
  | 22 => .int
  | 23 => .int
  | 24 => .array .int
  | 25 => .array .int
  | 26 => .array .int
  | 27 => .int
  | 28 => .int
  | 29 => .boolean
  | 30 => .int
  | 31 => .array .int
  | 32 => .array .int
  | 33 => .int
  | 34 => .int
  | 35 => .int
  | 36 => .array .boolean
  | 37 => .array .boolean
  | 38 => .array .int
  | 39 => .int
  | 40 => .boolean
  | 41 => .int
  | 42 => .int
  | 43 => .array .long
  | 44 => .array .long
  | 45 => .long
  | 46 => .array .int
  | 47 => .boolean
  | 48 => .array .long
  | 49 => .array .long
  | 50 => .array .boolean
  | 51 => .array .int
  | 52 => .int
  | 53 => .array .int
  | 54 => .array .int
  | 55 => .int
  | 56 => .int
  | 57 => .long
  | 58 => .array .char
  | 59 => .array .char
  | 60 => .array .char
  | 61 => .array .char
  | 62 => .array .char
  | 63 => .array .char
  | 64 => .array .char
  | 65 => .array .char
  | 66 => .array .char
  | 67 => .array .char
  | 68 => .array .char
  | 69 => .array .char
  | 70 => .array .char
  | 71 => .array .char
  | 72 => .array .char
  | 73 => .array .char
  | 74 => .array .char
  | 75 => .array .char
  | 76 => .array .char
  | 77 => .array .char
  | 78 => .array .char
  | 79 => .array .char
  | 80 => .array .int
  | 81 => .int
  | 82 => .array .int
  | 83 => .int
  | 84 => .int
  | 85 => .int
  | 86 => .array .long
  | 87 => .int
  | 88 => .long
  | 89 => .boolean
  | 90 => .array .int
  | _ => .int
abbrev wsX120 : List Cond := u_ws RX12 TX12 92
theorem nmX12 : ∀ a, a < 92 → ∀ b, b < 92 → a ≠ b → (TX12 a).2.1 ≠ (TX12 b).2.1 := by decide +kernel
theorem tyX12_ok : ∀ k, k < 92 → parseFieldDescriptor (TX12 k).2.2.1 = some (tyX12 k) := by decide +kernel
abbrev cX12_init : ByteArray := prog_14_method_1_code
def yX12_init : MethodName := ⟨RX12, "<init>", "()V"⟩
abbrev cX12_isIn : ByteArray := prog_14_method_2_code
def yX12_isIn : MethodName := ⟨RX12, "isIn", "(JJJ)Z"⟩
abbrev cX12_feed : ByteArray := prog_14_method_3_code
def yX12_feed : MethodName := ⟨RX12, "feed", "(IIIII)I"⟩
abbrev cX12_end : ByteArray := prog_14_method_4_code
def yX12_end : MethodName := ⟨RX12, "end", "(I)Z"⟩
abbrev cX12_fail : ByteArray := prog_14_method_5_code
def yX12_fail : MethodName := ⟨RX12, "fail", "(II)V"⟩
abbrev cX12_isLetter : ByteArray := prog_14_method_6_code
def yX12_isLetter : MethodName := ⟨RX12, "isLetter", "(I)Z"⟩
abbrev cX12_isDigit : ByteArray := prog_14_method_7_code
def yX12_isDigit : MethodName := ⟨RX12, "isDigit", "(I)Z"⟩
abbrev cX12_look : ByteArray := prog_14_method_8_code
def yX12_look : MethodName := ⟨RX12, "look", "()I"⟩
abbrev cX12_isHere : ByteArray := prog_14_method_9_code
def yX12_isHere : MethodName := ⟨RX12, "isHere", "([C)Z"⟩
abbrev cX12_takes : ByteArray := prog_14_method_10_code
def yX12_takes : MethodName := ⟨RX12, "takes", "([C)Z"⟩
abbrev cX12_asks : ByteArray := prog_14_method_11_code
def yX12_asks : MethodName := ⟨RX12, "asks", "([C)V"⟩
abbrev cX12_takesSign : ByteArray := prog_14_method_12_code
def yX12_takesSign : MethodName := ⟨RX12, "takesSign", "(I)Z"⟩
abbrev cX12_asksSign : ByteArray := prog_14_method_13_code
def yX12_asksSign : MethodName := ⟨RX12, "asksSign", "(I)V"⟩
abbrev cX12_number : ByteArray := prog_14_method_14_code
def yX12_number : MethodName := ⟨RX12, "number", "(II)I"⟩
abbrev cX12_isAllowed : ByteArray := prog_14_method_15_code
def yX12_isAllowed : MethodName := ⟨RX12, "isAllowed", "(I)Z"⟩
abbrev cX12_lockTold : ByteArray := prog_14_method_16_code
def yX12_lockTold : MethodName := ⟨RX12, "lockTold", "()V"⟩
abbrev cX12_dayTold : ByteArray := prog_14_method_17_code
def yX12_dayTold : MethodName := ⟨RX12, "dayTold", "(I)V"⟩
abbrev cX12_muteTold : ByteArray := prog_14_method_18_code
def yX12_muteTold : MethodName := ⟨RX12, "muteTold", "()V"⟩
abbrev cX12_codesTold : ByteArray := prog_14_method_19_code
def yX12_codesTold : MethodName := ⟨RX12, "codesTold", "(II)V"⟩
abbrev cX12_statementTold : ByteArray := prog_14_method_20_code
def yX12_statementTold : MethodName := ⟨RX12, "statementTold", "()V"⟩
abbrev cX12_lock : ByteArray := prog_14_method_21_code
def yX12_lock : MethodName := ⟨RX12, "lock", "()I"⟩
abbrev cX12_stands : ByteArray := prog_14_method_22_code
def yX12_stands : MethodName := ⟨RX12, "stands", "()V"⟩
abbrev cX12_fault : ByteArray := prog_14_method_23_code
def yX12_fault : MethodName := ⟨RX12, "fault", "(I)I"⟩
abbrev cX12_dayMany : ByteArray := prog_14_method_24_code
def yX12_dayMany : MethodName := ⟨RX12, "dayMany", "()I"⟩
abbrev cX12_isDay : ByteArray := prog_14_method_25_code
def yX12_isDay : MethodName := ⟨RX12, "isDay", "(I)Z"⟩
abbrev cX12_isMood : ByteArray := prog_14_method_26_code
def yX12_isMood : MethodName := ⟨RX12, "isMood", "(I)Z"⟩
abbrev cX12_bargeOf : ByteArray := prog_14_method_27_code
def yX12_bargeOf : MethodName := ⟨RX12, "bargeOf", "(I)I"⟩
abbrev cX12_wetOf : ByteArray := prog_14_method_28_code
def yX12_wetOf : MethodName := ⟨RX12, "wetOf", "(I)I"⟩
abbrev cX12_isMute : ByteArray := prog_14_method_29_code
def yX12_isMute : MethodName := ⟨RX12, "isMute", "(I)Z"⟩
abbrev cX12_codesTell : ByteArray := prog_14_method_30_code
def yX12_codesTell : MethodName := ⟨RX12, "codesTell", "(II)J"⟩
abbrev cX12_byTen : ByteArray := prog_14_method_31_code
def yX12_byTen : MethodName := ⟨RX12, "byTen", "(J)I"⟩
abbrev cX12_wordOf : ByteArray := prog_14_method_32_code
def yX12_wordOf : MethodName := ⟨RX12, "wordOf", "(II)I"⟩
abbrev cX12_becomesBy : ByteArray := prog_14_method_33_code
def yX12_becomesBy : MethodName := ⟨RX12, "becomesBy", "(IIIZ)I"⟩
abbrev cX12_wageOf : ByteArray := prog_14_method_34_code
def yX12_wageOf : MethodName := ⟨RX12, "wageOf", "(II)J"⟩
abbrev cX12_laysDays : ByteArray := prog_14_method_35_code
def yX12_laysDays : MethodName := ⟨RX12, "laysDays", "(I)V"⟩
abbrev cX12_isMuteNow : ByteArray := prog_14_method_36_code
def yX12_isMuteNow : MethodName := ⟨RX12, "isMuteNow", "(I)Z"⟩
abbrev cX12_isLeft : ByteArray := prog_14_method_37_code
def yX12_isLeft : MethodName := ⟨RX12, "isLeft", "(II)Z"⟩
abbrev cX12_canFollow : ByteArray := prog_14_method_38_code
def yX12_canFollow : MethodName := ⟨RX12, "canFollow", "(III)Z"⟩
abbrev cX12_laysWays : ByteArray := prog_14_method_39_code
def yX12_laysWays : MethodName := ⟨RX12, "laysWays", "()V"⟩
abbrev cX12_laysAll : ByteArray := prog_14_method_40_code
def yX12_laysAll : MethodName := ⟨RX12, "laysAll", "()V"⟩
abbrev cX12_walksTo : ByteArray := prog_14_method_41_code
def yX12_walksTo : MethodName := ⟨RX12, "walksTo", "(J)V"⟩
abbrev cX12_doesAgree : ByteArray := prog_14_method_42_code
def yX12_doesAgree : MethodName := ⟨RX12, "doesAgree", "(I)Z"⟩
abbrev cX12_isKept : ByteArray := prog_14_method_43_code
def yX12_isKept : MethodName := ⟨RX12, "isKept", "()V"⟩
abbrev cX12_goesBy : ByteArray := prog_14_method_44_code
def yX12_goesBy : MethodName := ⟨RX12, "goesBy", "(J)V"⟩
abbrev cX12_doGo : ByteArray := prog_14_method_45_code
def yX12_doGo : MethodName := ⟨RX12, "doGo", "()Z"⟩
abbrev cX12_putsAside : ByteArray := prog_14_method_46_code
def yX12_putsAside : MethodName := ⟨RX12, "putsAside", "()V"⟩
abbrev cX12_takesBack : ByteArray := prog_14_method_47_code
def yX12_takesBack : MethodName := ⟨RX12, "takesBack", "()V"⟩
abbrev cX12_isAhead : ByteArray := prog_14_method_48_code
def yX12_isAhead : MethodName := ⟨RX12, "isAhead", "(III)Z"⟩
abbrev cX12_bits : ByteArray := prog_14_method_49_code
def yX12_bits : MethodName := ⟨RX12, "bits", "(I)I"⟩
abbrev cX12_muteSet : ByteArray := prog_14_method_50_code
def yX12_muteSet : MethodName := ⟨RX12, "muteSet", "()I"⟩
abbrev cX12_has : ByteArray := prog_14_method_51_code
def yX12_has : MethodName := ⟨RX12, "has", "(I)I"⟩
abbrev cX12_day : ByteArray := prog_14_method_52_code
def yX12_day : MethodName := ⟨RX12, "day", "(II)I"⟩
abbrev cX12_told : ByteArray := prog_14_method_53_code
def yX12_told : MethodName := ⟨RX12, "told", "(II)I"⟩
abbrev cX12_does : ByteArray := prog_14_method_54_code
def yX12_does : MethodName := ⟨RX12, "does", "(III)I"⟩
abbrev cX12_kept : ByteArray := prog_14_method_55_code
def yX12_kept : MethodName := ⟨RX12, "kept", "(II)J"⟩
abbrev cX12_weeks : ByteArray := prog_14_method_56_code
def yX12_weeks : MethodName := ⟨RX12, "weeks", "()J"⟩
abbrev cX12_mood : ByteArray := prog_14_method_57_code
def yX12_mood : MethodName := ⟨RX12, "mood", "(II)I"⟩
abbrev cX12_many : ByteArray := prog_14_method_58_code
def yX12_many : MethodName := ⟨RX12, "many", "(II)J"⟩
abbrev cX12_hushed : ByteArray := prog_14_method_59_code
def yX12_hushed : MethodName := ⟨RX12, "hushed", "()I"⟩
abbrev cX12_wished : ByteArray := prog_14_method_60_code
def yX12_wished : MethodName := ⟨RX12, "wished", "(II)I"⟩
abbrev cX12_lies : ByteArray := prog_14_method_61_code
def yX12_lies : MethodName := ⟨RX12, "lies", "()I"⟩
abbrev cX12_later : ByteArray := prog_14_method_62_code
def yX12_later : MethodName := ⟨RX12, "later", "(I)I"⟩
abbrev cX12_ring : ByteArray := prog_14_method_63_code
def yX12_ring : MethodName := ⟨RX12, "ring", "()I"⟩
abbrev cX12_frees : ByteArray := prog_14_method_64_code
def yX12_frees : MethodName := ⟨RX12, "frees", "(II)I"⟩
abbrev cX12_laysPay : ByteArray := prog_14_method_65_code
def yX12_laysPay : MethodName := ⟨RX12, "laysPay", "()V"⟩
abbrev cX12_bestBehind : ByteArray := prog_14_method_66_code
def yX12_bestBehind : MethodName := ⟨RX12, "bestBehind", "(II)I"⟩
abbrev cX12_pay : ByteArray := prog_14_method_67_code
def yX12_pay : MethodName := ⟨RX12, "pay", "()J"⟩
abbrev cX12_paid : ByteArray := prog_14_method_68_code
def yX12_paid : MethodName := ⟨RX12, "paid", "(I)I"⟩
abbrev cX12_laysRest : ByteArray := prog_14_method_69_code
def yX12_laysRest : MethodName := ⟨RX12, "laysRest", "()V"⟩
abbrev cX12_isRest : ByteArray := prog_14_method_70_code
def yX12_isRest : MethodName := ⟨RX12, "isRest", "(I)Z"⟩
abbrev cX12_rest : ByteArray := prog_14_method_71_code
def yX12_rest : MethodName := ⟨RX12, "rest", "()I"⟩
abbrev cX12_unlike : ByteArray := prog_14_method_72_code
def yX12_unlike : MethodName := ⟨RX12, "unlike", "(II)I"⟩
abbrev cX12_laysByWord : ByteArray := prog_14_method_73_code
def yX12_laysByWord : MethodName := ⟨RX12, "laysByWord", "(II)V"⟩
abbrev cX12_moodsOf : ByteArray := prog_14_method_74_code
def yX12_moodsOf : MethodName := ⟨RX12, "moodsOf", "(I)I"⟩
abbrev cX12_canBeTold : ByteArray := prog_14_method_75_code
def yX12_canBeTold : MethodName := ⟨RX12, "canBeTold", "(II)Z"⟩
abbrev cX12_known : ByteArray := prog_14_method_76_code
def yX12_known : MethodName := ⟨RX12, "known", "(III)I"⟩
abbrev cX12_sure : ByteArray := prog_14_method_77_code
def yX12_sure : MethodName := ⟨RX12, "sure", "(II)I"⟩
abbrev cX12_refuses : ByteArray := prog_14_method_78_code
def yX12_refuses : MethodName := ⟨RX12, "refuses", "(I)I"⟩
abbrev cX12_hear : ByteArray := prog_14_method_79_code
def yX12_hear : MethodName := ⟨RX12, "hear", "()I"⟩
abbrev cX12_laysHeard : ByteArray := prog_14_method_80_code
def yX12_laysHeard : MethodName := ⟨RX12, "laysHeard", "()V"⟩
abbrev cX12_heard : ByteArray := prog_14_method_81_code
def yX12_heard : MethodName := ⟨RX12, "heard", "()J"⟩
abbrev cX12_tells : ByteArray := prog_14_method_82_code
def yX12_tells : MethodName := ⟨RX12, "tells", "(I)J"⟩
abbrev cX12_same : ByteArray := prog_14_method_83_code
def yX12_same : MethodName := ⟨RX12, "same", "(II)I"⟩
abbrev cX12_keeps : ByteArray := prog_14_method_84_code
def yX12_keeps : MethodName := ⟨RX12, "keeps", "()V"⟩
abbrev cX12_undo : ByteArray := prog_14_method_85_code
def yX12_undo : MethodName := ⟨RX12, "undo", "()Z"⟩
abbrev cX12_becomes : ByteArray := prog_14_method_86_code
def yX12_becomes : MethodName := ⟨RX12, "becomes", "(IIIZ)Z"⟩
abbrev cX12_set : ByteArray := prog_14_method_87_code
def yX12_set : MethodName := ⟨RX12, "set", "(III)Z"⟩
abbrev cX12_mute : ByteArray := prog_14_method_88_code
def yX12_mute : MethodName := ⟨RX12, "mute", "(II)Z"⟩
abbrev cX12_go : ByteArray := prog_14_method_89_code
def yX12_go : MethodName := ⟨RX12, "go", "()I"⟩
abbrev cX12_seed : ByteArray := prog_14_method_90_code
def yX12_seed : MethodName := ⟨RX12, "seed", "(I)Z"⟩
abbrev cX12_drawOf : ByteArray := prog_14_method_91_code
def yX12_drawOf : MethodName := ⟨RX12, "drawOf", "(J)J"⟩
abbrev cX12_drawsDays : ByteArray := prog_14_method_92_code
def yX12_drawsDays : MethodName := ⟨RX12, "drawsDays", "()V"⟩
abbrev cX12_chance : ByteArray := prog_14_method_93_code
def yX12_chance : MethodName := ⟨RX12, "chance", "(I)I"⟩
abbrev cX12_qCode : ByteArray := prog_14_method_94_code
def yX12_qCode : MethodName := ⟨RX12, "qCode", "(I)V"⟩
abbrev cX12_qOpens : ByteArray := prog_14_method_95_code
def yX12_qOpens : MethodName := ⟨RX12, "qOpens", "(II)V"⟩
abbrev cX12_qIsOn : ByteArray := prog_14_method_96_code
def yX12_qIsOn : MethodName := ⟨RX12, "qIsOn", "(I)Z"⟩
abbrev cX12_qDrops : ByteArray := prog_14_method_97_code
def yX12_qDrops : MethodName := ⟨RX12, "qDrops", "()V"⟩
abbrev cX12_qIsBracket : ByteArray := prog_14_method_98_code
def yX12_qIsBracket : MethodName := ⟨RX12, "qIsBracket", "(I)Z"⟩
abbrev cX12_qBracket : ByteArray := prog_14_method_99_code
def yX12_qBracket : MethodName := ⟨RX12, "qBracket", "()I"⟩
abbrev cX12_qDropsToBracket : ByteArray := prog_14_method_100_code
def yX12_qDropsToBracket : MethodName := ⟨RX12, "qDropsToBracket", "()V"⟩
abbrev cX12_qWordHere : ByteArray := prog_14_method_101_code
def yX12_qWordHere : MethodName := ⟨RX12, "qWordHere", "()I"⟩
abbrev cX12_qWordOf : ByteArray := prog_14_method_102_code
def yX12_qWordOf : MethodName := ⟨RX12, "qWordOf", "(II)I"⟩
abbrev cX12_qAsksWord : ByteArray := prog_14_method_103_code
def yX12_qAsksWord : MethodName := ⟨RX12, "qAsksWord", "(I)V"⟩
abbrev cX12_qEndsPart : ByteArray := prog_14_method_104_code
def yX12_qEndsPart : MethodName := ⟨RX12, "qEndsPart", "()V"⟩
abbrev cX12_qPartTold : ByteArray := prog_14_method_105_code
def yX12_qPartTold : MethodName := ⟨RX12, "qPartTold", "()V"⟩
abbrev cX12_qGoesOn : ByteArray := prog_14_method_106_code
def yX12_qGoesOn : MethodName := ⟨RX12, "qGoesOn", "()Z"⟩
abbrev cX12_qSums : ByteArray := prog_14_method_107_code
def yX12_qSums : MethodName := ⟨RX12, "qSums", "()V"⟩
abbrev cX12_qFact : ByteArray := prog_14_method_108_code
def yX12_qFact : MethodName := ⟨RX12, "qFact", "()V"⟩
abbrev cX12_qHasSquare : ByteArray := prog_14_method_109_code
def yX12_qHasSquare : MethodName := ⟨RX12, "qHasSquare", "()Z"⟩
abbrev cX12_qDropsNots : ByteArray := prog_14_method_110_code
def yX12_qDropsNots : MethodName := ⟨RX12, "qDropsNots", "()V"⟩
abbrev cX12_qTest : ByteArray := prog_14_method_111_code
def yX12_qTest : MethodName := ⟨RX12, "qTest", "()V"⟩
abbrev cX12_qGoesOnTest : ByteArray := prog_14_method_112_code
def yX12_qGoesOnTest : MethodName := ⟨RX12, "qGoesOnTest", "()Z"⟩
abbrev cX12_qClip : ByteArray := prog_14_method_113_code
def yX12_qClip : MethodName := ⟨RX12, "qClip", "(J)J"⟩
abbrev cX12_qFloor : ByteArray := prog_14_method_114_code
def yX12_qFloor : MethodName := ⟨RX12, "qFloor", "(JJ)J"⟩
abbrev cX12_qPuts : ByteArray := prog_14_method_115_code
def yX12_qPuts : MethodName := ⟨RX12, "qPuts", "(J)V"⟩
abbrev cX12_qJoins : ByteArray := prog_14_method_116_code
def yX12_qJoins : MethodName := ⟨RX12, "qJoins", "(I)V"⟩
abbrev cX12_qPartOf : ByteArray := prog_14_method_117_code
def yX12_qPartOf : MethodName := ⟨RX12, "qPartOf", "(II)J"⟩
abbrev cX12_qOf : ByteArray := prog_14_method_118_code
def yX12_qOf : MethodName := ⟨RX12, "qOf", "(IJI)J"⟩
abbrev cX12_qTold : ByteArray := prog_14_method_119_code
def yX12_qTold : MethodName := ⟨RX12, "qTold", "(I)J"⟩
abbrev cX12_qKind : ByteArray := prog_14_method_120_code
def yX12_qKind : MethodName := ⟨RX12, "qKind", "()I"⟩
abbrev cX12_qTakes : ByteArray := prog_14_method_121_code
def yX12_qTakes : MethodName := ⟨RX12, "qTakes", "(IJI)V"⟩
abbrev cX12_ask : ByteArray := prog_14_method_122_code
def yX12_ask : MethodName := ⟨RX12, "ask", "()J"⟩
abbrev cX12_checked : ByteArray := prog_14_method_123_code
def yX12_checked : MethodName := ⟨RX12, "checked", "([II)I"⟩
abbrev cX12_writes : ByteArray := prog_14_method_124_code
def yX12_writes : MethodName := ⟨RX12, "writes", "(I)V"⟩
abbrev cX12_image : ByteArray := prog_14_method_125_code
def yX12_image : MethodName := ⟨RX12, "image", "()I"⟩
abbrev cX12_octet : ByteArray := prog_14_method_126_code
def yX12_octet : MethodName := ⟨RX12, "octet", "(I)I"⟩
abbrev cX12_isImage : ByteArray := prog_14_method_127_code
def yX12_isImage : MethodName := ⟨RX12, "isImage", "(I)Z"⟩
abbrev cX12_on : ByteArray := prog_14_method_128_code
def yX12_on : MethodName := ⟨RX12, "on", "()Z"⟩
abbrev cX12_status : ByteArray := prog_14_method_129_code
def yX12_status : MethodName := ⟨RX12, "status", "(I)I"⟩
def RJx145de : String := "java/io/Serializable"
def TJx145de : u_T := fun k => match k with
  | _ => ("", "", "", false)
def tyJx145de : Nat → FieldType := fun k => match k with
  | _ => .int
abbrev wsJx145de0 : List Cond := u_ws RJx145de TJx145de 0
theorem nmJx145de : ∀ a, a < 0 → ∀ b, b < 0 → a ≠ b → (TJx145de a).2.1 ≠ (TJx145de b).2.1 := by decide +kernel
theorem tyJx145de_ok : ∀ k, k < 0 → parseFieldDescriptor (TJx145de k).2.2.1 = some (tyJx145de k) := by decide +kernel
def RJx9f9b0 : String := "java/lang/CharSequence"
def TJx9f9b0 : u_T := fun k => match k with
  | _ => ("", "", "", false)
def tyJx9f9b0 : Nat → FieldType := fun k => match k with
  | _ => .int
abbrev wsJx9f9b00 : List Cond := u_ws RJx9f9b0 TJx9f9b0 0
theorem nmJx9f9b0 : ∀ a, a < 0 → ∀ b, b < 0 → a ≠ b → (TJx9f9b0 a).2.1 ≠ (TJx9f9b0 b).2.1 := by decide +kernel
theorem tyJx9f9b0_ok : ∀ k, k < 0 → parseFieldDescriptor (TJx9f9b0 k).2.2.1 = some (tyJx9f9b0 k) := by decide +kernel
def RJxb160c : String := "java/lang/Comparable"
def TJxb160c : u_T := fun k => match k with
  | _ => ("", "", "", false)
def tyJxb160c : Nat → FieldType := fun k => match k with
  | _ => .int
abbrev wsJxb160c0 : List Cond := u_ws RJxb160c TJxb160c 0
theorem nmJxb160c : ∀ a, a < 0 → ∀ b, b < 0 → a ≠ b → (TJxb160c a).2.1 ≠ (TJxb160c b).2.1 := by decide +kernel
theorem tyJxb160c_ok : ∀ k, k < 0 → parseFieldDescriptor (TJxb160c k).2.2.1 = some (tyJxb160c k) := by decide +kernel
def RJ6 : String := "java/lang/Integer"
def TJ6 : u_T := fun k => match k with
  | _ => ("", "", "", false)
def tyJ6 : Nat → FieldType := fun k => match k with
  | _ => .int
abbrev wsJ60 : List Cond := u_ws RJ6 TJ6 0
theorem nmJ6 : ∀ a, a < 0 → ∀ b, b < 0 → a ≠ b → (TJ6 a).2.1 ≠ (TJ6 b).2.1 := by decide +kernel
theorem tyJ6_ok : ∀ k, k < 0 → parseFieldDescriptor (TJ6 k).2.2.1 = some (tyJ6 k) := by decide +kernel
abbrev cJ6_numberOfTrailingZeros_0f7a4 : ByteArray := prog_15_method_48_code
def yJ6_numberOfTrailingZeros_0f7a4 : MethodName := ⟨RJ6, "numberOfTrailingZeros", "(I)I"⟩
abbrev cJ6_bitCount_0f7a4 : ByteArray := prog_15_method_49_code
def yJ6_bitCount_0f7a4 : MethodName := ⟨RJ6, "bitCount", "(I)I"⟩
def RJ9 : String := "java/lang/Math"
def TJ9 : u_T := fun k => match k with
  | _ => ("", "", "", false)
def tyJ9 : Nat → FieldType := fun k => match k with
  | _ => .int
abbrev wsJ90 : List Cond := u_ws RJ9 TJ9 0
theorem nmJ9 : ∀ a, a < 0 → ∀ b, b < 0 → a ≠ b → (TJ9 a).2.1 ≠ (TJ9 b).2.1 := by decide +kernel
theorem tyJ9_ok : ∀ k, k < 0 → parseFieldDescriptor (TJ9 k).2.2.1 = some (tyJ9 k) := by decide +kernel
abbrev cJ9_floorDiv_f86c9 : ByteArray := prog_16_method_49_code
def yJ9_floorDiv_f86c9 : MethodName := ⟨RJ9, "floorDiv", "(JJ)J"⟩
abbrev cJ9_floorMod_1978a : ByteArray := prog_16_method_51_code
def yJ9_floorMod_1978a : MethodName := ⟨RJ9, "floorMod", "(JI)I"⟩
abbrev cJ9_floorMod_f86c9 : ByteArray := prog_16_method_52_code
def yJ9_floorMod_f86c9 : MethodName := ⟨RJ9, "floorMod", "(JJ)J"⟩
abbrev cJ9_max_7cf53 : ByteArray := prog_16_method_65_code
def yJ9_max_7cf53 : MethodName := ⟨RJ9, "max", "(II)I"⟩
abbrev cJ9_max_f86c9 : ByteArray := prog_16_method_66_code
def yJ9_max_f86c9 : MethodName := ⟨RJ9, "max", "(JJ)J"⟩
abbrev cJ9_min_7cf53 : ByteArray := prog_16_method_69_code
def yJ9_min_7cf53 : MethodName := ⟨RJ9, "min", "(II)I"⟩
abbrev cJ9_min_f86c9 : ByteArray := prog_16_method_70_code
def yJ9_min_f86c9 : MethodName := ⟨RJ9, "min", "(JJ)J"⟩
def RJ0 : String := "java/lang/String"
def TJ0 : u_T := fun k => match k with
  | _ => ("", "", "", false)
def tyJ0 : Nat → FieldType := fun k => match k with
  | _ => .int
abbrev wsJ00 : List Cond := u_ws RJ0 TJ0 0
theorem nmJ0 : ∀ a, a < 0 → ∀ b, b < 0 → a ≠ b → (TJ0 a).2.1 ≠ (TJ0 b).2.1 := by decide +kernel
theorem tyJ0_ok : ∀ k, k < 0 → parseFieldDescriptor (TJ0 k).2.2.1 = some (tyJ0 k) := by decide +kernel
abbrev cJ0_length_8abf5 : ByteArray := prog_17_method_54_code
def yJ0_length_8abf5 : MethodName := ⟨RJ0, "length", "()I"⟩
abbrev cJ0_charAt_5068e : ByteArray := prog_17_method_56_code
def yJ0_charAt_5068e : MethodName := ⟨RJ0, "charAt", "(I)C"⟩
abbrev cJ0_coder_7d493 : ByteArray := prog_17_method_152_code
def yJ0_coder_7d493 : MethodName := ⟨RJ0, "coder", "()B"⟩
abbrev cJ0_isLatin1_aae02 : ByteArray := prog_17_method_154_code
def yJ0_isLatin1_aae02 : MethodName := ⟨RJ0, "isLatin1", "()Z"⟩
abbrev cJ0_checkIndex_df160 : ByteArray := prog_17_method_155_code
def yJ0_checkIndex_df160 : MethodName := ⟨RJ0, "checkIndex", "(II)V"⟩
def RJ1 : String := "java/lang/StringLatin1"
def TJ1 : u_T := fun k => match k with
  | _ => ("", "", "", false)
def tyJ1 : Nat → FieldType := fun k => match k with
  | _ => .int
abbrev wsJ10 : List Cond := u_ws RJ1 TJ1 0
theorem nmJ1 : ∀ a, a < 0 → ∀ b, b < 0 → a ≠ b → (TJ1 a).2.1 ≠ (TJ1 b).2.1 := by decide +kernel
theorem tyJ1_ok : ∀ k, k < 0 → parseFieldDescriptor (TJ1 k).2.2.1 = some (tyJ1 k) := by decide +kernel
abbrev cJ1_charAt_3b067 : ByteArray := prog_18_method_2_code
def yJ1_charAt_3b067 : MethodName := ⟨RJ1, "charAt", "([BI)C"⟩
def RJ2 : String := "java/lang/StringUTF16"
def TJ2 : u_T := fun k => match k with
  | _ => ("", "", "", false)
def tyJ2 : Nat → FieldType := fun k => match k with
  | _ => .int
abbrev wsJ20 : List Cond := u_ws RJ2 TJ2 0
theorem nmJ2 : ∀ a, a < 0 → ∀ b, b < 0 → a ≠ b → (TJ2 a).2.1 ≠ (TJ2 b).2.1 := by decide +kernel
theorem tyJ2_ok : ∀ k, k < 0 → parseFieldDescriptor (TJ2 k).2.2.1 = some (tyJ2 k) := by decide +kernel
abbrev cJ2_getChar_3b067 : ByteArray := prog_19_method_5_code
def yJ2_getChar_3b067 : MethodName := ⟨RJ2, "getChar", "([BI)C"⟩
abbrev cJ2_length_9d52b : ByteArray := prog_19_method_6_code
def yJ2_length_9d52b : MethodName := ⟨RJ2, "length", "([B)I"⟩
abbrev cJ2_charAt_3b067 : ByteArray := prog_19_method_83_code
def yJ2_charAt_3b067 : MethodName := ⟨RJ2, "charAt", "([BI)C"⟩
abbrev cJ2_checkIndex_2214a : ByteArray := prog_19_method_91_code
def yJ2_checkIndex_2214a : MethodName := ⟨RJ2, "checkIndex", "(I[B)V"⟩
def RJ10 : String := "java/lang/System"
def TJ10 : u_T := fun k => match k with
  | _ => ("", "", "", false)
def tyJ10 : Nat → FieldType := fun k => match k with
  | _ => .int
abbrev wsJ100 : List Cond := u_ws RJ10 TJ10 0
theorem nmJ10 : ∀ a, a < 0 → ∀ b, b < 0 → a ≠ b → (TJ10 a).2.1 ≠ (TJ10 b).2.1 := by decide +kernel
theorem tyJ10_ok : ∀ k, k < 0 → parseFieldDescriptor (TJ10 k).2.2.1 = some (tyJ10 k) := by decide +kernel
def RJxfd54e : String := "java/lang/constant/Constable"
def TJxfd54e : u_T := fun k => match k with
  | _ => ("", "", "", false)
def tyJxfd54e : Nat → FieldType := fun k => match k with
  | _ => .int
abbrev wsJxfd54e0 : List Cond := u_ws RJxfd54e TJxfd54e 0
theorem nmJxfd54e : ∀ a, a < 0 → ∀ b, b < 0 → a ≠ b → (TJxfd54e a).2.1 ≠ (TJxfd54e b).2.1 := by decide +kernel
theorem tyJxfd54e_ok : ∀ k, k < 0 → parseFieldDescriptor (TJxfd54e k).2.2.1 = some (tyJxfd54e k) := by decide +kernel
def RJx3cf43 : String := "java/lang/constant/ConstantDesc"
def TJx3cf43 : u_T := fun k => match k with
  | _ => ("", "", "", false)
def tyJx3cf43 : Nat → FieldType := fun k => match k with
  | _ => .int
abbrev wsJx3cf430 : List Cond := u_ws RJx3cf43 TJx3cf43 0
theorem nmJx3cf43 : ∀ a, a < 0 → ∀ b, b < 0 → a ≠ b → (TJx3cf43 a).2.1 ≠ (TJx3cf43 b).2.1 := by decide +kernel
theorem tyJx3cf43_ok : ∀ k, k < 0 → parseFieldDescriptor (TJx3cf43 k).2.2.1 = some (tyJx3cf43 k) := by decide +kernel
def RJ7 : String := "java/util/Arrays"
def TJ7 : u_T := fun k => match k with
  | _ => ("", "", "", false)
def tyJ7 : Nat → FieldType := fun k => match k with
  | _ => .int
abbrev wsJ70 : List Cond := u_ws RJ7 TJ7 0
theorem nmJ7 : ∀ a, a < 0 → ∀ b, b < 0 → a ≠ b → (TJ7 a).2.1 ≠ (TJ7 b).2.1 := by decide +kernel
theorem tyJ7_ok : ∀ k, k < 0 → parseFieldDescriptor (TJ7 k).2.2.1 = some (tyJ7 k) := by decide +kernel
abbrev cJ7_fill_d0a16 : ByteArray := prog_21_method_101_code
def yJ7_fill_d0a16 : MethodName := ⟨RJ7, "fill", "([JJ)V"⟩
abbrev cJ7_fill_53178 : ByteArray := prog_21_method_103_code
def yJ7_fill_53178 : MethodName := ⟨RJ7, "fill", "([II)V"⟩
def RJ3 : String := "jdk/internal/util/Preconditions"
def TJ3 : u_T := fun k => match k with
  | _ => ("", "", "", false)
def tyJ3 : Nat → FieldType := fun k => match k with
  | _ => .int
abbrev wsJ30 : List Cond := u_ws RJ3 TJ3 0
theorem nmJ3 : ∀ a, a < 0 → ∀ b, b < 0 → a ≠ b → (TJ3 a).2.1 ≠ (TJ3 b).2.1 := by decide +kernel
theorem tyJ3_ok : ∀ k, k < 0 → parseFieldDescriptor (TJ3 k).2.2.1 = some (tyJ3 k) := by decide +kernel
abbrev cJ3_checkIndex_8e157 : ByteArray := prog_22_method_11_code
def yJ3_checkIndex_8e157 : MethodName := ⟨RJ3, "checkIndex", "(IILjava/util/function/BiFunction;)I"⟩
def RL : String := "SameKeeperLaw"
abbrev cL_law : ByteArray := code
def yL_law : MethodName := ⟨RL, "law", "([I)Z"⟩
def wsL_law_r1 : List Cond := [Cond.classLink RL 7 RX11, Cond.instantiable RX11 18, Cond.initialized RX11, Cond.classLink RL 10 RX12, Cond.instantiable RX12 92, Cond.initialized RX12, Cond.methodLink RL 9 yX11_init, Cond.instanceMethod yX11_init, Cond.code yX11_init cX11_init 1 none, Cond.methodLink RX11 1 objectInit, Cond.instanceMethod objectInit, Cond.code objectInit ⟨#[0xb1]⟩ 1 none, Cond.classLink RX11 7 RX10, Cond.instantiable RX10 2, Cond.initialized RX10, Cond.fieldLink RX11 12 "SameKeeper" "tape" "LSameKeeper$Tape;", Cond.fieldLink RX11 18 "SameKeeper" "picture" "LSameKeeper$Tape;", Cond.classLink RX11 21 RX6, Cond.instantiable RX6 8, Cond.initialized RX6, Cond.fieldLink RX11 26 "SameKeeper" "reader" "LSameKeeper$Reader;", Cond.classLink RX11 30 RX3, Cond.instantiable RX3 3, Cond.initialized RX3]
def wsL_law_r2 : List Cond := [Cond.fieldLink RX11 35 "SameKeeper" "lockText" "LSameKeeper$LockText;", Cond.classLink RX11 39 RX5, Cond.instantiable RX5 4, Cond.initialized RX5, Cond.fieldLink RX11 42 "SameKeeper" "question" "LSameKeeper$Question;", Cond.classLink RX11 46 RX2, Cond.instantiable RX2 10, Cond.initialized RX2, Cond.fieldLink RX11 49 "SameKeeper" "held" "LSameKeeper$Lock;", Cond.fieldLink RX11 53 "SameKeeper" "draft" "LSameKeeper$Lock;", Cond.classLink RX11 56 RX7, Cond.instantiable RX7 7, Cond.initialized RX7, Cond.fieldLink RX11 59 "SameKeeper" "now" "LSameKeeper$State;", Cond.fieldLink RX11 63 "SameKeeper" "trial" "LSameKeeper$State;", Cond.classLink RX11 66 RX4, Cond.instantiable RX4 5, Cond.initialized RX4, Cond.fieldLink RX11 69 "SameKeeper" "past" "LSameKeeper$Past;", Cond.classLink RX11 73 RX9, Cond.instantiable RX9 6, Cond.initialized RX9, Cond.fieldLink RX11 76 "SameKeeper" "table" "LSameKeeper$Table;", Cond.classLink RX11 80 RX1]
def wsL_law_r3 : List Cond := [Cond.instantiable RX1 9, Cond.initialized RX1, Cond.fieldLink RX11 85 "SameKeeper" "graph" "LSameKeeper$Graph;", Cond.arrayClass .int, Cond.fieldLink RX11 89 "SameKeeper" "row" "[I", Cond.fieldLink RX11 93 "SameKeeper" "otherRow" "[I", Cond.fieldLink RX11 96 "SameKeeper" "heardRows" "[I", Cond.fieldLink RX11 99 "SameKeeper" "heardCount" "I", Cond.fieldLink RX11 103 "SameKeeper" "refused" "[I", Cond.fieldLink RX11 106 "SameKeeper" "drawn" "J", Cond.methodLink RX11 9 yX10_init, Cond.instanceMethod yX10_init, Cond.code yX10_init cX10_init 2 none, Cond.methodLink RX10 1 objectInit, Cond.fieldLink RX10 7 "SameKeeper$Tape" "length" "I", Cond.methodLink RX10 13 Lib.Math.max.name, Cond.static Lib.Math.max.name, Cond.initialized "java/lang/Math", Cond.code Lib.Math.max.name Lib.Math.max.code 2 (some .int), Cond.fieldLink RX10 19 "SameKeeper$Tape" "bytes" "[I", Cond.methodLink RX11 23 yX6_init, Cond.instanceMethod yX6_init, Cond.code yX6_init cX6_init 2 none, Cond.methodLink RX6 3 objectInit]
def wsL_law_r4 : List Cond := [Cond.fieldLink RX6 9 "SameKeeper$Reader" "at" "I", Cond.fieldLink RX6 15 "SameKeeper$Reader" "value" "I", Cond.fieldLink RX6 18 "SameKeeper$Reader" "open" "I", Cond.fieldLink RX6 21 "SameKeeper$Reader" "token" "I", Cond.fieldLink RX6 24 "SameKeeper$Reader" "start" "I", Cond.fieldLink RX6 27 "SameKeeper$Reader" "fault" "I", Cond.fieldLink RX6 30 "SameKeeper$Reader" "place" "I", Cond.fieldLink RX6 33 "SameKeeper$Reader" "tape" "LSameKeeper$Tape;", Cond.methodLink RX11 32 yX3_init, Cond.instanceMethod yX3_init, Cond.code yX3_init cX3_init 2 none, Cond.methodLink RX3 3 objectInit, Cond.fieldLink RX3 9 "SameKeeper$LockText" "reader" "LSameKeeper$Reader;", Cond.classLink RX3 15 RX8, Cond.instantiable RX8 2, Cond.initialized RX8, Cond.fieldLink RX3 20 "SameKeeper$LockText" "ofMood" "LSameKeeper$Sums;", Cond.fieldLink RX3 24 "SameKeeper$LockText" "ofDeed" "LSameKeeper$Sums;", Cond.methodLink RX3 17 yX8_init, Cond.instanceMethod yX8_init, Cond.code yX8_init cX8_init 3 none, Cond.methodLink RX8 3 objectInit, Cond.fieldLink RX8 9 "SameKeeper$Sums" "reader" "LSameKeeper$Reader;", Cond.fieldLink RX8 15 "SameKeeper$Sums" "kind" "I"]
def wsL_law_r5 : List Cond := [Cond.methodLink RX11 41 yX5_init, Cond.instanceMethod yX5_init, Cond.code yX5_init cX5_init 2 none, Cond.methodLink RX5 3 objectInit, Cond.classLink RX5 9 RX0, Cond.instantiable RX0 6, Cond.initialized RX0, Cond.fieldLink RX5 12 "SameKeeper$Question" "code" "LSameKeeper$Code;", Cond.fieldLink RX5 20 "SameKeeper$Question" "verb" "I", Cond.fieldLink RX5 24 "SameKeeper$Question" "reader" "LSameKeeper$Reader;", Cond.classLink RX5 28 RX8, Cond.fieldLink RX5 33 "SameKeeper$Question" "sums" "LSameKeeper$Sums;", Cond.instanceMethod yX0_init, Cond.code yX0_init cX0_init 1 none, Cond.methodLink RX0 3 objectInit, Cond.fieldLink RX0 11 "SameKeeper$Code" "steps" "[I", Cond.arrayClass .long, Cond.fieldLink RX0 17 "SameKeeper$Code" "stack" "[J", Cond.fieldLink RX0 21 "SameKeeper$Code" "names" "[J", Cond.fieldLink RX0 24 "SameKeeper$Code" "counts" "[J", Cond.fieldLink RX0 27 "SameKeeper$Code" "length" "I", Cond.fieldLink RX0 31 "SameKeeper$Code" "mindsWeek" "Z", Cond.methodLink RX5 30 yX8_init, Cond.instanceMethod yX2_init]
def wsL_law_r6 : List Cond := [Cond.code yX2_init cX2_init 1 none, Cond.methodLink RX2 3 objectInit, Cond.classLink RX2 9 RX0, Cond.fieldLink RX2 12 "SameKeeper$Lock" "code" "LSameKeeper$Code;", Cond.fieldLink RX2 18 "SameKeeper$Lock" "barge" "[I", Cond.fieldLink RX2 22 "SameKeeper$Lock" "wet" "[I", Cond.fieldLink RX2 25 "SameKeeper$Lock" "from" "[I", Cond.fieldLink RX2 28 "SameKeeper$Lock" "to" "[I", Cond.fieldLink RX2 31 "SameKeeper$Lock" "days" "I", Cond.fieldLink RX2 35 "SameKeeper$Lock" "mood" "I", Cond.fieldLink RX2 38 "SameKeeper$Lock" "mute" "I", Cond.fieldLink RX2 41 "SameKeeper$Lock" "rain" "I", Cond.fieldLink RX2 44 "SameKeeper$Lock" "statements" "I", Cond.instanceMethod yX7_init, Cond.code yX7_init cX7_init 1 none, Cond.methodLink RX7 3 objectInit, Cond.fieldLink RX7 9 "SameKeeper$State" "barge" "[I", Cond.fieldLink RX7 15 "SameKeeper$State" "wet" "[I", Cond.fieldLink RX7 18 "SameKeeper$State" "days" "I", Cond.fieldLink RX7 22 "SameKeeper$State" "week" "I", Cond.fieldLink RX7 25 "SameKeeper$State" "mood" "I", Cond.fieldLink RX7 28 "SameKeeper$State" "mute" "I", Cond.fieldLink RX7 31 "SameKeeper$State" "kept" "I", Cond.methodLink RX11 68 yX4_init]
def wsL_law_r7 : List Cond := [Cond.instanceMethod yX4_init, Cond.code yX4_init cX4_init 2 none, Cond.methodLink RX4 3 objectInit, Cond.classLink RX4 11 RX7, Cond.fieldLink RX4 13 "SameKeeper$Past" "states" "[LSameKeeper$State;", Cond.fieldLink RX4 17 "SameKeeper$Past" "acts" "I", Cond.fieldLink RX4 21 "SameKeeper$Past" "weekOf" "[I", Cond.fieldLink RX4 25 "SameKeeper$Past" "agreedOf" "[J", Cond.fieldLink RX4 29 "SameKeeper$Past" "moodOf" "[I", Cond.instanceMethod yX9_init, Cond.code yX9_init cX9_init 1 none, Cond.methodLink RX9 3 objectInit, Cond.fieldLink RX9 9 "SameKeeper$Table" "said" "[I", Cond.fieldLink RX9 15 "SameKeeper$Table" "turned" "[I", Cond.fieldLink RX9 18 "SameKeeper$Table" "alone" "[I", Cond.fieldLink RX9 21 "SameKeeper$Table" "open" "[I", Cond.fieldLink RX9 24 "SameKeeper$Table" "wages" "[J", Cond.fieldLink RX9 28 "SameKeeper$Table" "keys" "[I", Cond.methodLink RX11 82 yX1_init, Cond.instanceMethod yX1_init, Cond.code yX1_init cX1_init 2 none, Cond.methodLink RX1 3 objectInit, Cond.fieldLink RX1 9 "SameKeeper$Graph" "leads" "[I", Cond.fieldLink RX1 15 "SameKeeper$Graph" "allowed" "[I"]
def wsL_law_r8 : List Cond := [Cond.fieldLink RX1 18 "SameKeeper$Graph" "live" "[I", Cond.fieldLink RX1 21 "SameKeeper$Graph" "ways" "[J", Cond.fieldLink RX1 25 "SameKeeper$Graph" "comings" "[J", Cond.fieldLink RX1 28 "SameKeeper$Graph" "gains" "[J", Cond.fieldLink RX1 31 "SameKeeper$Graph" "days" "I", Cond.fieldLink RX1 35 "SameKeeper$Graph" "start" "I", Cond.fieldLink RX1 38 "SameKeeper$Graph" "table" "LSameKeeper$Table;", Cond.methodLink RL 12 yX12_init, Cond.instanceMethod yX12_init, Cond.code yX12_init cX12_init 1 none, Cond.methodLink RX12 1 objectInit, Cond.fieldLink RX12 7 "SameKeeperModel" "tape" "[I", Cond.fieldLink RX12 13 "SameKeeperModel" "faultPlace" "I", Cond.fieldLink RX12 17 "SameKeeperModel" "refused" "[I", Cond.arrayClass .char, Cond.fieldLink RX12 20 "SameKeeperModel" "lockWord" "[C", Cond.fieldLink RX12 24 "SameKeeperModel" "fromWord" "[C", Cond.fieldLink RX12 27 "SameKeeperModel" "bargeWord" "[C", Cond.fieldLink RX12 30 "SameKeeperModel" "wetWord" "[C", Cond.fieldLink RX12 33 "SameKeeperModel" "muteWord" "[C", Cond.fieldLink RX12 36 "SameKeeperModel" "saysWord" "[C", Cond.fieldLink RX12 39 "SameKeeperModel" "doesWord" "[C", Cond.fieldLink RX12 42 "SameKeeperModel" "wageWord" "[C", Cond.fieldLink RX12 45 "SameKeeperModel" "rainWord" "[C"]
def wsL_law_r9 : List Cond := [Cond.fieldLink RX12 48 "SameKeeperModel" "lock0" "[I", Cond.fieldLink RX12 51 "SameKeeperModel" "days0" "[I", Cond.fieldLink RX12 54 "SameKeeperModel" "codeFrom" "[I", Cond.fieldLink RX12 57 "SameKeeperModel" "codeEnd" "[I", Cond.fieldLink RX12 60 "SameKeeperModel" "codes" "[I", Cond.fieldLink RX12 63 "SameKeeperModel" "now" "[I", Cond.fieldLink RX12 66 "SameKeeperModel" "aside" "[I", Cond.arrayClass .boolean, Cond.fieldLink RX12 69 "SameKeeperModel" "withWord" "[Z", Cond.fieldLink RX12 73 "SameKeeperModel" "without" "[Z", Cond.fieldLink RX12 76 "SameKeeperModel" "words" "[I", Cond.fieldLink RX12 79 "SameKeeperModel" "wordDay" "I", Cond.fieldLink RX12 82 "SameKeeperModel" "behind" "[J", Cond.fieldLink RX12 86 "SameKeeperModel" "before" "[J", Cond.fieldLink RX12 89 "SameKeeperModel" "path" "[I", Cond.fieldLink RX12 92 "SameKeeperModel" "pays" "[J", Cond.fieldLink RX12 95 "SameKeeperModel" "wages" "[J", Cond.fieldLink RX12 98 "SameKeeperModel" "agrees0" "[Z", Cond.fieldLink RX12 101 "SameKeeperModel" "other0" "[I", Cond.fieldLink RX12 104 "SameKeeperModel" "rows" "[I", Cond.fieldLink RX12 107 "SameKeeperModel" "kept0" "[I", Cond.fieldLink RX12 110 "SameKeeperModel" "seeded" "J", Cond.fieldLink RX12 114 "SameKeeperModel" "firstAsked" "[C", Cond.fieldLink RX12 117 "SameKeeperModel" "lastAsked" "[C"]
def wsL_law_r10 : List Cond := [Cond.fieldLink RX12 120 "SameKeeperModel" "oftenAsked" "[C", Cond.fieldLink RX12 123 "SameKeeperModel" "totalAsked" "[C", Cond.fieldLink RX12 126 "SameKeeperModel" "mostAsked" "[C", Cond.fieldLink RX12 129 "SameKeeperModel" "leastAsked" "[C", Cond.fieldLink RX12 132 "SameKeeperModel" "notAsked" "[C", Cond.fieldLink RX12 135 "SameKeeperModel" "andAsked" "[C", Cond.fieldLink RX12 138 "SameKeeperModel" "orAsked" "[C", Cond.fieldLink RX12 141 "SameKeeperModel" "allAsked" "[C", Cond.fieldLink RX12 144 "SameKeeperModel" "minAsked" "[C", Cond.fieldLink RX12 147 "SameKeeperModel" "maxAsked" "[C", Cond.fieldLink RX12 150 "SameKeeperModel" "moodAsked" "[C", Cond.fieldLink RX12 153 "SameKeeperModel" "bargeAsked" "[C", Cond.fieldLink RX12 156 "SameKeeperModel" "wetAsked" "[C", Cond.fieldLink RX12 159 "SameKeeperModel" "dayAsked" "[C", Cond.fieldLink RX12 162 "SameKeeperModel" "weekAsked" "[C", Cond.fieldLink RX12 165 "SameKeeperModel" "toldAsked" "[C", Cond.fieldLink RX12 168 "SameKeeperModel" "aloneAsked" "[C", Cond.fieldLink RX12 171 "SameKeeperModel" "numberAsked" "[C", Cond.fieldLink RX12 174 "SameKeeperModel" "muteAsked" "[C", Cond.fieldLink RX12 177 "SameKeeperModel" "weeksAsked" "[C", Cond.fieldLink RX12 180 "SameKeeperModel" "qCodes" "[I", Cond.fieldLink RX12 183 "SameKeeperModel" "qWait" "[I", Cond.fieldLink RX12 186 "SameKeeperModel" "qPile" "[J", Cond.fieldLink RX12 189 "SameKeeperModel" "octet" "[I"]
def wsL_law_r11 : List Cond := [Cond.methodLink RL 13 yX11_feed, Cond.instanceMethod yX11_feed, Cond.selects RX11 yX11_feed yX11_feed, Cond.code yX11_feed cX11_feed 6 (some .int), Cond.fieldLink RX11 110 "SameKeeper$Tape" "length" "I", Cond.methodLink RX11 113 yX11_refuse, Cond.instanceMethod yX11_refuse, Cond.selects RX11 yX11_refuse yX11_refuse, Cond.code yX11_refuse cX11_refuse 2 (some .int), Cond.methodLink RX11 117 yX10_addNumber, Cond.instanceMethod yX10_addNumber, Cond.selects RX10 yX10_addNumber yX10_addNumber, Cond.code yX10_addNumber cX10_addNumber 2 none, Cond.methodLink RX10 23 yX10_add, Cond.instanceMethod yX10_add, Cond.selects RX10 yX10_add yX10_add, Cond.code yX10_add cX10_add 2 none, Cond.methodLink RL 17 yX12_feed, Cond.instanceMethod yX12_feed, Cond.selects RX12 yX12_feed yX12_feed, Cond.code yX12_feed cX12_feed 8 (some .int), Cond.fieldLink RX12 192 "SameKeeperModel" "taped" "I", Cond.methodLink RL 18 yX11_end, Cond.instanceMethod yX11_end]
def wsL_law_r12 : List Cond := [Cond.selects RX11 yX11_end yX11_end, Cond.code yX11_end cX11_end 2 (some .boolean), Cond.methodLink RX11 120 yX11_refuseIt, Cond.instanceMethod yX11_refuseIt, Cond.selects RX11 yX11_refuseIt yX11_refuseIt, Cond.code yX11_refuseIt cX11_refuseIt 2 (some .boolean), Cond.methodLink RL 22 yX12_end, Cond.instanceMethod yX12_end, Cond.selects RX12 yX12_end yX12_end, Cond.code yX12_end cX12_end 2 (some .boolean), Cond.methodLink RL 23 yX11_lock, Cond.instanceMethod yX11_lock, Cond.selects RX11 yX11_lock yX11_lock, Cond.code yX11_lock cX11_lock 2 (some .int), Cond.fieldLink RX11 128 "SameKeeper$Reader" "fault" "I", Cond.fieldLink RX11 138 "SameKeeper$Lock" "statements" "I", Cond.methodLink RX11 124 yX3_read, Cond.instanceMethod yX3_read, Cond.selects RX3 yX3_read yX3_read, Cond.code yX3_read cX3_read 2 none, Cond.fieldLink RX3 41 "SameKeeper$Lock" "statements" "I", Cond.fieldLink RX3 45 "SameKeeper$Reader" "fault" "I", Cond.fieldLink RX3 48 "SameKeeper$Reader" "token" "I", Cond.fieldLink RX3 62 "SameKeeper$Reader" "start" "I"]
def wsL_law_r13 : List Cond := [Cond.methodLink RX3 27 yX2_clear, Cond.instanceMethod yX2_clear, Cond.selects RX2 yX2_clear yX2_clear, Cond.code yX2_clear cX2_clear 1 none, Cond.methodLink RX2 47 yX0_clear, Cond.instanceMethod yX0_clear, Cond.selects RX0 yX0_clear yX0_clear, Cond.code yX0_clear cX0_clear 1 none, Cond.methodLink RX2 50 yJ7_fill_53178, Cond.static yJ7_fill_53178, Cond.initialized RJ7, Cond.code yJ7_fill_53178 cJ7_fill_53178 4 none, Cond.methodLink RX3 32 yX6_begin, Cond.instanceMethod yX6_begin, Cond.selects RX6 yX6_begin yX6_begin, Cond.code yX6_begin cX6_begin 1 none, Cond.methodLink RX6 37 yX6_step, Cond.instanceMethod yX6_step, Cond.selects RX6 yX6_step yX6_step, Cond.code yX6_step cX6_step 3 none, Cond.fieldLink RX6 44 "SameKeeper$Tape" "length" "I", Cond.fieldLink RX6 49 "SameKeeper$Tape" "bytes" "[I", Cond.methodLink RX6 53 yX6_readWord, Cond.instanceMethod yX6_readWord]
def wsL_law_r14 : List Cond := [Cond.selects RX6 yX6_readWord yX6_readWord, Cond.code yX6_readWord cX6_readWord 5 none, Cond.methodLink RX6 61 yJ0_length_8abf5, Cond.instanceMethod yJ0_length_8abf5, Cond.selects RJ0 yJ0_length_8abf5 yJ0_length_8abf5, Cond.initialized RJ0, Cond.code yJ0_length_8abf5 cJ0_length_8abf5 1 (some .int), Cond.fieldLink RJ0 9 "java/lang/String" "value" "[B", Cond.methodLink RJ0 335 yJ0_coder_7d493, Cond.instanceMethod yJ0_coder_7d493, Cond.selects RJ0 yJ0_coder_7d493 yJ0_coder_7d493, Cond.code yJ0_coder_7d493 cJ0_coder_7d493 1 (some .byte), Cond.fieldLink RJ0 38 "java/lang/String" "COMPACT_STRINGS" "Z", Cond.fieldLink RJ0 15 "java/lang/String" "coder" "B", Cond.methodLink RX6 66 yJ0_charAt_5068e, Cond.instanceMethod yJ0_charAt_5068e, Cond.selects RJ0 yJ0_charAt_5068e yJ0_charAt_5068e, Cond.code yJ0_charAt_5068e cJ0_charAt_5068e 2 (some .char), Cond.methodLink RJ0 492 yJ0_isLatin1_aae02, Cond.instanceMethod yJ0_isLatin1_aae02, Cond.selects RJ0 yJ0_isLatin1_aae02 yJ0_isLatin1_aae02, Cond.code yJ0_isLatin1_aae02 cJ0_isLatin1_aae02 1 (some .boolean), Cond.methodLink RJ0 495 yJ1_charAt_3b067, Cond.static yJ1_charAt_3b067]
def wsL_law_r15 : List Cond := [Cond.initialized RJ1, Cond.code yJ1_charAt_3b067 cJ1_charAt_3b067 2 (some .char), Cond.methodLink RJ1 9 yJ0_checkIndex_df160, Cond.static yJ0_checkIndex_df160, Cond.code yJ0_checkIndex_df160 cJ0_checkIndex_df160 2 none, Cond.fieldLink RJ0 1053 "jdk/internal/util/Preconditions" "SIOOBE_FORMATTER" "Ljava/util/function/BiFunction;", Cond.methodLink RJ0 1059 yJ3_checkIndex_8e157, Cond.static yJ3_checkIndex_8e157, Cond.initialized RJ3, Cond.code yJ3_checkIndex_8e157 cJ3_checkIndex_8e157 3 (some .int), Cond.methodLink RJ0 498 yJ2_charAt_3b067, Cond.static yJ2_charAt_3b067, Cond.initialized RJ2, Cond.code yJ2_charAt_3b067 cJ2_charAt_3b067 2 (some .char), Cond.methodLink RJ2 67 yJ2_checkIndex_2214a, Cond.static yJ2_checkIndex_2214a, Cond.code yJ2_checkIndex_2214a cJ2_checkIndex_2214a 2 none, Cond.methodLink RJ2 48 yJ2_length_9d52b, Cond.static yJ2_length_9d52b, Cond.code yJ2_length_9d52b cJ2_length_9d52b 1 (some .int), Cond.methodLink RJ2 414 yJ0_checkIndex_df160, Cond.methodLink RJ2 71 yJ2_getChar_3b067, Cond.static yJ2_getChar_3b067, Cond.code yJ2_getChar_3b067 cJ2_getChar_3b067 2 (some .char)]
def wsL_law_r16 : List Cond := [Cond.fieldLink RJ2 44 "java/lang/StringUTF16" "$assertionsDisabled" "Z", Cond.fieldLink RJ2 59 "java/lang/StringUTF16" "HI_BYTE_SHIFT" "I", Cond.fieldLink RJ2 63 "java/lang/StringUTF16" "LO_BYTE_SHIFT" "I", Cond.methodLink RX6 56 yX6_readNumber, Cond.instanceMethod yX6_readNumber, Cond.selects RX6 yX6_readNumber yX6_readNumber, Cond.code yX6_readNumber cX6_readNumber 1 none, Cond.methodLink RX3 37 yX3_readOpening, Cond.instanceMethod yX3_readOpening, Cond.selects RX3 yX3_readOpening yX3_readOpening, Cond.code yX3_readOpening cX3_readOpening 2 none, Cond.fieldLink RX3 76 "SameKeeper$Lock" "days" "I", Cond.fieldLink RX3 79 "SameKeeper$Lock" "mood" "I", Cond.methodLink RX3 58 yX6_needs, Cond.instanceMethod yX6_needs, Cond.selects RX6 yX6_needs yX6_needs, Cond.code yX6_needs cX6_needs 2 none, Cond.methodLink RX6 70 yX6_failHere, Cond.instanceMethod yX6_failHere, Cond.selects RX6 yX6_failHere yX6_failHere, Cond.code yX6_failHere cX6_failHere 1 none, Cond.methodLink RX6 40 yX6_fail, Cond.instanceMethod yX6_fail, Cond.selects RX6 yX6_fail yX6_fail]
def wsL_law_r17 : List Cond := [Cond.code yX6_fail cX6_fail 3 none, Cond.methodLink RX3 72 yX6_takeNumber, Cond.instanceMethod yX6_takeNumber, Cond.selects RX6 yX6_takeNumber yX6_takeNumber, Cond.code yX6_takeNumber cX6_takeNumber 4 (some .int), Cond.methodLink RX3 51 yX3_readSumOf, Cond.instanceMethod yX3_readSumOf, Cond.selects RX3 yX3_readSumOf yX3_readSumOf, Cond.code yX3_readSumOf cX3_readSumOf 4 none, Cond.fieldLink RX3 112 "SameKeeper$Lock" "code" "LSameKeeper$Code;", Cond.methodLink RX3 105 yX2_hasSum, Cond.instanceMethod yX2_hasSum, Cond.selects RX2 yX2_hasSum yX2_hasSum, Cond.code yX2_hasSum cX2_hasSum 2 (some .boolean), Cond.methodLink RX3 65 yX6_fail, Cond.methodLink RX3 96 yX6_step, Cond.methodLink RX3 109 yX2_beginSum, Cond.instanceMethod yX2_beginSum, Cond.selects RX2 yX2_beginSum yX2_beginSum, Cond.code yX2_beginSum cX2_beginSum 2 none, Cond.fieldLink RX2 56 "SameKeeper$Code" "length" "I", Cond.methodLink RX3 116 yX8_read, Cond.instanceMethod yX8_read, Cond.selects RX8 yX8_read yX8_read]
def wsL_law_r18 : List Cond := [Cond.code yX8_read cX8_read 2 none, Cond.methodLink RX8 19 yX8_readSum, Cond.instanceMethod yX8_readSum, Cond.selects RX8 yX8_readSum yX8_readSum, Cond.code yX8_readSum cX8_readSum 4 none, Cond.fieldLink RX8 28 "SameKeeper$Reader" "token" "I", Cond.methodLink RX8 23 yX8_readProduct, Cond.instanceMethod yX8_readProduct, Cond.selects RX8 yX8_readProduct yX8_readProduct, Cond.methodLink RX8 35 yX6_step, Cond.methodLink RX8 38 yX0_add, Cond.instanceMethod yX0_add, Cond.selects RX0 yX0_add yX0_add, Cond.code yX0_add cX0_add 2 none, Cond.code yX8_readPair cX8_readPair 3 none, Cond.methodLink RX8 49 yX6_opens, Cond.instanceMethod yX6_opens, Cond.selects RX6 yX6_opens yX6_opens, Cond.code yX6_opens cX6_opens 2 (some .boolean), Cond.methodLink RX8 56 yX6_needs, Cond.methodLink RX8 53 yX6_shuts, Cond.instanceMethod yX6_shuts, Cond.selects RX6 yX6_shuts yX6_shuts, Cond.code yX6_shuts cX6_shuts 1 none]
def wsL_law_r19 : List Cond := [Cond.code yX8_readPart cX8_readPart 4 none, Cond.methodLink RX8 45 yX6_takeNumber, Cond.methodLink RX8 59 yX8_readPair, Cond.instanceMethod yX8_readPair, Cond.selects RX8 yX8_readPair yX8_readPair, Cond.methodLink RX8 42 yX8_readPart, Cond.instanceMethod yX8_readPart, Cond.selects RX8 yX8_readPart yX8_readPart, Cond.methodLink RX8 63 yX8_nameInQuestion, Cond.static yX8_nameInQuestion, Cond.code yX8_nameInQuestion cX8_nameInQuestion 1 (some .int), Cond.methodLink RX8 67 yX8_nameInLock, Cond.instanceMethod yX8_nameInLock, Cond.selects RX8 yX8_nameInLock yX8_nameInLock, Cond.code yX8_nameInLock cX8_nameInLock 2 (some .int), Cond.methodLink RX8 70 yX6_failHere, Cond.code yX8_readProduct cX8_readProduct 4 none, Cond.methodLink RX3 120 yX2_endSum, Cond.instanceMethod yX2_endSum, Cond.selects RX2 yX2_endSum yX2_endSum, Cond.code yX2_endSum cX2_endSum 2 none, Cond.methodLink RX3 55 yX3_readNumbers, Cond.instanceMethod yX3_readNumbers, Cond.selects RX3 yX3_readNumbers yX3_readNumbers]
def wsL_law_r20 : List Cond := [Cond.code yX3_readNumbers cX3_readNumbers 2 none, Cond.fieldLink RX3 82 "SameKeeper$Lock" "barge" "[I", Cond.fieldLink RX3 90 "SameKeeper$Lock" "wet" "[I", Cond.fieldLink RX3 99 "SameKeeper$Lock" "rain" "I", Cond.methodLink RX3 86 yX3_readAmount, Cond.instanceMethod yX3_readAmount, Cond.selects RX3 yX3_readAmount yX3_readAmount, Cond.code yX3_readAmount cX3_readAmount 5 none, Cond.methodLink RX3 93 yX3_readMute, Cond.instanceMethod yX3_readMute, Cond.selects RX3 yX3_readMute yX3_readMute, Cond.code yX3_readMute cX3_readMute 4 none, Cond.fieldLink RX3 123 "SameKeeper$Lock" "mute" "I", Cond.methodLink RX3 102 yX6_failHere, Cond.methodLink RX3 69 yX2_addUntold, Cond.instanceMethod yX2_addUntold, Cond.selects RX2 yX2_addUntold yX2_addUntold, Cond.code yX2_addUntold cX2_addUntold 2 none, Cond.methodLink RX2 59 yX2_hasSum, Cond.methodLink RX2 63 yX2_beginSum, Cond.methodLink RX2 67 yX0_add, Cond.methodLink RX2 70 yX2_endSum, Cond.methodLink RX11 131 yX7_begin, Cond.instanceMethod yX7_begin]
def wsL_law_r21 : List Cond := [Cond.selects RX7 yX7_begin yX7_begin, Cond.code yX7_begin cX7_begin 2 none, Cond.fieldLink RX7 34 "SameKeeper$Lock" "days" "I", Cond.fieldLink RX7 37 "SameKeeper$Lock" "mood" "I", Cond.fieldLink RX7 38 "SameKeeper$Lock" "mute" "I", Cond.fieldLink RX7 39 "SameKeeper$Lock" "barge" "[I", Cond.methodLink RX7 40 arraycopyName, Cond.native arraycopyName, Cond.static arraycopyName, Cond.initialized "java/lang/System", Cond.fieldLink RX7 46 "SameKeeper$Lock" "wet" "[I", Cond.methodLink RX11 134 yX4_forget, Cond.instanceMethod yX4_forget, Cond.selects RX4 yX4_forget yX4_forget, Cond.code yX4_forget cX4_forget 1 none, Cond.methodLink RX11 137 yX9_forget, Cond.instanceMethod yX9_forget, Cond.selects RX9 yX9_forget yX9_forget, Cond.code yX9_forget cX9_forget 1 none, Cond.methodLink RX9 31 yJ7_fill_53178, Cond.methodLink RL 27 yX12_lock, Cond.instanceMethod yX12_lock, Cond.selects RX12 yX12_lock yX12_lock, Cond.code yX12_lock cX12_lock 2 (some .int)]
def wsL_law_r22 : List Cond := [Cond.fieldLink RX12 204 "SameKeeperModel" "end" "I", Cond.fieldLink RX12 201 "SameKeeperModel" "at" "I", Cond.fieldLink RX12 215 "SameKeeperModel" "ended" "I", Cond.fieldLink RX12 195 "SameKeeperModel" "bad" "I", Cond.fieldLink RX12 198 "SameKeeperModel" "badPlace" "I", Cond.fieldLink RX12 272 "SameKeeperModel" "coded" "I", Cond.fieldLink RX12 287 "SameKeeperModel" "rainTold" "I", Cond.fieldLink RX12 275 "SameKeeperModel" "statements" "I", Cond.fieldLink RX12 296 "SameKeeperModel" "fault" "I", Cond.methodLink RX12 290 yX12_lockTold, Cond.instanceMethod yX12_lockTold, Cond.selects RX12 yX12_lockTold yX12_lockTold, Cond.code yX12_lockTold cX12_lockTold 1 none, Cond.methodLink RX12 245 yX12_asks, Cond.instanceMethod yX12_asks, Cond.selects RX12 yX12_asks yX12_asks, Cond.code yX12_asks cX12_asks 2 none, Cond.methodLink RX12 222 yX12_takes, Cond.instanceMethod yX12_takes, Cond.selects RX12 yX12_takes yX12_takes, Cond.code yX12_takes cX12_takes 2 (some .boolean), Cond.methodLink RX12 218 yX12_isHere, Cond.instanceMethod yX12_isHere, Cond.selects RX12 yX12_isHere yX12_isHere]
def wsL_law_r23 : List Cond := [Cond.code yX12_isHere cX12_isHere 4 (some .boolean), Cond.methodLink RX12 207 yX12_look, Cond.instanceMethod yX12_look, Cond.selects RX12 yX12_look yX12_look, Cond.code yX12_look cX12_look 1 (some .int), Cond.methodLink RX12 211 yX12_isLetter, Cond.static yX12_isLetter, Cond.code yX12_isLetter cX12_isLetter 1 (some .boolean), Cond.methodLink RX12 225 yX12_fail, Cond.instanceMethod yX12_fail, Cond.selects RX12 yX12_fail yX12_fail, Cond.code yX12_fail cX12_fail 3 none, Cond.methodLink RX12 249 yX12_number, Cond.instanceMethod yX12_number, Cond.selects RX12 yX12_number yX12_number, Cond.code yX12_number cX12_number 5 (some .int), Cond.fieldLink RX12 235 "SameKeeperModel" "numberPlace" "I", Cond.methodLink RX12 232 yX12_isDigit, Cond.static yX12_isDigit, Cond.code yX12_isDigit cX12_isDigit 1 (some .boolean), Cond.methodLink RX12 238 yX12_isIn, Cond.static yX12_isIn, Cond.code yX12_isIn cX12_isIn 6 (some .boolean), Cond.methodLink RX12 253 yX12_asksSign]
def wsL_law_r24 : List Cond := [Cond.instanceMethod yX12_asksSign, Cond.selects RX12 yX12_asksSign yX12_asksSign, Cond.code yX12_asksSign cX12_asksSign 2 none, Cond.methodLink RX12 229 yX12_takesSign, Cond.instanceMethod yX12_takesSign, Cond.selects RX12 yX12_takesSign yX12_takesSign, Cond.code yX12_takesSign cX12_takesSign 2 (some .boolean), Cond.methodLink RX12 293 yX12_statementTold, Cond.instanceMethod yX12_statementTold, Cond.selects RX12 yX12_statementTold yX12_statementTold, Cond.code yX12_statementTold cX12_statementTold 2 none, Cond.methodLink RX12 278 yX12_dayTold, Cond.instanceMethod yX12_dayTold, Cond.selects RX12 yX12_dayTold yX12_dayTold, Cond.code yX12_dayTold cX12_dayTold 4 none, Cond.methodLink RX12 281 yX12_muteTold, Cond.instanceMethod yX12_muteTold, Cond.selects RX12 yX12_muteTold yX12_muteTold, Cond.code yX12_muteTold cX12_muteTold 2 none, Cond.methodLink RX12 284 yX12_codesTold, Cond.instanceMethod yX12_codesTold, Cond.selects RX12 yX12_codesTold yX12_codesTold, Cond.code yX12_codesTold cX12_codesTold 4 none, Cond.fieldLink RX12 242 "SameKeeperModel" "textKind" "I"]
def wsL_law_r25 : List Cond := [Cond.fieldLink RX12 257 "SameKeeperModel" "qCoded" "I", Cond.fieldLink RX12 260 "SameKeeperModel" "qWaits" "I", Cond.fieldLink RX12 263 "SameKeeperModel" "qOpened" "I", Cond.fieldLink RX12 266 "SameKeeperModel" "qBase" "I", Cond.methodLink RX12 269 yX12_qSums, Cond.instanceMethod yX12_qSums, Cond.selects RX12 yX12_qSums yX12_qSums, Cond.code yX12_qSums cX12_qSums 3 none, Cond.methodLink RX12 534 yX12_qPartTold, Cond.instanceMethod yX12_qPartTold, Cond.selects RX12 yX12_qPartTold yX12_qPartTold, Cond.code yX12_qPartTold cX12_qPartTold 6 none, Cond.methodLink RX12 513 yX12_qWordOf, Cond.instanceMethod yX12_qWordOf, Cond.selects RX12 yX12_qWordOf yX12_qWordOf, Cond.code yX12_qWordOf cX12_qWordOf 4 (some .int), Cond.methodLink RX12 507 yX12_qWordHere, Cond.instanceMethod yX12_qWordHere, Cond.selects RX12 yX12_qWordHere yX12_qWordHere, Cond.code yX12_qWordHere cX12_qWordHere 1 (some .int), Cond.methodLink RX12 510 yX12_isAllowed, Cond.instanceMethod yX12_isAllowed, Cond.selects RX12 yX12_isAllowed yX12_isAllowed, Cond.code yX12_isAllowed cX12_isAllowed 2 (some .boolean)]
def wsL_law_r26 : List Cond := [Cond.methodLink RX12 516 yX12_qOpens, Cond.instanceMethod yX12_qOpens, Cond.selects RX12 yX12_qOpens yX12_qOpens, Cond.code yX12_qOpens cX12_qOpens 3 none, Cond.methodLink RX12 519 yX12_qAsksWord, Cond.instanceMethod yX12_qAsksWord, Cond.selects RX12 yX12_qAsksWord yX12_qAsksWord, Cond.code yX12_qAsksWord cX12_qAsksWord 2 none, Cond.methodLink RX12 498 yX12_qCode, Cond.instanceMethod yX12_qCode, Cond.selects RX12 yX12_qCode yX12_qCode, Cond.code yX12_qCode cX12_qCode 2 none, Cond.methodLink RX12 522 yX12_qEndsPart, Cond.instanceMethod yX12_qEndsPart, Cond.selects RX12 yX12_qEndsPart yX12_qEndsPart, Cond.code yX12_qEndsPart cX12_qEndsPart 1 none, Cond.methodLink RX12 504 yX12_qDrops, Cond.instanceMethod yX12_qDrops, Cond.selects RX12 yX12_qDrops yX12_qDrops, Cond.code yX12_qDrops cX12_qDrops 1 none, Cond.methodLink RX12 537 yX12_qGoesOn, Cond.instanceMethod yX12_qGoesOn, Cond.selects RX12 yX12_qGoesOn yX12_qGoesOn, Cond.code yX12_qGoesOn cX12_qGoesOn 2 (some .boolean)]
def wsL_law_r27 : List Cond := [Cond.methodLink RX12 525 yX12_qBracket, Cond.instanceMethod yX12_qBracket, Cond.selects RX12 yX12_qBracket yX12_qBracket, Cond.code yX12_qBracket cX12_qBracket 2 (some .int), Cond.methodLink RX12 501 yX12_qIsBracket, Cond.static yX12_qIsBracket, Cond.code yX12_qIsBracket cX12_qIsBracket 1 (some .boolean), Cond.methodLink RX12 528 yX12_qDropsToBracket, Cond.instanceMethod yX12_qDropsToBracket, Cond.selects RX12 yX12_qDropsToBracket yX12_qDropsToBracket, Cond.code yX12_qDropsToBracket cX12_qDropsToBracket 1 none, Cond.methodLink RX12 531 yX12_qIsOn, Cond.instanceMethod yX12_qIsOn, Cond.selects RX12 yX12_qIsOn yX12_qIsOn, Cond.code yX12_qIsOn cX12_qIsOn 2 (some .boolean), Cond.methodLink RX12 299 yX12_stands, Cond.instanceMethod yX12_stands, Cond.selects RX12 yX12_stands yX12_stands, Cond.code yX12_stands cX12_stands 2 none, Cond.fieldLink RX12 302 "SameKeeperModel" "isLock" "Z", Cond.fieldLink RX12 306 "SameKeeperModel" "rain" "I", Cond.fieldLink RX12 309 "SameKeeperModel" "undoable" "I", Cond.fieldLink RX12 312 "SameKeeperModel" "rowMany" "I", Cond.methodLink RL 28 yX11_fault]
def wsL_law_r28 : List Cond := [Cond.instanceMethod yX11_fault, Cond.selects RX11 yX11_fault yX11_fault, Cond.code yX11_fault cX11_fault 2 (some .int), Cond.fieldLink RX11 141 "SameKeeper$Reader" "place" "I", Cond.methodLink RL 32 yX12_fault, Cond.instanceMethod yX12_fault, Cond.selects RX12 yX12_fault yX12_fault, Cond.code yX12_fault cX12_fault 2 (some .int), Cond.methodLink RL 33 yX11_has, Cond.instanceMethod yX11_has, Cond.selects RX11 yX11_has yX11_has, Cond.code yX11_has cX11_has 2 (some .int), Cond.fieldLink RX11 144 "SameKeeper$State" "days" "I", Cond.fieldLink RX11 147 "SameKeeper$State" "week" "I", Cond.fieldLink RX11 150 "SameKeeper$State" "mood" "I", Cond.fieldLink RX11 153 "SameKeeper$State" "mute" "I", Cond.fieldLink RX11 161 "SameKeeper$State" "kept" "I", Cond.fieldLink RX11 167 "SameKeeper$Past" "acts" "I", Cond.methodLink RX11 156 yJ6_bitCount_0f7a4, Cond.static yJ6_bitCount_0f7a4, Cond.initialized RJ6, Cond.code yJ6_bitCount_0f7a4 cJ6_bitCount_0f7a4 1 (some .int), Cond.constant RJ6 265 (1431655765), Cond.constant RJ6 266 (858993459)]
def wsL_law_r29 : List Cond := [Cond.constant RJ6 267 (252645135), Cond.methodLink RX11 164 yX4_toldOf, Cond.instanceMethod yX4_toldOf, Cond.selects RX4 yX4_toldOf yX4_toldOf, Cond.code yX4_toldOf cX4_toldOf 2 (some .int), Cond.methodLink RX4 43 Lib.Math.min.name, Cond.static Lib.Math.min.name, Cond.code Lib.Math.min.name Lib.Math.min.code 2 (some .int), Cond.methodLink RL 36 yX12_has, Cond.instanceMethod yX12_has, Cond.selects RX12 yX12_has yX12_has, Cond.code yX12_has cX12_has 2 (some .int), Cond.methodLink RX12 315 yX12_dayMany, Cond.instanceMethod yX12_dayMany, Cond.selects RX12 yX12_dayMany yX12_dayMany, Cond.code yX12_dayMany cX12_dayMany 1 (some .int), Cond.methodLink RX12 406 yX12_muteSet, Cond.instanceMethod yX12_muteSet, Cond.selects RX12 yX12_muteSet yX12_muteSet, Cond.code yX12_muteSet cX12_muteSet 3 (some .int), Cond.methodLink RX12 359 yX12_isMute, Cond.instanceMethod yX12_isMute, Cond.selects RX12 yX12_isMute yX12_isMute, Cond.code yX12_isMute cX12_isMute 2 (some .boolean)]
def wsL_law_r30 : List Cond := [Cond.methodLink RX12 409 yX12_bits, Cond.static yX12_bits, Cond.code yX12_bits cX12_bits 3 (some .int), Cond.methodLink RL 37 yX11_day, Cond.instanceMethod yX11_day, Cond.selects RX11 yX11_day yX11_day, Cond.code yX11_day cX11_day 3 (some .int), Cond.fieldLink RX11 173 "SameKeeper$State" "barge" "[I", Cond.fieldLink RX11 176 "SameKeeper$State" "wet" "[I", Cond.methodLink RX11 170 yX11_isDay, Cond.instanceMethod yX11_isDay, Cond.selects RX11 yX11_isDay yX11_isDay, Cond.code yX11_isDay cX11_isDay 2 (some .boolean), Cond.methodLink RX11 179 yX7_isMute, Cond.instanceMethod yX7_isMute, Cond.selects RX7 yX7_isMute yX7_isMute, Cond.code yX7_isMute cX7_isMute 2 (some .boolean), Cond.methodLink RL 41 yX12_day, Cond.instanceMethod yX12_day, Cond.selects RX12 yX12_day yX12_day, Cond.code yX12_day cX12_day 3 (some .int), Cond.constantLong RX12 416 (2), Cond.methodLink RX12 413 yX12_isDay, Cond.instanceMethod yX12_isDay]
def wsL_law_r31 : List Cond := [Cond.selects RX12 yX12_isDay yX12_isDay, Cond.code yX12_isDay cX12_isDay 2 (some .boolean), Cond.methodLink RL 42 yX11_told, Cond.instanceMethod yX11_told, Cond.selects RX11 yX11_told yX11_told, Cond.code yX11_told cX11_told 3 (some .int), Cond.fieldLink RX11 189 "SameKeeper$Table" "said" "[I", Cond.methodLink RX11 182 yX11_isDigit, Cond.static yX11_isDigit, Cond.code yX11_isDigit cX11_isDigit 1 (some .boolean), Cond.methodLink RX11 185 yX9_fit, Cond.instanceMethod yX9_fit, Cond.selects RX9 yX9_fit yX9_fit, Cond.code yX9_fit cX9_fit 6 none, Cond.fieldLink RX9 37 "SameKeeper$Lock" "code" "LSameKeeper$Code;", Cond.fieldLink RX9 43 "SameKeeper$Code" "mindsWeek" "Z", Cond.fieldLink RX9 49 "SameKeeper$State" "week" "I", Cond.fieldLink RX9 55 "SameKeeper$State" "days" "I", Cond.fieldLink RX9 58 "SameKeeper$State" "barge" "[I", Cond.fieldLink RX9 61 "SameKeeper$State" "wet" "[I", Cond.methodLink RX9 64 yX9_nameDay, Cond.static yX9_nameDay, Cond.code yX9_nameDay cX9_nameDay 3 none, Cond.methodLink RX9 75 yX0_name]
def wsL_law_r32 : List Cond := [Cond.instanceMethod yX0_name, Cond.selects RX0 yX0_name yX0_name, Cond.code yX0_name cX0_name 5 none, Cond.methodLink RX9 68 yX9_fillWords, Cond.instanceMethod yX9_fillWords, Cond.selects RX9 yX9_fillWords yX9_fillWords, Cond.code yX9_fillWords cX9_fillWords 6 none, Cond.fieldLink RX9 79 "SameKeeper$Lock" "from" "[I", Cond.fieldLink RX9 82 "SameKeeper$Lock" "to" "[I", Cond.methodLink RX9 85 yX0_run, Cond.instanceMethod yX0_run, Cond.selects RX0 yX0_run yX0_run, Cond.code yX0_run cX0_run 7 (some .long), Cond.methodLink RX0 35 Lib.Math.max.name, Cond.methodLink RX0 41 yX0_ofTwo, Cond.static yX0_ofTwo, Cond.code yX0_ofTwo cX0_ofTwo 5 (some .long), Cond.methodLink RX0 59 Lib.MathLoose.min_long.x, Cond.static Lib.MathLoose.min_long.x, Cond.code Lib.MathLoose.min_long.x Lib.MathLoose.min_long.code 4 (some .long), Cond.methodLink RX0 62 Lib.MathLoose.max_long.x, Cond.static Lib.MathLoose.max_long.x, Cond.code Lib.MathLoose.max_long.x Lib.MathLoose.max_long.code 4 (some .long), Cond.methodLink RX0 51 yX0_bounded]
def wsL_law_r33 : List Cond := [Cond.static yX0_bounded, Cond.code yX0_bounded cX0_bounded 2 (some .long), Cond.constantLong RX0 64 (1000000), Cond.constantLong RX0 66 (-1000000), Cond.methodLink RX0 55 yJ9_floorDiv_f86c9, Cond.static yJ9_floorDiv_f86c9, Cond.initialized RJ9, Cond.code yJ9_floorDiv_f86c9 cJ9_floorDiv_f86c9 6 (some .long), Cond.methodLink RX0 45 yX0_ofOne, Cond.instanceMethod yX0_ofOne, Cond.selects RX0 yX0_ofOne yX0_ofOne, Cond.code yX0_ofOne cX0_ofOne 4 (some .long), Cond.constantLong RX0 49 (10), Cond.methodLink RX9 89 yJ9_floorMod_1978a, Cond.static yJ9_floorMod_1978a, Cond.code yJ9_floorMod_1978a cJ9_floorMod_1978a 3 (some .int), Cond.methodLink RJ9 146 yJ9_floorMod_f86c9, Cond.static yJ9_floorMod_f86c9, Cond.code yJ9_floorMod_f86c9 cJ9_floorMod_f86c9 6 (some .long), Cond.methodLink RX9 72 yX9_fillDeeds, Cond.instanceMethod yX9_fillDeeds, Cond.selects RX9 yX9_fillDeeds yX9_fillDeeds, Cond.code yX9_fillDeeds cX9_fillDeeds 9 none, Cond.methodLink RX9 95 yX9_moodsBehind]
def wsL_law_r34 : List Cond := [Cond.instanceMethod yX9_moodsBehind, Cond.selects RX9 yX9_moodsBehind yX9_moodsBehind, Cond.code yX9_moodsBehind cX9_moodsBehind 7 (some .int), Cond.methodLink RL 45 yX12_told, Cond.instanceMethod yX12_told, Cond.selects RX12 yX12_told yX12_told, Cond.code yX12_told cX12_told 3 (some .int), Cond.methodLink RX12 418 yX12_isMood, Cond.instanceMethod yX12_isMood, Cond.selects RX12 yX12_isMood yX12_isMood, Cond.code yX12_isMood cX12_isMood 2 (some .boolean), Cond.constantLong RX12 318 (9), Cond.methodLink RX12 352 yX12_wordOf, Cond.instanceMethod yX12_wordOf, Cond.selects RX12 yX12_wordOf yX12_wordOf, Cond.code yX12_wordOf cX12_wordOf 3 (some .int), Cond.fieldLink RX12 336 "SameKeeperModel" "askMood" "I", Cond.methodLink RX12 339 yX12_codesTell, Cond.instanceMethod yX12_codesTell, Cond.selects RX12 yX12_codesTell yX12_codesTell, Cond.code yX12_codesTell cX12_codesTell 5 (some .long), Cond.fieldLink RX12 320 "SameKeeperModel" "qPiled" "I", Cond.methodLink RX12 323 yX12_qPuts, Cond.instanceMethod yX12_qPuts]
def wsL_law_r35 : List Cond := [Cond.selects RX12 yX12_qPuts yX12_qPuts, Cond.code yX12_qPuts cX12_qPuts 3 none, Cond.methodLink RX12 327 yX12_qPartOf, Cond.instanceMethod yX12_qPartOf, Cond.selects RX12 yX12_qPartOf yX12_qPartOf, Cond.code yX12_qPartOf cX12_qPartOf 3 (some .long), Cond.fieldLink RX12 346 "SameKeeperModel" "askTold" "I", Cond.fieldLink RX12 349 "SameKeeperModel" "askAlone" "I", Cond.fieldLink RX12 382 "SameKeeperModel" "ways" "J", Cond.constantLong RX12 569 (-1), Cond.methodLink RX12 563 yX12_bargeOf, Cond.instanceMethod yX12_bargeOf, Cond.selects RX12 yX12_bargeOf yX12_bargeOf, Cond.code yX12_bargeOf cX12_bargeOf 2 (some .int), Cond.methodLink RX12 566 yX12_wetOf, Cond.instanceMethod yX12_wetOf, Cond.selects RX12 yX12_wetOf yX12_wetOf, Cond.code yX12_wetOf cX12_wetOf 2 (some .int), Cond.methodLink RX12 331 yX12_qJoins, Cond.instanceMethod yX12_qJoins, Cond.selects RX12 yX12_qJoins yX12_qJoins, Cond.code yX12_qJoins cX12_qJoins 6 none, Cond.methodLink RX12 556 yX12_qClip, Cond.static yX12_qClip]
def wsL_law_r36 : List Cond := [Cond.code yX12_qClip cX12_qClip 2 (some .long), Cond.constantLong RX12 552 (1000000), Cond.constantLong RX12 554 (-1000000), Cond.methodLink RX12 559 yX12_qFloor, Cond.static yX12_qFloor, Cond.code yX12_qFloor cX12_qFloor 6 (some .long), Cond.methodLink RX12 342 yX12_byTen, Cond.static yX12_byTen, Cond.code yX12_byTen cX12_byTen 2 (some .int), Cond.constantLong RX12 334 (10), Cond.methodLink RL 46 yX11_does, Cond.instanceMethod yX11_does, Cond.selects RX11 yX11_does yX11_does, Cond.code yX11_does cX11_does 5 (some .int), Cond.fieldLink RX11 192 "SameKeeper$Table" "alone" "[I", Cond.fieldLink RX11 195 "SameKeeper$Table" "turned" "[I", Cond.methodLink RL 50 yX12_does, Cond.instanceMethod yX12_does, Cond.selects RX12 yX12_does yX12_does, Cond.code yX12_does cX12_does 4 (some .int), Cond.methodLink RX12 355 yX12_becomesBy, Cond.instanceMethod yX12_becomesBy, Cond.selects RX12 yX12_becomesBy yX12_becomesBy, Cond.code yX12_becomesBy cX12_becomesBy 5 (some .int)]
def wsL_law_r37 : List Cond := [Cond.methodLink RL 51 yX11_kept, Cond.instanceMethod yX11_kept, Cond.selects RX11 yX11_kept yX11_kept, Cond.code yX11_kept cX11_kept 4 (some .long), Cond.constantLong RX11 198 (-1000000000000000), Cond.methodLink RX11 200 yX4_ofKept, Cond.instanceMethod yX4_ofKept, Cond.selects RX4 yX4_ofKept yX4_ofKept, Cond.code yX4_ofKept cX4_ofKept 3 (some .long), Cond.constantLong RX4 49 (-1000000000000000), Cond.methodLink RL 55 yX12_kept, Cond.instanceMethod yX12_kept, Cond.selects RX12 yX12_kept yX12_kept, Cond.code yX12_kept cX12_kept 3 (some .long), Cond.constantLong RX12 421 (-1000000000000000), Cond.methodLink RL 56 yX11_weeks, Cond.instanceMethod yX11_weeks, Cond.selects RX11 yX11_weeks yX11_weeks, Cond.code yX11_weeks cX11_weeks 1 (some .long), Cond.methodLink RX11 204 yX11_isLocked, Cond.instanceMethod yX11_isLocked, Cond.selects RX11 yX11_isLocked yX11_isLocked, Cond.code yX11_isLocked cX11_isLocked 1 (some .boolean), Cond.methodLink RX11 208 yX11_lookAt]
def wsL_law_r38 : List Cond := [Cond.instanceMethod yX11_lookAt, Cond.selects RX11 yX11_lookAt yX11_lookAt, Cond.code yX11_lookAt cX11_lookAt 2 (some .boolean), Cond.methodLink RX11 230 yX1_lay, Cond.instanceMethod yX1_lay, Cond.selects RX1 yX1_lay yX1_lay, Cond.code yX1_lay cX1_lay 8 none, Cond.fieldLink RX1 42 "SameKeeper$State" "days" "I", Cond.fieldLink RX1 45 "SameKeeper$State" "mood" "I", Cond.fieldLink RX1 54 "SameKeeper$Table" "alone" "[I", Cond.fieldLink RX1 59 "SameKeeper$Table" "open" "[I", Cond.methodLink RX1 48 yJ7_fill_53178, Cond.methodLink RX1 62 yX9_moodsBehind, Cond.methodLink RX11 234 yX1_settle, Cond.instanceMethod yX1_settle, Cond.selects RX1 yX1_settle yX1_settle, Cond.code yX1_settle cX1_settle 4 (some .boolean), Cond.methodLink RX1 66 yX1_next, Cond.instanceMethod yX1_next, Cond.selects RX1 yX1_next yX1_next, Cond.code yX1_next cX1_next 3 (some .int), Cond.methodLink RX11 212 yX1_countWays, Cond.instanceMethod yX1_countWays, Cond.selects RX1 yX1_countWays yX1_countWays]
def wsL_law_r39 : List Cond := [Cond.code yX1_countWays cX1_countWays 7 (some .long), Cond.methodLink RL 60 yX12_weeks, Cond.instanceMethod yX12_weeks, Cond.selects RX12 yX12_weeks yX12_weeks, Cond.code yX12_weeks cX12_weeks 1 (some .long), Cond.methodLink RX12 400 yX12_laysAll, Cond.instanceMethod yX12_laysAll, Cond.selects RX12 yX12_laysAll yX12_laysAll, Cond.code yX12_laysAll cX12_laysAll 1 none, Cond.methodLink RX12 385 yX12_laysDays, Cond.instanceMethod yX12_laysDays, Cond.selects RX12 yX12_laysDays yX12_laysDays, Cond.code yX12_laysDays cX12_laysDays 5 none, Cond.methodLink RX12 388 yX12_laysWays, Cond.instanceMethod yX12_laysWays, Cond.selects RX12 yX12_laysWays yX12_laysWays, Cond.code yX12_laysWays cX12_laysWays 7 none, Cond.methodLink RX12 378 yX12_canFollow, Cond.instanceMethod yX12_canFollow, Cond.selects RX12 yX12_canFollow yX12_canFollow, Cond.code yX12_canFollow cX12_canFollow 5 (some .boolean), Cond.methodLink RX12 371 yX12_isMuteNow, Cond.instanceMethod yX12_isMuteNow, Cond.selects RX12 yX12_isMuteNow yX12_isMuteNow]
def wsL_law_r40 : List Cond := [Cond.code yX12_isMuteNow cX12_isMuteNow 2 (some .boolean), Cond.fieldLink RX12 362 "SameKeeperModel" "muteToo" "I", Cond.methodLink RX12 374 yX12_isLeft, Cond.instanceMethod yX12_isLeft, Cond.selects RX12 yX12_isLeft yX12_isLeft, Cond.code yX12_isLeft cX12_isLeft 4 (some .boolean), Cond.fieldLink RX12 365 "SameKeeperModel" "wordTold" "I", Cond.fieldLink RX12 368 "SameKeeperModel" "byHeard" "Z", Cond.methodLink RL 61 yX11_mood, Cond.instanceMethod yX11_mood, Cond.selects RX11 yX11_mood yX11_mood, Cond.code yX11_mood cX11_mood 3 (some .int), Cond.methodLink RX11 216 yX11_takeWeek, Cond.instanceMethod yX11_takeWeek, Cond.selects RX11 yX11_takeWeek yX11_takeWeek, Cond.code yX11_takeWeek cX11_takeWeek 3 (some .boolean), Cond.methodLink RX11 326 yX1_takeNumbered, Cond.instanceMethod yX1_takeNumbered, Cond.selects RX1 yX1_takeNumbered yX1_takeNumbered, Cond.code yX1_takeNumbered cX1_takeNumbered 13 none, Cond.methodLink RL 64 yX12_mood, Cond.instanceMethod yX12_mood, Cond.selects RX12 yX12_mood yX12_mood, Cond.code yX12_mood cX12_mood 3 (some .int)]
def wsL_law_r41 : List Cond := [Cond.methodLink RX12 394 yX12_walksTo, Cond.instanceMethod yX12_walksTo, Cond.selects RX12 yX12_walksTo yX12_walksTo, Cond.code yX12_walksTo cX12_walksTo 6 none, Cond.methodLink RL 65 yX11_many, Cond.instanceMethod yX11_many, Cond.selects RX11 yX11_many yX11_many, Cond.code yX11_many cX11_many 3 (some .long), Cond.methodLink RX11 220 yX1_countComings, Cond.instanceMethod yX1_countComings, Cond.selects RX1 yX1_countComings yX1_countComings, Cond.code yX1_countComings cX1_countComings 5 none, Cond.methodLink RX1 76 yJ7_fill_d0a16, Cond.static yJ7_fill_d0a16, Cond.code yJ7_fill_d0a16 cJ7_fill_d0a16 5 none, Cond.methodLink RX11 223 yX1_timesOf, Cond.instanceMethod yX1_timesOf, Cond.selects RX1 yX1_timesOf yX1_timesOf, Cond.code yX1_timesOf cX1_timesOf 4 (some .long), Cond.methodLink RL 68 yX12_many, Cond.instanceMethod yX12_many, Cond.selects RX12 yX12_many yX12_many, Cond.code yX12_many cX12_many 3 (some .long), Cond.methodLink RL 69 yX11_hushed]
def wsL_law_r42 : List Cond := [Cond.instanceMethod yX11_hushed, Cond.selects RX11 yX11_hushed yX11_hushed, Cond.code yX11_hushed cX11_hushed 1 (some .int), Cond.methodLink RX11 226 yX11_fewest, Cond.instanceMethod yX11_fewest, Cond.selects RX11 yX11_fewest yX11_fewest, Cond.code yX11_fewest cX11_fewest 7 (some .int), Cond.methodLink RX11 330 yX11_serves, Cond.instanceMethod yX11_serves, Cond.selects RX11 yX11_serves yX11_serves, Cond.code yX11_serves cX11_serves 5 (some .boolean), Cond.methodLink RX11 262 yX1_moodsOf, Cond.instanceMethod yX1_moodsOf, Cond.selects RX1 yX1_moodsOf yX1_moodsOf, Cond.code yX1_moodsOf cX1_moodsOf 6 (some .int), Cond.methodLink RX11 334 yX11_isAtRest, Cond.instanceMethod yX11_isAtRest, Cond.selects RX11 yX11_isAtRest yX11_isAtRest, Cond.code yX11_isAtRest cX11_isAtRest 3 (some .boolean), Cond.fieldLink RX11 337 "SameKeeper$Table" "wages" "[J", Cond.methodLink RX11 285 yX1_takeFirst, Cond.instanceMethod yX1_takeFirst, Cond.selects RX1 yX1_takeFirst yX1_takeFirst, Cond.code yX1_takeFirst cX1_takeFirst 4 none]
def wsL_law_r43 : List Cond := [Cond.methodLink RX1 70 yJ6_numberOfTrailingZeros_0f7a4, Cond.static yJ6_numberOfTrailingZeros_0f7a4, Cond.code yJ6_numberOfTrailingZeros_0f7a4 cJ6_numberOfTrailingZeros_0f7a4 2 (some .int), Cond.constant RJ6 264 (65536), Cond.methodLink RL 72 yX12_hushed, Cond.instanceMethod yX12_hushed, Cond.selects RX12 yX12_hushed yX12_hushed, Cond.code yX12_hushed cX12_hushed 3 (some .int), Cond.methodLink RX12 423 yX12_doesAgree, Cond.instanceMethod yX12_doesAgree, Cond.selects RX12 yX12_doesAgree yX12_doesAgree, Cond.code yX12_doesAgree cX12_doesAgree 2 (some .boolean), Cond.methodLink RL 73 yX11_wished, Cond.instanceMethod yX11_wished, Cond.selects RX11 yX11_wished yX11_wished, Cond.code yX11_wished cX11_wished 3 (some .int), Cond.methodLink RL 76 yX12_wished, Cond.instanceMethod yX12_wished, Cond.selects RX12 yX12_wished yX12_wished, Cond.code yX12_wished cX12_wished 5 (some .int), Cond.methodLink RL 77 yX11_lies, Cond.instanceMethod yX11_lies, Cond.selects RX11 yX11_lies yX11_lies, Cond.code yX11_lies cX11_lies 3 (some .int)]
def wsL_law_r44 : List Cond := [Cond.methodLink RL 80 yX12_lies, Cond.instanceMethod yX12_lies, Cond.selects RX12 yX12_lies yX12_lies, Cond.code yX12_lies cX12_lies 3 (some .int), Cond.methodLink RL 81 yX11_later, Cond.instanceMethod yX11_later, Cond.selects RX11 yX11_later yX11_later, Cond.code yX11_later cX11_later 3 (some .int), Cond.methodLink RX11 237 yX7_copy, Cond.instanceMethod yX7_copy, Cond.selects RX7 yX7_copy yX7_copy, Cond.code yX7_copy cX7_copy 2 none, Cond.methodLink RX11 241 yX11_stepAhead, Cond.instanceMethod yX11_stepAhead, Cond.selects RX11 yX11_stepAhead yX11_stepAhead, Cond.code yX11_stepAhead cX11_stepAhead 1 (some .boolean), Cond.methodLink RL 84 yX12_later, Cond.instanceMethod yX12_later, Cond.selects RX12 yX12_later yX12_later, Cond.code yX12_later cX12_later 4 (some .int), Cond.methodLink RX12 426 yX12_isAhead, Cond.instanceMethod yX12_isAhead, Cond.selects RX12 yX12_isAhead yX12_isAhead, Cond.code yX12_isAhead cX12_isAhead 4 (some .boolean)]
def wsL_law_r45 : List Cond := [Cond.methodLink RX12 429 yX12_putsAside, Cond.instanceMethod yX12_putsAside, Cond.selects RX12 yX12_putsAside yX12_putsAside, Cond.code yX12_putsAside cX12_putsAside 2 none, Cond.fieldLink RX12 391 "SameKeeperModel" "isThought" "Z", Cond.methodLink RX12 432 yX12_doGo, Cond.instanceMethod yX12_doGo, Cond.selects RX12 yX12_doGo yX12_doGo, Cond.code yX12_doGo cX12_doGo 1 (some .boolean), Cond.methodLink RX12 403 yX12_goesBy, Cond.instanceMethod yX12_goesBy, Cond.selects RX12 yX12_goesBy yX12_goesBy, Cond.code yX12_goesBy cX12_goesBy 3 none, Cond.methodLink RX12 397 yX12_isKept, Cond.instanceMethod yX12_isKept, Cond.selects RX12 yX12_isKept yX12_isKept, Cond.code yX12_isKept cX12_isKept 2 none, Cond.methodLink RX12 436 yX12_takesBack, Cond.instanceMethod yX12_takesBack, Cond.selects RX12 yX12_takesBack yX12_takesBack, Cond.code yX12_takesBack cX12_takesBack 2 none, Cond.methodLink RL 85 yX11_ring, Cond.instanceMethod yX11_ring, Cond.selects RX11 yX11_ring yX11_ring]
def wsL_law_r46 : List Cond := [Cond.code yX11_ring cX11_ring 2 (some .int), Cond.methodLink RL 88 yX12_ring, Cond.instanceMethod yX12_ring, Cond.selects RX12 yX12_ring yX12_ring, Cond.code yX12_ring cX12_ring 4 (some .int), Cond.methodLink RL 89 yX11_frees, Cond.instanceMethod yX11_frees, Cond.selects RX11 yX11_frees yX11_frees, Cond.code yX11_frees cX11_frees 9 (some .int), Cond.methodLink RX11 244 yX7_put, Cond.instanceMethod yX7_put, Cond.selects RX7 yX7_put yX7_put, Cond.code yX7_put cX7_put 4 none, Cond.methodLink RL 92 yX12_frees, Cond.instanceMethod yX12_frees, Cond.selects RX12 yX12_frees yX12_frees, Cond.code yX12_frees cX12_frees 9 (some .int), Cond.methodLink RL 93 yX11_pay, Cond.instanceMethod yX11_pay, Cond.selects RX11 yX11_pay yX11_pay, Cond.code yX11_pay cX11_pay 1 (some .long), Cond.methodLink RX11 248 yX1_bestPay, Cond.instanceMethod yX1_bestPay, Cond.selects RX1 yX1_bestPay yX1_bestPay]
def wsL_law_r47 : List Cond := [Cond.code yX1_bestPay cX1_bestPay 7 (some .long), Cond.constantLong RX1 89 (-1000000000000000), Cond.methodLink RX1 83 Lib.MathLoose.max_long.x, Cond.methodLink RX1 91 yX1_gainBy, Cond.instanceMethod yX1_gainBy, Cond.selects RX1 yX1_gainBy yX1_gainBy, Cond.code yX1_gainBy cX1_gainBy 3 (some .long), Cond.fieldLink RX1 94 "SameKeeper$Table" "wages" "[J", Cond.methodLink RL 96 yX12_pay, Cond.instanceMethod yX12_pay, Cond.selects RX12 yX12_pay yX12_pay, Cond.code yX12_pay cX12_pay 2 (some .long), Cond.methodLink RX12 442 yX12_laysPay, Cond.instanceMethod yX12_laysPay, Cond.selects RX12 yX12_laysPay yX12_laysPay, Cond.code yX12_laysPay cX12_laysPay 6 none, Cond.methodLink RX12 439 yX12_wageOf, Cond.instanceMethod yX12_wageOf, Cond.selects RX12 yX12_wageOf yX12_wageOf, Cond.code yX12_wageOf cX12_wageOf 3 (some .long), Cond.methodLink RX12 445 yX12_bestBehind, Cond.instanceMethod yX12_bestBehind, Cond.selects RX12 yX12_bestBehind yX12_bestBehind, Cond.code yX12_bestBehind cX12_bestBehind 5 (some .int)]
def wsL_law_r48 : List Cond := [Cond.methodLink RL 97 yX11_paid, Cond.instanceMethod yX11_paid, Cond.selects RX11 yX11_paid yX11_paid, Cond.code yX11_paid cX11_paid 2 (some .int), Cond.methodLink RX11 251 yX1_takeBestPaid, Cond.instanceMethod yX1_takeBestPaid, Cond.selects RX1 yX1_takeBestPaid yX1_takeBestPaid, Cond.code yX1_takeBestPaid cX1_takeBestPaid 7 none, Cond.methodLink RL 100 yX12_paid, Cond.instanceMethod yX12_paid, Cond.selects RX12 yX12_paid yX12_paid, Cond.code yX12_paid cX12_paid 4 (some .int), Cond.methodLink RL 101 yX11_rest, Cond.instanceMethod yX11_rest, Cond.selects RX11 yX11_rest yX11_rest, Cond.code yX11_rest cX11_rest 1 (some .int), Cond.methodLink RL 104 yX12_rest, Cond.instanceMethod yX12_rest, Cond.selects RX12 yX12_rest yX12_rest, Cond.code yX12_rest cX12_rest 3 (some .int), Cond.methodLink RX12 448 yX12_laysRest, Cond.instanceMethod yX12_laysRest, Cond.selects RX12 yX12_laysRest yX12_laysRest, Cond.code yX12_laysRest cX12_laysRest 3 none]
def wsL_law_r49 : List Cond := [Cond.methodLink RX12 451 yX12_isRest, Cond.instanceMethod yX12_isRest, Cond.selects RX12 yX12_isRest yX12_isRest, Cond.code yX12_isRest cX12_isRest 4 (some .boolean), Cond.methodLink RL 105 yX11_unlike, Cond.instanceMethod yX11_unlike, Cond.selects RX11 yX11_unlike yX11_unlike, Cond.code yX11_unlike cX11_unlike 5 (some .int), Cond.methodLink RL 108 yX12_unlike, Cond.instanceMethod yX12_unlike, Cond.selects RX12 yX12_unlike yX12_unlike, Cond.code yX12_unlike cX12_unlike 5 (some .int), Cond.methodLink RL 109 yX11_known, Cond.instanceMethod yX11_known, Cond.selects RX11 yX11_known yX11_known, Cond.code yX11_known cX11_known 4 (some .int), Cond.methodLink RX11 255 yX11_isWordOf, Cond.instanceMethod yX11_isWordOf, Cond.selects RX11 yX11_isWordOf yX11_isWordOf, Cond.code yX11_isWordOf cX11_isWordOf 3 (some .boolean), Cond.methodLink RX11 259 yX11_lookByWord, Cond.instanceMethod yX11_lookByWord, Cond.selects RX11 yX11_lookByWord yX11_lookByWord, Cond.code yX11_lookByWord cX11_lookByWord 3 (some .boolean)]
def wsL_law_r50 : List Cond := [Cond.methodLink RX11 319 yX9_moodsThatSay, Cond.instanceMethod yX9_moodsThatSay, Cond.selects RX9 yX9_moodsThatSay yX9_moodsThatSay, Cond.code yX9_moodsThatSay cX9_moodsThatSay 5 (some .int), Cond.methodLink RX11 322 yX1_allowOnly, Cond.instanceMethod yX1_allowOnly, Cond.selects RX1 yX1_allowOnly yX1_allowOnly, Cond.code yX1_allowOnly cX1_allowOnly 3 none, Cond.methodLink RL 112 yX12_known, Cond.instanceMethod yX12_known, Cond.selects RX12 yX12_known yX12_known, Cond.code yX12_known cX12_known 4 (some .int), Cond.methodLink RX12 454 yX12_canBeTold, Cond.instanceMethod yX12_canBeTold, Cond.selects RX12 yX12_canBeTold yX12_canBeTold, Cond.code yX12_canBeTold cX12_canBeTold 3 (some .boolean), Cond.methodLink RX12 457 yX12_laysByWord, Cond.instanceMethod yX12_laysByWord, Cond.selects RX12 yX12_laysByWord yX12_laysByWord, Cond.code yX12_laysByWord cX12_laysByWord 3 none, Cond.methodLink RX12 460 yX12_moodsOf, Cond.instanceMethod yX12_moodsOf, Cond.selects RX12 yX12_moodsOf yX12_moodsOf, Cond.code yX12_moodsOf cX12_moodsOf 4 (some .int)]
def wsL_law_r51 : List Cond := [Cond.methodLink RL 113 yX11_sure, Cond.instanceMethod yX11_sure, Cond.selects RX11 yX11_sure yX11_sure, Cond.code yX11_sure cX11_sure 5 (some .int), Cond.methodLink RL 116 yX12_sure, Cond.instanceMethod yX12_sure, Cond.selects RX12 yX12_sure yX12_sure, Cond.code yX12_sure cX12_sure 5 (some .int), Cond.methodLink RL 117 yX11_hear, Cond.instanceMethod yX11_hear, Cond.selects RX11 yX11_hear yX11_hear, Cond.code yX11_hear cX11_hear 4 (some .int), Cond.methodLink RX11 265 yX11_tellsRows, Cond.instanceMethod yX11_tellsRows, Cond.selects RX11 yX11_tellsRows yX11_tellsRows, Cond.code yX11_tellsRows cX11_tellsRows 2 (some .boolean), Cond.methodLink RX11 268 yX10_left, Cond.instanceMethod yX10_left, Cond.selects RX10 yX10_left yX10_left, Cond.code yX10_left cX10_left 2 (some .int), Cond.methodLink RL 120 yX12_hear, Cond.instanceMethod yX12_hear, Cond.selects RX12 yX12_hear yX12_hear, Cond.code yX12_hear cX12_hear 4 (some .int)]
def wsL_law_r52 : List Cond := [Cond.methodLink RX12 463 yX12_refuses, Cond.instanceMethod yX12_refuses, Cond.selects RX12 yX12_refuses yX12_refuses, Cond.code yX12_refuses cX12_refuses 2 (some .int), Cond.methodLink RL 121 yX11_heard, Cond.instanceMethod yX11_heard, Cond.selects RX11 yX11_heard yX11_heard, Cond.code yX11_heard cX11_heard 1 (some .long), Cond.methodLink RX11 271 yX11_lookByHeard, Cond.instanceMethod yX11_lookByHeard, Cond.selects RX11 yX11_lookByHeard yX11_lookByHeard, Cond.code yX11_lookByHeard cX11_lookByHeard 3 (some .boolean), Cond.methodLink RL 124 yX12_heard, Cond.instanceMethod yX12_heard, Cond.selects RX12 yX12_heard yX12_heard, Cond.code yX12_heard cX12_heard 1 (some .long), Cond.methodLink RX12 466 yX12_laysHeard, Cond.instanceMethod yX12_laysHeard, Cond.selects RX12 yX12_laysHeard yX12_laysHeard, Cond.code yX12_laysHeard cX12_laysHeard 1 none, Cond.methodLink RL 125 yX11_tells, Cond.instanceMethod yX11_tells, Cond.selects RX11 yX11_tells yX11_tells, Cond.code yX11_tells cX11_tells 8 (some .long)]
def wsL_law_r53 : List Cond := [Cond.methodLink RX11 274 yX1_mostLeft, Cond.instanceMethod yX1_mostLeft, Cond.selects RX1 yX1_mostLeft yX1_mostLeft, Cond.code yX1_mostLeft cX1_mostLeft 5 (some .long), Cond.methodLink RX1 79 yX1_timesOf, Cond.methodLink RL 129 yX12_tells, Cond.instanceMethod yX12_tells, Cond.selects RX12 yX12_tells yX12_tells, Cond.code yX12_tells cX12_tells 11 (some .long), Cond.methodLink RL 130 yX11_same, Cond.instanceMethod yX11_same, Cond.selects RX11 yX11_same yX11_same, Cond.code yX11_same cX11_same 4 (some .int), Cond.methodLink RL 133 yX12_same, Cond.instanceMethod yX12_same, Cond.selects RX12 yX12_same yX12_same, Cond.code yX12_same cX12_same 5 (some .int), Cond.constantLong RX12 469 (1439), Cond.methodLink RL 134 yX11_set, Cond.instanceMethod yX11_set, Cond.selects RX11 yX11_set yX11_set, Cond.code yX11_set cX11_set 4 (some .boolean), Cond.methodLink RX11 278 yX7_amount, Cond.instanceMethod yX7_amount]
def wsL_law_r54 : List Cond := [Cond.selects RX7 yX7_amount yX7_amount, Cond.code yX7_amount cX7_amount 3 (some .int), Cond.methodLink RX11 282 yX4_save, Cond.instanceMethod yX4_save, Cond.selects RX4 yX4_save yX4_save, Cond.code yX4_save cX4_save 4 none, Cond.methodLink RX4 33 yX7_copy, Cond.methodLink RL 138 yX12_set, Cond.instanceMethod yX12_set, Cond.selects RX12 yX12_set yX12_set, Cond.code yX12_set cX12_set 4 (some .boolean), Cond.methodLink RX12 477 yX12_becomes, Cond.instanceMethod yX12_becomes, Cond.selects RX12 yX12_becomes yX12_becomes, Cond.code yX12_becomes cX12_becomes 5 (some .boolean), Cond.methodLink RX12 474 yX12_keeps, Cond.instanceMethod yX12_keeps, Cond.selects RX12 yX12_keeps yX12_keeps, Cond.code yX12_keeps cX12_keeps 2 none, Cond.fieldLink RX12 471 "SameKeeperModel" "newest" "I", Cond.methodLink RL 139 yX11_mute, Cond.instanceMethod yX11_mute, Cond.selects RX11 yX11_mute yX11_mute, Cond.code yX11_mute cX11_mute 3 (some .boolean)]
def wsL_law_r55 : List Cond := [Cond.methodLink RL 143 yX12_mute, Cond.instanceMethod yX12_mute, Cond.selects RX12 yX12_mute yX12_mute, Cond.code yX12_mute cX12_mute 3 (some .boolean), Cond.methodLink RL 144 yX11_go, Cond.instanceMethod yX11_go, Cond.selects RX11 yX11_go yX11_go, Cond.code yX11_go cX11_go 3 (some .int), Cond.methodLink RX11 288 yX11_pass, Cond.instanceMethod yX11_pass, Cond.selects RX11 yX11_pass yX11_pass, Cond.code yX11_pass cX11_pass 4 none, Cond.methodLink RX11 341 yX4_keep, Cond.instanceMethod yX4_keep, Cond.selects RX4 yX4_keep yX4_keep, Cond.code yX4_keep cX4_keep 6 none, Cond.fieldLink RX4 37 "SameKeeper$State" "kept" "I", Cond.fieldLink RX4 40 "SameKeeper$State" "week" "I", Cond.methodLink RL 147 yX12_go, Cond.instanceMethod yX12_go, Cond.selects RX12 yX12_go yX12_go, Cond.code yX12_go cX12_go 1 (some .int), Cond.methodLink RL 148 yX11_chance, Cond.instanceMethod yX11_chance]
def wsL_law_r56 : List Cond := [Cond.selects RX11 yX11_chance yX11_chance, Cond.code yX11_chance cX11_chance 4 (some .int), Cond.methodLink RX11 292 yX11_passByChance, Cond.instanceMethod yX11_passByChance, Cond.selects RX11 yX11_passByChance yX11_passByChance, Cond.code yX11_passByChance cX11_passByChance 3 (some .boolean), Cond.constantLong RX11 345 (100), Cond.fieldLink RX11 351 "SameKeeper$Lock" "rain" "I", Cond.methodLink RX11 354 Lib.Math.min.name, Cond.constantLong RX11 359 (10), Cond.methodLink RX11 347 yX11_draw, Cond.instanceMethod yX11_draw, Cond.selects RX11 yX11_draw yX11_draw, Cond.code yX11_draw cX11_draw 3 (some .long), Cond.constantLong RX11 361 (1103515245), Cond.constantLong RX11 363 (12345), Cond.constantLong RX11 365 (2147483647), Cond.constantLong RX11 367 (64), Cond.methodLink RL 151 yX12_chance, Cond.instanceMethod yX12_chance, Cond.selects RX12 yX12_chance yX12_chance, Cond.code yX12_chance cX12_chance 5 (some .int), Cond.methodLink RX12 495 yX12_drawsDays, Cond.instanceMethod yX12_drawsDays]
def wsL_law_r57 : List Cond := [Cond.selects RX12 yX12_drawsDays yX12_drawsDays, Cond.code yX12_drawsDays cX12_drawsDays 3 none, Cond.constantLong RX12 489 (100), Cond.methodLink RX12 491 yX12_drawOf, Cond.instanceMethod yX12_drawOf, Cond.selects RX12 yX12_drawOf yX12_drawOf, Cond.code yX12_drawOf cX12_drawOf 3 (some .long), Cond.constantLong RX12 481 (1103515245), Cond.constantLong RX12 483 (12345), Cond.constantLong RX12 485 (2147483648), Cond.constantLong RX12 487 (64), Cond.methodLink RL 152 yX11_undo, Cond.instanceMethod yX11_undo, Cond.selects RX11 yX11_undo yX11_undo, Cond.code yX11_undo cX11_undo 1 (some .boolean), Cond.methodLink RX11 295 yX4_restore, Cond.instanceMethod yX4_restore, Cond.selects RX4 yX4_restore yX4_restore, Cond.code yX4_restore cX4_restore 2 (some .boolean), Cond.methodLink RL 156 yX12_undo, Cond.instanceMethod yX12_undo, Cond.selects RX12 yX12_undo yX12_undo, Cond.code yX12_undo cX12_undo 2 (some .boolean), Cond.methodLink RL 157 yX11_seed]
def wsL_law_r58 : List Cond := [Cond.instanceMethod yX11_seed, Cond.selects RX11 yX11_seed yX11_seed, Cond.code yX11_seed cX11_seed 2 (some .boolean), Cond.methodLink RL 160 yX12_seed, Cond.instanceMethod yX12_seed, Cond.selects RX12 yX12_seed yX12_seed, Cond.code yX12_seed cX12_seed 2 (some .boolean), Cond.methodLink RL 161 yX11_ask, Cond.instanceMethod yX11_ask, Cond.selects RX11 yX11_ask yX11_ask, Cond.code yX11_ask cX11_ask 1 (some .long), Cond.methodLink RX11 298 yX5_read, Cond.instanceMethod yX5_read, Cond.selects RX5 yX5_read yX5_read, Cond.code yX5_read cX5_read 1 none, Cond.fieldLink RX5 43 "SameKeeper$Reader" "token" "I", Cond.methodLink RX5 37 yX0_clear, Cond.methodLink RX5 40 yX6_begin, Cond.methodLink RX5 46 yX6_step, Cond.methodLink RX5 49 yX5_readTest, Cond.instanceMethod yX5_readTest, Cond.selects RX5 yX5_readTest yX5_readTest, Cond.code yX5_readTest cX5_readTest 2 none, Cond.methodLink RX5 59 yX5_readBoth]
def wsL_law_r59 : List Cond := [Cond.instanceMethod yX5_readBoth, Cond.selects RX5 yX5_readBoth yX5_readBoth, Cond.methodLink RX5 64 yX6_takes, Cond.instanceMethod yX6_takes, Cond.selects RX6 yX6_takes yX6_takes, Cond.code yX6_takes cX6_takes 2 (some .boolean), Cond.methodLink RX5 68 yX0_add, Cond.code yX5_readBoth cX5_readBoth 2 none, Cond.methodLink RX5 72 yX5_readFact, Cond.instanceMethod yX5_readFact, Cond.selects RX5 yX5_readFact yX5_readFact, Cond.code yX5_readFact cX5_readFact 2 none, Cond.methodLink RX5 75 yX6_opens, Cond.methodLink RX5 78 yX6_shuts, Cond.methodLink RX5 81 yX6_needs, Cond.methodLink RX5 52 yX8_read, Cond.methodLink RX5 84 yX5_stepOf, Cond.static yX5_stepOf, Cond.code yX5_stepOf cX5_stepOf 1 (some .int), Cond.methodLink RX5 56 yX6_failHere, Cond.methodLink RX11 300 yJ7_fill_53178, Cond.methodLink RX11 306 yX5_answer, Cond.instanceMethod yX5_answer, Cond.selects RX5 yX5_answer yX5_answer]
def wsL_law_r60 : List Cond := [Cond.code yX5_answer cX5_answer 7 (some .long), Cond.constantLong RX5 92 (-1), Cond.fieldLink RX5 94 "SameKeeper$State" "days" "I", Cond.fieldLink RX5 103 "SameKeeper$Code" "length" "I", Cond.methodLink RX5 88 yX5_isOfDays, Cond.instanceMethod yX5_isOfDays, Cond.selects RX5 yX5_isOfDays yX5_isOfDays, Cond.code yX5_isOfDays cX5_isOfDays 1 (some .boolean), Cond.methodLink RX5 99 yX5_nameDay, Cond.instanceMethod yX5_nameDay, Cond.selects RX5 yX5_nameDay yX5_nameDay, Cond.code yX5_nameDay cX5_nameDay 6 none, Cond.fieldLink RX5 118 "SameKeeper$State" "barge" "[I", Cond.fieldLink RX5 122 "SameKeeper$State" "wet" "[I", Cond.fieldLink RX5 128 "SameKeeper$State" "week" "I", Cond.methodLink RX5 114 yX0_name, Cond.methodLink RX5 125 yX7_isMute, Cond.methodLink RX5 131 yX1_timesOf, Cond.methodLink RX5 136 yX0_nameCount, Cond.instanceMethod yX0_nameCount, Cond.selects RX0 yX0_nameCount yX0_nameCount, Cond.code yX0_nameCount cX0_nameCount 4 none, Cond.methodLink RX5 106 yX0_run, Cond.methodLink RX5 110 yX5_joined]
def wsL_law_r61 : List Cond := [Cond.instanceMethod yX5_joined, Cond.selects RX5 yX5_joined yX5_joined, Cond.code yX5_joined cX5_joined 6 (some .long), Cond.methodLink RX5 139 Lib.MathLoose.max_long.x, Cond.methodLink RX5 145 Lib.MathLoose.min_long.x, Cond.methodLink RL 164 yX12_ask, Cond.instanceMethod yX12_ask, Cond.selects RX12 yX12_ask yX12_ask, Cond.code yX12_ask cX12_ask 3 (some .long), Cond.fieldLink RX12 575 "SameKeeperModel" "qAnswer" "J", Cond.fieldLink RX12 578 "SameKeeperModel" "qIsNew" "Z", Cond.methodLink RX12 581 yX12_qKind, Cond.instanceMethod yX12_qKind, Cond.selects RX12 yX12_qKind yX12_qKind, Cond.code yX12_qKind cX12_qKind 2 (some .int), Cond.methodLink RX12 584 yX12_qTest, Cond.instanceMethod yX12_qTest, Cond.selects RX12 yX12_qTest yX12_qTest, Cond.code yX12_qTest cX12_qTest 3 none, Cond.methodLink RX12 540 yX12_qFact, Cond.instanceMethod yX12_qFact, Cond.selects RX12 yX12_qFact yX12_qFact, Cond.code yX12_qFact cX12_qFact 2 none, Cond.methodLink RX12 543 yX12_qDropsNots]
def wsL_law_r62 : List Cond := [Cond.instanceMethod yX12_qDropsNots, Cond.selects RX12 yX12_qDropsNots yX12_qDropsNots, Cond.code yX12_qDropsNots cX12_qDropsNots 1 none, Cond.methodLink RX12 546 yX12_qGoesOnTest, Cond.instanceMethod yX12_qGoesOnTest, Cond.selects RX12 yX12_qGoesOnTest yX12_qGoesOnTest, Cond.code yX12_qGoesOnTest cX12_qGoesOnTest 1 (some .boolean), Cond.methodLink RX12 549 yX12_qHasSquare, Cond.instanceMethod yX12_qHasSquare, Cond.selects RX12 yX12_qHasSquare yX12_qHasSquare, Cond.code yX12_qHasSquare cX12_qHasSquare 2 (some .boolean), Cond.methodLink RX12 587 yX12_qTold, Cond.instanceMethod yX12_qTold, Cond.selects RX12 yX12_qTold yX12_qTold, Cond.code yX12_qTold cX12_qTold 4 (some .long), Cond.methodLink RX12 571 yX12_qOf, Cond.instanceMethod yX12_qOf, Cond.selects RX12 yX12_qOf yX12_qOf, Cond.code yX12_qOf cX12_qOf 5 (some .long), Cond.methodLink RX12 591 yX12_qTakes, Cond.instanceMethod yX12_qTakes, Cond.selects RX12 yX12_qTakes yX12_qTakes, Cond.code yX12_qTakes cX12_qTakes 6 none, Cond.methodLink RL 165 yX11_image]
def wsL_law_r63 : List Cond := [Cond.instanceMethod yX11_image, Cond.selects RX11 yX11_image yX11_image, Cond.code yX11_image cX11_image 2 (some .int), Cond.methodLink RX11 310 yX10_add, Cond.methodLink RX11 313 yX10_checkOf, Cond.instanceMethod yX10_checkOf, Cond.selects RX10 yX10_checkOf yX10_checkOf, Cond.code yX10_checkOf cX10_checkOf 4 (some .int), Cond.methodLink RX10 27 yX10_left, Cond.methodLink RL 168 yX12_image, Cond.instanceMethod yX12_image, Cond.selects RX12 yX12_image yX12_image, Cond.code yX12_image cX12_image 2 (some .int), Cond.fieldLink RX12 595 "SameKeeperModel" "octets" "I", Cond.methodLink RX12 598 yX12_writes, Cond.instanceMethod yX12_writes, Cond.selects RX12 yX12_writes yX12_writes, Cond.code yX12_writes cX12_writes 2 none, Cond.methodLink RX12 601 yX12_checked, Cond.static yX12_checked, Cond.code yX12_checked cX12_checked 4 (some .int), Cond.methodLink RL 169 yX11_octet, Cond.instanceMethod yX11_octet, Cond.selects RX11 yX11_octet yX11_octet]
def wsL_law_r64 : List Cond := [Cond.code yX11_octet cX11_octet 2 (some .int), Cond.methodLink RL 172 yX12_octet, Cond.instanceMethod yX12_octet, Cond.selects RX12 yX12_octet yX12_octet, Cond.code yX12_octet cX12_octet 2 (some .int), Cond.methodLink RL 173 yX11_on, Cond.instanceMethod yX11_on, Cond.selects RX11 yX11_on yX11_on, Cond.code yX11_on cX11_on 3 (some .boolean), Cond.methodLink RX11 316 yX11_tellsImage, Cond.instanceMethod yX11_tellsImage, Cond.selects RX11 yX11_tellsImage yX11_tellsImage, Cond.code yX11_tellsImage cX11_tellsImage 3 (some .boolean), Cond.methodLink RL 176 yX12_on, Cond.instanceMethod yX12_on, Cond.selects RX12 yX12_on yX12_on, Cond.code yX12_on cX12_on 3 (some .boolean), Cond.methodLink RX12 605 yX12_isImage, Cond.instanceMethod yX12_isImage, Cond.selects RX12 yX12_isImage yX12_isImage, Cond.code yX12_isImage cX12_isImage 3 (some .boolean), Cond.methodLink RL 177 yX11_status, Cond.instanceMethod yX11_status, Cond.selects RX11 yX11_status yX11_status]
def wsL_law_r65 : List Cond := [Cond.code yX11_status cX11_status 2 (some .int), Cond.methodLink RL 180 yX12_status, Cond.instanceMethod yX12_status, Cond.selects RX12 yX12_status yX12_status, Cond.code yX12_status cX12_status 2 (some .int), Cond.constantLong RX12 608 (5)]
def wsL_law : List Cond := (wsL_law_r1 ++ (wsL_law_r2 ++ (wsL_law_r3 ++ (wsL_law_r4 ++ (wsL_law_r5 ++ (wsL_law_r6 ++ (wsL_law_r7 ++ (wsL_law_r8 ++ (wsL_law_r9 ++ (wsL_law_r10 ++ (wsL_law_r11 ++ (wsL_law_r12 ++ (wsL_law_r13 ++ (wsL_law_r14 ++ (wsL_law_r15 ++ (wsL_law_r16 ++ (wsL_law_r17 ++ (wsL_law_r18 ++ (wsL_law_r19 ++ (wsL_law_r20 ++ (wsL_law_r21 ++ (wsL_law_r22 ++ (wsL_law_r23 ++ (wsL_law_r24 ++ (wsL_law_r25 ++ (wsL_law_r26 ++ (wsL_law_r27 ++ (wsL_law_r28 ++ (wsL_law_r29 ++ (wsL_law_r30 ++ (wsL_law_r31 ++ (wsL_law_r32 ++ (wsL_law_r33 ++ (wsL_law_r34 ++ (wsL_law_r35 ++ (wsL_law_r36 ++ (wsL_law_r37 ++ (wsL_law_r38 ++ (wsL_law_r39 ++ (wsL_law_r40 ++ (wsL_law_r41 ++ (wsL_law_r42 ++ (wsL_law_r43 ++ (wsL_law_r44 ++ (wsL_law_r45 ++ (wsL_law_r46 ++ (wsL_law_r47 ++ (wsL_law_r48 ++ (wsL_law_r49 ++ (wsL_law_r50 ++ (wsL_law_r51 ++ (wsL_law_r52 ++ (wsL_law_r53 ++ (wsL_law_r54 ++ (wsL_law_r55 ++ (wsL_law_r56 ++ (wsL_law_r57 ++ (wsL_law_r58 ++ (wsL_law_r59 ++ (wsL_law_r60 ++ (wsL_law_r61 ++ (wsL_law_r62 ++ (wsL_law_r63 ++ (wsL_law_r64 ++ wsL_law_r65)))))))))))))))))))))))))))))))))))))))))))))))))))))))))))))))) ++ wsX110 ++ wsX120 ++ wsX100 ++ wsX60 ++ wsX30 ++ wsX50 ++ wsX20 ++ wsX70 ++ wsX40 ++ wsX90 ++ wsX10 ++ wsX80 ++ wsX00 ++ ([] : List Cond)
set_option maxRecDepth 20000 in
theorem wsL_law_in : ∀ w ∈ wsL_law, w ∈ lw_tbl := fun w h => (goodIn_p wsL_law [147, 150, 155, 159, 175, 213, 219, 242, 248, 292, 349, 396, 422, 454, 1234, 542, 546, 550, 554, 1518, 558, 562, 1522, 566, 570, 574, 578, 581, 585, 589, 593, 598, 602, 608, 612, 615, 618, 623, 626, 629, 632, 636, 646, 650, 654, 658, 662, 666, 670, 674, 680, 684, 688, 701, 715, 705, 709, 696, 718, 722, 692, 727, 731, 735, 739, 744, 752, 759, 763, 1526, 1530, 1534, 1538, 1542, 1546, 1549, 1553, 1557, 1560, 1563, 1567, 1571, 1575, 1579, 1583, 1587, 1591, 1595, 1599, 1603, 1607, 1611, 1615, 1619, 1623, 1627, 1631, 1635, 1638, 1642, 1646, 1650, 769, 1654, 773, 776, 783, 786, 1658, 1662, 1666, 1670, 1673, 790, 794, 798, 1677, 1681, 802, 805, 809, 812, 816, 820, 824, 828, 839, 842, 831, 836, 846, 850, 853, 857, 861, 1686, 1690, 1695, 1699, 1703, 1707, 1711, 1715, 1720, 1723, 1728, 1731, 865, 1736, 1740, 869, 874, 1744, 879, 883, 887, 891, 897, 901, 905, 1749, 1753, 1757, 1761, 1765, 1769, 1773, 909, 913, 917, 1777, 1781, 921, 925, 928, 932, 1785, 936, 940, 944, 948, 952, 956, 959, 1789, 1793, 964, 1797, 968, 1801, 972, 976, 980, 1805, 1809, 1813, 1817, 1821, 1825, 1829, 984, 1833, 988, 992, 1837, 996, 1000, 1005, 1841, 1845, 1849, 1853, 1010, 1014, 1857, 1018, 1861, 1865, 1869, 1022, 1873, 1026, 1030, 1034, 1038, 1042, 1877, 1881, 1885, 1889, 1046, 1893, 1050, 1054, 1058, 1897, 1901, 1062, 1066, 1905, 1909, 1070, 1074, 1913, 1079, 1917, 1083, 1087, 1091, 1926, 1930, 1934, 1096, 1938, 1100, 1104, 1108, 1942, 1112, 1116, 1121, 1950, 1954, 1959, 1131, 1135, 1922, 1139, 1946, 1143, 1147, 1154, 1170, 1158, 1162, 1174, 1180, 1184, 1189, 1196, 1201, 1967, 1971, 1975, 1979, 1983, 1987, 1991, 1995, 1999, 2003, 1207, 1212, 2007, 2011, 2014, 1217, 2018, 1221, 1225, 2022, 2026, 1229, 2030] (by decide +kernel) (by decide +kernel) w h).1
theorem inlX0 : ∀ w ∈ wsX00, w ∈ wsL_law := fun _ h => List.mem_append_left _ (List.mem_append_right _ h)
theorem inX0 : ∀ w ∈ wsX00, w ∈ lw_tbl := fun w h => wsL_law_in w (inlX0 w h)
theorem inlX1 : ∀ w ∈ wsX10, w ∈ wsL_law := fun _ h => List.mem_append_left _ (List.mem_append_left _ (List.mem_append_left _ (List.mem_append_right _ h)))
theorem inX1 : ∀ w ∈ wsX10, w ∈ lw_tbl := fun w h => wsL_law_in w (inlX1 w h)
theorem inlX2 : ∀ w ∈ wsX20, w ∈ wsL_law := fun _ h => List.mem_append_left _ (List.mem_append_left _ (List.mem_append_left _ (List.mem_append_left _ (List.mem_append_left _ (List.mem_append_left _ (List.mem_append_left _ (List.mem_append_right _ h)))))))
theorem inX2 : ∀ w ∈ wsX20, w ∈ lw_tbl := fun w h => wsL_law_in w (inlX2 w h)
theorem inlX3 : ∀ w ∈ wsX30, w ∈ wsL_law := fun _ h => List.mem_append_left _ (List.mem_append_left _ (List.mem_append_left _ (List.mem_append_left _ (List.mem_append_left _ (List.mem_append_left _ (List.mem_append_left _ (List.mem_append_left _ (List.mem_append_left _ (List.mem_append_right _ h)))))))))
theorem inX3 : ∀ w ∈ wsX30, w ∈ lw_tbl := fun w h => wsL_law_in w (inlX3 w h)
theorem inlX4 : ∀ w ∈ wsX40, w ∈ wsL_law := fun _ h => List.mem_append_left _ (List.mem_append_left _ (List.mem_append_left _ (List.mem_append_left _ (List.mem_append_left _ (List.mem_append_right _ h)))))
theorem inX4 : ∀ w ∈ wsX40, w ∈ lw_tbl := fun w h => wsL_law_in w (inlX4 w h)
theorem inlX5 : ∀ w ∈ wsX50, w ∈ wsL_law := fun _ h => List.mem_append_left _ (List.mem_append_left _ (List.mem_append_left _ (List.mem_append_left _ (List.mem_append_left _ (List.mem_append_left _ (List.mem_append_left _ (List.mem_append_left _ (List.mem_append_right _ h))))))))
theorem inX5 : ∀ w ∈ wsX50, w ∈ lw_tbl := fun w h => wsL_law_in w (inlX5 w h)
theorem inlX6 : ∀ w ∈ wsX60, w ∈ wsL_law := fun _ h => List.mem_append_left _ (List.mem_append_left _ (List.mem_append_left _ (List.mem_append_left _ (List.mem_append_left _ (List.mem_append_left _ (List.mem_append_left _ (List.mem_append_left _ (List.mem_append_left _ (List.mem_append_left _ (List.mem_append_right _ h))))))))))
theorem inX6 : ∀ w ∈ wsX60, w ∈ lw_tbl := fun w h => wsL_law_in w (inlX6 w h)
theorem inlX7 : ∀ w ∈ wsX70, w ∈ wsL_law := fun _ h => List.mem_append_left _ (List.mem_append_left _ (List.mem_append_left _ (List.mem_append_left _ (List.mem_append_left _ (List.mem_append_left _ (List.mem_append_right _ h))))))
theorem inX7 : ∀ w ∈ wsX70, w ∈ lw_tbl := fun w h => wsL_law_in w (inlX7 w h)
theorem inlX8 : ∀ w ∈ wsX80, w ∈ wsL_law := fun _ h => List.mem_append_left _ (List.mem_append_left _ (List.mem_append_right _ h))
theorem inX8 : ∀ w ∈ wsX80, w ∈ lw_tbl := fun w h => wsL_law_in w (inlX8 w h)
theorem inlX9 : ∀ w ∈ wsX90, w ∈ wsL_law := fun _ h => List.mem_append_left _ (List.mem_append_left _ (List.mem_append_left _ (List.mem_append_left _ (List.mem_append_right _ h))))
theorem inX9 : ∀ w ∈ wsX90, w ∈ lw_tbl := fun w h => wsL_law_in w (inlX9 w h)
theorem inlX10 : ∀ w ∈ wsX100, w ∈ wsL_law := fun _ h => List.mem_append_left _ (List.mem_append_left _ (List.mem_append_left _ (List.mem_append_left _ (List.mem_append_left _ (List.mem_append_left _ (List.mem_append_left _ (List.mem_append_left _ (List.mem_append_left _ (List.mem_append_left _ (List.mem_append_left _ (List.mem_append_right _ h)))))))))))
theorem inX10 : ∀ w ∈ wsX100, w ∈ lw_tbl := fun w h => wsL_law_in w (inlX10 w h)
theorem inlX11 : ∀ w ∈ wsX110, w ∈ wsL_law := fun _ h => List.mem_append_left _ (List.mem_append_left _ (List.mem_append_left _ (List.mem_append_left _ (List.mem_append_left _ (List.mem_append_left _ (List.mem_append_left _ (List.mem_append_left _ (List.mem_append_left _ (List.mem_append_left _ (List.mem_append_left _ (List.mem_append_left _ (List.mem_append_left _ (List.mem_append_right _ h)))))))))))))
theorem inX11 : ∀ w ∈ wsX110, w ∈ lw_tbl := fun w h => wsL_law_in w (inlX11 w h)
theorem inlX12 : ∀ w ∈ wsX120, w ∈ wsL_law := fun _ h => List.mem_append_left _ (List.mem_append_left _ (List.mem_append_left _ (List.mem_append_left _ (List.mem_append_left _ (List.mem_append_left _ (List.mem_append_left _ (List.mem_append_left _ (List.mem_append_left _ (List.mem_append_left _ (List.mem_append_left _ (List.mem_append_left _ (List.mem_append_right _ h))))))))))))
theorem inX12 : ∀ w ∈ wsX120, w ∈ lw_tbl := fun w h => wsL_law_in w (inlX12 w h)
abbrev vwCl : List vw_C := [(RX0, TX0, 6), (RX1, TX1, 9), (RX2, TX2, 10), (RX3, TX3, 3), (RX4, TX4, 5), (RX5, TX5, 4), (RX6, TX6, 8), (RX7, TX7, 7), (RX8, TX8, 2), (RX9, TX9, 6), (RX10, TX10, 2), (RX11, TX11, 18), (RX12, TX12, 92)]
theorem ck_1 : ∀ w ∈ wsL_law_r1, w ∈ wsL_law := fun _ h => List.mem_append_left _ (List.mem_append_left _ (List.mem_append_left _ (List.mem_append_left _ (List.mem_append_left _ (List.mem_append_left _ (List.mem_append_left _ (List.mem_append_left _ (List.mem_append_left _ (List.mem_append_left _ (List.mem_append_left _ (List.mem_append_left _ (List.mem_append_left _ (List.mem_append_left _ (List.mem_append_left _ h))))))))))))))
theorem ck_2 : ∀ w ∈ wsL_law_r2, w ∈ wsL_law := fun _ h => List.mem_append_left _ (List.mem_append_left _ (List.mem_append_left _ (List.mem_append_left _ (List.mem_append_left _ (List.mem_append_left _ (List.mem_append_left _ (List.mem_append_left _ (List.mem_append_left _ (List.mem_append_left _ (List.mem_append_left _ (List.mem_append_left _ (List.mem_append_left _ (List.mem_append_left _ (List.mem_append_right _ (List.mem_append_left _ h)))))))))))))))
theorem ck_3 : ∀ w ∈ wsL_law_r3, w ∈ wsL_law := fun _ h => List.mem_append_left _ (List.mem_append_left _ (List.mem_append_left _ (List.mem_append_left _ (List.mem_append_left _ (List.mem_append_left _ (List.mem_append_left _ (List.mem_append_left _ (List.mem_append_left _ (List.mem_append_left _ (List.mem_append_left _ (List.mem_append_left _ (List.mem_append_left _ (List.mem_append_left _ (List.mem_append_right _ (List.mem_append_right _ (List.mem_append_left _ h))))))))))))))))
theorem ck_4 : ∀ w ∈ wsL_law_r4, w ∈ wsL_law := fun _ h => List.mem_append_left _ (List.mem_append_left _ (List.mem_append_left _ (List.mem_append_left _ (List.mem_append_left _ (List.mem_append_left _ (List.mem_append_left _ (List.mem_append_left _ (List.mem_append_left _ (List.mem_append_left _ (List.mem_append_left _ (List.mem_append_left _ (List.mem_append_left _ (List.mem_append_left _ (List.mem_append_right _ (List.mem_append_right _ (List.mem_append_right _ (List.mem_append_left _ h)))))))))))))))))
theorem ck_5 : ∀ w ∈ wsL_law_r5, w ∈ wsL_law := fun _ h => List.mem_append_left _ (List.mem_append_left _ (List.mem_append_left _ (List.mem_append_left _ (List.mem_append_left _ (List.mem_append_left _ (List.mem_append_left _ (List.mem_append_left _ (List.mem_append_left _ (List.mem_append_left _ (List.mem_append_left _ (List.mem_append_left _ (List.mem_append_left _ (List.mem_append_left _ (List.mem_append_right _ (List.mem_append_right _ (List.mem_append_right _ (List.mem_append_right _ (List.mem_append_left _ h))))))))))))))))))
theorem ck_6 : ∀ w ∈ wsL_law_r6, w ∈ wsL_law := fun _ h => List.mem_append_left _ (List.mem_append_left _ (List.mem_append_left _ (List.mem_append_left _ (List.mem_append_left _ (List.mem_append_left _ (List.mem_append_left _ (List.mem_append_left _ (List.mem_append_left _ (List.mem_append_left _ (List.mem_append_left _ (List.mem_append_left _ (List.mem_append_left _ (List.mem_append_left _ (List.mem_append_right _ (List.mem_append_right _ (List.mem_append_right _ (List.mem_append_right _ (List.mem_append_right _ (List.mem_append_left _ h)))))))))))))))))))
theorem ck_7 : ∀ w ∈ wsL_law_r7, w ∈ wsL_law := fun _ h => List.mem_append_left _ (List.mem_append_left _ (List.mem_append_left _ (List.mem_append_left _ (List.mem_append_left _ (List.mem_append_left _ (List.mem_append_left _ (List.mem_append_left _ (List.mem_append_left _ (List.mem_append_left _ (List.mem_append_left _ (List.mem_append_left _ (List.mem_append_left _ (List.mem_append_left _ (List.mem_append_right _ (List.mem_append_right _ (List.mem_append_right _ (List.mem_append_right _ (List.mem_append_right _ (List.mem_append_right _ (List.mem_append_left _ h))))))))))))))))))))
theorem ck_8 : ∀ w ∈ wsL_law_r8, w ∈ wsL_law := fun _ h => List.mem_append_left _ (List.mem_append_left _ (List.mem_append_left _ (List.mem_append_left _ (List.mem_append_left _ (List.mem_append_left _ (List.mem_append_left _ (List.mem_append_left _ (List.mem_append_left _ (List.mem_append_left _ (List.mem_append_left _ (List.mem_append_left _ (List.mem_append_left _ (List.mem_append_left _ (List.mem_append_right _ (List.mem_append_right _ (List.mem_append_right _ (List.mem_append_right _ (List.mem_append_right _ (List.mem_append_right _ (List.mem_append_right _ (List.mem_append_left _ h)))))))))))))))))))))
theorem ck_9 : ∀ w ∈ wsL_law_r9, w ∈ wsL_law := fun _ h => List.mem_append_left _ (List.mem_append_left _ (List.mem_append_left _ (List.mem_append_left _ (List.mem_append_left _ (List.mem_append_left _ (List.mem_append_left _ (List.mem_append_left _ (List.mem_append_left _ (List.mem_append_left _ (List.mem_append_left _ (List.mem_append_left _ (List.mem_append_left _ (List.mem_append_left _ (List.mem_append_right _ (List.mem_append_right _ (List.mem_append_right _ (List.mem_append_right _ (List.mem_append_right _ (List.mem_append_right _ (List.mem_append_right _ (List.mem_append_right _ (List.mem_append_left _ h))))))))))))))))))))))
theorem ck_10 : ∀ w ∈ wsL_law_r10, w ∈ wsL_law := fun _ h => List.mem_append_left _ (List.mem_append_left _ (List.mem_append_left _ (List.mem_append_left _ (List.mem_append_left _ (List.mem_append_left _ (List.mem_append_left _ (List.mem_append_left _ (List.mem_append_left _ (List.mem_append_left _ (List.mem_append_left _ (List.mem_append_left _ (List.mem_append_left _ (List.mem_append_left _ (List.mem_append_right _ (List.mem_append_right _ (List.mem_append_right _ (List.mem_append_right _ (List.mem_append_right _ (List.mem_append_right _ (List.mem_append_right _ (List.mem_append_right _ (List.mem_append_right _ (List.mem_append_left _ h)))))))))))))))))))))))
theorem ck_11 : ∀ w ∈ wsL_law_r11, w ∈ wsL_law := fun _ h => List.mem_append_left _ (List.mem_append_left _ (List.mem_append_left _ (List.mem_append_left _ (List.mem_append_left _ (List.mem_append_left _ (List.mem_append_left _ (List.mem_append_left _ (List.mem_append_left _ (List.mem_append_left _ (List.mem_append_left _ (List.mem_append_left _ (List.mem_append_left _ (List.mem_append_left _ (List.mem_append_right _ (List.mem_append_right _ (List.mem_append_right _ (List.mem_append_right _ (List.mem_append_right _ (List.mem_append_right _ (List.mem_append_right _ (List.mem_append_right _ (List.mem_append_right _ (List.mem_append_right _ (List.mem_append_left _ h))))))))))))))))))))))))
theorem ck_12 : ∀ w ∈ wsL_law_r12, w ∈ wsL_law := fun _ h => List.mem_append_left _ (List.mem_append_left _ (List.mem_append_left _ (List.mem_append_left _ (List.mem_append_left _ (List.mem_append_left _ (List.mem_append_left _ (List.mem_append_left _ (List.mem_append_left _ (List.mem_append_left _ (List.mem_append_left _ (List.mem_append_left _ (List.mem_append_left _ (List.mem_append_left _ (List.mem_append_right _ (List.mem_append_right _ (List.mem_append_right _ (List.mem_append_right _ (List.mem_append_right _ (List.mem_append_right _ (List.mem_append_right _ (List.mem_append_right _ (List.mem_append_right _ (List.mem_append_right _ (List.mem_append_right _ (List.mem_append_left _ h)))))))))))))))))))))))))
theorem ck_13 : ∀ w ∈ wsL_law_r13, w ∈ wsL_law := fun _ h => List.mem_append_left _ (List.mem_append_left _ (List.mem_append_left _ (List.mem_append_left _ (List.mem_append_left _ (List.mem_append_left _ (List.mem_append_left _ (List.mem_append_left _ (List.mem_append_left _ (List.mem_append_left _ (List.mem_append_left _ (List.mem_append_left _ (List.mem_append_left _ (List.mem_append_left _ (List.mem_append_right _ (List.mem_append_right _ (List.mem_append_right _ (List.mem_append_right _ (List.mem_append_right _ (List.mem_append_right _ (List.mem_append_right _ (List.mem_append_right _ (List.mem_append_right _ (List.mem_append_right _ (List.mem_append_right _ (List.mem_append_right _ (List.mem_append_left _ h))))))))))))))))))))))))))
theorem ck_14 : ∀ w ∈ wsL_law_r14, w ∈ wsL_law := fun _ h => List.mem_append_left _ (List.mem_append_left _ (List.mem_append_left _ (List.mem_append_left _ (List.mem_append_left _ (List.mem_append_left _ (List.mem_append_left _ (List.mem_append_left _ (List.mem_append_left _ (List.mem_append_left _ (List.mem_append_left _ (List.mem_append_left _ (List.mem_append_left _ (List.mem_append_left _ (List.mem_append_right _ (List.mem_append_right _ (List.mem_append_right _ (List.mem_append_right _ (List.mem_append_right _ (List.mem_append_right _ (List.mem_append_right _ (List.mem_append_right _ (List.mem_append_right _ (List.mem_append_right _ (List.mem_append_right _ (List.mem_append_right _ (List.mem_append_right _ (List.mem_append_left _ h)))))))))))))))))))))))))))
theorem ck_15 : ∀ w ∈ wsL_law_r15, w ∈ wsL_law := fun _ h => List.mem_append_left _ (List.mem_append_left _ (List.mem_append_left _ (List.mem_append_left _ (List.mem_append_left _ (List.mem_append_left _ (List.mem_append_left _ (List.mem_append_left _ (List.mem_append_left _ (List.mem_append_left _ (List.mem_append_left _ (List.mem_append_left _ (List.mem_append_left _ (List.mem_append_left _ (List.mem_append_right _ (List.mem_append_right _ (List.mem_append_right _ (List.mem_append_right _ (List.mem_append_right _ (List.mem_append_right _ (List.mem_append_right _ (List.mem_append_right _ (List.mem_append_right _ (List.mem_append_right _ (List.mem_append_right _ (List.mem_append_right _ (List.mem_append_right _ (List.mem_append_right _ (List.mem_append_left _ h))))))))))))))))))))))))))))
theorem ck_16 : ∀ w ∈ wsL_law_r16, w ∈ wsL_law := fun _ h => List.mem_append_left _ (List.mem_append_left _ (List.mem_append_left _ (List.mem_append_left _ (List.mem_append_left _ (List.mem_append_left _ (List.mem_append_left _ (List.mem_append_left _ (List.mem_append_left _ (List.mem_append_left _ (List.mem_append_left _ (List.mem_append_left _ (List.mem_append_left _ (List.mem_append_left _ (List.mem_append_right _ (List.mem_append_right _ (List.mem_append_right _ (List.mem_append_right _ (List.mem_append_right _ (List.mem_append_right _ (List.mem_append_right _ (List.mem_append_right _ (List.mem_append_right _ (List.mem_append_right _ (List.mem_append_right _ (List.mem_append_right _ (List.mem_append_right _ (List.mem_append_right _ (List.mem_append_right _ (List.mem_append_left _ h)))))))))))))))))))))))))))))
theorem ck_17 : ∀ w ∈ wsL_law_r17, w ∈ wsL_law := fun _ h => List.mem_append_left _ (List.mem_append_left _ (List.mem_append_left _ (List.mem_append_left _ (List.mem_append_left _ (List.mem_append_left _ (List.mem_append_left _ (List.mem_append_left _ (List.mem_append_left _ (List.mem_append_left _ (List.mem_append_left _ (List.mem_append_left _ (List.mem_append_left _ (List.mem_append_left _ (List.mem_append_right _ (List.mem_append_right _ (List.mem_append_right _ (List.mem_append_right _ (List.mem_append_right _ (List.mem_append_right _ (List.mem_append_right _ (List.mem_append_right _ (List.mem_append_right _ (List.mem_append_right _ (List.mem_append_right _ (List.mem_append_right _ (List.mem_append_right _ (List.mem_append_right _ (List.mem_append_right _ (List.mem_append_right _ (List.mem_append_left _ h))))))))))))))))))))))))))))))
theorem ck_18 : ∀ w ∈ wsL_law_r18, w ∈ wsL_law := fun _ h => List.mem_append_left _ (List.mem_append_left _ (List.mem_append_left _ (List.mem_append_left _ (List.mem_append_left _ (List.mem_append_left _ (List.mem_append_left _ (List.mem_append_left _ (List.mem_append_left _ (List.mem_append_left _ (List.mem_append_left _ (List.mem_append_left _ (List.mem_append_left _ (List.mem_append_left _ (List.mem_append_right _ (List.mem_append_right _ (List.mem_append_right _ (List.mem_append_right _ (List.mem_append_right _ (List.mem_append_right _ (List.mem_append_right _ (List.mem_append_right _ (List.mem_append_right _ (List.mem_append_right _ (List.mem_append_right _ (List.mem_append_right _ (List.mem_append_right _ (List.mem_append_right _ (List.mem_append_right _ (List.mem_append_right _ (List.mem_append_right _ (List.mem_append_left _ h)))))))))))))))))))))))))))))))
theorem ck_19 : ∀ w ∈ wsL_law_r19, w ∈ wsL_law := fun _ h => List.mem_append_left _ (List.mem_append_left _ (List.mem_append_left _ (List.mem_append_left _ (List.mem_append_left _ (List.mem_append_left _ (List.mem_append_left _ (List.mem_append_left _ (List.mem_append_left _ (List.mem_append_left _ (List.mem_append_left _ (List.mem_append_left _ (List.mem_append_left _ (List.mem_append_left _ (List.mem_append_right _ (List.mem_append_right _ (List.mem_append_right _ (List.mem_append_right _ (List.mem_append_right _ (List.mem_append_right _ (List.mem_append_right _ (List.mem_append_right _ (List.mem_append_right _ (List.mem_append_right _ (List.mem_append_right _ (List.mem_append_right _ (List.mem_append_right _ (List.mem_append_right _ (List.mem_append_right _ (List.mem_append_right _ (List.mem_append_right _ (List.mem_append_right _ (List.mem_append_left _ h))))))))))))))))))))))))))))))))
theorem ck_20 : ∀ w ∈ wsL_law_r20, w ∈ wsL_law := fun _ h => List.mem_append_left _ (List.mem_append_left _ (List.mem_append_left _ (List.mem_append_left _ (List.mem_append_left _ (List.mem_append_left _ (List.mem_append_left _ (List.mem_append_left _ (List.mem_append_left _ (List.mem_append_left _ (List.mem_append_left _ (List.mem_append_left _ (List.mem_append_left _ (List.mem_append_left _ (List.mem_append_right _ (List.mem_append_right _ (List.mem_append_right _ (List.mem_append_right _ (List.mem_append_right _ (List.mem_append_right _ (List.mem_append_right _ (List.mem_append_right _ (List.mem_append_right _ (List.mem_append_right _ (List.mem_append_right _ (List.mem_append_right _ (List.mem_append_right _ (List.mem_append_right _ (List.mem_append_right _ (List.mem_append_right _ (List.mem_append_right _ (List.mem_append_right _ (List.mem_append_right _ (List.mem_append_left _ h)))))))))))))))))))))))))))))))))
theorem ck_21 : ∀ w ∈ wsL_law_r21, w ∈ wsL_law := fun _ h => List.mem_append_left _ (List.mem_append_left _ (List.mem_append_left _ (List.mem_append_left _ (List.mem_append_left _ (List.mem_append_left _ (List.mem_append_left _ (List.mem_append_left _ (List.mem_append_left _ (List.mem_append_left _ (List.mem_append_left _ (List.mem_append_left _ (List.mem_append_left _ (List.mem_append_left _ (List.mem_append_right _ (List.mem_append_right _ (List.mem_append_right _ (List.mem_append_right _ (List.mem_append_right _ (List.mem_append_right _ (List.mem_append_right _ (List.mem_append_right _ (List.mem_append_right _ (List.mem_append_right _ (List.mem_append_right _ (List.mem_append_right _ (List.mem_append_right _ (List.mem_append_right _ (List.mem_append_right _ (List.mem_append_right _ (List.mem_append_right _ (List.mem_append_right _ (List.mem_append_right _ (List.mem_append_right _ (List.mem_append_left _ h))))))))))))))))))))))))))))))))))
theorem ck_22 : ∀ w ∈ wsL_law_r22, w ∈ wsL_law := fun _ h => List.mem_append_left _ (List.mem_append_left _ (List.mem_append_left _ (List.mem_append_left _ (List.mem_append_left _ (List.mem_append_left _ (List.mem_append_left _ (List.mem_append_left _ (List.mem_append_left _ (List.mem_append_left _ (List.mem_append_left _ (List.mem_append_left _ (List.mem_append_left _ (List.mem_append_left _ (List.mem_append_right _ (List.mem_append_right _ (List.mem_append_right _ (List.mem_append_right _ (List.mem_append_right _ (List.mem_append_right _ (List.mem_append_right _ (List.mem_append_right _ (List.mem_append_right _ (List.mem_append_right _ (List.mem_append_right _ (List.mem_append_right _ (List.mem_append_right _ (List.mem_append_right _ (List.mem_append_right _ (List.mem_append_right _ (List.mem_append_right _ (List.mem_append_right _ (List.mem_append_right _ (List.mem_append_right _ (List.mem_append_right _ (List.mem_append_left _ h)))))))))))))))))))))))))))))))))))
theorem ck_23 : ∀ w ∈ wsL_law_r23, w ∈ wsL_law := fun _ h => List.mem_append_left _ (List.mem_append_left _ (List.mem_append_left _ (List.mem_append_left _ (List.mem_append_left _ (List.mem_append_left _ (List.mem_append_left _ (List.mem_append_left _ (List.mem_append_left _ (List.mem_append_left _ (List.mem_append_left _ (List.mem_append_left _ (List.mem_append_left _ (List.mem_append_left _ (List.mem_append_right _ (List.mem_append_right _ (List.mem_append_right _ (List.mem_append_right _ (List.mem_append_right _ (List.mem_append_right _ (List.mem_append_right _ (List.mem_append_right _ (List.mem_append_right _ (List.mem_append_right _ (List.mem_append_right _ (List.mem_append_right _ (List.mem_append_right _ (List.mem_append_right _ (List.mem_append_right _ (List.mem_append_right _ (List.mem_append_right _ (List.mem_append_right _ (List.mem_append_right _ (List.mem_append_right _ (List.mem_append_right _ (List.mem_append_right _ (List.mem_append_left _ h))))))))))))))))))))))))))))))))))))
theorem ck_24 : ∀ w ∈ wsL_law_r24, w ∈ wsL_law := fun _ h => List.mem_append_left _ (List.mem_append_left _ (List.mem_append_left _ (List.mem_append_left _ (List.mem_append_left _ (List.mem_append_left _ (List.mem_append_left _ (List.mem_append_left _ (List.mem_append_left _ (List.mem_append_left _ (List.mem_append_left _ (List.mem_append_left _ (List.mem_append_left _ (List.mem_append_left _ (List.mem_append_right _ (List.mem_append_right _ (List.mem_append_right _ (List.mem_append_right _ (List.mem_append_right _ (List.mem_append_right _ (List.mem_append_right _ (List.mem_append_right _ (List.mem_append_right _ (List.mem_append_right _ (List.mem_append_right _ (List.mem_append_right _ (List.mem_append_right _ (List.mem_append_right _ (List.mem_append_right _ (List.mem_append_right _ (List.mem_append_right _ (List.mem_append_right _ (List.mem_append_right _ (List.mem_append_right _ (List.mem_append_right _ (List.mem_append_right _ (List.mem_append_right _ (List.mem_append_left _ h)))))))))))))))))))))))))))))))))))))
theorem ck_25 : ∀ w ∈ wsL_law_r25, w ∈ wsL_law := fun _ h => List.mem_append_left _ (List.mem_append_left _ (List.mem_append_left _ (List.mem_append_left _ (List.mem_append_left _ (List.mem_append_left _ (List.mem_append_left _ (List.mem_append_left _ (List.mem_append_left _ (List.mem_append_left _ (List.mem_append_left _ (List.mem_append_left _ (List.mem_append_left _ (List.mem_append_left _ (List.mem_append_right _ (List.mem_append_right _ (List.mem_append_right _ (List.mem_append_right _ (List.mem_append_right _ (List.mem_append_right _ (List.mem_append_right _ (List.mem_append_right _ (List.mem_append_right _ (List.mem_append_right _ (List.mem_append_right _ (List.mem_append_right _ (List.mem_append_right _ (List.mem_append_right _ (List.mem_append_right _ (List.mem_append_right _ (List.mem_append_right _ (List.mem_append_right _ (List.mem_append_right _ (List.mem_append_right _ (List.mem_append_right _ (List.mem_append_right _ (List.mem_append_right _ (List.mem_append_right _ (List.mem_append_left _ h))))))))))))))))))))))))))))))))))))))
theorem ck_26 : ∀ w ∈ wsL_law_r26, w ∈ wsL_law := fun _ h => List.mem_append_left _ (List.mem_append_left _ (List.mem_append_left _ (List.mem_append_left _ (List.mem_append_left _ (List.mem_append_left _ (List.mem_append_left _ (List.mem_append_left _ (List.mem_append_left _ (List.mem_append_left _ (List.mem_append_left _ (List.mem_append_left _ (List.mem_append_left _ (List.mem_append_left _ (List.mem_append_right _ (List.mem_append_right _ (List.mem_append_right _ (List.mem_append_right _ (List.mem_append_right _ (List.mem_append_right _ (List.mem_append_right _ (List.mem_append_right _ (List.mem_append_right _ (List.mem_append_right _ (List.mem_append_right _ (List.mem_append_right _ (List.mem_append_right _ (List.mem_append_right _ (List.mem_append_right _ (List.mem_append_right _ (List.mem_append_right _ (List.mem_append_right _ (List.mem_append_right _ (List.mem_append_right _ (List.mem_append_right _ (List.mem_append_right _ (List.mem_append_right _ (List.mem_append_right _ (List.mem_append_right _ (List.mem_append_left _ h)))))))))))))))))))))))))))))))))))))))
theorem ck_27 : ∀ w ∈ wsL_law_r27, w ∈ wsL_law := fun _ h => List.mem_append_left _ (List.mem_append_left _ (List.mem_append_left _ (List.mem_append_left _ (List.mem_append_left _ (List.mem_append_left _ (List.mem_append_left _ (List.mem_append_left _ (List.mem_append_left _ (List.mem_append_left _ (List.mem_append_left _ (List.mem_append_left _ (List.mem_append_left _ (List.mem_append_left _ (List.mem_append_right _ (List.mem_append_right _ (List.mem_append_right _ (List.mem_append_right _ (List.mem_append_right _ (List.mem_append_right _ (List.mem_append_right _ (List.mem_append_right _ (List.mem_append_right _ (List.mem_append_right _ (List.mem_append_right _ (List.mem_append_right _ (List.mem_append_right _ (List.mem_append_right _ (List.mem_append_right _ (List.mem_append_right _ (List.mem_append_right _ (List.mem_append_right _ (List.mem_append_right _ (List.mem_append_right _ (List.mem_append_right _ (List.mem_append_right _ (List.mem_append_right _ (List.mem_append_right _ (List.mem_append_right _ (List.mem_append_right _ (List.mem_append_left _ h))))))))))))))))))))))))))))))))))))))))
theorem ck_28 : ∀ w ∈ wsL_law_r28, w ∈ wsL_law := fun _ h => List.mem_append_left _ (List.mem_append_left _ (List.mem_append_left _ (List.mem_append_left _ (List.mem_append_left _ (List.mem_append_left _ (List.mem_append_left _ (List.mem_append_left _ (List.mem_append_left _ (List.mem_append_left _ (List.mem_append_left _ (List.mem_append_left _ (List.mem_append_left _ (List.mem_append_left _ (List.mem_append_right _ (List.mem_append_right _ (List.mem_append_right _ (List.mem_append_right _ (List.mem_append_right _ (List.mem_append_right _ (List.mem_append_right _ (List.mem_append_right _ (List.mem_append_right _ (List.mem_append_right _ (List.mem_append_right _ (List.mem_append_right _ (List.mem_append_right _ (List.mem_append_right _ (List.mem_append_right _ (List.mem_append_right _ (List.mem_append_right _ (List.mem_append_right _ (List.mem_append_right _ (List.mem_append_right _ (List.mem_append_right _ (List.mem_append_right _ (List.mem_append_right _ (List.mem_append_right _ (List.mem_append_right _ (List.mem_append_right _ (List.mem_append_right _ (List.mem_append_left _ h)))))))))))))))))))))))))))))))))))))))))
theorem ck_29 : ∀ w ∈ wsL_law_r29, w ∈ wsL_law := fun _ h => List.mem_append_left _ (List.mem_append_left _ (List.mem_append_left _ (List.mem_append_left _ (List.mem_append_left _ (List.mem_append_left _ (List.mem_append_left _ (List.mem_append_left _ (List.mem_append_left _ (List.mem_append_left _ (List.mem_append_left _ (List.mem_append_left _ (List.mem_append_left _ (List.mem_append_left _ (List.mem_append_right _ (List.mem_append_right _ (List.mem_append_right _ (List.mem_append_right _ (List.mem_append_right _ (List.mem_append_right _ (List.mem_append_right _ (List.mem_append_right _ (List.mem_append_right _ (List.mem_append_right _ (List.mem_append_right _ (List.mem_append_right _ (List.mem_append_right _ (List.mem_append_right _ (List.mem_append_right _ (List.mem_append_right _ (List.mem_append_right _ (List.mem_append_right _ (List.mem_append_right _ (List.mem_append_right _ (List.mem_append_right _ (List.mem_append_right _ (List.mem_append_right _ (List.mem_append_right _ (List.mem_append_right _ (List.mem_append_right _ (List.mem_append_right _ (List.mem_append_right _ (List.mem_append_left _ h))))))))))))))))))))))))))))))))))))))))))
theorem ck_30 : ∀ w ∈ wsL_law_r30, w ∈ wsL_law := fun _ h => List.mem_append_left _ (List.mem_append_left _ (List.mem_append_left _ (List.mem_append_left _ (List.mem_append_left _ (List.mem_append_left _ (List.mem_append_left _ (List.mem_append_left _ (List.mem_append_left _ (List.mem_append_left _ (List.mem_append_left _ (List.mem_append_left _ (List.mem_append_left _ (List.mem_append_left _ (List.mem_append_right _ (List.mem_append_right _ (List.mem_append_right _ (List.mem_append_right _ (List.mem_append_right _ (List.mem_append_right _ (List.mem_append_right _ (List.mem_append_right _ (List.mem_append_right _ (List.mem_append_right _ (List.mem_append_right _ (List.mem_append_right _ (List.mem_append_right _ (List.mem_append_right _ (List.mem_append_right _ (List.mem_append_right _ (List.mem_append_right _ (List.mem_append_right _ (List.mem_append_right _ (List.mem_append_right _ (List.mem_append_right _ (List.mem_append_right _ (List.mem_append_right _ (List.mem_append_right _ (List.mem_append_right _ (List.mem_append_right _ (List.mem_append_right _ (List.mem_append_right _ (List.mem_append_right _ (List.mem_append_left _ h)))))))))))))))))))))))))))))))))))))))))))
theorem ck_31 : ∀ w ∈ wsL_law_r31, w ∈ wsL_law := fun _ h => List.mem_append_left _ (List.mem_append_left _ (List.mem_append_left _ (List.mem_append_left _ (List.mem_append_left _ (List.mem_append_left _ (List.mem_append_left _ (List.mem_append_left _ (List.mem_append_left _ (List.mem_append_left _ (List.mem_append_left _ (List.mem_append_left _ (List.mem_append_left _ (List.mem_append_left _ (List.mem_append_right _ (List.mem_append_right _ (List.mem_append_right _ (List.mem_append_right _ (List.mem_append_right _ (List.mem_append_right _ (List.mem_append_right _ (List.mem_append_right _ (List.mem_append_right _ (List.mem_append_right _ (List.mem_append_right _ (List.mem_append_right _ (List.mem_append_right _ (List.mem_append_right _ (List.mem_append_right _ (List.mem_append_right _ (List.mem_append_right _ (List.mem_append_right _ (List.mem_append_right _ (List.mem_append_right _ (List.mem_append_right _ (List.mem_append_right _ (List.mem_append_right _ (List.mem_append_right _ (List.mem_append_right _ (List.mem_append_right _ (List.mem_append_right _ (List.mem_append_right _ (List.mem_append_right _ (List.mem_append_right _ (List.mem_append_left _ h))))))))))))))))))))))))))))))))))))))))))))
theorem ck_32 : ∀ w ∈ wsL_law_r32, w ∈ wsL_law := fun _ h => List.mem_append_left _ (List.mem_append_left _ (List.mem_append_left _ (List.mem_append_left _ (List.mem_append_left _ (List.mem_append_left _ (List.mem_append_left _ (List.mem_append_left _ (List.mem_append_left _ (List.mem_append_left _ (List.mem_append_left _ (List.mem_append_left _ (List.mem_append_left _ (List.mem_append_left _ (List.mem_append_right _ (List.mem_append_right _ (List.mem_append_right _ (List.mem_append_right _ (List.mem_append_right _ (List.mem_append_right _ (List.mem_append_right _ (List.mem_append_right _ (List.mem_append_right _ (List.mem_append_right _ (List.mem_append_right _ (List.mem_append_right _ (List.mem_append_right _ (List.mem_append_right _ (List.mem_append_right _ (List.mem_append_right _ (List.mem_append_right _ (List.mem_append_right _ (List.mem_append_right _ (List.mem_append_right _ (List.mem_append_right _ (List.mem_append_right _ (List.mem_append_right _ (List.mem_append_right _ (List.mem_append_right _ (List.mem_append_right _ (List.mem_append_right _ (List.mem_append_right _ (List.mem_append_right _ (List.mem_append_right _ (List.mem_append_right _ (List.mem_append_left _ h)))))))))))))))))))))))))))))))))))))))))))))
theorem ck_33 : ∀ w ∈ wsL_law_r33, w ∈ wsL_law := fun _ h => List.mem_append_left _ (List.mem_append_left _ (List.mem_append_left _ (List.mem_append_left _ (List.mem_append_left _ (List.mem_append_left _ (List.mem_append_left _ (List.mem_append_left _ (List.mem_append_left _ (List.mem_append_left _ (List.mem_append_left _ (List.mem_append_left _ (List.mem_append_left _ (List.mem_append_left _ (List.mem_append_right _ (List.mem_append_right _ (List.mem_append_right _ (List.mem_append_right _ (List.mem_append_right _ (List.mem_append_right _ (List.mem_append_right _ (List.mem_append_right _ (List.mem_append_right _ (List.mem_append_right _ (List.mem_append_right _ (List.mem_append_right _ (List.mem_append_right _ (List.mem_append_right _ (List.mem_append_right _ (List.mem_append_right _ (List.mem_append_right _ (List.mem_append_right _ (List.mem_append_right _ (List.mem_append_right _ (List.mem_append_right _ (List.mem_append_right _ (List.mem_append_right _ (List.mem_append_right _ (List.mem_append_right _ (List.mem_append_right _ (List.mem_append_right _ (List.mem_append_right _ (List.mem_append_right _ (List.mem_append_right _ (List.mem_append_right _ (List.mem_append_right _ (List.mem_append_left _ h))))))))))))))))))))))))))))))))))))))))))))))
theorem ck_34 : ∀ w ∈ wsL_law_r34, w ∈ wsL_law := fun _ h => List.mem_append_left _ (List.mem_append_left _ (List.mem_append_left _ (List.mem_append_left _ (List.mem_append_left _ (List.mem_append_left _ (List.mem_append_left _ (List.mem_append_left _ (List.mem_append_left _ (List.mem_append_left _ (List.mem_append_left _ (List.mem_append_left _ (List.mem_append_left _ (List.mem_append_left _ (List.mem_append_right _ (List.mem_append_right _ (List.mem_append_right _ (List.mem_append_right _ (List.mem_append_right _ (List.mem_append_right _ (List.mem_append_right _ (List.mem_append_right _ (List.mem_append_right _ (List.mem_append_right _ (List.mem_append_right _ (List.mem_append_right _ (List.mem_append_right _ (List.mem_append_right _ (List.mem_append_right _ (List.mem_append_right _ (List.mem_append_right _ (List.mem_append_right _ (List.mem_append_right _ (List.mem_append_right _ (List.mem_append_right _ (List.mem_append_right _ (List.mem_append_right _ (List.mem_append_right _ (List.mem_append_right _ (List.mem_append_right _ (List.mem_append_right _ (List.mem_append_right _ (List.mem_append_right _ (List.mem_append_right _ (List.mem_append_right _ (List.mem_append_right _ (List.mem_append_right _ (List.mem_append_left _ h)))))))))))))))))))))))))))))))))))))))))))))))
theorem ck_35 : ∀ w ∈ wsL_law_r35, w ∈ wsL_law := fun _ h => List.mem_append_left _ (List.mem_append_left _ (List.mem_append_left _ (List.mem_append_left _ (List.mem_append_left _ (List.mem_append_left _ (List.mem_append_left _ (List.mem_append_left _ (List.mem_append_left _ (List.mem_append_left _ (List.mem_append_left _ (List.mem_append_left _ (List.mem_append_left _ (List.mem_append_left _ (List.mem_append_right _ (List.mem_append_right _ (List.mem_append_right _ (List.mem_append_right _ (List.mem_append_right _ (List.mem_append_right _ (List.mem_append_right _ (List.mem_append_right _ (List.mem_append_right _ (List.mem_append_right _ (List.mem_append_right _ (List.mem_append_right _ (List.mem_append_right _ (List.mem_append_right _ (List.mem_append_right _ (List.mem_append_right _ (List.mem_append_right _ (List.mem_append_right _ (List.mem_append_right _ (List.mem_append_right _ (List.mem_append_right _ (List.mem_append_right _ (List.mem_append_right _ (List.mem_append_right _ (List.mem_append_right _ (List.mem_append_right _ (List.mem_append_right _ (List.mem_append_right _ (List.mem_append_right _ (List.mem_append_right _ (List.mem_append_right _ (List.mem_append_right _ (List.mem_append_right _ (List.mem_append_right _ (List.mem_append_left _ h))))))))))))))))))))))))))))))))))))))))))))))))
theorem ck_36 : ∀ w ∈ wsL_law_r36, w ∈ wsL_law := fun _ h => List.mem_append_left _ (List.mem_append_left _ (List.mem_append_left _ (List.mem_append_left _ (List.mem_append_left _ (List.mem_append_left _ (List.mem_append_left _ (List.mem_append_left _ (List.mem_append_left _ (List.mem_append_left _ (List.mem_append_left _ (List.mem_append_left _ (List.mem_append_left _ (List.mem_append_left _ (List.mem_append_right _ (List.mem_append_right _ (List.mem_append_right _ (List.mem_append_right _ (List.mem_append_right _ (List.mem_append_right _ (List.mem_append_right _ (List.mem_append_right _ (List.mem_append_right _ (List.mem_append_right _ (List.mem_append_right _ (List.mem_append_right _ (List.mem_append_right _ (List.mem_append_right _ (List.mem_append_right _ (List.mem_append_right _ (List.mem_append_right _ (List.mem_append_right _ (List.mem_append_right _ (List.mem_append_right _ (List.mem_append_right _ (List.mem_append_right _ (List.mem_append_right _ (List.mem_append_right _ (List.mem_append_right _ (List.mem_append_right _ (List.mem_append_right _ (List.mem_append_right _ (List.mem_append_right _ (List.mem_append_right _ (List.mem_append_right _ (List.mem_append_right _ (List.mem_append_right _ (List.mem_append_right _ (List.mem_append_right _ (List.mem_append_left _ h)))))))))))))))))))))))))))))))))))))))))))))))))
theorem ck_37 : ∀ w ∈ wsL_law_r37, w ∈ wsL_law := fun _ h => List.mem_append_left _ (List.mem_append_left _ (List.mem_append_left _ (List.mem_append_left _ (List.mem_append_left _ (List.mem_append_left _ (List.mem_append_left _ (List.mem_append_left _ (List.mem_append_left _ (List.mem_append_left _ (List.mem_append_left _ (List.mem_append_left _ (List.mem_append_left _ (List.mem_append_left _ (List.mem_append_right _ (List.mem_append_right _ (List.mem_append_right _ (List.mem_append_right _ (List.mem_append_right _ (List.mem_append_right _ (List.mem_append_right _ (List.mem_append_right _ (List.mem_append_right _ (List.mem_append_right _ (List.mem_append_right _ (List.mem_append_right _ (List.mem_append_right _ (List.mem_append_right _ (List.mem_append_right _ (List.mem_append_right _ (List.mem_append_right _ (List.mem_append_right _ (List.mem_append_right _ (List.mem_append_right _ (List.mem_append_right _ (List.mem_append_right _ (List.mem_append_right _ (List.mem_append_right _ (List.mem_append_right _ (List.mem_append_right _ (List.mem_append_right _ (List.mem_append_right _ (List.mem_append_right _ (List.mem_append_right _ (List.mem_append_right _ (List.mem_append_right _ (List.mem_append_right _ (List.mem_append_right _ (List.mem_append_right _ (List.mem_append_right _ (List.mem_append_left _ h))))))))))))))))))))))))))))))))))))))))))))))))))
theorem ck_38 : ∀ w ∈ wsL_law_r38, w ∈ wsL_law := fun _ h => List.mem_append_left _ (List.mem_append_left _ (List.mem_append_left _ (List.mem_append_left _ (List.mem_append_left _ (List.mem_append_left _ (List.mem_append_left _ (List.mem_append_left _ (List.mem_append_left _ (List.mem_append_left _ (List.mem_append_left _ (List.mem_append_left _ (List.mem_append_left _ (List.mem_append_left _ (List.mem_append_right _ (List.mem_append_right _ (List.mem_append_right _ (List.mem_append_right _ (List.mem_append_right _ (List.mem_append_right _ (List.mem_append_right _ (List.mem_append_right _ (List.mem_append_right _ (List.mem_append_right _ (List.mem_append_right _ (List.mem_append_right _ (List.mem_append_right _ (List.mem_append_right _ (List.mem_append_right _ (List.mem_append_right _ (List.mem_append_right _ (List.mem_append_right _ (List.mem_append_right _ (List.mem_append_right _ (List.mem_append_right _ (List.mem_append_right _ (List.mem_append_right _ (List.mem_append_right _ (List.mem_append_right _ (List.mem_append_right _ (List.mem_append_right _ (List.mem_append_right _ (List.mem_append_right _ (List.mem_append_right _ (List.mem_append_right _ (List.mem_append_right _ (List.mem_append_right _ (List.mem_append_right _ (List.mem_append_right _ (List.mem_append_right _ (List.mem_append_right _ (List.mem_append_left _ h)))))))))))))))))))))))))))))))))))))))))))))))))))
theorem ck_39 : ∀ w ∈ wsL_law_r39, w ∈ wsL_law := fun _ h => List.mem_append_left _ (List.mem_append_left _ (List.mem_append_left _ (List.mem_append_left _ (List.mem_append_left _ (List.mem_append_left _ (List.mem_append_left _ (List.mem_append_left _ (List.mem_append_left _ (List.mem_append_left _ (List.mem_append_left _ (List.mem_append_left _ (List.mem_append_left _ (List.mem_append_left _ (List.mem_append_right _ (List.mem_append_right _ (List.mem_append_right _ (List.mem_append_right _ (List.mem_append_right _ (List.mem_append_right _ (List.mem_append_right _ (List.mem_append_right _ (List.mem_append_right _ (List.mem_append_right _ (List.mem_append_right _ (List.mem_append_right _ (List.mem_append_right _ (List.mem_append_right _ (List.mem_append_right _ (List.mem_append_right _ (List.mem_append_right _ (List.mem_append_right _ (List.mem_append_right _ (List.mem_append_right _ (List.mem_append_right _ (List.mem_append_right _ (List.mem_append_right _ (List.mem_append_right _ (List.mem_append_right _ (List.mem_append_right _ (List.mem_append_right _ (List.mem_append_right _ (List.mem_append_right _ (List.mem_append_right _ (List.mem_append_right _ (List.mem_append_right _ (List.mem_append_right _ (List.mem_append_right _ (List.mem_append_right _ (List.mem_append_right _ (List.mem_append_right _ (List.mem_append_right _ (List.mem_append_left _ h))))))))))))))))))))))))))))))))))))))))))))))))))))
theorem ck_40 : ∀ w ∈ wsL_law_r40, w ∈ wsL_law := fun _ h => List.mem_append_left _ (List.mem_append_left _ (List.mem_append_left _ (List.mem_append_left _ (List.mem_append_left _ (List.mem_append_left _ (List.mem_append_left _ (List.mem_append_left _ (List.mem_append_left _ (List.mem_append_left _ (List.mem_append_left _ (List.mem_append_left _ (List.mem_append_left _ (List.mem_append_left _ (List.mem_append_right _ (List.mem_append_right _ (List.mem_append_right _ (List.mem_append_right _ (List.mem_append_right _ (List.mem_append_right _ (List.mem_append_right _ (List.mem_append_right _ (List.mem_append_right _ (List.mem_append_right _ (List.mem_append_right _ (List.mem_append_right _ (List.mem_append_right _ (List.mem_append_right _ (List.mem_append_right _ (List.mem_append_right _ (List.mem_append_right _ (List.mem_append_right _ (List.mem_append_right _ (List.mem_append_right _ (List.mem_append_right _ (List.mem_append_right _ (List.mem_append_right _ (List.mem_append_right _ (List.mem_append_right _ (List.mem_append_right _ (List.mem_append_right _ (List.mem_append_right _ (List.mem_append_right _ (List.mem_append_right _ (List.mem_append_right _ (List.mem_append_right _ (List.mem_append_right _ (List.mem_append_right _ (List.mem_append_right _ (List.mem_append_right _ (List.mem_append_right _ (List.mem_append_right _ (List.mem_append_right _ (List.mem_append_left _ h)))))))))))))))))))))))))))))))))))))))))))))))))))))
theorem ck_41 : ∀ w ∈ wsL_law_r41, w ∈ wsL_law := fun _ h => List.mem_append_left _ (List.mem_append_left _ (List.mem_append_left _ (List.mem_append_left _ (List.mem_append_left _ (List.mem_append_left _ (List.mem_append_left _ (List.mem_append_left _ (List.mem_append_left _ (List.mem_append_left _ (List.mem_append_left _ (List.mem_append_left _ (List.mem_append_left _ (List.mem_append_left _ (List.mem_append_right _ (List.mem_append_right _ (List.mem_append_right _ (List.mem_append_right _ (List.mem_append_right _ (List.mem_append_right _ (List.mem_append_right _ (List.mem_append_right _ (List.mem_append_right _ (List.mem_append_right _ (List.mem_append_right _ (List.mem_append_right _ (List.mem_append_right _ (List.mem_append_right _ (List.mem_append_right _ (List.mem_append_right _ (List.mem_append_right _ (List.mem_append_right _ (List.mem_append_right _ (List.mem_append_right _ (List.mem_append_right _ (List.mem_append_right _ (List.mem_append_right _ (List.mem_append_right _ (List.mem_append_right _ (List.mem_append_right _ (List.mem_append_right _ (List.mem_append_right _ (List.mem_append_right _ (List.mem_append_right _ (List.mem_append_right _ (List.mem_append_right _ (List.mem_append_right _ (List.mem_append_right _ (List.mem_append_right _ (List.mem_append_right _ (List.mem_append_right _ (List.mem_append_right _ (List.mem_append_right _ (List.mem_append_right _ (List.mem_append_left _ h))))))))))))))))))))))))))))))))))))))))))))))))))))))
theorem ck_42 : ∀ w ∈ wsL_law_r42, w ∈ wsL_law := fun _ h => List.mem_append_left _ (List.mem_append_left _ (List.mem_append_left _ (List.mem_append_left _ (List.mem_append_left _ (List.mem_append_left _ (List.mem_append_left _ (List.mem_append_left _ (List.mem_append_left _ (List.mem_append_left _ (List.mem_append_left _ (List.mem_append_left _ (List.mem_append_left _ (List.mem_append_left _ (List.mem_append_right _ (List.mem_append_right _ (List.mem_append_right _ (List.mem_append_right _ (List.mem_append_right _ (List.mem_append_right _ (List.mem_append_right _ (List.mem_append_right _ (List.mem_append_right _ (List.mem_append_right _ (List.mem_append_right _ (List.mem_append_right _ (List.mem_append_right _ (List.mem_append_right _ (List.mem_append_right _ (List.mem_append_right _ (List.mem_append_right _ (List.mem_append_right _ (List.mem_append_right _ (List.mem_append_right _ (List.mem_append_right _ (List.mem_append_right _ (List.mem_append_right _ (List.mem_append_right _ (List.mem_append_right _ (List.mem_append_right _ (List.mem_append_right _ (List.mem_append_right _ (List.mem_append_right _ (List.mem_append_right _ (List.mem_append_right _ (List.mem_append_right _ (List.mem_append_right _ (List.mem_append_right _ (List.mem_append_right _ (List.mem_append_right _ (List.mem_append_right _ (List.mem_append_right _ (List.mem_append_right _ (List.mem_append_right _ (List.mem_append_right _ (List.mem_append_left _ h)))))))))))))))))))))))))))))))))))))))))))))))))))))))
theorem ck_43 : ∀ w ∈ wsL_law_r43, w ∈ wsL_law := fun _ h => List.mem_append_left _ (List.mem_append_left _ (List.mem_append_left _ (List.mem_append_left _ (List.mem_append_left _ (List.mem_append_left _ (List.mem_append_left _ (List.mem_append_left _ (List.mem_append_left _ (List.mem_append_left _ (List.mem_append_left _ (List.mem_append_left _ (List.mem_append_left _ (List.mem_append_left _ (List.mem_append_right _ (List.mem_append_right _ (List.mem_append_right _ (List.mem_append_right _ (List.mem_append_right _ (List.mem_append_right _ (List.mem_append_right _ (List.mem_append_right _ (List.mem_append_right _ (List.mem_append_right _ (List.mem_append_right _ (List.mem_append_right _ (List.mem_append_right _ (List.mem_append_right _ (List.mem_append_right _ (List.mem_append_right _ (List.mem_append_right _ (List.mem_append_right _ (List.mem_append_right _ (List.mem_append_right _ (List.mem_append_right _ (List.mem_append_right _ (List.mem_append_right _ (List.mem_append_right _ (List.mem_append_right _ (List.mem_append_right _ (List.mem_append_right _ (List.mem_append_right _ (List.mem_append_right _ (List.mem_append_right _ (List.mem_append_right _ (List.mem_append_right _ (List.mem_append_right _ (List.mem_append_right _ (List.mem_append_right _ (List.mem_append_right _ (List.mem_append_right _ (List.mem_append_right _ (List.mem_append_right _ (List.mem_append_right _ (List.mem_append_right _ (List.mem_append_right _ (List.mem_append_left _ h))))))))))))))))))))))))))))))))))))))))))))))))))))))))
theorem ck_44 : ∀ w ∈ wsL_law_r44, w ∈ wsL_law := fun _ h => List.mem_append_left _ (List.mem_append_left _ (List.mem_append_left _ (List.mem_append_left _ (List.mem_append_left _ (List.mem_append_left _ (List.mem_append_left _ (List.mem_append_left _ (List.mem_append_left _ (List.mem_append_left _ (List.mem_append_left _ (List.mem_append_left _ (List.mem_append_left _ (List.mem_append_left _ (List.mem_append_right _ (List.mem_append_right _ (List.mem_append_right _ (List.mem_append_right _ (List.mem_append_right _ (List.mem_append_right _ (List.mem_append_right _ (List.mem_append_right _ (List.mem_append_right _ (List.mem_append_right _ (List.mem_append_right _ (List.mem_append_right _ (List.mem_append_right _ (List.mem_append_right _ (List.mem_append_right _ (List.mem_append_right _ (List.mem_append_right _ (List.mem_append_right _ (List.mem_append_right _ (List.mem_append_right _ (List.mem_append_right _ (List.mem_append_right _ (List.mem_append_right _ (List.mem_append_right _ (List.mem_append_right _ (List.mem_append_right _ (List.mem_append_right _ (List.mem_append_right _ (List.mem_append_right _ (List.mem_append_right _ (List.mem_append_right _ (List.mem_append_right _ (List.mem_append_right _ (List.mem_append_right _ (List.mem_append_right _ (List.mem_append_right _ (List.mem_append_right _ (List.mem_append_right _ (List.mem_append_right _ (List.mem_append_right _ (List.mem_append_right _ (List.mem_append_right _ (List.mem_append_right _ (List.mem_append_left _ h)))))))))))))))))))))))))))))))))))))))))))))))))))))))))
theorem ck_45 : ∀ w ∈ wsL_law_r45, w ∈ wsL_law := fun _ h => List.mem_append_left _ (List.mem_append_left _ (List.mem_append_left _ (List.mem_append_left _ (List.mem_append_left _ (List.mem_append_left _ (List.mem_append_left _ (List.mem_append_left _ (List.mem_append_left _ (List.mem_append_left _ (List.mem_append_left _ (List.mem_append_left _ (List.mem_append_left _ (List.mem_append_left _ (List.mem_append_right _ (List.mem_append_right _ (List.mem_append_right _ (List.mem_append_right _ (List.mem_append_right _ (List.mem_append_right _ (List.mem_append_right _ (List.mem_append_right _ (List.mem_append_right _ (List.mem_append_right _ (List.mem_append_right _ (List.mem_append_right _ (List.mem_append_right _ (List.mem_append_right _ (List.mem_append_right _ (List.mem_append_right _ (List.mem_append_right _ (List.mem_append_right _ (List.mem_append_right _ (List.mem_append_right _ (List.mem_append_right _ (List.mem_append_right _ (List.mem_append_right _ (List.mem_append_right _ (List.mem_append_right _ (List.mem_append_right _ (List.mem_append_right _ (List.mem_append_right _ (List.mem_append_right _ (List.mem_append_right _ (List.mem_append_right _ (List.mem_append_right _ (List.mem_append_right _ (List.mem_append_right _ (List.mem_append_right _ (List.mem_append_right _ (List.mem_append_right _ (List.mem_append_right _ (List.mem_append_right _ (List.mem_append_right _ (List.mem_append_right _ (List.mem_append_right _ (List.mem_append_right _ (List.mem_append_right _ (List.mem_append_left _ h))))))))))))))))))))))))))))))))))))))))))))))))))))))))))
theorem ck_46 : ∀ w ∈ wsL_law_r46, w ∈ wsL_law := fun _ h => List.mem_append_left _ (List.mem_append_left _ (List.mem_append_left _ (List.mem_append_left _ (List.mem_append_left _ (List.mem_append_left _ (List.mem_append_left _ (List.mem_append_left _ (List.mem_append_left _ (List.mem_append_left _ (List.mem_append_left _ (List.mem_append_left _ (List.mem_append_left _ (List.mem_append_left _ (List.mem_append_right _ (List.mem_append_right _ (List.mem_append_right _ (List.mem_append_right _ (List.mem_append_right _ (List.mem_append_right _ (List.mem_append_right _ (List.mem_append_right _ (List.mem_append_right _ (List.mem_append_right _ (List.mem_append_right _ (List.mem_append_right _ (List.mem_append_right _ (List.mem_append_right _ (List.mem_append_right _ (List.mem_append_right _ (List.mem_append_right _ (List.mem_append_right _ (List.mem_append_right _ (List.mem_append_right _ (List.mem_append_right _ (List.mem_append_right _ (List.mem_append_right _ (List.mem_append_right _ (List.mem_append_right _ (List.mem_append_right _ (List.mem_append_right _ (List.mem_append_right _ (List.mem_append_right _ (List.mem_append_right _ (List.mem_append_right _ (List.mem_append_right _ (List.mem_append_right _ (List.mem_append_right _ (List.mem_append_right _ (List.mem_append_right _ (List.mem_append_right _ (List.mem_append_right _ (List.mem_append_right _ (List.mem_append_right _ (List.mem_append_right _ (List.mem_append_right _ (List.mem_append_right _ (List.mem_append_right _ (List.mem_append_right _ (List.mem_append_left _ h)))))))))))))))))))))))))))))))))))))))))))))))))))))))))))
theorem ck_47 : ∀ w ∈ wsL_law_r47, w ∈ wsL_law := fun _ h => List.mem_append_left _ (List.mem_append_left _ (List.mem_append_left _ (List.mem_append_left _ (List.mem_append_left _ (List.mem_append_left _ (List.mem_append_left _ (List.mem_append_left _ (List.mem_append_left _ (List.mem_append_left _ (List.mem_append_left _ (List.mem_append_left _ (List.mem_append_left _ (List.mem_append_left _ (List.mem_append_right _ (List.mem_append_right _ (List.mem_append_right _ (List.mem_append_right _ (List.mem_append_right _ (List.mem_append_right _ (List.mem_append_right _ (List.mem_append_right _ (List.mem_append_right _ (List.mem_append_right _ (List.mem_append_right _ (List.mem_append_right _ (List.mem_append_right _ (List.mem_append_right _ (List.mem_append_right _ (List.mem_append_right _ (List.mem_append_right _ (List.mem_append_right _ (List.mem_append_right _ (List.mem_append_right _ (List.mem_append_right _ (List.mem_append_right _ (List.mem_append_right _ (List.mem_append_right _ (List.mem_append_right _ (List.mem_append_right _ (List.mem_append_right _ (List.mem_append_right _ (List.mem_append_right _ (List.mem_append_right _ (List.mem_append_right _ (List.mem_append_right _ (List.mem_append_right _ (List.mem_append_right _ (List.mem_append_right _ (List.mem_append_right _ (List.mem_append_right _ (List.mem_append_right _ (List.mem_append_right _ (List.mem_append_right _ (List.mem_append_right _ (List.mem_append_right _ (List.mem_append_right _ (List.mem_append_right _ (List.mem_append_right _ (List.mem_append_right _ (List.mem_append_left _ h))))))))))))))))))))))))))))))))))))))))))))))))))))))))))))
theorem ck_48 : ∀ w ∈ wsL_law_r48, w ∈ wsL_law := fun _ h => List.mem_append_left _ (List.mem_append_left _ (List.mem_append_left _ (List.mem_append_left _ (List.mem_append_left _ (List.mem_append_left _ (List.mem_append_left _ (List.mem_append_left _ (List.mem_append_left _ (List.mem_append_left _ (List.mem_append_left _ (List.mem_append_left _ (List.mem_append_left _ (List.mem_append_left _ (List.mem_append_right _ (List.mem_append_right _ (List.mem_append_right _ (List.mem_append_right _ (List.mem_append_right _ (List.mem_append_right _ (List.mem_append_right _ (List.mem_append_right _ (List.mem_append_right _ (List.mem_append_right _ (List.mem_append_right _ (List.mem_append_right _ (List.mem_append_right _ (List.mem_append_right _ (List.mem_append_right _ (List.mem_append_right _ (List.mem_append_right _ (List.mem_append_right _ (List.mem_append_right _ (List.mem_append_right _ (List.mem_append_right _ (List.mem_append_right _ (List.mem_append_right _ (List.mem_append_right _ (List.mem_append_right _ (List.mem_append_right _ (List.mem_append_right _ (List.mem_append_right _ (List.mem_append_right _ (List.mem_append_right _ (List.mem_append_right _ (List.mem_append_right _ (List.mem_append_right _ (List.mem_append_right _ (List.mem_append_right _ (List.mem_append_right _ (List.mem_append_right _ (List.mem_append_right _ (List.mem_append_right _ (List.mem_append_right _ (List.mem_append_right _ (List.mem_append_right _ (List.mem_append_right _ (List.mem_append_right _ (List.mem_append_right _ (List.mem_append_right _ (List.mem_append_right _ (List.mem_append_left _ h)))))))))))))))))))))))))))))))))))))))))))))))))))))))))))))
theorem ck_49 : ∀ w ∈ wsL_law_r49, w ∈ wsL_law := fun _ h => List.mem_append_left _ (List.mem_append_left _ (List.mem_append_left _ (List.mem_append_left _ (List.mem_append_left _ (List.mem_append_left _ (List.mem_append_left _ (List.mem_append_left _ (List.mem_append_left _ (List.mem_append_left _ (List.mem_append_left _ (List.mem_append_left _ (List.mem_append_left _ (List.mem_append_left _ (List.mem_append_right _ (List.mem_append_right _ (List.mem_append_right _ (List.mem_append_right _ (List.mem_append_right _ (List.mem_append_right _ (List.mem_append_right _ (List.mem_append_right _ (List.mem_append_right _ (List.mem_append_right _ (List.mem_append_right _ (List.mem_append_right _ (List.mem_append_right _ (List.mem_append_right _ (List.mem_append_right _ (List.mem_append_right _ (List.mem_append_right _ (List.mem_append_right _ (List.mem_append_right _ (List.mem_append_right _ (List.mem_append_right _ (List.mem_append_right _ (List.mem_append_right _ (List.mem_append_right _ (List.mem_append_right _ (List.mem_append_right _ (List.mem_append_right _ (List.mem_append_right _ (List.mem_append_right _ (List.mem_append_right _ (List.mem_append_right _ (List.mem_append_right _ (List.mem_append_right _ (List.mem_append_right _ (List.mem_append_right _ (List.mem_append_right _ (List.mem_append_right _ (List.mem_append_right _ (List.mem_append_right _ (List.mem_append_right _ (List.mem_append_right _ (List.mem_append_right _ (List.mem_append_right _ (List.mem_append_right _ (List.mem_append_right _ (List.mem_append_right _ (List.mem_append_right _ (List.mem_append_right _ (List.mem_append_left _ h))))))))))))))))))))))))))))))))))))))))))))))))))))))))))))))
theorem ck_50 : ∀ w ∈ wsL_law_r50, w ∈ wsL_law := fun _ h => List.mem_append_left _ (List.mem_append_left _ (List.mem_append_left _ (List.mem_append_left _ (List.mem_append_left _ (List.mem_append_left _ (List.mem_append_left _ (List.mem_append_left _ (List.mem_append_left _ (List.mem_append_left _ (List.mem_append_left _ (List.mem_append_left _ (List.mem_append_left _ (List.mem_append_left _ (List.mem_append_right _ (List.mem_append_right _ (List.mem_append_right _ (List.mem_append_right _ (List.mem_append_right _ (List.mem_append_right _ (List.mem_append_right _ (List.mem_append_right _ (List.mem_append_right _ (List.mem_append_right _ (List.mem_append_right _ (List.mem_append_right _ (List.mem_append_right _ (List.mem_append_right _ (List.mem_append_right _ (List.mem_append_right _ (List.mem_append_right _ (List.mem_append_right _ (List.mem_append_right _ (List.mem_append_right _ (List.mem_append_right _ (List.mem_append_right _ (List.mem_append_right _ (List.mem_append_right _ (List.mem_append_right _ (List.mem_append_right _ (List.mem_append_right _ (List.mem_append_right _ (List.mem_append_right _ (List.mem_append_right _ (List.mem_append_right _ (List.mem_append_right _ (List.mem_append_right _ (List.mem_append_right _ (List.mem_append_right _ (List.mem_append_right _ (List.mem_append_right _ (List.mem_append_right _ (List.mem_append_right _ (List.mem_append_right _ (List.mem_append_right _ (List.mem_append_right _ (List.mem_append_right _ (List.mem_append_right _ (List.mem_append_right _ (List.mem_append_right _ (List.mem_append_right _ (List.mem_append_right _ (List.mem_append_right _ (List.mem_append_left _ h)))))))))))))))))))))))))))))))))))))))))))))))))))))))))))))))
theorem ck_51 : ∀ w ∈ wsL_law_r51, w ∈ wsL_law := fun _ h => List.mem_append_left _ (List.mem_append_left _ (List.mem_append_left _ (List.mem_append_left _ (List.mem_append_left _ (List.mem_append_left _ (List.mem_append_left _ (List.mem_append_left _ (List.mem_append_left _ (List.mem_append_left _ (List.mem_append_left _ (List.mem_append_left _ (List.mem_append_left _ (List.mem_append_left _ (List.mem_append_right _ (List.mem_append_right _ (List.mem_append_right _ (List.mem_append_right _ (List.mem_append_right _ (List.mem_append_right _ (List.mem_append_right _ (List.mem_append_right _ (List.mem_append_right _ (List.mem_append_right _ (List.mem_append_right _ (List.mem_append_right _ (List.mem_append_right _ (List.mem_append_right _ (List.mem_append_right _ (List.mem_append_right _ (List.mem_append_right _ (List.mem_append_right _ (List.mem_append_right _ (List.mem_append_right _ (List.mem_append_right _ (List.mem_append_right _ (List.mem_append_right _ (List.mem_append_right _ (List.mem_append_right _ (List.mem_append_right _ (List.mem_append_right _ (List.mem_append_right _ (List.mem_append_right _ (List.mem_append_right _ (List.mem_append_right _ (List.mem_append_right _ (List.mem_append_right _ (List.mem_append_right _ (List.mem_append_right _ (List.mem_append_right _ (List.mem_append_right _ (List.mem_append_right _ (List.mem_append_right _ (List.mem_append_right _ (List.mem_append_right _ (List.mem_append_right _ (List.mem_append_right _ (List.mem_append_right _ (List.mem_append_right _ (List.mem_append_right _ (List.mem_append_right _ (List.mem_append_right _ (List.mem_append_right _ (List.mem_append_right _ (List.mem_append_left _ h))))))))))))))))))))))))))))))))))))))))))))))))))))))))))))))))
theorem ck_52 : ∀ w ∈ wsL_law_r52, w ∈ wsL_law := fun _ h => List.mem_append_left _ (List.mem_append_left _ (List.mem_append_left _ (List.mem_append_left _ (List.mem_append_left _ (List.mem_append_left _ (List.mem_append_left _ (List.mem_append_left _ (List.mem_append_left _ (List.mem_append_left _ (List.mem_append_left _ (List.mem_append_left _ (List.mem_append_left _ (List.mem_append_left _ (List.mem_append_right _ (List.mem_append_right _ (List.mem_append_right _ (List.mem_append_right _ (List.mem_append_right _ (List.mem_append_right _ (List.mem_append_right _ (List.mem_append_right _ (List.mem_append_right _ (List.mem_append_right _ (List.mem_append_right _ (List.mem_append_right _ (List.mem_append_right _ (List.mem_append_right _ (List.mem_append_right _ (List.mem_append_right _ (List.mem_append_right _ (List.mem_append_right _ (List.mem_append_right _ (List.mem_append_right _ (List.mem_append_right _ (List.mem_append_right _ (List.mem_append_right _ (List.mem_append_right _ (List.mem_append_right _ (List.mem_append_right _ (List.mem_append_right _ (List.mem_append_right _ (List.mem_append_right _ (List.mem_append_right _ (List.mem_append_right _ (List.mem_append_right _ (List.mem_append_right _ (List.mem_append_right _ (List.mem_append_right _ (List.mem_append_right _ (List.mem_append_right _ (List.mem_append_right _ (List.mem_append_right _ (List.mem_append_right _ (List.mem_append_right _ (List.mem_append_right _ (List.mem_append_right _ (List.mem_append_right _ (List.mem_append_right _ (List.mem_append_right _ (List.mem_append_right _ (List.mem_append_right _ (List.mem_append_right _ (List.mem_append_right _ (List.mem_append_right _ (List.mem_append_left _ h)))))))))))))))))))))))))))))))))))))))))))))))))))))))))))))))))
theorem ck_53 : ∀ w ∈ wsL_law_r53, w ∈ wsL_law := fun _ h => List.mem_append_left _ (List.mem_append_left _ (List.mem_append_left _ (List.mem_append_left _ (List.mem_append_left _ (List.mem_append_left _ (List.mem_append_left _ (List.mem_append_left _ (List.mem_append_left _ (List.mem_append_left _ (List.mem_append_left _ (List.mem_append_left _ (List.mem_append_left _ (List.mem_append_left _ (List.mem_append_right _ (List.mem_append_right _ (List.mem_append_right _ (List.mem_append_right _ (List.mem_append_right _ (List.mem_append_right _ (List.mem_append_right _ (List.mem_append_right _ (List.mem_append_right _ (List.mem_append_right _ (List.mem_append_right _ (List.mem_append_right _ (List.mem_append_right _ (List.mem_append_right _ (List.mem_append_right _ (List.mem_append_right _ (List.mem_append_right _ (List.mem_append_right _ (List.mem_append_right _ (List.mem_append_right _ (List.mem_append_right _ (List.mem_append_right _ (List.mem_append_right _ (List.mem_append_right _ (List.mem_append_right _ (List.mem_append_right _ (List.mem_append_right _ (List.mem_append_right _ (List.mem_append_right _ (List.mem_append_right _ (List.mem_append_right _ (List.mem_append_right _ (List.mem_append_right _ (List.mem_append_right _ (List.mem_append_right _ (List.mem_append_right _ (List.mem_append_right _ (List.mem_append_right _ (List.mem_append_right _ (List.mem_append_right _ (List.mem_append_right _ (List.mem_append_right _ (List.mem_append_right _ (List.mem_append_right _ (List.mem_append_right _ (List.mem_append_right _ (List.mem_append_right _ (List.mem_append_right _ (List.mem_append_right _ (List.mem_append_right _ (List.mem_append_right _ (List.mem_append_right _ (List.mem_append_left _ h))))))))))))))))))))))))))))))))))))))))))))))))))))))))))))))))))
theorem ck_54 : ∀ w ∈ wsL_law_r54, w ∈ wsL_law := fun _ h => List.mem_append_left _ (List.mem_append_left _ (List.mem_append_left _ (List.mem_append_left _ (List.mem_append_left _ (List.mem_append_left _ (List.mem_append_left _ (List.mem_append_left _ (List.mem_append_left _ (List.mem_append_left _ (List.mem_append_left _ (List.mem_append_left _ (List.mem_append_left _ (List.mem_append_left _ (List.mem_append_right _ (List.mem_append_right _ (List.mem_append_right _ (List.mem_append_right _ (List.mem_append_right _ (List.mem_append_right _ (List.mem_append_right _ (List.mem_append_right _ (List.mem_append_right _ (List.mem_append_right _ (List.mem_append_right _ (List.mem_append_right _ (List.mem_append_right _ (List.mem_append_right _ (List.mem_append_right _ (List.mem_append_right _ (List.mem_append_right _ (List.mem_append_right _ (List.mem_append_right _ (List.mem_append_right _ (List.mem_append_right _ (List.mem_append_right _ (List.mem_append_right _ (List.mem_append_right _ (List.mem_append_right _ (List.mem_append_right _ (List.mem_append_right _ (List.mem_append_right _ (List.mem_append_right _ (List.mem_append_right _ (List.mem_append_right _ (List.mem_append_right _ (List.mem_append_right _ (List.mem_append_right _ (List.mem_append_right _ (List.mem_append_right _ (List.mem_append_right _ (List.mem_append_right _ (List.mem_append_right _ (List.mem_append_right _ (List.mem_append_right _ (List.mem_append_right _ (List.mem_append_right _ (List.mem_append_right _ (List.mem_append_right _ (List.mem_append_right _ (List.mem_append_right _ (List.mem_append_right _ (List.mem_append_right _ (List.mem_append_right _ (List.mem_append_right _ (List.mem_append_right _ (List.mem_append_right _ (List.mem_append_left _ h)))))))))))))))))))))))))))))))))))))))))))))))))))))))))))))))))))
theorem ck_55 : ∀ w ∈ wsL_law_r55, w ∈ wsL_law := fun _ h => List.mem_append_left _ (List.mem_append_left _ (List.mem_append_left _ (List.mem_append_left _ (List.mem_append_left _ (List.mem_append_left _ (List.mem_append_left _ (List.mem_append_left _ (List.mem_append_left _ (List.mem_append_left _ (List.mem_append_left _ (List.mem_append_left _ (List.mem_append_left _ (List.mem_append_left _ (List.mem_append_right _ (List.mem_append_right _ (List.mem_append_right _ (List.mem_append_right _ (List.mem_append_right _ (List.mem_append_right _ (List.mem_append_right _ (List.mem_append_right _ (List.mem_append_right _ (List.mem_append_right _ (List.mem_append_right _ (List.mem_append_right _ (List.mem_append_right _ (List.mem_append_right _ (List.mem_append_right _ (List.mem_append_right _ (List.mem_append_right _ (List.mem_append_right _ (List.mem_append_right _ (List.mem_append_right _ (List.mem_append_right _ (List.mem_append_right _ (List.mem_append_right _ (List.mem_append_right _ (List.mem_append_right _ (List.mem_append_right _ (List.mem_append_right _ (List.mem_append_right _ (List.mem_append_right _ (List.mem_append_right _ (List.mem_append_right _ (List.mem_append_right _ (List.mem_append_right _ (List.mem_append_right _ (List.mem_append_right _ (List.mem_append_right _ (List.mem_append_right _ (List.mem_append_right _ (List.mem_append_right _ (List.mem_append_right _ (List.mem_append_right _ (List.mem_append_right _ (List.mem_append_right _ (List.mem_append_right _ (List.mem_append_right _ (List.mem_append_right _ (List.mem_append_right _ (List.mem_append_right _ (List.mem_append_right _ (List.mem_append_right _ (List.mem_append_right _ (List.mem_append_right _ (List.mem_append_right _ (List.mem_append_right _ (List.mem_append_left _ h))))))))))))))))))))))))))))))))))))))))))))))))))))))))))))))))))))
theorem ck_56 : ∀ w ∈ wsL_law_r56, w ∈ wsL_law := fun _ h => List.mem_append_left _ (List.mem_append_left _ (List.mem_append_left _ (List.mem_append_left _ (List.mem_append_left _ (List.mem_append_left _ (List.mem_append_left _ (List.mem_append_left _ (List.mem_append_left _ (List.mem_append_left _ (List.mem_append_left _ (List.mem_append_left _ (List.mem_append_left _ (List.mem_append_left _ (List.mem_append_right _ (List.mem_append_right _ (List.mem_append_right _ (List.mem_append_right _ (List.mem_append_right _ (List.mem_append_right _ (List.mem_append_right _ (List.mem_append_right _ (List.mem_append_right _ (List.mem_append_right _ (List.mem_append_right _ (List.mem_append_right _ (List.mem_append_right _ (List.mem_append_right _ (List.mem_append_right _ (List.mem_append_right _ (List.mem_append_right _ (List.mem_append_right _ (List.mem_append_right _ (List.mem_append_right _ (List.mem_append_right _ (List.mem_append_right _ (List.mem_append_right _ (List.mem_append_right _ (List.mem_append_right _ (List.mem_append_right _ (List.mem_append_right _ (List.mem_append_right _ (List.mem_append_right _ (List.mem_append_right _ (List.mem_append_right _ (List.mem_append_right _ (List.mem_append_right _ (List.mem_append_right _ (List.mem_append_right _ (List.mem_append_right _ (List.mem_append_right _ (List.mem_append_right _ (List.mem_append_right _ (List.mem_append_right _ (List.mem_append_right _ (List.mem_append_right _ (List.mem_append_right _ (List.mem_append_right _ (List.mem_append_right _ (List.mem_append_right _ (List.mem_append_right _ (List.mem_append_right _ (List.mem_append_right _ (List.mem_append_right _ (List.mem_append_right _ (List.mem_append_right _ (List.mem_append_right _ (List.mem_append_right _ (List.mem_append_right _ (List.mem_append_left _ h)))))))))))))))))))))))))))))))))))))))))))))))))))))))))))))))))))))
theorem ck_57 : ∀ w ∈ wsL_law_r57, w ∈ wsL_law := fun _ h => List.mem_append_left _ (List.mem_append_left _ (List.mem_append_left _ (List.mem_append_left _ (List.mem_append_left _ (List.mem_append_left _ (List.mem_append_left _ (List.mem_append_left _ (List.mem_append_left _ (List.mem_append_left _ (List.mem_append_left _ (List.mem_append_left _ (List.mem_append_left _ (List.mem_append_left _ (List.mem_append_right _ (List.mem_append_right _ (List.mem_append_right _ (List.mem_append_right _ (List.mem_append_right _ (List.mem_append_right _ (List.mem_append_right _ (List.mem_append_right _ (List.mem_append_right _ (List.mem_append_right _ (List.mem_append_right _ (List.mem_append_right _ (List.mem_append_right _ (List.mem_append_right _ (List.mem_append_right _ (List.mem_append_right _ (List.mem_append_right _ (List.mem_append_right _ (List.mem_append_right _ (List.mem_append_right _ (List.mem_append_right _ (List.mem_append_right _ (List.mem_append_right _ (List.mem_append_right _ (List.mem_append_right _ (List.mem_append_right _ (List.mem_append_right _ (List.mem_append_right _ (List.mem_append_right _ (List.mem_append_right _ (List.mem_append_right _ (List.mem_append_right _ (List.mem_append_right _ (List.mem_append_right _ (List.mem_append_right _ (List.mem_append_right _ (List.mem_append_right _ (List.mem_append_right _ (List.mem_append_right _ (List.mem_append_right _ (List.mem_append_right _ (List.mem_append_right _ (List.mem_append_right _ (List.mem_append_right _ (List.mem_append_right _ (List.mem_append_right _ (List.mem_append_right _ (List.mem_append_right _ (List.mem_append_right _ (List.mem_append_right _ (List.mem_append_right _ (List.mem_append_right _ (List.mem_append_right _ (List.mem_append_right _ (List.mem_append_right _ (List.mem_append_right _ (List.mem_append_left _ h))))))))))))))))))))))))))))))))))))))))))))))))))))))))))))))))))))))
theorem ck_58 : ∀ w ∈ wsL_law_r58, w ∈ wsL_law := fun _ h => List.mem_append_left _ (List.mem_append_left _ (List.mem_append_left _ (List.mem_append_left _ (List.mem_append_left _ (List.mem_append_left _ (List.mem_append_left _ (List.mem_append_left _ (List.mem_append_left _ (List.mem_append_left _ (List.mem_append_left _ (List.mem_append_left _ (List.mem_append_left _ (List.mem_append_left _ (List.mem_append_right _ (List.mem_append_right _ (List.mem_append_right _ (List.mem_append_right _ (List.mem_append_right _ (List.mem_append_right _ (List.mem_append_right _ (List.mem_append_right _ (List.mem_append_right _ (List.mem_append_right _ (List.mem_append_right _ (List.mem_append_right _ (List.mem_append_right _ (List.mem_append_right _ (List.mem_append_right _ (List.mem_append_right _ (List.mem_append_right _ (List.mem_append_right _ (List.mem_append_right _ (List.mem_append_right _ (List.mem_append_right _ (List.mem_append_right _ (List.mem_append_right _ (List.mem_append_right _ (List.mem_append_right _ (List.mem_append_right _ (List.mem_append_right _ (List.mem_append_right _ (List.mem_append_right _ (List.mem_append_right _ (List.mem_append_right _ (List.mem_append_right _ (List.mem_append_right _ (List.mem_append_right _ (List.mem_append_right _ (List.mem_append_right _ (List.mem_append_right _ (List.mem_append_right _ (List.mem_append_right _ (List.mem_append_right _ (List.mem_append_right _ (List.mem_append_right _ (List.mem_append_right _ (List.mem_append_right _ (List.mem_append_right _ (List.mem_append_right _ (List.mem_append_right _ (List.mem_append_right _ (List.mem_append_right _ (List.mem_append_right _ (List.mem_append_right _ (List.mem_append_right _ (List.mem_append_right _ (List.mem_append_right _ (List.mem_append_right _ (List.mem_append_right _ (List.mem_append_right _ (List.mem_append_left _ h)))))))))))))))))))))))))))))))))))))))))))))))))))))))))))))))))))))))
theorem ck_59 : ∀ w ∈ wsL_law_r59, w ∈ wsL_law := fun _ h => List.mem_append_left _ (List.mem_append_left _ (List.mem_append_left _ (List.mem_append_left _ (List.mem_append_left _ (List.mem_append_left _ (List.mem_append_left _ (List.mem_append_left _ (List.mem_append_left _ (List.mem_append_left _ (List.mem_append_left _ (List.mem_append_left _ (List.mem_append_left _ (List.mem_append_left _ (List.mem_append_right _ (List.mem_append_right _ (List.mem_append_right _ (List.mem_append_right _ (List.mem_append_right _ (List.mem_append_right _ (List.mem_append_right _ (List.mem_append_right _ (List.mem_append_right _ (List.mem_append_right _ (List.mem_append_right _ (List.mem_append_right _ (List.mem_append_right _ (List.mem_append_right _ (List.mem_append_right _ (List.mem_append_right _ (List.mem_append_right _ (List.mem_append_right _ (List.mem_append_right _ (List.mem_append_right _ (List.mem_append_right _ (List.mem_append_right _ (List.mem_append_right _ (List.mem_append_right _ (List.mem_append_right _ (List.mem_append_right _ (List.mem_append_right _ (List.mem_append_right _ (List.mem_append_right _ (List.mem_append_right _ (List.mem_append_right _ (List.mem_append_right _ (List.mem_append_right _ (List.mem_append_right _ (List.mem_append_right _ (List.mem_append_right _ (List.mem_append_right _ (List.mem_append_right _ (List.mem_append_right _ (List.mem_append_right _ (List.mem_append_right _ (List.mem_append_right _ (List.mem_append_right _ (List.mem_append_right _ (List.mem_append_right _ (List.mem_append_right _ (List.mem_append_right _ (List.mem_append_right _ (List.mem_append_right _ (List.mem_append_right _ (List.mem_append_right _ (List.mem_append_right _ (List.mem_append_right _ (List.mem_append_right _ (List.mem_append_right _ (List.mem_append_right _ (List.mem_append_right _ (List.mem_append_right _ (List.mem_append_left _ h))))))))))))))))))))))))))))))))))))))))))))))))))))))))))))))))))))))))
theorem ck_60 : ∀ w ∈ wsL_law_r60, w ∈ wsL_law := fun _ h => List.mem_append_left _ (List.mem_append_left _ (List.mem_append_left _ (List.mem_append_left _ (List.mem_append_left _ (List.mem_append_left _ (List.mem_append_left _ (List.mem_append_left _ (List.mem_append_left _ (List.mem_append_left _ (List.mem_append_left _ (List.mem_append_left _ (List.mem_append_left _ (List.mem_append_left _ (List.mem_append_right _ (List.mem_append_right _ (List.mem_append_right _ (List.mem_append_right _ (List.mem_append_right _ (List.mem_append_right _ (List.mem_append_right _ (List.mem_append_right _ (List.mem_append_right _ (List.mem_append_right _ (List.mem_append_right _ (List.mem_append_right _ (List.mem_append_right _ (List.mem_append_right _ (List.mem_append_right _ (List.mem_append_right _ (List.mem_append_right _ (List.mem_append_right _ (List.mem_append_right _ (List.mem_append_right _ (List.mem_append_right _ (List.mem_append_right _ (List.mem_append_right _ (List.mem_append_right _ (List.mem_append_right _ (List.mem_append_right _ (List.mem_append_right _ (List.mem_append_right _ (List.mem_append_right _ (List.mem_append_right _ (List.mem_append_right _ (List.mem_append_right _ (List.mem_append_right _ (List.mem_append_right _ (List.mem_append_right _ (List.mem_append_right _ (List.mem_append_right _ (List.mem_append_right _ (List.mem_append_right _ (List.mem_append_right _ (List.mem_append_right _ (List.mem_append_right _ (List.mem_append_right _ (List.mem_append_right _ (List.mem_append_right _ (List.mem_append_right _ (List.mem_append_right _ (List.mem_append_right _ (List.mem_append_right _ (List.mem_append_right _ (List.mem_append_right _ (List.mem_append_right _ (List.mem_append_right _ (List.mem_append_right _ (List.mem_append_right _ (List.mem_append_right _ (List.mem_append_right _ (List.mem_append_right _ (List.mem_append_right _ (List.mem_append_left _ h)))))))))))))))))))))))))))))))))))))))))))))))))))))))))))))))))))))))))
theorem ck_61 : ∀ w ∈ wsL_law_r61, w ∈ wsL_law := fun _ h => List.mem_append_left _ (List.mem_append_left _ (List.mem_append_left _ (List.mem_append_left _ (List.mem_append_left _ (List.mem_append_left _ (List.mem_append_left _ (List.mem_append_left _ (List.mem_append_left _ (List.mem_append_left _ (List.mem_append_left _ (List.mem_append_left _ (List.mem_append_left _ (List.mem_append_left _ (List.mem_append_right _ (List.mem_append_right _ (List.mem_append_right _ (List.mem_append_right _ (List.mem_append_right _ (List.mem_append_right _ (List.mem_append_right _ (List.mem_append_right _ (List.mem_append_right _ (List.mem_append_right _ (List.mem_append_right _ (List.mem_append_right _ (List.mem_append_right _ (List.mem_append_right _ (List.mem_append_right _ (List.mem_append_right _ (List.mem_append_right _ (List.mem_append_right _ (List.mem_append_right _ (List.mem_append_right _ (List.mem_append_right _ (List.mem_append_right _ (List.mem_append_right _ (List.mem_append_right _ (List.mem_append_right _ (List.mem_append_right _ (List.mem_append_right _ (List.mem_append_right _ (List.mem_append_right _ (List.mem_append_right _ (List.mem_append_right _ (List.mem_append_right _ (List.mem_append_right _ (List.mem_append_right _ (List.mem_append_right _ (List.mem_append_right _ (List.mem_append_right _ (List.mem_append_right _ (List.mem_append_right _ (List.mem_append_right _ (List.mem_append_right _ (List.mem_append_right _ (List.mem_append_right _ (List.mem_append_right _ (List.mem_append_right _ (List.mem_append_right _ (List.mem_append_right _ (List.mem_append_right _ (List.mem_append_right _ (List.mem_append_right _ (List.mem_append_right _ (List.mem_append_right _ (List.mem_append_right _ (List.mem_append_right _ (List.mem_append_right _ (List.mem_append_right _ (List.mem_append_right _ (List.mem_append_right _ (List.mem_append_right _ (List.mem_append_right _ (List.mem_append_left _ h))))))))))))))))))))))))))))))))))))))))))))))))))))))))))))))))))))))))))
theorem ck_62 : ∀ w ∈ wsL_law_r62, w ∈ wsL_law := fun _ h => List.mem_append_left _ (List.mem_append_left _ (List.mem_append_left _ (List.mem_append_left _ (List.mem_append_left _ (List.mem_append_left _ (List.mem_append_left _ (List.mem_append_left _ (List.mem_append_left _ (List.mem_append_left _ (List.mem_append_left _ (List.mem_append_left _ (List.mem_append_left _ (List.mem_append_left _ (List.mem_append_right _ (List.mem_append_right _ (List.mem_append_right _ (List.mem_append_right _ (List.mem_append_right _ (List.mem_append_right _ (List.mem_append_right _ (List.mem_append_right _ (List.mem_append_right _ (List.mem_append_right _ (List.mem_append_right _ (List.mem_append_right _ (List.mem_append_right _ (List.mem_append_right _ (List.mem_append_right _ (List.mem_append_right _ (List.mem_append_right _ (List.mem_append_right _ (List.mem_append_right _ (List.mem_append_right _ (List.mem_append_right _ (List.mem_append_right _ (List.mem_append_right _ (List.mem_append_right _ (List.mem_append_right _ (List.mem_append_right _ (List.mem_append_right _ (List.mem_append_right _ (List.mem_append_right _ (List.mem_append_right _ (List.mem_append_right _ (List.mem_append_right _ (List.mem_append_right _ (List.mem_append_right _ (List.mem_append_right _ (List.mem_append_right _ (List.mem_append_right _ (List.mem_append_right _ (List.mem_append_right _ (List.mem_append_right _ (List.mem_append_right _ (List.mem_append_right _ (List.mem_append_right _ (List.mem_append_right _ (List.mem_append_right _ (List.mem_append_right _ (List.mem_append_right _ (List.mem_append_right _ (List.mem_append_right _ (List.mem_append_right _ (List.mem_append_right _ (List.mem_append_right _ (List.mem_append_right _ (List.mem_append_right _ (List.mem_append_right _ (List.mem_append_right _ (List.mem_append_right _ (List.mem_append_right _ (List.mem_append_right _ (List.mem_append_right _ (List.mem_append_right _ (List.mem_append_left _ h)))))))))))))))))))))))))))))))))))))))))))))))))))))))))))))))))))))))))))
theorem ck_63 : ∀ w ∈ wsL_law_r63, w ∈ wsL_law := fun _ h => List.mem_append_left _ (List.mem_append_left _ (List.mem_append_left _ (List.mem_append_left _ (List.mem_append_left _ (List.mem_append_left _ (List.mem_append_left _ (List.mem_append_left _ (List.mem_append_left _ (List.mem_append_left _ (List.mem_append_left _ (List.mem_append_left _ (List.mem_append_left _ (List.mem_append_left _ (List.mem_append_right _ (List.mem_append_right _ (List.mem_append_right _ (List.mem_append_right _ (List.mem_append_right _ (List.mem_append_right _ (List.mem_append_right _ (List.mem_append_right _ (List.mem_append_right _ (List.mem_append_right _ (List.mem_append_right _ (List.mem_append_right _ (List.mem_append_right _ (List.mem_append_right _ (List.mem_append_right _ (List.mem_append_right _ (List.mem_append_right _ (List.mem_append_right _ (List.mem_append_right _ (List.mem_append_right _ (List.mem_append_right _ (List.mem_append_right _ (List.mem_append_right _ (List.mem_append_right _ (List.mem_append_right _ (List.mem_append_right _ (List.mem_append_right _ (List.mem_append_right _ (List.mem_append_right _ (List.mem_append_right _ (List.mem_append_right _ (List.mem_append_right _ (List.mem_append_right _ (List.mem_append_right _ (List.mem_append_right _ (List.mem_append_right _ (List.mem_append_right _ (List.mem_append_right _ (List.mem_append_right _ (List.mem_append_right _ (List.mem_append_right _ (List.mem_append_right _ (List.mem_append_right _ (List.mem_append_right _ (List.mem_append_right _ (List.mem_append_right _ (List.mem_append_right _ (List.mem_append_right _ (List.mem_append_right _ (List.mem_append_right _ (List.mem_append_right _ (List.mem_append_right _ (List.mem_append_right _ (List.mem_append_right _ (List.mem_append_right _ (List.mem_append_right _ (List.mem_append_right _ (List.mem_append_right _ (List.mem_append_right _ (List.mem_append_right _ (List.mem_append_right _ (List.mem_append_right _ (List.mem_append_left _ h))))))))))))))))))))))))))))))))))))))))))))))))))))))))))))))))))))))))))))
theorem ck_64 : ∀ w ∈ wsL_law_r64, w ∈ wsL_law := fun _ h => List.mem_append_left _ (List.mem_append_left _ (List.mem_append_left _ (List.mem_append_left _ (List.mem_append_left _ (List.mem_append_left _ (List.mem_append_left _ (List.mem_append_left _ (List.mem_append_left _ (List.mem_append_left _ (List.mem_append_left _ (List.mem_append_left _ (List.mem_append_left _ (List.mem_append_left _ (List.mem_append_right _ (List.mem_append_right _ (List.mem_append_right _ (List.mem_append_right _ (List.mem_append_right _ (List.mem_append_right _ (List.mem_append_right _ (List.mem_append_right _ (List.mem_append_right _ (List.mem_append_right _ (List.mem_append_right _ (List.mem_append_right _ (List.mem_append_right _ (List.mem_append_right _ (List.mem_append_right _ (List.mem_append_right _ (List.mem_append_right _ (List.mem_append_right _ (List.mem_append_right _ (List.mem_append_right _ (List.mem_append_right _ (List.mem_append_right _ (List.mem_append_right _ (List.mem_append_right _ (List.mem_append_right _ (List.mem_append_right _ (List.mem_append_right _ (List.mem_append_right _ (List.mem_append_right _ (List.mem_append_right _ (List.mem_append_right _ (List.mem_append_right _ (List.mem_append_right _ (List.mem_append_right _ (List.mem_append_right _ (List.mem_append_right _ (List.mem_append_right _ (List.mem_append_right _ (List.mem_append_right _ (List.mem_append_right _ (List.mem_append_right _ (List.mem_append_right _ (List.mem_append_right _ (List.mem_append_right _ (List.mem_append_right _ (List.mem_append_right _ (List.mem_append_right _ (List.mem_append_right _ (List.mem_append_right _ (List.mem_append_right _ (List.mem_append_right _ (List.mem_append_right _ (List.mem_append_right _ (List.mem_append_right _ (List.mem_append_right _ (List.mem_append_right _ (List.mem_append_right _ (List.mem_append_right _ (List.mem_append_right _ (List.mem_append_right _ (List.mem_append_right _ (List.mem_append_right _ (List.mem_append_right _ (List.mem_append_left _ h)))))))))))))))))))))))))))))))))))))))))))))))))))))))))))))))))))))))))))))
theorem ck_65 : ∀ w ∈ wsL_law_r65, w ∈ wsL_law := fun _ h => List.mem_append_left _ (List.mem_append_left _ (List.mem_append_left _ (List.mem_append_left _ (List.mem_append_left _ (List.mem_append_left _ (List.mem_append_left _ (List.mem_append_left _ (List.mem_append_left _ (List.mem_append_left _ (List.mem_append_left _ (List.mem_append_left _ (List.mem_append_left _ (List.mem_append_left _ (List.mem_append_right _ (List.mem_append_right _ (List.mem_append_right _ (List.mem_append_right _ (List.mem_append_right _ (List.mem_append_right _ (List.mem_append_right _ (List.mem_append_right _ (List.mem_append_right _ (List.mem_append_right _ (List.mem_append_right _ (List.mem_append_right _ (List.mem_append_right _ (List.mem_append_right _ (List.mem_append_right _ (List.mem_append_right _ (List.mem_append_right _ (List.mem_append_right _ (List.mem_append_right _ (List.mem_append_right _ (List.mem_append_right _ (List.mem_append_right _ (List.mem_append_right _ (List.mem_append_right _ (List.mem_append_right _ (List.mem_append_right _ (List.mem_append_right _ (List.mem_append_right _ (List.mem_append_right _ (List.mem_append_right _ (List.mem_append_right _ (List.mem_append_right _ (List.mem_append_right _ (List.mem_append_right _ (List.mem_append_right _ (List.mem_append_right _ (List.mem_append_right _ (List.mem_append_right _ (List.mem_append_right _ (List.mem_append_right _ (List.mem_append_right _ (List.mem_append_right _ (List.mem_append_right _ (List.mem_append_right _ (List.mem_append_right _ (List.mem_append_right _ (List.mem_append_right _ (List.mem_append_right _ (List.mem_append_right _ (List.mem_append_right _ (List.mem_append_right _ (List.mem_append_right _ (List.mem_append_right _ (List.mem_append_right _ (List.mem_append_right _ (List.mem_append_right _ (List.mem_append_right _ (List.mem_append_right _ (List.mem_append_right _ (List.mem_append_right _ (List.mem_append_right _ (List.mem_append_right _ (List.mem_append_right _ (List.mem_append_right _ (h))))))))))))))))))))))))))))))))))))))))))))))))))))))))))))))))))))))))))))))
