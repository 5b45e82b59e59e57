/-! ===== BEGIN words of one list among another's, by their places ===== -/
theorem goodIn_r {big : List Cond} (ws : List Cond) (ps : List Nat) (hp : ws = ps.filterMap (fun i => big[i]?)) (h : ws.all goodWord = true) : GoodIn big ws := by
  intro w hw
  have h1 := List.all_eq_true.mp h w hw
  rw [hp] at hw
  obtain ⟨i, -, hi⟩ := List.mem_filterMap.mp hw
  have hm : w ∈ big := by first | exact List.mem_of_getElem? hi | exact List.getElem?_mem hi
  exact ⟨hm, good_of_word h1⟩
theorem goodIn_app {big a b : List Cond} (ha : GoodIn big a) (hb : GoodIn big b) : GoodIn big (a ++ b) := fun w h => (List.mem_append.mp h).elim (ha w) (hb w)
theorem goodIn_ca {big a b : List Cond} {c : Cond} (ha : GoodIn big (c :: a)) (hb : GoodIn big b) : GoodIn big (c :: (a ++ b)) := fun w h => (List.mem_cons.mp h).elim (fun e => ha w (List.mem_cons.mpr (Or.inl e))) (fun h => (List.mem_append.mp h).elim (fun h => ha w (List.mem_cons.mpr (Or.inr h))) (hb w))
theorem goodIn_sub {big ws : List Cond} (hm : ∀ w ∈ ws, w ∈ big) (h : ws.all goodWord = true) : GoodIn big ws := fun w hw => ⟨hm w hw, good_of_word (List.all_eq_true.mp h w hw)⟩
/-! ===== END ===== -/

def RX0 : String := "SameKeeper$Code"
def TX0 : u_T := fun k => match k with
  | 0 => ("SameKeeper$Code", "steps", "[I", true)
  | 1 => ("SameKeeper$Code", "stack", "[J", true)
  | 2 => ("SameKeeper$Code", "names", "[J", true)
  | 3 => ("SameKeeper$Code", "counts", "[J", true)
  | 4 => ("SameKeeper$Code", "length", "I", false)
  | _ => ("SameKeeper$Code", "mindsWeek", "Z", false)
def tyX0 : Nat → FieldType := fun k => match k with
  | 0 => .array .int
  | 1 => .array .long
  | 2 => .array .long
  | 3 => .array .long
  | 4 => .int
  | _ => .boolean
abbrev wsX00 : List Cond := u_ws RX0 TX0 6
theorem nmX0 : ∀ a, a < 6 → ∀ b, b < 6 → a ≠ b → (TX0 a).2.1 ≠ (TX0 b).2.1 := by decide +kernel
theorem tyX0_ok : ∀ k, k < 6 → parseFieldDescriptor (TX0 k).2.2.1 = some (tyX0 k) := by decide +kernel
abbrev cX0_init : ByteArray := prog_2_method_1_code
def yX0_init : MethodName := ⟨RX0, "<init>", "()V"⟩
abbrev cX0_clear : ByteArray := prog_2_method_2_code
def yX0_clear : MethodName := ⟨RX0, "clear", "()V"⟩
abbrev cX0_add : ByteArray := prog_2_method_3_code
def yX0_add : MethodName := ⟨RX0, "add", "(I)V"⟩
abbrev cX0_name : ByteArray := prog_2_method_4_code
def yX0_name : MethodName := ⟨RX0, "name", "(IJ)V"⟩
abbrev cX0_nameCount : ByteArray := prog_2_method_5_code
def yX0_nameCount : MethodName := ⟨RX0, "nameCount", "(IJ)V"⟩
abbrev cX0_run : ByteArray := prog_2_method_6_code
def yX0_run : MethodName := ⟨RX0, "run", "(II)J"⟩
abbrev cX0_ofOne : ByteArray := prog_2_method_7_code
def yX0_ofOne : MethodName := ⟨RX0, "ofOne", "(IJ)J"⟩
abbrev cX0_ofTwo : ByteArray := prog_2_method_8_code
def yX0_ofTwo : MethodName := ⟨RX0, "ofTwo", "(IJJ)J"⟩
abbrev cX0_bounded : ByteArray := prog_2_method_9_code
def yX0_bounded : MethodName := ⟨RX0, "bounded", "(J)J"⟩
def RX1 : String := "SameKeeper$Graph"
def TX1 : u_T := fun k => match k with
  | 0 => ("SameKeeper$Graph", "table", "LSameKeeper$Table;", true)
  | 1 => ("SameKeeper$Graph", "leads", "[I", true)
  | 2 => ("SameKeeper$Graph", "allowed", "[I", true)
  | 3 => ("SameKeeper$Graph", "live", "[I", true)
  | 4 => ("SameKeeper$Graph", "ways", "[J", true)
  | 5 => ("SameKeeper$Graph", "comings", "[J", true)
  | 6 => ("SameKeeper$Graph", "gains", "[J", true)
  | 7 => ("SameKeeper$Graph", "days", "I", false)
  | _ => ("SameKeeper$Graph", "start", "I", false)
def tyX1 : Nat → FieldType := fun k => match k with
  | 0 => .object "SameKeeper$Table"
  | 1 => .array .int
  | 2 => .array .int
  | 3 => .array .int
  | 4 => .array .long
  | 5 => .array .long
  | 6 => .array .long
  | 7 => .int
  | _ => .int
abbrev wsX10 : List Cond := u_ws RX1 TX1 9
theorem nmX1 : ∀ a, a < 9 → ∀ b, b < 9 → a ≠ b → (TX1 a).2.1 ≠ (TX1 b).2.1 := by decide +kernel
theorem tyX1_ok : ∀ k, k < 9 → parseFieldDescriptor (TX1 k).2.2.1 = some (tyX1 k) := by decide +kernel
abbrev cX1_init : ByteArray := prog_3_method_1_code
def yX1_init : MethodName := ⟨RX1, "<init>", "(LSameKeeper$Table;)V"⟩
abbrev cX1_lay : ByteArray := prog_3_method_2_code
def yX1_lay : MethodName := ⟨RX1, "lay", "(LSameKeeper$State;II)V"⟩
abbrev cX1_allowOnly : ByteArray := prog_3_method_3_code
def yX1_allowOnly : MethodName := ⟨RX1, "allowOnly", "(II)V"⟩
abbrev cX1_settle : ByteArray := prog_3_method_4_code
def yX1_settle : MethodName := ⟨RX1, "settle", "()Z"⟩
abbrev cX1_next : ByteArray := prog_3_method_5_code
def yX1_next : MethodName := ⟨RX1, "next", "(II)I"⟩
abbrev cX1_moodsOf : ByteArray := prog_3_method_6_code
def yX1_moodsOf : MethodName := ⟨RX1, "moodsOf", "(I)I"⟩
abbrev cX1_takeFirst : ByteArray := prog_3_method_7_code
def yX1_takeFirst : MethodName := ⟨RX1, "takeFirst", "([I)V"⟩
abbrev cX1_countWays : ByteArray := prog_3_method_8_code
def yX1_countWays : MethodName := ⟨RX1, "countWays", "()J"⟩
abbrev cX1_countComings : ByteArray := prog_3_method_9_code
def yX1_countComings : MethodName := ⟨RX1, "countComings", "()V"⟩
abbrev cX1_timesOf : ByteArray := prog_3_method_10_code
def yX1_timesOf : MethodName := ⟨RX1, "timesOf", "(II)J"⟩
abbrev cX1_mostLeft : ByteArray := prog_3_method_11_code
def yX1_mostLeft : MethodName := ⟨RX1, "mostLeft", "(I)J"⟩
abbrev cX1_takeNumbered : ByteArray := prog_3_method_12_code
def yX1_takeNumbered : MethodName := ⟨RX1, "takeNumbered", "(J[I)V"⟩
abbrev cX1_bestPay : ByteArray := prog_3_method_13_code
def yX1_bestPay : MethodName := ⟨RX1, "bestPay", "()J"⟩
abbrev cX1_gainBy : ByteArray := prog_3_method_14_code
def yX1_gainBy : MethodName := ⟨RX1, "gainBy", "(II)J"⟩
abbrev cX1_takeBestPaid : ByteArray := prog_3_method_15_code
def yX1_takeBestPaid : MethodName := ⟨RX1, "takeBestPaid", "([I)V"⟩
def RX2 : String := "SameKeeper$Lock"
def TX2 : u_T := fun k => match k with
  | 0 => ("SameKeeper$Lock", "code", "LSameKeeper$Code;", true)
  | 1 => ("SameKeeper$Lock", "barge", "[I", true)
  | 2 => ("SameKeeper$Lock", "wet", "[I", true)
  | 3 => ("SameKeeper$Lock", "from", "[I", true)
  | 4 => ("SameKeeper$Lock", "to", "[I", true)
  | 5 => ("SameKeeper$Lock", "days", "I", false)
  | 6 => ("SameKeeper$Lock", "mood", "I", false)
  | 7 => ("SameKeeper$Lock", "mute", "I", false)
  | 8 => ("SameKeeper$Lock", "rain", "I", false)
  | _ => ("SameKeeper$Lock", "statements", "I", false)
def tyX2 : Nat → FieldType := fun k => match k with
  | 0 => .object "SameKeeper$Code"
  | 1 => .array .int
  | 2 => .array .int
  | 3 => .array .int
  | 4 => .array .int
  | 5 => .int
  | 6 => .int
  | 7 => .int
  | 8 => .int
  | _ => .int
abbrev wsX20 : List Cond := u_ws RX2 TX2 10
theorem nmX2 : ∀ a, a < 10 → ∀ b, b < 10 → a ≠ b → (TX2 a).2.1 ≠ (TX2 b).2.1 := by decide +kernel
theorem tyX2_ok : ∀ k, k < 10 → parseFieldDescriptor (TX2 k).2.2.1 = some (tyX2 k) := by decide +kernel
abbrev cX2_init : ByteArray := prog_4_method_1_code
def yX2_init : MethodName := ⟨RX2, "<init>", "()V"⟩
abbrev cX2_clear : ByteArray := prog_4_method_2_code
def yX2_clear : MethodName := ⟨RX2, "clear", "()V"⟩
abbrev cX2_hasSum : ByteArray := prog_4_method_3_code
def yX2_hasSum : MethodName := ⟨RX2, "hasSum", "(I)Z"⟩
abbrev cX2_beginSum : ByteArray := prog_4_method_4_code
def yX2_beginSum : MethodName := ⟨RX2, "beginSum", "(I)V"⟩
abbrev cX2_endSum : ByteArray := prog_4_method_5_code
def yX2_endSum : MethodName := ⟨RX2, "endSum", "(I)V"⟩
abbrev cX2_addUntold : ByteArray := prog_4_method_6_code
def yX2_addUntold : MethodName := ⟨RX2, "addUntold", "()V"⟩
def RX3 : String := "SameKeeper$LockText"
def TX3 : u_T := fun k => match k with
  | 0 => ("SameKeeper$LockText", "reader", "LSameKeeper$Reader;", true)
  | 1 => ("SameKeeper$LockText", "ofMood", "LSameKeeper$Sums;", true)
  | _ => ("SameKeeper$LockText", "ofDeed", "LSameKeeper$Sums;", true)
def tyX3 : Nat → FieldType := fun k => match k with
  | 0 => .object "SameKeeper$Reader"
  | 1 => .object "SameKeeper$Sums"
  | _ => .object "SameKeeper$Sums"
abbrev wsX30 : List Cond := u_ws RX3 TX3 3
theorem nmX3 : ∀ a, a < 3 → ∀ b, b < 3 → a ≠ b → (TX3 a).2.1 ≠ (TX3 b).2.1 := by decide +kernel
theorem tyX3_ok : ∀ k, k < 3 → parseFieldDescriptor (TX3 k).2.2.1 = some (tyX3 k) := by decide +kernel
abbrev cX3_init : ByteArray := prog_5_method_1_code
def yX3_init : MethodName := ⟨RX3, "<init>", "(LSameKeeper$Reader;)V"⟩
abbrev cX3_read : ByteArray := prog_5_method_2_code
def yX3_read : MethodName := ⟨RX3, "read", "(LSameKeeper$Lock;)V"⟩
abbrev cX3_readOpening : ByteArray := prog_5_method_3_code
def yX3_readOpening : MethodName := ⟨RX3, "readOpening", "(LSameKeeper$Lock;)V"⟩
abbrev cX3_readNumbers : ByteArray := prog_5_method_4_code
def yX3_readNumbers : MethodName := ⟨RX3, "readNumbers", "(LSameKeeper$Lock;)V"⟩
abbrev cX3_readSumOf : ByteArray := prog_5_method_5_code
def yX3_readSumOf : MethodName := ⟨RX3, "readSumOf", "(LSameKeeper$Lock;ILSameKeeper$Sums;)V"⟩
abbrev cX3_readAmount : ByteArray := prog_5_method_6_code
def yX3_readAmount : MethodName := ⟨RX3, "readAmount", "(LSameKeeper$Lock;[I)V"⟩
abbrev cX3_readMute : ByteArray := prog_5_method_7_code
def yX3_readMute : MethodName := ⟨RX3, "readMute", "(LSameKeeper$Lock;)V"⟩
def RX4 : String := "SameKeeper$Past"
def TX4 : u_T := fun k => match k with
  | 0 => ("SameKeeper$Past", "states", "[LSameKeeper$State;", true)
  | 1 => ("SameKeeper$Past", "acts", "I", false)
  | 2 => ("SameKeeper$Past", "weekOf", "[I", true)
  | 3 => ("SameKeeper$Past", "agreedOf", "[J", true)
  | _ => ("SameKeeper$Past", "moodOf", "[I", true)
def tyX4 : Nat → FieldType := fun k => match k with
  | 0 => .array (.object "SameKeeper$State")
  | 1 => .int
  | 2 => .array .int
  | 3 => .array .long
  | _ => .array .int
abbrev wsX40 : List Cond := u_ws RX4 TX4 5
theorem nmX4 : ∀ a, a < 5 → ∀ b, b < 5 → a ≠ b → (TX4 a).2.1 ≠ (TX4 b).2.1 := by decide +kernel
theorem tyX4_ok : ∀ k, k < 5 → parseFieldDescriptor (TX4 k).2.2.1 = some (tyX4 k) := by decide +kernel
abbrev cX4_init : ByteArray := prog_6_method_1_code
def yX4_init : MethodName := ⟨RX4, "<init>", "()V"⟩
abbrev cX4_forget : ByteArray := prog_6_method_2_code
def yX4_forget : MethodName := ⟨RX4, "forget", "()V"⟩
abbrev cX4_save : ByteArray := prog_6_method_3_code
def yX4_save : MethodName := ⟨RX4, "save", "(LSameKeeper$State;)V"⟩
abbrev cX4_restore : ByteArray := prog_6_method_4_code
def yX4_restore : MethodName := ⟨RX4, "restore", "(LSameKeeper$State;)Z"⟩
abbrev cX4_keep : ByteArray := prog_6_method_5_code
def yX4_keep : MethodName := ⟨RX4, "keep", "(LSameKeeper$State;JI)V"⟩
abbrev cX4_toldOf : ByteArray := prog_6_method_6_code
def yX4_toldOf : MethodName := ⟨RX4, "toldOf", "(I)I"⟩
abbrev cX4_ofKept : ByteArray := prog_6_method_7_code
def yX4_ofKept : MethodName := ⟨RX4, "ofKept", "(II)J"⟩
def RX5 : String := "SameKeeper$Question"
def TX5 : u_T := fun k => match k with
  | 0 => ("SameKeeper$Question", "reader", "LSameKeeper$Reader;", true)
  | 1 => ("SameKeeper$Question", "sums", "LSameKeeper$Sums;", true)
  | 2 => ("SameKeeper$Question", "code", "LSameKeeper$Code;", true)
  | _ => ("SameKeeper$Question", "verb", "I", false)
def tyX5 : Nat → FieldType := fun k => match k with
  | 0 => .object "SameKeeper$Reader"
  | 1 => .object "SameKeeper$Sums"
  | 2 => .object "SameKeeper$Code"
  | _ => .int
abbrev wsX50 : List Cond := u_ws RX5 TX5 4
theorem nmX5 : ∀ a, a < 4 → ∀ b, b < 4 → a ≠ b → (TX5 a).2.1 ≠ (TX5 b).2.1 := by decide +kernel
theorem tyX5_ok : ∀ k, k < 4 → parseFieldDescriptor (TX5 k).2.2.1 = some (tyX5 k) := by decide +kernel
abbrev cX5_init : ByteArray := prog_7_method_1_code
def yX5_init : MethodName := ⟨RX5, "<init>", "(LSameKeeper$Reader;)V"⟩
abbrev cX5_read : ByteArray := prog_7_method_2_code
def yX5_read : MethodName := ⟨RX5, "read", "()V"⟩
abbrev cX5_readTest : ByteArray := prog_7_method_3_code
def yX5_readTest : MethodName := ⟨RX5, "readTest", "()V"⟩
abbrev cX5_readBoth : ByteArray := prog_7_method_4_code
def yX5_readBoth : MethodName := ⟨RX5, "readBoth", "()V"⟩
abbrev cX5_readFact : ByteArray := prog_7_method_5_code
def yX5_readFact : MethodName := ⟨RX5, "readFact", "()V"⟩
abbrev cX5_stepOf : ByteArray := prog_7_method_6_code
def yX5_stepOf : MethodName := ⟨RX5, "stepOf", "(I)I"⟩
abbrev cX5_answer : ByteArray := prog_7_method_7_code
def yX5_answer : MethodName := ⟨RX5, "answer", "(LSameKeeper$State;LSameKeeper$Graph;[I)J"⟩
abbrev cX5_isOfDays : ByteArray := prog_7_method_8_code
def yX5_isOfDays : MethodName := ⟨RX5, "isOfDays", "()Z"⟩
abbrev cX5_nameDay : ByteArray := prog_7_method_9_code
def yX5_nameDay : MethodName := ⟨RX5, "nameDay", "(LSameKeeper$State;LSameKeeper$Graph;II)V"⟩
abbrev cX5_joined : ByteArray := prog_7_method_10_code
def yX5_joined : MethodName := ⟨RX5, "joined", "(JJI)J"⟩
def RX6 : String := "SameKeeper$Reader"
def TX6 : u_T := fun k => match k with
  | 0 => ("SameKeeper$Reader", "tape", "LSameKeeper$Tape;", true)
  | 1 => ("SameKeeper$Reader", "at", "I", false)
  | 2 => ("SameKeeper$Reader", "value", "I", false)
  | 3 => ("SameKeeper$Reader", "open", "I", false)
  | 4 => ("SameKeeper$Reader", "token", "I", false)
  | 5 => ("SameKeeper$Reader", "start", "I", false)
  | 6 => ("SameKeeper$Reader", "fault", "I", false)
  | _ => ("SameKeeper$Reader", "place", "I", false)
def tyX6 : Nat → FieldType := fun k => match k with
  | 0 => .object "SameKeeper$Tape"
  | 1 => .int
  | 2 => .int
  | 3 => .int
  | 4 => .int
  | 5 => .int
  | 6 => .int
  | _ => .int
abbrev wsX60 : List Cond := u_ws RX6 TX6 8
theorem nmX6 : ∀ a, a < 8 → ∀ b, b < 8 → a ≠ b → (TX6 a).2.1 ≠ (TX6 b).2.1 := by decide +kernel
theorem tyX6_ok : ∀ k, k < 8 → parseFieldDescriptor (TX6 k).2.2.1 = some (tyX6 k) := by decide +kernel
abbrev cX6_init : ByteArray := prog_8_method_1_code
def yX6_init : MethodName := ⟨RX6, "<init>", "(LSameKeeper$Tape;)V"⟩
abbrev cX6_begin : ByteArray := prog_8_method_2_code
def yX6_begin : MethodName := ⟨RX6, "begin", "()V"⟩
abbrev cX6_fail : ByteArray := prog_8_method_3_code
def yX6_fail : MethodName := ⟨RX6, "fail", "(II)V"⟩
abbrev cX6_failHere : ByteArray := prog_8_method_4_code
def yX6_failHere : MethodName := ⟨RX6, "failHere", "()V"⟩
abbrev cX6_step : ByteArray := prog_8_method_5_code
def yX6_step : MethodName := ⟨RX6, "step", "()V"⟩
abbrev cX6_readWord : ByteArray := prog_8_method_6_code
def yX6_readWord : MethodName := ⟨RX6, "readWord", "()V"⟩
abbrev cX6_readNumber : ByteArray := prog_8_method_7_code
def yX6_readNumber : MethodName := ⟨RX6, "readNumber", "()V"⟩
abbrev cX6_takes : ByteArray := prog_8_method_8_code
def yX6_takes : MethodName := ⟨RX6, "takes", "(I)Z"⟩
abbrev cX6_needs : ByteArray := prog_8_method_9_code
def yX6_needs : MethodName := ⟨RX6, "needs", "(I)V"⟩
abbrev cX6_takeNumber : ByteArray := prog_8_method_10_code
def yX6_takeNumber : MethodName := ⟨RX6, "takeNumber", "(II)I"⟩
abbrev cX6_opens : ByteArray := prog_8_method_11_code
def yX6_opens : MethodName := ⟨RX6, "opens", "(I)Z"⟩
abbrev cX6_shuts : ByteArray := prog_8_method_12_code
def yX6_shuts : MethodName := ⟨RX6, "shuts", "()V"⟩
def RX7 : String := "SameKeeper$State"
def TX7 : u_T := fun k => match k with
  | 0 => ("SameKeeper$State", "barge", "[I", true)
  | 1 => ("SameKeeper$State", "wet", "[I", true)
  | 2 => ("SameKeeper$State", "days", "I", false)
  | 3 => ("SameKeeper$State", "week", "I", false)
  | 4 => ("SameKeeper$State", "mood", "I", false)
  | 5 => ("SameKeeper$State", "mute", "I", false)
  | _ => ("SameKeeper$State", "kept", "I", false)
def tyX7 : Nat → FieldType := fun k => match k with
  | 0 => .array .int
  | 1 => .array .int
  | 2 => .int
  | 3 => .int
  | 4 => .int
  | 5 => .int
  | _ => .int
abbrev wsX70 : List Cond := u_ws RX7 TX7 7
theorem nmX7 : ∀ a, a < 7 → ∀ b, b < 7 → a ≠ b → (TX7 a).2.1 ≠ (TX7 b).2.1 := by decide +kernel
theorem tyX7_ok : ∀ k, k < 7 → parseFieldDescriptor (TX7 k).2.2.1 = some (tyX7 k) := by decide +kernel
abbrev cX7_init : ByteArray := prog_9_method_1_code
def yX7_init : MethodName := ⟨RX7, "<init>", "()V"⟩
abbrev cX7_begin : ByteArray := prog_9_method_2_code
def yX7_begin : MethodName := ⟨RX7, "begin", "(LSameKeeper$Lock;)V"⟩
abbrev cX7_copy : ByteArray := prog_9_method_3_code
def yX7_copy : MethodName := ⟨RX7, "copy", "(LSameKeeper$State;)V"⟩
abbrev cX7_isMute : ByteArray := prog_9_method_4_code
def yX7_isMute : MethodName := ⟨RX7, "isMute", "(I)Z"⟩
abbrev cX7_amount : ByteArray := prog_9_method_5_code
def yX7_amount : MethodName := ⟨RX7, "amount", "(II)I"⟩
abbrev cX7_put : ByteArray := prog_9_method_6_code
def yX7_put : MethodName := ⟨RX7, "put", "(III)V"⟩
def RX8 : String := "SameKeeper$Sums"
def TX8 : u_T := fun k => match k with
  | 0 => ("SameKeeper$Sums", "reader", "LSameKeeper$Reader;", true)
  | _ => ("SameKeeper$Sums", "kind", "I", true)
def tyX8 : Nat → FieldType := fun k => match k with
  | 0 => .object "SameKeeper$Reader"
  | _ => .int
abbrev wsX80 : List Cond := u_ws RX8 TX8 2
theorem nmX8 : ∀ a, a < 2 → ∀ b, b < 2 → a ≠ b → (TX8 a).2.1 ≠ (TX8 b).2.1 := by decide +kernel
theorem tyX8_ok : ∀ k, k < 2 → parseFieldDescriptor (TX8 k).2.2.1 = some (tyX8 k) := by decide +kernel
abbrev cX8_init : ByteArray := prog_10_method_1_code
def yX8_init : MethodName := ⟨RX8, "<init>", "(LSameKeeper$Reader;I)V"⟩
abbrev cX8_read : ByteArray := prog_10_method_2_code
def yX8_read : MethodName := ⟨RX8, "read", "(LSameKeeper$Code;)V"⟩
abbrev cX8_readSum : ByteArray := prog_10_method_3_code
def yX8_readSum : MethodName := ⟨RX8, "readSum", "(LSameKeeper$Code;)V"⟩
abbrev cX8_readProduct : ByteArray := prog_10_method_4_code
def yX8_readProduct : MethodName := ⟨RX8, "readProduct", "(LSameKeeper$Code;)V"⟩
abbrev cX8_readPart : ByteArray := prog_10_method_5_code
def yX8_readPart : MethodName := ⟨RX8, "readPart", "(LSameKeeper$Code;)V"⟩
abbrev cX8_readPair : ByteArray := prog_10_method_6_code
def yX8_readPair : MethodName := ⟨RX8, "readPair", "(LSameKeeper$Code;I)V"⟩
abbrev cX8_nameInLock : ByteArray := prog_10_method_7_code
def yX8_nameInLock : MethodName := ⟨RX8, "nameInLock", "(I)I"⟩
abbrev cX8_nameInQuestion : ByteArray := prog_10_method_8_code
def yX8_nameInQuestion : MethodName := ⟨RX8, "nameInQuestion", "(I)I"⟩
def RX9 : String := "SameKeeper$Table"
def TX9 : u_T := fun k => match k with
  | 0 => ("SameKeeper$Table", "said", "[I", true)
  | 1 => ("SameKeeper$Table", "turned", "[I", true)
  | 2 => ("SameKeeper$Table", "alone", "[I", true)
  | 3 => ("SameKeeper$Table", "open", "[I", true)
  | 4 => ("SameKeeper$Table", "wages", "[J", true)
  | _ => ("SameKeeper$Table", "keys", "[I", true)
def tyX9 : Nat → FieldType := fun k => match k with
  | 0 => .array .int
  | 1 => .array .int
  | 2 => .array .int
  | 3 => .array .int
  | 4 => .array .long
  | _ => .array .int
abbrev wsX90 : List Cond := u_ws RX9 TX9 6
theorem nmX9 : ∀ a, a < 6 → ∀ b, b < 6 → a ≠ b → (TX9 a).2.1 ≠ (TX9 b).2.1 := by decide +kernel
theorem tyX9_ok : ∀ k, k < 6 → parseFieldDescriptor (TX9 k).2.2.1 = some (tyX9 k) := by decide +kernel
abbrev cX9_init : ByteArray := prog_11_method_1_code
def yX9_init : MethodName := ⟨RX9, "<init>", "()V"⟩
abbrev cX9_forget : ByteArray := prog_11_method_2_code
def yX9_forget : MethodName := ⟨RX9, "forget", "()V"⟩
abbrev cX9_fit : ByteArray := prog_11_method_3_code
def yX9_fit : MethodName := ⟨RX9, "fit", "(LSameKeeper$Lock;LSameKeeper$State;)V"⟩
abbrev cX9_nameDay : ByteArray := prog_11_method_4_code
def yX9_nameDay : MethodName := ⟨RX9, "nameDay", "(LSameKeeper$Code;LSameKeeper$State;I)V"⟩
abbrev cX9_fillWords : ByteArray := prog_11_method_5_code
def yX9_fillWords : MethodName := ⟨RX9, "fillWords", "(LSameKeeper$Lock;I)V"⟩
abbrev cX9_fillDeeds : ByteArray := prog_11_method_6_code
def yX9_fillDeeds : MethodName := ⟨RX9, "fillDeeds", "(LSameKeeper$Lock;I)V"⟩
abbrev cX9_moodsBehind : ByteArray := prog_11_method_7_code
def yX9_moodsBehind : MethodName := ⟨RX9, "moodsBehind", "(III)I"⟩
abbrev cX9_moodsThatSay : ByteArray := prog_11_method_8_code
def yX9_moodsThatSay : MethodName := ⟨RX9, "moodsThatSay", "(II)I"⟩
def RX10 : String := "SameKeeper$Tape"
def TX10 : u_T := fun k => match k with
  | 0 => ("SameKeeper$Tape", "bytes", "[I", true)
  | _ => ("SameKeeper$Tape", "length", "I", false)
def tyX10 : Nat → FieldType := fun k => match k with
  | 0 => .array .int
  | _ => .int
abbrev wsX100 : List Cond := u_ws RX10 TX10 2
theorem nmX10 : ∀ a, a < 2 → ∀ b, b < 2 → a ≠ b → (TX10 a).2.1 ≠ (TX10 b).2.1 := by decide +kernel
theorem tyX10_ok : ∀ k, k < 2 → parseFieldDescriptor (TX10 k).2.2.1 = some (tyX10 k) := by decide +kernel
abbrev cX10_init : ByteArray := prog_12_method_1_code
def yX10_init : MethodName := ⟨RX10, "<init>", "(I)V"⟩
abbrev cX10_add : ByteArray := prog_12_method_2_code
def yX10_add : MethodName := ⟨RX10, "add", "(I)V"⟩
abbrev cX10_addNumber : ByteArray := prog_12_method_3_code
def yX10_addNumber : MethodName := ⟨RX10, "addNumber", "(I)V"⟩
abbrev cX10_left : ByteArray := prog_12_method_4_code
def yX10_left : MethodName := ⟨RX10, "left", "(I)I"⟩
abbrev cX10_checkOf : ByteArray := prog_12_method_5_code
def yX10_checkOf : MethodName := ⟨RX10, "checkOf", "(I)I"⟩
def RX11 : String := "SameKeeper"
def TX11 : u_T := fun k => match k with
  | 0 => ("SameKeeper", "tape", "LSameKeeper$Tape;", true)
  | 1 => ("SameKeeper", "picture", "LSameKeeper$Tape;", true)
  | 2 => ("SameKeeper", "reader", "LSameKeeper$Reader;", true)
  | 3 => ("SameKeeper", "lockText", "LSameKeeper$LockText;", true)
  | 4 => ("SameKeeper", "question", "LSameKeeper$Question;", true)
  | 5 => ("SameKeeper", "held", "LSameKeeper$Lock;", false)
  | 6 => ("SameKeeper", "draft", "LSameKeeper$Lock;", false)
  | 7 => ("SameKeeper", "now", "LSameKeeper$State;", true)
  | 8 => ("SameKeeper", "trial", "LSameKeeper$State;", true)
  | 9 => ("SameKeeper", "past", "LSameKeeper$Past;", true)
  | 10 => ("SameKeeper", "table", "LSameKeeper$Table;", true)
  | 11 => ("SameKeeper", "graph", "LSameKeeper$Graph;", true)
  | 12 => ("SameKeeper", "row", "[I", true)
  | 13 => ("SameKeeper", "otherRow", "[I", true)
  | 14 => ("SameKeeper", "heardRows", "[I", true)
  | 15 => ("SameKeeper", "heardCount", "I", false)
  | 16 => ("SameKeeper", "refused", "[I", true)
  | _ => ("SameKeeper", "drawn", "J", false)
def tyX11 : Nat → FieldType := fun k => match k with
  | 0 => .object "SameKeeper$Tape"
  | 1 => .object "SameKeeper$Tape"
  | 2 => .object "SameKeeper$Reader"
  | 3 => .object "SameKeeper$LockText"
  | 4 => .object "SameKeeper$Question"
  | 5 => .object "SameKeeper$Lock"
  | 6 => .object "SameKeeper$Lock"
  | 7 => .object "SameKeeper$State"
  | 8 => .object "SameKeeper$State"
  | 9 => .object "SameKeeper$Past"
  | 10 => .object "SameKeeper$Table"
  | 11 => .object "SameKeeper$Graph"
  | 12 => .array .int
  | 13 => .array .int
  | 14 => .array .int
  | 15 => .int
  | 16 => .array .int
  | _ => .long
abbrev wsX110 : List Cond := u_ws RX11 TX11 18
theorem nmX11 : ∀ a, a < 18 → ∀ b, b < 18 → a ≠ b → (TX11 a).2.1 ≠ (TX11 b).2.1 := by decide +kernel
theorem tyX11_ok : ∀ k, k < 18 → parseFieldDescriptor (TX11 k).2.2.1 = some (tyX11 k) := by decide +kernel
abbrev cX11_init : ByteArray := prog_1_method_1_code
def yX11_init : MethodName := ⟨RX11, "<init>", "()V"⟩
abbrev cX11_feed : ByteArray := prog_1_method_2_code
def yX11_feed : MethodName := ⟨RX11, "feed", "(IIIII)I"⟩
abbrev cX11_end : ByteArray := prog_1_method_3_code
def yX11_end : MethodName := ⟨RX11, "end", "(I)Z"⟩
abbrev cX11_lock : ByteArray := prog_1_method_4_code
def yX11_lock : MethodName := ⟨RX11, "lock", "()I"⟩
abbrev cX11_fault : ByteArray := prog_1_method_5_code
def yX11_fault : MethodName := ⟨RX11, "fault", "(I)I"⟩
abbrev cX11_has : ByteArray := prog_1_method_6_code
def yX11_has : MethodName := ⟨RX11, "has", "(I)I"⟩
abbrev cX11_day : ByteArray := prog_1_method_7_code
def yX11_day : MethodName := ⟨RX11, "day", "(II)I"⟩
abbrev cX11_told : ByteArray := prog_1_method_8_code
def yX11_told : MethodName := ⟨RX11, "told", "(II)I"⟩
abbrev cX11_does : ByteArray := prog_1_method_9_code
def yX11_does : MethodName := ⟨RX11, "does", "(III)I"⟩
abbrev cX11_kept : ByteArray := prog_1_method_10_code
def yX11_kept : MethodName := ⟨RX11, "kept", "(II)J"⟩
abbrev cX11_weeks : ByteArray := prog_1_method_11_code
def yX11_weeks : MethodName := ⟨RX11, "weeks", "()J"⟩
abbrev cX11_mood : ByteArray := prog_1_method_12_code
def yX11_mood : MethodName := ⟨RX11, "mood", "(II)I"⟩
abbrev cX11_many : ByteArray := prog_1_method_13_code
def yX11_many : MethodName := ⟨RX11, "many", "(II)J"⟩
abbrev cX11_hushed : ByteArray := prog_1_method_14_code
def yX11_hushed : MethodName := ⟨RX11, "hushed", "()I"⟩
abbrev cX11_wished : ByteArray := prog_1_method_15_code
def yX11_wished : MethodName := ⟨RX11, "wished", "(II)I"⟩
abbrev cX11_lies : ByteArray := prog_1_method_16_code
def yX11_lies : MethodName := ⟨RX11, "lies", "()I"⟩
abbrev cX11_later : ByteArray := prog_1_method_17_code
def yX11_later : MethodName := ⟨RX11, "later", "(I)I"⟩
abbrev cX11_ring : ByteArray := prog_1_method_18_code
def yX11_ring : MethodName := ⟨RX11, "ring", "()I"⟩
abbrev cX11_frees : ByteArray := prog_1_method_19_code
def yX11_frees : MethodName := ⟨RX11, "frees", "(II)I"⟩
abbrev cX11_pay : ByteArray := prog_1_method_20_code
def yX11_pay : MethodName := ⟨RX11, "pay", "()J"⟩
abbrev cX11_paid : ByteArray := prog_1_method_21_code
def yX11_paid : MethodName := ⟨RX11, "paid", "(I)I"⟩
abbrev cX11_rest : ByteArray := prog_1_method_22_code
def yX11_rest : MethodName := ⟨RX11, "rest", "()I"⟩
abbrev cX11_unlike : ByteArray := prog_1_method_23_code
def yX11_unlike : MethodName := ⟨RX11, "unlike", "(II)I"⟩
abbrev cX11_known : ByteArray := prog_1_method_24_code
def yX11_known : MethodName := ⟨RX11, "known", "(III)I"⟩
abbrev cX11_sure : ByteArray := prog_1_method_25_code
def yX11_sure : MethodName := ⟨RX11, "sure", "(II)I"⟩
abbrev cX11_hear : ByteArray := prog_1_method_26_code
def yX11_hear : MethodName := ⟨RX11, "hear", "()I"⟩
abbrev cX11_heard : ByteArray := prog_1_method_27_code
def yX11_heard : MethodName := ⟨RX11, "heard", "()J"⟩
abbrev cX11_tells : ByteArray := prog_1_method_28_code
def yX11_tells : MethodName := ⟨RX11, "tells", "(I)J"⟩
abbrev cX11_same : ByteArray := prog_1_method_29_code
def yX11_same : MethodName := ⟨RX11, "same", "(II)I"⟩
abbrev cX11_set : ByteArray := prog_1_method_30_code
def yX11_set : MethodName := ⟨RX11, "set", "(III)Z"⟩
abbrev cX11_mute : ByteArray := prog_1_method_31_code
def yX11_mute : MethodName := ⟨RX11, "mute", "(II)Z"⟩
abbrev cX11_go : ByteArray := prog_1_method_32_code
def yX11_go : MethodName := ⟨RX11, "go", "()I"⟩
abbrev cX11_chance : ByteArray := prog_1_method_33_code
def yX11_chance : MethodName := ⟨RX11, "chance", "(I)I"⟩
abbrev cX11_undo : ByteArray := prog_1_method_34_code
def yX11_undo : MethodName := ⟨RX11, "undo", "()Z"⟩
abbrev cX11_seed : ByteArray := prog_1_method_35_code
def yX11_seed : MethodName := ⟨RX11, "seed", "(I)Z"⟩
abbrev cX11_ask : ByteArray := prog_1_method_36_code
def yX11_ask : MethodName := ⟨RX11, "ask", "()J"⟩
abbrev cX11_image : ByteArray := prog_1_method_37_code
def yX11_image : MethodName := ⟨RX11, "image", "()I"⟩
abbrev cX11_octet : ByteArray := prog_1_method_38_code
def yX11_octet : MethodName := ⟨RX11, "octet", "(I)I"⟩
abbrev cX11_on : ByteArray := prog_1_method_39_code
def yX11_on : MethodName := ⟨RX11, "on", "()Z"⟩
abbrev cX11_status : ByteArray := prog_1_method_40_code
def yX11_status : MethodName := ⟨RX11, "status", "(I)I"⟩
abbrev cX11_refuse : ByteArray := prog_1_method_41_code
def yX11_refuse : MethodName := ⟨RX11, "refuse", "(I)I"⟩
abbrev cX11_refuseIt : ByteArray := prog_1_method_42_code
def yX11_refuseIt : MethodName := ⟨RX11, "refuseIt", "(I)Z"⟩
abbrev cX11_isLocked : ByteArray := prog_1_method_43_code
def yX11_isLocked : MethodName := ⟨RX11, "isLocked", "()Z"⟩
abbrev cX11_isDay : ByteArray := prog_1_method_44_code
def yX11_isDay : MethodName := ⟨RX11, "isDay", "(I)Z"⟩
abbrev cX11_isDigit : ByteArray := prog_1_method_45_code
def yX11_isDigit : MethodName := ⟨RX11, "isDigit", "(I)Z"⟩
abbrev cX11_isWordOf : ByteArray := prog_1_method_46_code
def yX11_isWordOf : MethodName := ⟨RX11, "isWordOf", "(II)Z"⟩
abbrev cX11_lookAt : ByteArray := prog_1_method_47_code
def yX11_lookAt : MethodName := ⟨RX11, "lookAt", "(LSameKeeper$State;)Z"⟩
abbrev cX11_lookByWord : ByteArray := prog_1_method_48_code
def yX11_lookByWord : MethodName := ⟨RX11, "lookByWord", "(II)Z"⟩
abbrev cX11_lookByHeard : ByteArray := prog_1_method_49_code
def yX11_lookByHeard : MethodName := ⟨RX11, "lookByHeard", "()Z"⟩
abbrev cX11_takeWeek : ByteArray := prog_1_method_50_code
def yX11_takeWeek : MethodName := ⟨RX11, "takeWeek", "(I[I)Z"⟩
abbrev cX11_stepAhead : ByteArray := prog_1_method_51_code
def yX11_stepAhead : MethodName := ⟨RX11, "stepAhead", "()Z"⟩
abbrev cX11_fewest : ByteArray := prog_1_method_52_code
def yX11_fewest : MethodName := ⟨RX11, "fewest", "(III)I"⟩
abbrev cX11_serves : ByteArray := prog_1_method_53_code
def yX11_serves : MethodName := ⟨RX11, "serves", "(IIII)Z"⟩
abbrev cX11_isAtRest : ByteArray := prog_1_method_54_code
def yX11_isAtRest : MethodName := ⟨RX11, "isAtRest", "(I)Z"⟩
abbrev cX11_pass : ByteArray := prog_1_method_55_code
def yX11_pass : MethodName := ⟨RX11, "pass", "(J)V"⟩
abbrev cX11_passByChance : ByteArray := prog_1_method_56_code
def yX11_passByChance : MethodName := ⟨RX11, "passByChance", "()Z"⟩
abbrev cX11_draw : ByteArray := prog_1_method_57_code
def yX11_draw : MethodName := ⟨RX11, "draw", "(J)J"⟩
abbrev cX11_tellsRows : ByteArray := prog_1_method_58_code
def yX11_tellsRows : MethodName := ⟨RX11, "tellsRows", "()Z"⟩
abbrev cX11_tellsImage : ByteArray := prog_1_method_59_code
def yX11_tellsImage : MethodName := ⟨RX11, "tellsImage", "()Z"⟩
def RX12 : String := "SameKeeperModel"
def TX12 : u_T := fun k => match k with
  | 0 => ("SameKeeperModel", "tape", "[I", true)
  | 1 => ("SameKeeperModel", "taped", "I", false)
  | 2 => ("SameKeeperModel", "at", "I", false)
  | 3 => ("SameKeeperModel", "end", "I", false)
  | 4 => ("SameKeeperModel", "ended", "I", false)
  | 5 => ("SameKeeperModel", "bad", "I", false)
  | 6 => ("SameKeeperModel", "badPlace", "I", false)
  | 7 => ("SameKeeperModel", "fault", "I", false)
  | 8 => ("SameKeeperModel", "faultPlace", "I", false)
  | 9 => ("SameKeeperModel", "refused", "[I", true)
  | 10 => ("SameKeeperModel", "numberPlace", "I", false)
  | 11 => ("SameKeeperModel", "lockWord", "[C", true)
  | 12 => ("SameKeeperModel", "fromWord", "[C", true)
  | 13 => ("SameKeeperModel", "bargeWord", "[C", true)
  | 14 => ("SameKeeperModel", "wetWord", "[C", true)
  | 15 => ("SameKeeperModel", "muteWord", "[C", true)
  | 16 => ("SameKeeperModel", "saysWord", "[C", true)
  | 17 => ("SameKeeperModel", "doesWord", "[C", true)
  | 18 => ("SameKeeperModel", "wageWord", "[C", true)
  | 19 => ("SameKeeperModel", "rainWord", "[C", true)
  | 20 => ("SameKeeperModel", "lock0", "[I", true)
  | 21 => ("SameKeeperModel", "days0", "[I", true)
  | 22 => ("SameKeeperModel", "rainTold", "I", false)
  | 23 => ("SameKeeperModel", "rain", "I", false)
  | 24 => ("SameKeeperModel", "codeFrom", "[I", true)
  | 25 => ("SameKeeperModel", "codeEnd", "[I", true)
  | 26 => ("SameKeeperModel", "codes", "[I", true)
  | 27 => ("SameKeeperModel", "coded", "I", false)
  | 28 => ("SameKeeperModel", "statements", "I", false)
  | 29 => ("SameKeeperModel", "isLock", "Z", false)
  | 30 => ("SameKeeperModel", "textKind", "I", false)
  | 31 => ("SameKeeperModel", "now", "[I", true)
  | 32 => ("SameKeeperModel", "aside", "[I", true)
  | 33 => ("SameKeeperModel", "askMood", "I", false)
  | 34 => ("SameKeeperModel", "askTold", "I", false)
  | 35 => ("SameKeeperModel", "askAlone", "I", false)
  | 36 => ("SameKeeperModel", "withWord", "[Z", true)
  | 37 => ("SameKeeperModel", "without", "[Z", true)
  | 38 => ("SameKeeperModel", "words", "[I", true)
  | 39 => ("SameKeeperModel", "muteToo", "I", false)
  | 40 => ("SameKeeperModel", "byHeard", "Z", false)
  | 41 => ("SameKeeperModel", "wordDay", "I", false)
  | 42 => ("SameKeeperModel", "wordTold", "I", false)
  | 43 => ("SameKeeperModel", "behind", "[J", true)
  | 44 => ("SameKeeperModel", "before", "[J", true)
  | 45 => ("SameKeeperModel", "ways", "J", false)
  | 46 => ("SameKeeperModel", "path", "[I", true)
  | 47 => ("SameKeeperModel", "isThought", "Z", false)
  | 48 => ("SameKeeperModel", "pays", "[J", true)
  | 49 => ("SameKeeperModel", "wages", "[J", true)
  | 50 => ("SameKeeperModel", "agrees0", "[Z", true)
  | 51 => ("SameKeeperModel", "other0", "[I", true)
  | 52 => ("SameKeeperModel", "rowMany", "I", false)
  | 53 => ("SameKeeperModel", "rows", "[I", true)
  | 54 => ("SameKeeperModel", "kept0", "[I", true)
  | 55 => ("SameKeeperModel", "undoable", "I", false)
  | 56 => ("SameKeeperModel", "newest", "I", false)
  | 57 => ("SameKeeperModel", "seeded", "J", false)
  | 58 => ("SameKeeperModel", "firstAsked", "[C", true)
  | 59 => ("SameKeeperModel", "lastAsked", "[C", true)
  | 60 => ("SameKeeperModel", "oftenAsked", "[C", true)
  | 61 => ("SameKeeperModel", "totalAsked", "[C", true)
  | 62 => ("SameKeeperModel", "mostAsked", "[C", true)
  | 63 => ("SameKeeperModel", "leastAsked", "[C", true)
  | 64 => ("SameKeeperModel", "notAsked", "[C", true)
  | 65 => ("SameKeeperModel", "andAsked", "[C", true)
  | 66 => ("SameKeeperModel", "orAsked", "[C", true)
  | 67 => ("SameKeeperModel", "allAsked", "[C", true)
  | 68 => ("SameKeeperModel", "minAsked", "[C", true)
  | 69 => ("SameKeeperModel", "maxAsked", "[C", true)
  | 70 => ("SameKeeperModel", "moodAsked", "[C", true)
  | 71 => ("SameKeeperModel", "bargeAsked", "[C", true)
  | 72 => ("SameKeeperModel", "wetAsked", "[C", true)
  | 73 => ("SameKeeperModel", "dayAsked", "[C", true)
  | 74 => ("SameKeeperModel", "weekAsked", "[C", true)
  | 75 => ("SameKeeperModel", "toldAsked", "[C", true)
  | 76 => ("SameKeeperModel", "aloneAsked", "[C", true)
  | 77 => ("SameKeeperModel", "numberAsked", "[C", true)
  | 78 => ("SameKeeperModel", "muteAsked", "[C", true)
  | 79 => ("SameKeeperModel", "weeksAsked", "[C", true)
  | 80 => ("SameKeeperModel", "qCodes", "[I", true)
  | 81 => ("SameKeeperModel", "qCoded", "I", false)
  | 82 => ("SameKeeperModel", "qWait", "[I", true)
  | 83 => ("SameKeeperModel", "qWaits", "I", false)
  | 84 => ("SameKeeperModel", "qOpened", "I", false)
  | 85 => ("SameKeeperModel", "qBase", "I", false)
  | 86 => ("SameKeeperModel", "qPile", "[J", true)
  | 87 => ("SameKeeperModel", "qPiled", "I", false)
  | 88 => ("SameKeeperModel", "qAnswer", "J", false)
  | 89 => ("SameKeeperModel", "qIsNew", "Z", false)
  | 90 => ("SameKeeperModel", "octet", "[I", true)
  | _ => ("SameKeeperModel", "octets", "I", false)
def tyX12 : Nat → FieldType := fun k => match k with
  | 0 => .array .int
  | 1 => .int
  | 2 => .int
  | 3 => .int
  | 4 => .int
  | 5 => .int
  | 6 => .int
  | 7 => .int
  | 8 => .int
  | 9 => .array .int
  | 10 => .int
  | 11 => .array .char
  | 12 => .array .char
  | 13 => .array .char
  | 14 => .array .char
  | 15 => .array .char
  | 16 => .array .char
  | 17 => .array .char
  | 18 => .array .char
  | 19 => .array .char
  | 20 => .array .int
  | 21 => .array .int
  | 22 => .int
  | 23 => .int
  | 24 => .array .int
  | 25 => .array .int
  | 26 => .array .int
  | 27 => .int
  | 28 => .int
  | 29 => .boolean
  | 30 => .int
  | 31 => .array .int
  | 32 => .array .int
  | 33 => .int
  | 34 => .int
  | 35 => .int
  | 36 => .array .boolean
  | 37 => .array .boolean
  | 38 => .array .int
  | 39 => .int
  | 40 => .boolean
  | 41 => .int
  | 42 => .int
  | 43 => .array .long
  | 44 => .array .long
  | 45 => .long
  | 46 => .array .int
  | 47 => .boolean
  | 48 => .array .long
  | 49 => .array .long
  | 50 => .array .boolean
  | 51 => .array .int
  | 52 => .int
  | 53 => .array .int
  | 54 => .array .int
  | 55 => .int
  | 56 => .int
  | 57 => .long
  | 58 => .array .char
  | 59 => .array .char
  | 60 => .array .char
  | 61 => .array .char
  | 62 => .array .char
  | 63 => .array .char
  | 64 => .array .char
  | 65 => .array .char
  | 66 => .array .char
  | 67 => .array .char
  | 68 => .array .char
  | 69 => .array .char
  | 70 => .array .char
  | 71 => .array .char
  | 72 => .array .char
  | 73 => .array .char
  | 74 => .array .char
  | 75 => .array .char
  | 76 => .array .char
  | 77 => .array .char
  | 78 => .array .char
  | 79 => .array .char
  | 80 => .array .int
  | 81 => .int
  | 82 => .array .int
  | 83 => .int
  | 84 => .int
  | 85 => .int
  | 86 => .array .long
  | 87 => .int
  | 88 => .long
  | 89 => .boolean
  | 90 => .array .int
  | _ => .int
abbrev wsX120 : List Cond := u_ws RX12 TX12 92
theorem nmX12 : ∀ a, a < 92 → ∀ b, b < 92 → a ≠ b → (TX12 a).2.1 ≠ (TX12 b).2.1 := by decide +kernel
theorem tyX12_ok : ∀ k, k < 92 → parseFieldDescriptor (TX12 k).2.2.1 = some (tyX12 k) := by decide +kernel
abbrev cX12_init : ByteArray := prog_14_method_1_code
def yX12_init : MethodName := ⟨RX12, "<init>", "()V"⟩
abbrev cX12_isIn : ByteArray := prog_14_method_2_code
def yX12_isIn : MethodName := ⟨RX12, "isIn", "(JJJ)Z"⟩
abbrev cX12_feed : ByteArray := prog_14_method_3_code
def yX12_feed : MethodName := ⟨RX12, "feed", "(IIIII)I"⟩
abbrev cX12_end : ByteArray := prog_14_method_4_code
def yX12_end : MethodName := ⟨RX12, "end", "(I)Z"⟩
abbrev cX12_fail : ByteArray := prog_14_method_5_code
def yX12_fail : MethodName := ⟨RX12, "fail", "(II)V"⟩
abbrev cX12_isLetter : ByteArray := prog_14_method_6_code
def yX12_isLetter : MethodName := ⟨RX12, "isLetter", "(I)Z"⟩
abbrev cX12_isDigit : ByteArray := prog_14_method_7_code
def yX12_isDigit : MethodName := ⟨RX12, "isDigit", "(I)Z"⟩
abbrev cX12_look : ByteArray := prog_14_method_8_code
def yX12_look : MethodName := ⟨RX12, "look", "()I"⟩
abbrev cX12_isHere : ByteArray := prog_14_method_9_code
def yX12_isHere : MethodName := ⟨RX12, "isHere", "([C)Z"⟩
abbrev cX12_takes : ByteArray := prog_14_method_10_code
def yX12_takes : MethodName := ⟨RX12, "takes", "([C)Z"⟩
abbrev cX12_asks : ByteArray := prog_14_method_11_code
def yX12_asks : MethodName := ⟨RX12, "asks", "([C)V"⟩
abbrev cX12_takesSign : ByteArray := prog_14_method_12_code
def yX12_takesSign : MethodName := ⟨RX12, "takesSign", "(I)Z"⟩
abbrev cX12_asksSign : ByteArray := prog_14_method_13_code
def yX12_asksSign : MethodName := ⟨RX12, "asksSign", "(I)V"⟩
abbrev cX12_number : ByteArray := prog_14_method_14_code
def yX12_number : MethodName := ⟨RX12, "number", "(II)I"⟩
abbrev cX12_isAllowed : ByteArray := prog_14_method_15_code
def yX12_isAllowed : MethodName := ⟨RX12, "isAllowed", "(I)Z"⟩
abbrev cX12_lockTold : ByteArray := prog_14_method_16_code
def yX12_lockTold : MethodName := ⟨RX12, "lockTold", "()V"⟩
abbrev cX12_dayTold : ByteArray := prog_14_method_17_code
def yX12_dayTold : MethodName := ⟨RX12, "dayTold", "(I)V"⟩
abbrev cX12_muteTold : ByteArray := prog_14_method_18_code
def yX12_muteTold : MethodName := ⟨RX12, "muteTold", "()V"⟩
abbrev cX12_codesTold : ByteArray := prog_14_method_19_code
def yX12_codesTold : MethodName := ⟨RX12, "codesTold", "(II)V"⟩
abbrev cX12_statementTold : ByteArray := prog_14_method_20_code
def yX12_statementTold : MethodName := ⟨RX12, "statementTold", "()V"⟩
abbrev cX12_lock : ByteArray := prog_14_method_21_code
def yX12_lock : MethodName := ⟨RX12, "lock", "()I"⟩
abbrev cX12_stands : ByteArray := prog_14_method_22_code
def yX12_stands : MethodName := ⟨RX12, "stands", "()V"⟩
abbrev cX12_fault : ByteArray := prog_14_method_23_code
def yX12_fault : MethodName := ⟨RX12, "fault", "(I)I"⟩
abbrev cX12_dayMany : ByteArray := prog_14_method_24_code
def yX12_dayMany : MethodName := ⟨RX12, "dayMany", "()I"⟩
abbrev cX12_isDay : ByteArray := prog_14_method_25_code
def yX12_isDay : MethodName := ⟨RX12, "isDay", "(I)Z"⟩
abbrev cX12_isMood : ByteArray := prog_14_method_26_code
def yX12_isMood : MethodName := ⟨RX12, "isMood", "(I)Z"⟩
abbrev cX12_bargeOf : ByteArray := prog_14_method_27_code
def yX12_bargeOf : MethodName := ⟨RX12, "bargeOf", "(I)I"⟩
abbrev cX12_wetOf : ByteArray := prog_14_method_28_code
def yX12_wetOf : MethodName := ⟨RX12, "wetOf", "(I)I"⟩
abbrev cX12_isMute : ByteArray := prog_14_method_29_code
def yX12_isMute : MethodName := ⟨RX12, "isMute", "(I)Z"⟩
abbrev cX12_codesTell : ByteArray := prog_14_method_30_code
def yX12_codesTell : MethodName := ⟨RX12, "codesTell", "(II)J"⟩
abbrev cX12_byTen : ByteArray := prog_14_method_31_code
def yX12_byTen : MethodName := ⟨RX12, "byTen", "(J)I"⟩
abbrev cX12_wordOf : ByteArray := prog_14_method_32_code
def yX12_wordOf : MethodName := ⟨RX12, "wordOf", "(II)I"⟩
abbrev cX12_becomesBy : ByteArray := prog_14_method_33_code
def yX12_becomesBy : MethodName := ⟨RX12, "becomesBy", "(IIIZ)I"⟩
abbrev cX12_wageOf : ByteArray := prog_14_method_34_code
def yX12_wageOf : MethodName := ⟨RX12, "wageOf", "(II)J"⟩
abbrev cX12_laysDays : ByteArray := prog_14_method_35_code
def yX12_laysDays : MethodName := ⟨RX12, "laysDays", "(I)V"⟩
abbrev cX12_isMuteNow : ByteArray := prog_14_method_36_code
def yX12_isMuteNow : MethodName := ⟨RX12, "isMuteNow", "(I)Z"⟩
abbrev cX12_isLeft : ByteArray := prog_14_method_37_code
def yX12_isLeft : MethodName := ⟨RX12, "isLeft", "(II)Z"⟩
abbrev cX12_canFollow : ByteArray := prog_14_method_38_code
def yX12_canFollow : MethodName := ⟨RX12, "canFollow", "(III)Z"⟩
abbrev cX12_laysWays : ByteArray := prog_14_method_39_code
def yX12_laysWays : MethodName := ⟨RX12, "laysWays", "()V"⟩
abbrev cX12_laysAll : ByteArray := prog_14_method_40_code
def yX12_laysAll : MethodName := ⟨RX12, "laysAll", "()V"⟩
abbrev cX12_walksTo : ByteArray := prog_14_method_41_code
def yX12_walksTo : MethodName := ⟨RX12, "walksTo", "(J)V"⟩
abbrev cX12_doesAgree : ByteArray := prog_14_method_42_code
def yX12_doesAgree : MethodName := ⟨RX12, "doesAgree", "(I)Z"⟩
abbrev cX12_isKept : ByteArray := prog_14_method_43_code
def yX12_isKept : MethodName := ⟨RX12, "isKept", "()V"⟩
abbrev cX12_goesBy : ByteArray := prog_14_method_44_code
def yX12_goesBy : MethodName := ⟨RX12, "goesBy", "(J)V"⟩
abbrev cX12_doGo : ByteArray := prog_14_method_45_code
def yX12_doGo : MethodName := ⟨RX12, "doGo", "()Z"⟩
abbrev cX12_putsAside : ByteArray := prog_14_method_46_code
def yX12_putsAside : MethodName := ⟨RX12, "putsAside", "()V"⟩
abbrev cX12_takesBack : ByteArray := prog_14_method_47_code
def yX12_takesBack : MethodName := ⟨RX12, "takesBack", "()V"⟩
abbrev cX12_isAhead : ByteArray := prog_14_method_48_code
def yX12_isAhead : MethodName := ⟨RX12, "isAhead", "(III)Z"⟩
abbrev cX12_bits : ByteArray := prog_14_method_49_code
def yX12_bits : MethodName := ⟨RX12, "bits", "(I)I"⟩
abbrev cX12_muteSet : ByteArray := prog_14_method_50_code
def yX12_muteSet : MethodName := ⟨RX12, "muteSet", "()I"⟩
abbrev cX12_has : ByteArray := prog_14_method_51_code
def yX12_has : MethodName := ⟨RX12, "has", "(I)I"⟩
abbrev cX12_day : ByteArray := prog_14_method_52_code
def yX12_day : MethodName := ⟨RX12, "day", "(II)I"⟩
abbrev cX12_told : ByteArray := prog_14_method_53_code
def yX12_told : MethodName := ⟨RX12, "told", "(II)I"⟩
abbrev cX12_does : ByteArray := prog_14_method_54_code
def yX12_does : MethodName := ⟨RX12, "does", "(III)I"⟩
abbrev cX12_kept : ByteArray := prog_14_method_55_code
def yX12_kept : MethodName := ⟨RX12, "kept", "(II)J"⟩
abbrev cX12_weeks : ByteArray := prog_14_method_56_code
def yX12_weeks : MethodName := ⟨RX12, "weeks", "()J"⟩
abbrev cX12_mood : ByteArray := prog_14_method_57_code
def yX12_mood : MethodName := ⟨RX12, "mood", "(II)I"⟩
abbrev cX12_many : ByteArray := prog_14_method_58_code
def yX12_many : MethodName := ⟨RX12, "many", "(II)J"⟩
abbrev cX12_hushed : ByteArray := prog_14_method_59_code
def yX12_hushed : MethodName := ⟨RX12, "hushed", "()I"⟩
abbrev cX12_wished : ByteArray := prog_14_method_60_code
def yX12_wished : MethodName := ⟨RX12, "wished", "(II)I"⟩
abbrev cX12_lies : ByteArray := prog_14_method_61_code
def yX12_lies : MethodName := ⟨RX12, "lies", "()I"⟩
abbrev cX12_later : ByteArray := prog_14_method_62_code
def yX12_later : MethodName := ⟨RX12, "later", "(I)I"⟩
abbrev cX12_ring : ByteArray := prog_14_method_63_code
def yX12_ring : MethodName := ⟨RX12, "ring", "()I"⟩
abbrev cX12_frees : ByteArray := prog_14_method_64_code
def yX12_frees : MethodName := ⟨RX12, "frees", "(II)I"⟩
abbrev cX12_laysPay : ByteArray := prog_14_method_65_code
def yX12_laysPay : MethodName := ⟨RX12, "laysPay", "()V"⟩
abbrev cX12_bestBehind : ByteArray := prog_14_method_66_code
def yX12_bestBehind : MethodName := ⟨RX12, "bestBehind", "(II)I"⟩
abbrev cX12_pay : ByteArray := prog_14_method_67_code
def yX12_pay : MethodName := ⟨RX12, "pay", "()J"⟩
abbrev cX12_paid : ByteArray := prog_14_method_68_code
def yX12_paid : MethodName := ⟨RX12, "paid", "(I)I"⟩
abbrev cX12_laysRest : ByteArray := prog_14_method_69_code
def yX12_laysRest : MethodName := ⟨RX12, "laysRest", "()V"⟩
abbrev cX12_isRest : ByteArray := prog_14_method_70_code
def yX12_isRest : MethodName := ⟨RX12, "isRest", "(I)Z"⟩
abbrev cX12_rest : ByteArray := prog_14_method_71_code
def yX12_rest : MethodName := ⟨RX12, "rest", "()I"⟩
abbrev cX12_unlike : ByteArray := prog_14_method_72_code
def yX12_unlike : MethodName := ⟨RX12, "unlike", "(II)I"⟩
abbrev cX12_laysByWord : ByteArray := prog_14_method_73_code
def yX12_laysByWord : MethodName := ⟨RX12, "laysByWord", "(II)V"⟩
abbrev cX12_moodsOf : ByteArray := prog_14_method_74_code
def yX12_moodsOf : MethodName := ⟨RX12, "moodsOf", "(I)I"⟩
abbrev cX12_canBeTold : ByteArray := prog_14_method_75_code
def yX12_canBeTold : MethodName := ⟨RX12, "canBeTold", "(II)Z"⟩
abbrev cX12_known : ByteArray := prog_14_method_76_code
def yX12_known : MethodName := ⟨RX12, "known", "(III)I"⟩
abbrev cX12_sure : ByteArray := prog_14_method_77_code
def yX12_sure : MethodName := ⟨RX12, "sure", "(II)I"⟩
abbrev cX12_refuses : ByteArray := prog_14_method_78_code
def yX12_refuses : MethodName := ⟨RX12, "refuses", "(I)I"⟩
abbrev cX12_hear : ByteArray := prog_14_method_79_code
def yX12_hear : MethodName := ⟨RX12, "hear", "()I"⟩
abbrev cX12_laysHeard : ByteArray := prog_14_method_80_code
def yX12_laysHeard : MethodName := ⟨RX12, "laysHeard", "()V"⟩
abbrev cX12_heard : ByteArray := prog_14_method_81_code
def yX12_heard : MethodName := ⟨RX12, "heard", "()J"⟩
abbrev cX12_tells : ByteArray := prog_14_method_82_code
def yX12_tells : MethodName := ⟨RX12, "tells", "(I)J"⟩
abbrev cX12_same : ByteArray := prog_14_method_83_code
def yX12_same : MethodName := ⟨RX12, "same", "(II)I"⟩
abbrev cX12_keeps : ByteArray := prog_14_method_84_code
def yX12_keeps : MethodName := ⟨RX12, "keeps", "()V"⟩
abbrev cX12_undo : ByteArray := prog_14_method_85_code
def yX12_undo : MethodName := ⟨RX12, "undo", "()Z"⟩
abbrev cX12_becomes : ByteArray := prog_14_method_86_code
def yX12_becomes : MethodName := ⟨RX12, "becomes", "(IIIZ)Z"⟩
abbrev cX12_set : ByteArray := prog_14_method_87_code
def yX12_set : MethodName := ⟨RX12, "set", "(III)Z"⟩
abbrev cX12_mute : ByteArray := prog_14_method_88_code
def yX12_mute : MethodName := ⟨RX12, "mute", "(II)Z"⟩
abbrev cX12_go : ByteArray := prog_14_method_89_code
def yX12_go : MethodName := ⟨RX12, "go", "()I"⟩
abbrev cX12_seed : ByteArray := prog_14_method_90_code
def yX12_seed : MethodName := ⟨RX12, "seed", "(I)Z"⟩
abbrev cX12_drawOf : ByteArray := prog_14_method_91_code
def yX12_drawOf : MethodName := ⟨RX12, "drawOf", "(J)J"⟩
abbrev cX12_drawsDays : ByteArray := prog_14_method_92_code
def yX12_drawsDays : MethodName := ⟨RX12, "drawsDays", "()V"⟩
abbrev cX12_chance : ByteArray := prog_14_method_93_code
def yX12_chance : MethodName := ⟨RX12, "chance", "(I)I"⟩
abbrev cX12_qCode : ByteArray := prog_14_method_94_code
def yX12_qCode : MethodName := ⟨RX12, "qCode", "(I)V"⟩
abbrev cX12_qOpens : ByteArray := prog_14_method_95_code
def yX12_qOpens : MethodName := ⟨RX12, "qOpens", "(II)V"⟩
abbrev cX12_qIsOn : ByteArray := prog_14_method_96_code
def yX12_qIsOn : MethodName := ⟨RX12, "qIsOn", "(I)Z"⟩
abbrev cX12_qDrops : ByteArray := prog_14_method_97_code
def yX12_qDrops : MethodName := ⟨RX12, "qDrops", "()V"⟩
abbrev cX12_qIsBracket : ByteArray := prog_14_method_98_code
def yX12_qIsBracket : MethodName := ⟨RX12, "qIsBracket", "(I)Z"⟩
abbrev cX12_qBracket : ByteArray := prog_14_method_99_code
def yX12_qBracket : MethodName := ⟨RX12, "qBracket", "()I"⟩
abbrev cX12_qDropsToBracket : ByteArray := prog_14_method_100_code
def yX12_qDropsToBracket : MethodName := ⟨RX12, "qDropsToBracket", "()V"⟩
abbrev cX12_qWordHere : ByteArray := prog_14_method_101_code
def yX12_qWordHere : MethodName := ⟨RX12, "qWordHere", "()I"⟩
abbrev cX12_qWordOf : ByteArray := prog_14_method_102_code
def yX12_qWordOf : MethodName := ⟨RX12, "qWordOf", "(II)I"⟩
abbrev cX12_qAsksWord : ByteArray := prog_14_method_103_code
def yX12_qAsksWord : MethodName := ⟨RX12, "qAsksWord", "(I)V"⟩
abbrev cX12_qEndsPart : ByteArray := prog_14_method_104_code
def yX12_qEndsPart : MethodName := ⟨RX12, "qEndsPart", "()V"⟩
abbrev cX12_qPartTold : ByteArray := prog_14_method_105_code
def yX12_qPartTold : MethodName := ⟨RX12, "qPartTold", "()V"⟩
abbrev cX12_qGoesOn : ByteArray := prog_14_method_106_code
def yX12_qGoesOn : MethodName := ⟨RX12, "qGoesOn", "()Z"⟩
abbrev cX12_qSums : ByteArray := prog_14_method_107_code
def yX12_qSums : MethodName := ⟨RX12, "qSums", "()V"⟩
abbrev cX12_qFact : ByteArray := prog_14_method_108_code
def yX12_qFact : MethodName := ⟨RX12, "qFact", "()V"⟩
abbrev cX12_qHasSquare : ByteArray := prog_14_method_109_code
def yX12_qHasSquare : MethodName := ⟨RX12, "qHasSquare", "()Z"⟩
abbrev cX12_qDropsNots : ByteArray := prog_14_method_110_code
def yX12_qDropsNots : MethodName := ⟨RX12, "qDropsNots", "()V"⟩
abbrev cX12_qTest : ByteArray := prog_14_method_111_code
def yX12_qTest : MethodName := ⟨RX12, "qTest", "()V"⟩
abbrev cX12_qGoesOnTest : ByteArray := prog_14_method_112_code
def yX12_qGoesOnTest : MethodName := ⟨RX12, "qGoesOnTest", "()Z"⟩
abbrev cX12_qClip : ByteArray := prog_14_method_113_code
def yX12_qClip : MethodName := ⟨RX12, "qClip", "(J)J"⟩
abbrev cX12_qFloor : ByteArray := prog_14_method_114_code
def yX12_qFloor : MethodName := ⟨RX12, "qFloor", "(JJ)J"⟩
abbrev cX12_qPuts : ByteArray := prog_14_method_115_code
def yX12_qPuts : MethodName := ⟨RX12, "qPuts", "(J)V"⟩
abbrev cX12_qJoins : ByteArray := prog_14_method_116_code
def yX12_qJoins : MethodName := ⟨RX12, "qJoins", "(I)V"⟩
abbrev cX12_qPartOf : ByteArray := prog_14_method_117_code
def yX12_qPartOf : MethodName := ⟨RX12, "qPartOf", "(II)J"⟩
abbrev cX12_qOf : ByteArray := prog_14_method_118_code
def yX12_qOf : MethodName := ⟨RX12, "qOf", "(IJI)J"⟩
abbrev cX12_qTold : ByteArray := prog_14_method_119_code
def yX12_qTold : MethodName := ⟨RX12, "qTold", "(I)J"⟩
abbrev cX12_qKind : ByteArray := prog_14_method_120_code
def yX12_qKind : MethodName := ⟨RX12, "qKind", "()I"⟩
abbrev cX12_qTakes : ByteArray := prog_14_method_121_code
def yX12_qTakes : MethodName := ⟨RX12, "qTakes", "(IJI)V"⟩
abbrev cX12_ask : ByteArray := prog_14_method_122_code
def yX12_ask : MethodName := ⟨RX12, "ask", "()J"⟩
abbrev cX12_checked : ByteArray := prog_14_method_123_code
def yX12_checked : MethodName := ⟨RX12, "checked", "([II)I"⟩
abbrev cX12_writes : ByteArray := prog_14_method_124_code
def yX12_writes : MethodName := ⟨RX12, "writes", "(I)V"⟩
abbrev cX12_image : ByteArray := prog_14_method_125_code
def yX12_image : MethodName := ⟨RX12, "image", "()I"⟩
abbrev cX12_octet : ByteArray := prog_14_method_126_code
def yX12_octet : MethodName := ⟨RX12, "octet", "(I)I"⟩
abbrev cX12_isImage : ByteArray := prog_14_method_127_code
def yX12_isImage : MethodName := ⟨RX12, "isImage", "(I)Z"⟩
abbrev cX12_on : ByteArray := prog_14_method_128_code
def yX12_on : MethodName := ⟨RX12, "on", "()Z"⟩
abbrev cX12_status : ByteArray := prog_14_method_129_code
def yX12_status : MethodName := ⟨RX12, "status", "(I)I"⟩
def RJx145de : String := "java/io/Serializable"
def TJx145de : u_T := fun k => match k with
  | _ => ("", "", "", false)
def tyJx145de : Nat → FieldType := fun k => match k with
  | _ => .int
abbrev wsJx145de0 : List Cond := u_ws RJx145de TJx145de 0
theorem nmJx145de : ∀ a, a < 0 → ∀ b, b < 0 → a ≠ b → (TJx145de a).2.1 ≠ (TJx145de b).2.1 := by decide +kernel
theorem tyJx145de_ok : ∀ k, k < 0 → parseFieldDescriptor (TJx145de k).2.2.1 = some (tyJx145de k) := by decide +kernel
def RJx9f9b0 : String := "java/lang/CharSequence"
def TJx9f9b0 : u_T := fun k => match k with
  | _ => ("", "", "", false)
def tyJx9f9b0 : Nat → FieldType := fun k => match k with
  | _ => .int
abbrev wsJx9f9b00 : List Cond := u_ws RJx9f9b0 TJx9f9b0 0
theorem nmJx9f9b0 : ∀ a, a < 0 → ∀ b, b < 0 → a ≠ b → (TJx9f9b0 a).2.1 ≠ (TJx9f9b0 b).2.1 := by decide +kernel
theorem tyJx9f9b0_ok : ∀ k, k < 0 → parseFieldDescriptor (TJx9f9b0 k).2.2.1 = some (tyJx9f9b0 k) := by decide +kernel
def RJxb160c : String := "java/lang/Comparable"
def TJxb160c : u_T := fun k => match k with
  | _ => ("", "", "", false)
def tyJxb160c : Nat → FieldType := fun k => match k with
  | _ => .int
abbrev wsJxb160c0 : List Cond := u_ws RJxb160c TJxb160c 0
theorem nmJxb160c : ∀ a, a < 0 → ∀ b, b < 0 → a ≠ b → (TJxb160c a).2.1 ≠ (TJxb160c b).2.1 := by decide +kernel
theorem tyJxb160c_ok : ∀ k, k < 0 → parseFieldDescriptor (TJxb160c k).2.2.1 = some (tyJxb160c k) := by decide +kernel
def RJ6 : String := "java/lang/Integer"
def TJ6 : u_T := fun k => match k with
  | _ => ("", "", "", false)
def tyJ6 : Nat → FieldType := fun k => match k with
  | _ => .int
abbrev wsJ60 : List Cond := u_ws RJ6 TJ6 0
theorem nmJ6 : ∀ a, a < 0 → ∀ b, b < 0 → a ≠ b → (TJ6 a).2.1 ≠ (TJ6 b).2.1 := by decide +kernel
theorem tyJ6_ok : ∀ k, k < 0 → parseFieldDescriptor (TJ6 k).2.2.1 = some (tyJ6 k) := by decide +kernel
abbrev cJ6_numberOfTrailingZeros_0f7a4 : ByteArray := prog_15_method_48_code
def yJ6_numberOfTrailingZeros_0f7a4 : MethodName := ⟨RJ6, "numberOfTrailingZeros", "(I)I"⟩
abbrev cJ6_bitCount_0f7a4 : ByteArray := prog_15_method_49_code
def yJ6_bitCount_0f7a4 : MethodName := ⟨RJ6, "bitCount", "(I)I"⟩
def RJ9 : String := "java/lang/Math"
def TJ9 : u_T := fun k => match k with
  | _ => ("", "", "", false)
def tyJ9 : Nat → FieldType := fun k => match k with
  | _ => .int
abbrev wsJ90 : List Cond := u_ws RJ9 TJ9 0
theorem nmJ9 : ∀ a, a < 0 → ∀ b, b < 0 → a ≠ b → (TJ9 a).2.1 ≠ (TJ9 b).2.1 := by decide +kernel
theorem tyJ9_ok : ∀ k, k < 0 → parseFieldDescriptor (TJ9 k).2.2.1 = some (tyJ9 k) := by decide +kernel
abbrev cJ9_floorDiv_f86c9 : ByteArray := prog_16_method_49_code
def yJ9_floorDiv_f86c9 : MethodName := ⟨RJ9, "floorDiv", "(JJ)J"⟩
abbrev cJ9_floorMod_1978a : ByteArray := prog_16_method_51_code
def yJ9_floorMod_1978a : MethodName := ⟨RJ9, "floorMod", "(JI)I"⟩
abbrev cJ9_floorMod_f86c9 : ByteArray := prog_16_method_52_code
def yJ9_floorMod_f86c9 : MethodName := ⟨RJ9, "floorMod", "(JJ)J"⟩
abbrev cJ9_max_7cf53 : ByteArray := prog_16_method_65_code
def yJ9_max_7cf53 : MethodName := ⟨RJ9, "max", "(II)I"⟩
abbrev cJ9_max_f86c9 : ByteArray := prog_16_method_66_code
def yJ9_max_f86c9 : MethodName := ⟨RJ9, "max", "(JJ)J"⟩
abbrev cJ9_min_7cf53 : ByteArray := prog_16_method_69_code
def yJ9_min_7cf53 : MethodName := ⟨RJ9, "min", "(II)I"⟩
abbrev cJ9_min_f86c9 : ByteArray := prog_16_method_70_code
def yJ9_min_f86c9 : MethodName := ⟨RJ9, "min", "(JJ)J"⟩
def RJ0 : String := "java/lang/String"
def TJ0 : u_T := fun k => match k with
  | _ => ("", "", "", false)
def tyJ0 : Nat → FieldType := fun k => match k with
  | _ => .int
abbrev wsJ00 : List Cond := u_ws RJ0 TJ0 0
theorem nmJ0 : ∀ a, a < 0 → ∀ b, b < 0 → a ≠ b → (TJ0 a).2.1 ≠ (TJ0 b).2.1 := by decide +kernel
theorem tyJ0_ok : ∀ k, k < 0 → parseFieldDescriptor (TJ0 k).2.2.1 = some (tyJ0 k) := by decide +kernel
abbrev cJ0_length_8abf5 : ByteArray := prog_17_method_54_code
def yJ0_length_8abf5 : MethodName := ⟨RJ0, "length", "()I"⟩
abbrev cJ0_charAt_5068e : ByteArray := prog_17_method_56_code
def yJ0_charAt_5068e : MethodName := ⟨RJ0, "charAt", "(I)C"⟩
abbrev cJ0_coder_7d493 : ByteArray := prog_17_method_152_code
def yJ0_coder_7d493 : MethodName := ⟨RJ0, "coder", "()B"⟩
abbrev cJ0_isLatin1_aae02 : ByteArray := prog_17_method_154_code
def yJ0_isLatin1_aae02 : MethodName := ⟨RJ0, "isLatin1", "()Z"⟩
abbrev cJ0_checkIndex_df160 : ByteArray := prog_17_method_155_code
def yJ0_checkIndex_df160 : MethodName := ⟨RJ0, "checkIndex", "(II)V"⟩
def RJ1 : String := "java/lang/StringLatin1"
def TJ1 : u_T := fun k => match k with
  | _ => ("", "", "", false)
def tyJ1 : Nat → FieldType := fun k => match k with
  | _ => .int
abbrev wsJ10 : List Cond := u_ws RJ1 TJ1 0
theorem nmJ1 : ∀ a, a < 0 → ∀ b, b < 0 → a ≠ b → (TJ1 a).2.1 ≠ (TJ1 b).2.1 := by decide +kernel
theorem tyJ1_ok : ∀ k, k < 0 → parseFieldDescriptor (TJ1 k).2.2.1 = some (tyJ1 k) := by decide +kernel
abbrev cJ1_charAt_3b067 : ByteArray := prog_18_method_2_code
def yJ1_charAt_3b067 : MethodName := ⟨RJ1, "charAt", "([BI)C"⟩
def RJ2 : String := "java/lang/StringUTF16"
def TJ2 : u_T := fun k => match k with
  | _ => ("", "", "", false)
def tyJ2 : Nat → FieldType := fun k => match k with
  | _ => .int
abbrev wsJ20 : List Cond := u_ws RJ2 TJ2 0
theorem nmJ2 : ∀ a, a < 0 → ∀ b, b < 0 → a ≠ b → (TJ2 a).2.1 ≠ (TJ2 b).2.1 := by decide +kernel
theorem tyJ2_ok : ∀ k, k < 0 → parseFieldDescriptor (TJ2 k).2.2.1 = some (tyJ2 k) := by decide +kernel
abbrev cJ2_getChar_3b067 : ByteArray := prog_19_method_5_code
def yJ2_getChar_3b067 : MethodName := ⟨RJ2, "getChar", "([BI)C"⟩
abbrev cJ2_length_9d52b : ByteArray := prog_19_method_6_code
def yJ2_length_9d52b : MethodName := ⟨RJ2, "length", "([B)I"⟩
abbrev cJ2_charAt_3b067 : ByteArray := prog_19_method_83_code
def yJ2_charAt_3b067 : MethodName := ⟨RJ2, "charAt", "([BI)C"⟩
abbrev cJ2_checkIndex_2214a : ByteArray := prog_19_method_91_code
def yJ2_checkIndex_2214a : MethodName := ⟨RJ2, "checkIndex", "(I[B)V"⟩
def RJ10 : String := "java/lang/System"
def TJ10 : u_T := fun k => match k with
  | _ => ("", "", "", false)
def tyJ10 : Nat → FieldType := fun k => match k with
  | _ => .int
abbrev wsJ100 : List Cond := u_ws RJ10 TJ10 0
theorem nmJ10 : ∀ a, a < 0 → ∀ b, b < 0 → a ≠ b → (TJ10 a).2.1 ≠ (TJ10 b).2.1 := by decide +kernel
theorem tyJ10_ok : ∀ k, k < 0 → parseFieldDescriptor (TJ10 k).2.2.1 = some (tyJ10 k) := by decide +kernel
def RJxfd54e : String := "java/lang/constant/Constable"
def TJxfd54e : u_T := fun k => match k with
  | _ => ("", "", "", false)
def tyJxfd54e : Nat → FieldType := fun k => match k with
  | _ => .int
abbrev wsJxfd54e0 : List Cond := u_ws RJxfd54e TJxfd54e 0
theorem nmJxfd54e : ∀ a, a < 0 → ∀ b, b < 0 → a ≠ b → (TJxfd54e a).2.1 ≠ (TJxfd54e b).2.1 := by decide +kernel
theorem tyJxfd54e_ok : ∀ k, k < 0 → parseFieldDescriptor (TJxfd54e k).2.2.1 = some (tyJxfd54e k) := by decide +kernel
def RJx3cf43 : String := "java/lang/constant/ConstantDesc"
def TJx3cf43 : u_T := fun k => match k with
  | _ => ("", "", "", false)
def tyJx3cf43 : Nat → FieldType := fun k => match k with
  | _ => .int
abbrev wsJx3cf430 : List Cond := u_ws RJx3cf43 TJx3cf43 0
theorem nmJx3cf43 : ∀ a, a < 0 → ∀ b, b < 0 → a ≠ b → (TJx3cf43 a).2.1 ≠ (TJx3cf43 b).2.1 := by decide +kernel
theorem tyJx3cf43_ok : ∀ k, k < 0 → parseFieldDescriptor (TJx3cf43 k).2.2.1 = some (tyJx3cf43 k) := by decide +kernel
def RJ7 : String := "java/util/Arrays"
def TJ7 : u_T := fun k => match k with
  | _ => ("", "", "", false)
def tyJ7 : Nat → FieldType := fun k => match k with
  | _ => .int
abbrev wsJ70 : List Cond := u_ws RJ7 TJ7 0
theorem nmJ7 : ∀ a, a < 0 → ∀ b, b < 0 → a ≠ b → (TJ7 a).2.1 ≠ (TJ7 b).2.1 := by decide +kernel
theorem tyJ7_ok : ∀ k, k < 0 → parseFieldDescriptor (TJ7 k).2.2.1 = some (tyJ7 k) := by decide +kernel
abbrev cJ7_fill_d0a16 : ByteArray := prog_21_method_101_code
def yJ7_fill_d0a16 : MethodName := ⟨RJ7, "fill", "([JJ)V"⟩
abbrev cJ7_fill_53178 : ByteArray := prog_21_method_103_code
def yJ7_fill_53178 : MethodName := ⟨RJ7, "fill", "([II)V"⟩
def RJ3 : String := "jdk/internal/util/Preconditions"
def TJ3 : u_T := fun k => match k with
  | _ => ("", "", "", false)
def tyJ3 : Nat → FieldType := fun k => match k with
  | _ => .int
abbrev wsJ30 : List Cond := u_ws RJ3 TJ3 0
theorem nmJ3 : ∀ a, a < 0 → ∀ b, b < 0 → a ≠ b → (TJ3 a).2.1 ≠ (TJ3 b).2.1 := by decide +kernel
theorem tyJ3_ok : ∀ k, k < 0 → parseFieldDescriptor (TJ3 k).2.2.1 = some (tyJ3 k) := by decide +kernel
abbrev cJ3_checkIndex_8e157 : ByteArray := prog_22_method_11_code
def yJ3_checkIndex_8e157 : MethodName := ⟨RJ3, "checkIndex", "(IILjava/util/function/BiFunction;)I"⟩
def RL : String := "SameKeeperLaw"
abbrev cL_law : ByteArray := code
def yL_law : MethodName := ⟨RL, "law", "([I)Z"⟩
abbrev vwCl : List vw_C := [(RX0, TX0, 6), (RX1, TX1, 9), (RX2, TX2, 10), (RX3, TX3, 3), (RX4, TX4, 5), (RX5, TX5, 4), (RX6, TX6, 8), (RX7, TX7, 7), (RX8, TX8, 2), (RX9, TX9, 6), (RX10, TX10, 2), (RX11, TX11, 18), (RX12, TX12, 92)]
/-- the words that all contracts stand on: those of the tables that outlast a call -/
def wsL_law : List Cond := lw_tbl.filter goodWord
theorem wsL_law_in : ∀ w ∈ wsL_law, w ∈ lw_tbl := fun _ h => (List.mem_filter.mp h).1
theorem sk_mem {w : Cond} (h : w ∈ lw_tbl) (g : goodWord w = true) : w ∈ wsL_law := List.mem_filter.mpr ⟨h, g⟩
theorem ck_0 : ∀ w ∈ k2_sels lw_privs, w ∈ lw_tbl := fun _ h => List.mem_append_left _ h
theorem ck_1 : ∀ w ∈ tables_1_1, w ∈ lw_tbl := fun _ h => List.mem_append_right _ (List.mem_append_left _ h)
theorem ck_2 : ∀ w ∈ tables_1_2, w ∈ lw_tbl := fun _ h => List.mem_append_right _ (List.mem_append_right _ (List.mem_append_left _ h))
theorem ck_3 : ∀ w ∈ tables_1_3, w ∈ lw_tbl := fun _ h => List.mem_append_right _ (List.mem_append_right _ (List.mem_append_right _ (List.mem_append_left _ h)))
theorem ck_4 : ∀ w ∈ tables_1_4, w ∈ lw_tbl := fun _ h => List.mem_append_right _ (List.mem_append_right _ (List.mem_append_right _ (List.mem_append_right _ (List.mem_append_left _ h))))
theorem ck_5 : ∀ w ∈ tables_1_5, w ∈ lw_tbl := fun _ h => List.mem_append_right _ (List.mem_append_right _ (List.mem_append_right _ (List.mem_append_right _ (List.mem_append_right _ (List.mem_append_left _ h)))))
theorem ck_6 : ∀ w ∈ tables_1_6, w ∈ lw_tbl := fun _ h => List.mem_append_right _ (List.mem_append_right _ (List.mem_append_right _ (List.mem_append_right _ (List.mem_append_right _ (List.mem_append_right _ (List.mem_append_left _ h))))))
theorem ck_7 : ∀ w ∈ tables_1_7, w ∈ lw_tbl := fun _ h => List.mem_append_right _ (List.mem_append_right _ (List.mem_append_right _ (List.mem_append_right _ (List.mem_append_right _ (List.mem_append_right _ (List.mem_append_right _ (List.mem_append_left _ h)))))))
theorem ck_8 : ∀ w ∈ tables_1_8, w ∈ lw_tbl := fun _ h => List.mem_append_right _ (List.mem_append_right _ (List.mem_append_right _ (List.mem_append_right _ (List.mem_append_right _ (List.mem_append_right _ (List.mem_append_right _ (List.mem_append_right _ (h))))))))
theorem inlX0 : ∀ w ∈ u_ws RX0 TX0 6, w ∈ wsL_law := fun w hw => by
  obtain ⟨k, hk, rfl⟩ := List.mem_map.mp hw
  have hk := List.mem_range.mp hk
  match k, hk with
  | 0, _ => exact sk_mem (ck_1 _ (List.mem_of_getElem? (i := 138) rfl)) rfl
  | 1, _ => exact sk_mem (ck_1 _ (List.mem_of_getElem? (i := 140) rfl)) rfl
  | 2, _ => exact sk_mem (ck_1 _ (List.mem_of_getElem? (i := 142) rfl)) rfl
  | 3, _ => exact sk_mem (ck_1 _ (List.mem_of_getElem? (i := 144) rfl)) rfl
  | 4, _ => exact sk_mem (ck_1 _ (List.mem_of_getElem? (i := 146) rfl)) rfl
  | 5, _ => exact sk_mem (ck_1 _ (List.mem_of_getElem? (i := 148) rfl)) rfl
  | n + 6, h => exact absurd h (by omega)
theorem inlX1 : ∀ w ∈ u_ws RX1 TX1 9, w ∈ wsL_law := fun w hw => by
  obtain ⟨k, hk, rfl⟩ := List.mem_map.mp hw
  have hk := List.mem_range.mp hk
  match k, hk with
  | 0, _ => exact sk_mem (ck_2 _ (List.mem_of_getElem? (i := 104) rfl)) rfl
  | 1, _ => exact sk_mem (ck_2 _ (List.mem_of_getElem? (i := 106) rfl)) rfl
  | 2, _ => exact sk_mem (ck_2 _ (List.mem_of_getElem? (i := 108) rfl)) rfl
  | 3, _ => exact sk_mem (ck_2 _ (List.mem_of_getElem? (i := 110) rfl)) rfl
  | 4, _ => exact sk_mem (ck_2 _ (List.mem_of_getElem? (i := 112) rfl)) rfl
  | 5, _ => exact sk_mem (ck_2 _ (List.mem_of_getElem? (i := 114) rfl)) rfl
  | 6, _ => exact sk_mem (ck_2 _ (List.mem_of_getElem? (i := 116) rfl)) rfl
  | 7, _ => exact sk_mem (ck_2 _ (List.mem_of_getElem? (i := 118) rfl)) rfl
  | 8, _ => exact sk_mem (ck_2 _ (List.mem_of_getElem? (i := 120) rfl)) rfl
  | n + 9, h => exact absurd h (by omega)
theorem inlX2 : ∀ w ∈ u_ws RX2 TX2 10, w ∈ wsL_law := fun w hw => by
  obtain ⟨k, hk, rfl⟩ := List.mem_map.mp hw
  have hk := List.mem_range.mp hk
  match k, hk with
  | 0, _ => exact sk_mem (ck_1 _ (List.mem_of_getElem? (i := 203) rfl)) rfl
  | 1, _ => exact sk_mem (ck_1 _ (List.mem_of_getElem? (i := 205) rfl)) rfl
  | 2, _ => exact sk_mem (ck_1 _ (List.mem_of_getElem? (i := 207) rfl)) rfl
  | 3, _ => exact sk_mem (ck_1 _ (List.mem_of_getElem? (i := 209) rfl)) rfl
  | 4, _ => exact sk_mem (ck_1 _ (List.mem_of_getElem? (i := 211) rfl)) rfl
  | 5, _ => exact sk_mem (ck_1 _ (List.mem_of_getElem? (i := 213) rfl)) rfl
  | 6, _ => exact sk_mem (ck_1 _ (List.mem_of_getElem? (i := 215) rfl)) rfl
  | 7, _ => exact sk_mem (ck_1 _ (List.mem_of_getElem? (i := 217) rfl)) rfl
  | 8, _ => exact sk_mem (ck_1 _ (List.mem_of_getElem? (i := 219) rfl)) rfl
  | 9, _ => exact sk_mem (ck_1 _ (List.mem_of_getElem? (i := 221) rfl)) rfl
  | n + 10, h => exact absurd h (by omega)
theorem inlX3 : ∀ w ∈ u_ws RX3 TX3 3, w ∈ wsL_law := fun w hw => by
  obtain ⟨k, hk, rfl⟩ := List.mem_map.mp hw
  have hk := List.mem_range.mp hk
  match k, hk with
  | 0, _ => exact sk_mem (ck_1 _ (List.mem_of_getElem? (i := 110) rfl)) rfl
  | 1, _ => exact sk_mem (ck_1 _ (List.mem_of_getElem? (i := 112) rfl)) rfl
  | 2, _ => exact sk_mem (ck_1 _ (List.mem_of_getElem? (i := 114) rfl)) rfl
  | n + 3, h => exact absurd h (by omega)
theorem inlX4 : ∀ w ∈ u_ws RX4 TX4 5, w ∈ wsL_law := fun w hw => by
  obtain ⟨k, hk, rfl⟩ := List.mem_map.mp hw
  have hk := List.mem_range.mp hk
  match k, hk with
  | 0, _ => exact sk_mem (ck_2 _ (List.mem_of_getElem? (i := 46) rfl)) rfl
  | 1, _ => exact sk_mem (ck_2 _ (List.mem_of_getElem? (i := 48) rfl)) rfl
  | 2, _ => exact sk_mem (ck_2 _ (List.mem_of_getElem? (i := 50) rfl)) rfl
  | 3, _ => exact sk_mem (ck_2 _ (List.mem_of_getElem? (i := 52) rfl)) rfl
  | 4, _ => exact sk_mem (ck_2 _ (List.mem_of_getElem? (i := 54) rfl)) rfl
  | n + 5, h => exact absurd h (by omega)
theorem inlX5 : ∀ w ∈ u_ws RX5 TX5 4, w ∈ wsL_law := fun w hw => by
  obtain ⟨k, hk, rfl⟩ := List.mem_map.mp hw
  have hk := List.mem_range.mp hk
  match k, hk with
  | 0, _ => exact sk_mem (ck_1 _ (List.mem_of_getElem? (i := 158) rfl)) rfl
  | 1, _ => exact sk_mem (ck_1 _ (List.mem_of_getElem? (i := 160) rfl)) rfl
  | 2, _ => exact sk_mem (ck_1 _ (List.mem_of_getElem? (i := 162) rfl)) rfl
  | 3, _ => exact sk_mem (ck_1 _ (List.mem_of_getElem? (i := 164) rfl)) rfl
  | n + 4, h => exact absurd h (by omega)
theorem inlX6 : ∀ w ∈ u_ws RX6 TX6 8, w ∈ wsL_law := fun w hw => by
  obtain ⟨k, hk, rfl⟩ := List.mem_map.mp hw
  have hk := List.mem_range.mp hk
  match k, hk with
  | 0, _ => exact sk_mem (ck_1 _ (List.mem_of_getElem? (i := 71) rfl)) rfl
  | 1, _ => exact sk_mem (ck_1 _ (List.mem_of_getElem? (i := 73) rfl)) rfl
  | 2, _ => exact sk_mem (ck_1 _ (List.mem_of_getElem? (i := 75) rfl)) rfl
  | 3, _ => exact sk_mem (ck_1 _ (List.mem_of_getElem? (i := 77) rfl)) rfl
  | 4, _ => exact sk_mem (ck_1 _ (List.mem_of_getElem? (i := 79) rfl)) rfl
  | 5, _ => exact sk_mem (ck_1 _ (List.mem_of_getElem? (i := 81) rfl)) rfl
  | 6, _ => exact sk_mem (ck_1 _ (List.mem_of_getElem? (i := 83) rfl)) rfl
  | 7, _ => exact sk_mem (ck_1 _ (List.mem_of_getElem? (i := 85) rfl)) rfl
  | n + 8, h => exact absurd h (by omega)
theorem inlX7 : ∀ w ∈ u_ws RX7 TX7 7, w ∈ wsL_law := fun w hw => by
  obtain ⟨k, hk, rfl⟩ := List.mem_map.mp hw
  have hk := List.mem_range.mp hk
  match k, hk with
  | 0, _ => exact sk_mem (ck_2 _ (List.mem_of_getElem? (i := 16) rfl)) rfl
  | 1, _ => exact sk_mem (ck_2 _ (List.mem_of_getElem? (i := 18) rfl)) rfl
  | 2, _ => exact sk_mem (ck_2 _ (List.mem_of_getElem? (i := 20) rfl)) rfl
  | 3, _ => exact sk_mem (ck_2 _ (List.mem_of_getElem? (i := 22) rfl)) rfl
  | 4, _ => exact sk_mem (ck_2 _ (List.mem_of_getElem? (i := 24) rfl)) rfl
  | 5, _ => exact sk_mem (ck_2 _ (List.mem_of_getElem? (i := 26) rfl)) rfl
  | 6, _ => exact sk_mem (ck_2 _ (List.mem_of_getElem? (i := 28) rfl)) rfl
  | n + 7, h => exact absurd h (by omega)
theorem inlX8 : ∀ w ∈ u_ws RX8 TX8 2, w ∈ wsL_law := fun w hw => by
  obtain ⟨k, hk, rfl⟩ := List.mem_map.mp hw
  have hk := List.mem_range.mp hk
  match k, hk with
  | 0, _ => exact sk_mem (ck_1 _ (List.mem_of_getElem? (i := 102) rfl)) rfl
  | 1, _ => exact sk_mem (ck_1 _ (List.mem_of_getElem? (i := 104) rfl)) rfl
  | n + 2, h => exact absurd h (by omega)
theorem inlX9 : ∀ w ∈ u_ws RX9 TX9 6, w ∈ wsL_law := fun w hw => by
  obtain ⟨k, hk, rfl⟩ := List.mem_map.mp hw
  have hk := List.mem_range.mp hk
  match k, hk with
  | 0, _ => exact sk_mem (ck_2 _ (List.mem_of_getElem? (i := 76) rfl)) rfl
  | 1, _ => exact sk_mem (ck_2 _ (List.mem_of_getElem? (i := 78) rfl)) rfl
  | 2, _ => exact sk_mem (ck_2 _ (List.mem_of_getElem? (i := 80) rfl)) rfl
  | 3, _ => exact sk_mem (ck_2 _ (List.mem_of_getElem? (i := 82) rfl)) rfl
  | 4, _ => exact sk_mem (ck_2 _ (List.mem_of_getElem? (i := 84) rfl)) rfl
  | 5, _ => exact sk_mem (ck_2 _ (List.mem_of_getElem? (i := 86) rfl)) rfl
  | n + 6, h => exact absurd h (by omega)
theorem inlX10 : ∀ w ∈ u_ws RX10 TX10 2, w ∈ wsL_law := fun w hw => by
  obtain ⟨k, hk, rfl⟩ := List.mem_map.mp hw
  have hk := List.mem_range.mp hk
  match k, hk with
  | 0, _ => exact sk_mem (ck_1 _ (List.mem_of_getElem? (i := 44) rfl)) rfl
  | 1, _ => exact sk_mem (ck_1 _ (List.mem_of_getElem? (i := 46) rfl)) rfl
  | n + 2, h => exact absurd h (by omega)
theorem inlX11 : ∀ w ∈ u_ws RX11 TX11 18, w ∈ wsL_law := fun w hw => by
  obtain ⟨k, hk, rfl⟩ := List.mem_map.mp hw
  have hk := List.mem_range.mp hk
  match k, hk with
  | 0, _ => exact sk_mem (ck_2 _ (List.mem_of_getElem? (i := 141) rfl)) rfl
  | 1, _ => exact sk_mem (ck_2 _ (List.mem_of_getElem? (i := 143) rfl)) rfl
  | 2, _ => exact sk_mem (ck_2 _ (List.mem_of_getElem? (i := 145) rfl)) rfl
  | 3, _ => exact sk_mem (ck_2 _ (List.mem_of_getElem? (i := 147) rfl)) rfl
  | 4, _ => exact sk_mem (ck_2 _ (List.mem_of_getElem? (i := 149) rfl)) rfl
  | 5, _ => exact sk_mem (ck_2 _ (List.mem_of_getElem? (i := 151) rfl)) rfl
  | 6, _ => exact sk_mem (ck_2 _ (List.mem_of_getElem? (i := 153) rfl)) rfl
  | 7, _ => exact sk_mem (ck_2 _ (List.mem_of_getElem? (i := 155) rfl)) rfl
  | 8, _ => exact sk_mem (ck_2 _ (List.mem_of_getElem? (i := 157) rfl)) rfl
  | 9, _ => exact sk_mem (ck_2 _ (List.mem_of_getElem? (i := 159) rfl)) rfl
  | 10, _ => exact sk_mem (ck_2 _ (List.mem_of_getElem? (i := 161) rfl)) rfl
  | 11, _ => exact sk_mem (ck_2 _ (List.mem_of_getElem? (i := 163) rfl)) rfl
  | 12, _ => exact sk_mem (ck_2 _ (List.mem_of_getElem? (i := 165) rfl)) rfl
  | 13, _ => exact sk_mem (ck_2 _ (List.mem_of_getElem? (i := 167) rfl)) rfl
  | 14, _ => exact sk_mem (ck_2 _ (List.mem_of_getElem? (i := 169) rfl)) rfl
  | 15, _ => exact sk_mem (ck_2 _ (List.mem_of_getElem? (i := 171) rfl)) rfl
  | 16, _ => exact sk_mem (ck_2 _ (List.mem_of_getElem? (i := 173) rfl)) rfl
  | 17, _ => exact sk_mem (ck_2 _ (List.mem_of_getElem? (i := 175) rfl)) rfl
  | n + 18, h => exact absurd h (by omega)
theorem inlX12 : ∀ w ∈ u_ws RX12 TX12 92, w ∈ wsL_law := fun w hw => by
  obtain ⟨k, hk, rfl⟩ := List.mem_map.mp hw
  have hk := List.mem_range.mp hk
  match k, hk with
  | 0, _ => exact sk_mem (ck_6 _ (List.mem_of_getElem? (i := 7) rfl)) rfl
  | 1, _ => exact sk_mem (ck_6 _ (List.mem_of_getElem? (i := 9) rfl)) rfl
  | 2, _ => exact sk_mem (ck_6 _ (List.mem_of_getElem? (i := 11) rfl)) rfl
  | 3, _ => exact sk_mem (ck_6 _ (List.mem_of_getElem? (i := 13) rfl)) rfl
  | 4, _ => exact sk_mem (ck_6 _ (List.mem_of_getElem? (i := 15) rfl)) rfl
  | 5, _ => exact sk_mem (ck_6 _ (List.mem_of_getElem? (i := 17) rfl)) rfl
  | 6, _ => exact sk_mem (ck_6 _ (List.mem_of_getElem? (i := 19) rfl)) rfl
  | 7, _ => exact sk_mem (ck_6 _ (List.mem_of_getElem? (i := 21) rfl)) rfl
  | 8, _ => exact sk_mem (ck_6 _ (List.mem_of_getElem? (i := 23) rfl)) rfl
  | 9, _ => exact sk_mem (ck_6 _ (List.mem_of_getElem? (i := 25) rfl)) rfl
  | 10, _ => exact sk_mem (ck_6 _ (List.mem_of_getElem? (i := 27) rfl)) rfl
  | 11, _ => exact sk_mem (ck_6 _ (List.mem_of_getElem? (i := 29) rfl)) rfl
  | 12, _ => exact sk_mem (ck_6 _ (List.mem_of_getElem? (i := 31) rfl)) rfl
  | 13, _ => exact sk_mem (ck_6 _ (List.mem_of_getElem? (i := 33) rfl)) rfl
  | 14, _ => exact sk_mem (ck_6 _ (List.mem_of_getElem? (i := 35) rfl)) rfl
  | 15, _ => exact sk_mem (ck_6 _ (List.mem_of_getElem? (i := 37) rfl)) rfl
  | 16, _ => exact sk_mem (ck_6 _ (List.mem_of_getElem? (i := 39) rfl)) rfl
  | 17, _ => exact sk_mem (ck_6 _ (List.mem_of_getElem? (i := 41) rfl)) rfl
  | 18, _ => exact sk_mem (ck_6 _ (List.mem_of_getElem? (i := 43) rfl)) rfl
  | 19, _ => exact sk_mem (ck_6 _ (List.mem_of_getElem? (i := 45) rfl)) rfl
  | 20, _ => exact sk_mem (ck_6 _ (List.mem_of_getElem? (i := 47) rfl)) rfl
  | 21, _ => exact sk_mem (ck_6 _ (List.mem_of_getElem? (i := 49) rfl)) rfl
  | 22, _ => exact sk_mem (ck_6 _ (List.mem_of_getElem? (i := 51) rfl)) rfl
  | 23, _ => exact sk_mem (ck_6 _ (List.mem_of_getElem? (i := 53) rfl)) rfl
  | 24, _ => exact sk_mem (ck_6 _ (List.mem_of_getElem? (i := 55) rfl)) rfl
  | 25, _ => exact sk_mem (ck_6 _ (List.mem_of_getElem? (i := 57) rfl)) rfl
  | 26, _ => exact sk_mem (ck_6 _ (List.mem_of_getElem? (i := 59) rfl)) rfl
  | 27, _ => exact sk_mem (ck_6 _ (List.mem_of_getElem? (i := 61) rfl)) rfl
  | 28, _ => exact sk_mem (ck_6 _ (List.mem_of_getElem? (i := 63) rfl)) rfl
  | 29, _ => exact sk_mem (ck_6 _ (List.mem_of_getElem? (i := 65) rfl)) rfl
  | 30, _ => exact sk_mem (ck_6 _ (List.mem_of_getElem? (i := 67) rfl)) rfl
  | 31, _ => exact sk_mem (ck_6 _ (List.mem_of_getElem? (i := 69) rfl)) rfl
  | 32, _ => exact sk_mem (ck_6 _ (List.mem_of_getElem? (i := 71) rfl)) rfl
  | 33, _ => exact sk_mem (ck_6 _ (List.mem_of_getElem? (i := 73) rfl)) rfl
  | 34, _ => exact sk_mem (ck_6 _ (List.mem_of_getElem? (i := 75) rfl)) rfl
  | 35, _ => exact sk_mem (ck_6 _ (List.mem_of_getElem? (i := 77) rfl)) rfl
  | 36, _ => exact sk_mem (ck_6 _ (List.mem_of_getElem? (i := 79) rfl)) rfl
  | 37, _ => exact sk_mem (ck_6 _ (List.mem_of_getElem? (i := 81) rfl)) rfl
  | 38, _ => exact sk_mem (ck_6 _ (List.mem_of_getElem? (i := 83) rfl)) rfl
  | 39, _ => exact sk_mem (ck_6 _ (List.mem_of_getElem? (i := 85) rfl)) rfl
  | 40, _ => exact sk_mem (ck_6 _ (List.mem_of_getElem? (i := 87) rfl)) rfl
  | 41, _ => exact sk_mem (ck_6 _ (List.mem_of_getElem? (i := 89) rfl)) rfl
  | 42, _ => exact sk_mem (ck_6 _ (List.mem_of_getElem? (i := 91) rfl)) rfl
  | 43, _ => exact sk_mem (ck_6 _ (List.mem_of_getElem? (i := 93) rfl)) rfl
  | 44, _ => exact sk_mem (ck_6 _ (List.mem_of_getElem? (i := 95) rfl)) rfl
  | 45, _ => exact sk_mem (ck_6 _ (List.mem_of_getElem? (i := 97) rfl)) rfl
  | 46, _ => exact sk_mem (ck_6 _ (List.mem_of_getElem? (i := 99) rfl)) rfl
  | 47, _ => exact sk_mem (ck_6 _ (List.mem_of_getElem? (i := 101) rfl)) rfl
  | 48, _ => exact sk_mem (ck_6 _ (List.mem_of_getElem? (i := 103) rfl)) rfl
  | 49, _ => exact sk_mem (ck_6 _ (List.mem_of_getElem? (i := 105) rfl)) rfl
  | 50, _ => exact sk_mem (ck_6 _ (List.mem_of_getElem? (i := 107) rfl)) rfl
  | 51, _ => exact sk_mem (ck_6 _ (List.mem_of_getElem? (i := 109) rfl)) rfl
  | 52, _ => exact sk_mem (ck_6 _ (List.mem_of_getElem? (i := 111) rfl)) rfl
  | 53, _ => exact sk_mem (ck_6 _ (List.mem_of_getElem? (i := 113) rfl)) rfl
  | 54, _ => exact sk_mem (ck_6 _ (List.mem_of_getElem? (i := 115) rfl)) rfl
  | 55, _ => exact sk_mem (ck_6 _ (List.mem_of_getElem? (i := 117) rfl)) rfl
  | 56, _ => exact sk_mem (ck_6 _ (List.mem_of_getElem? (i := 119) rfl)) rfl
  | 57, _ => exact sk_mem (ck_6 _ (List.mem_of_getElem? (i := 121) rfl)) rfl
  | 58, _ => exact sk_mem (ck_6 _ (List.mem_of_getElem? (i := 123) rfl)) rfl
  | 59, _ => exact sk_mem (ck_6 _ (List.mem_of_getElem? (i := 125) rfl)) rfl
  | 60, _ => exact sk_mem (ck_6 _ (List.mem_of_getElem? (i := 127) rfl)) rfl
  | 61, _ => exact sk_mem (ck_6 _ (List.mem_of_getElem? (i := 129) rfl)) rfl
  | 62, _ => exact sk_mem (ck_6 _ (List.mem_of_getElem? (i := 131) rfl)) rfl
  | 63, _ => exact sk_mem (ck_6 _ (List.mem_of_getElem? (i := 133) rfl)) rfl
  | 64, _ => exact sk_mem (ck_6 _ (List.mem_of_getElem? (i := 135) rfl)) rfl
  | 65, _ => exact sk_mem (ck_6 _ (List.mem_of_getElem? (i := 137) rfl)) rfl
  | 66, _ => exact sk_mem (ck_6 _ (List.mem_of_getElem? (i := 139) rfl)) rfl
  | 67, _ => exact sk_mem (ck_6 _ (List.mem_of_getElem? (i := 141) rfl)) rfl
  | 68, _ => exact sk_mem (ck_6 _ (List.mem_of_getElem? (i := 143) rfl)) rfl
  | 69, _ => exact sk_mem (ck_6 _ (List.mem_of_getElem? (i := 145) rfl)) rfl
  | 70, _ => exact sk_mem (ck_6 _ (List.mem_of_getElem? (i := 147) rfl)) rfl
  | 71, _ => exact sk_mem (ck_6 _ (List.mem_of_getElem? (i := 149) rfl)) rfl
  | 72, _ => exact sk_mem (ck_6 _ (List.mem_of_getElem? (i := 151) rfl)) rfl
  | 73, _ => exact sk_mem (ck_6 _ (List.mem_of_getElem? (i := 153) rfl)) rfl
  | 74, _ => exact sk_mem (ck_6 _ (List.mem_of_getElem? (i := 155) rfl)) rfl
  | 75, _ => exact sk_mem (ck_6 _ (List.mem_of_getElem? (i := 157) rfl)) rfl
  | 76, _ => exact sk_mem (ck_6 _ (List.mem_of_getElem? (i := 159) rfl)) rfl
  | 77, _ => exact sk_mem (ck_6 _ (List.mem_of_getElem? (i := 161) rfl)) rfl
  | 78, _ => exact sk_mem (ck_6 _ (List.mem_of_getElem? (i := 163) rfl)) rfl
  | 79, _ => exact sk_mem (ck_6 _ (List.mem_of_getElem? (i := 165) rfl)) rfl
  | 80, _ => exact sk_mem (ck_6 _ (List.mem_of_getElem? (i := 167) rfl)) rfl
  | 81, _ => exact sk_mem (ck_6 _ (List.mem_of_getElem? (i := 169) rfl)) rfl
  | 82, _ => exact sk_mem (ck_6 _ (List.mem_of_getElem? (i := 171) rfl)) rfl
  | 83, _ => exact sk_mem (ck_6 _ (List.mem_of_getElem? (i := 173) rfl)) rfl
  | 84, _ => exact sk_mem (ck_6 _ (List.mem_of_getElem? (i := 175) rfl)) rfl
  | 85, _ => exact sk_mem (ck_6 _ (List.mem_of_getElem? (i := 177) rfl)) rfl
  | 86, _ => exact sk_mem (ck_6 _ (List.mem_of_getElem? (i := 179) rfl)) rfl
  | 87, _ => exact sk_mem (ck_6 _ (List.mem_of_getElem? (i := 181) rfl)) rfl
  | 88, _ => exact sk_mem (ck_6 _ (List.mem_of_getElem? (i := 183) rfl)) rfl
  | 89, _ => exact sk_mem (ck_6 _ (List.mem_of_getElem? (i := 185) rfl)) rfl
  | 90, _ => exact sk_mem (ck_6 _ (List.mem_of_getElem? (i := 187) rfl)) rfl
  | 91, _ => exact sk_mem (ck_6 _ (List.mem_of_getElem? (i := 189) rfl)) rfl
  | n + 92, h => exact absurd h (by omega)
