-- ===== PART A: goes FIRST, ahead of the names: the tables' words, and 'selects' of the private methods out of them =====
/-- a private method of a class that the tables say can be made, by its rows of tables_1 -/
def lw_okq (q : MethodName × Nat) : Prop := (q.1.cls ≠ "java/lang/invoke/MethodHandle" ∧ q.1.cls ≠ "java/lang/invoke/VarHandle") ∧ Cond.instantiable q.1.cls q.2 ∈ tables_1 ∧ Cond.privateMethod q.1 ∈ tables_1 ∧ Cond.instanceMethod q.1 ∈ tables_1
theorem lw_p0 : lw_okq (⟨"RollingDigits", "keepState", "()V"⟩, 8) := ⟨⟨by decide +kernel, by decide +kernel⟩, List.mem_of_getElem? (i := 11) (by decide +kernel), List.mem_of_getElem? (i := 366) (by decide +kernel), List.mem_of_getElem? (i := 367) (by decide +kernel)⟩
def lw_privs_1 : List (MethodName × Nat) := [(⟨"RollingDigits", "keepState", "()V"⟩, 8)]
theorem lw_r1 : ∀ q ∈ lw_privs_1, lw_okq q := List.forall_mem_cons.mpr ⟨lw_p0, fun _ h => absurd h List.not_mem_nil⟩
def lw_privs : List (MethodName × Nat) := lw_privs_1
def lw_tbl : List Cond := k2_sels lw_privs ++ tables_1
theorem lw_privs_ok : ∀ q ∈ lw_privs, lw_okq q := lw_r1
/-! ===== BEGIN words of one list among another's, by their places ===== -/
theorem goodIn_r {big : List Cond} (ws : List Cond) (ps : List Nat) (hp : ws = ps.filterMap (fun i => big[i]?)) (h : ws.all goodWord = true) : GoodIn big ws := by
  intro w hw
  have h1 := List.all_eq_true.mp h w hw
  rw [hp] at hw
  obtain ⟨i, -, hi⟩ := List.mem_filterMap.mp hw
  have hm : w ∈ big := by first | exact List.mem_of_getElem? hi | exact List.getElem?_mem hi
  exact ⟨hm, good_of_word h1⟩
theorem goodIn_app {big a b : List Cond} (ha : GoodIn big a) (hb : GoodIn big b) : GoodIn big (a ++ b) := fun w h => (List.mem_append.mp h).elim (ha w) (hb w)
theorem goodIn_ca {big a b : List Cond} {c : Cond} (ha : GoodIn big (c :: a)) (hb : GoodIn big b) : GoodIn big (c :: (a ++ b)) := fun w h => (List.mem_cons.mp h).elim (fun e => ha w (List.mem_cons.mpr (Or.inl e))) (fun h => (List.mem_append.mp h).elim (fun h => ha w (List.mem_cons.mpr (Or.inr h))) (hb w))
theorem goodIn_sub {big ws : List Cond} (hm : ∀ w ∈ ws, w ∈ big) (h : ws.all goodWord = true) : GoodIn big ws := fun w hw => ⟨hm w hw, good_of_word (List.all_eq_true.mp h w hw)⟩
/-! ===== END ===== -/
def RX0 : String := "RollingDigits$Alarms"
def TX0 : u_T := fun k => match k with
  | 0 => ("RollingDigits$Alarms", "values", "[[I", true)
  | 1 => ("RollingDigits$Alarms", "masks", "[I", true)
  | 2 => ("RollingDigits$Alarms", "came", "[I", true)
  | 3 => ("RollingDigits$Alarms", "armed", "I", false)
  | _ => ("RollingDigits$Alarms", "flags", "I", false)
def tyX0 : Nat → FieldType := fun k => match k with
  | 0 => .array (.array .int)
  | 1 => .array .int
  | 2 => .array .int
  | 3 => .int
  | _ => .int
abbrev wsX00 : List Cond := u_ws RX0 TX0 5
theorem nmX0 : ∀ a, a < 5 → ∀ b, b < 5 → a ≠ b → (TX0 a).2.1 ≠ (TX0 b).2.1 := by decide +kernel
theorem tyX0_ok : ∀ k, k < 5 → parseFieldDescriptor (TX0 k).2.2.1 = some (tyX0 k) := by decide +kernel
abbrev cX0_init : ByteArray := prog_2_method_1_code
def yX0_init : MethodName := ⟨RX0, "<init>", "()V"⟩
abbrev cX0_copyFrom : ByteArray := prog_2_method_2_code
def yX0_copyFrom : MethodName := ⟨RX0, "copyFrom", "(LRollingDigits$Alarms;)V"⟩
abbrev cX0_changeValue : ByteArray := prog_2_method_3_code
def yX0_changeValue : MethodName := ⟨RX0, "changeValue", "(III)I"⟩
abbrev cX0_changeMask : ByteArray := prog_2_method_4_code
def yX0_changeMask : MethodName := ⟨RX0, "changeMask", "(II)I"⟩
abbrev cX0_matches : ByteArray := prog_2_method_5_code
def yX0_matches : MethodName := ⟨RX0, "matches", "(ILRollingDigits$Registers;)Z"⟩
abbrev cX0_comeIfDue : ByteArray := prog_2_method_6_code
def yX0_comeIfDue : MethodName := ⟨RX0, "comeIfDue", "(LRollingDigits$Registers;)V"⟩
abbrev cX0_cameInAll : ByteArray := prog_2_method_7_code
def yX0_cameInAll : MethodName := ⟨RX0, "cameInAll", "()I"⟩
def RX1 : String := "RollingDigits$Burst"
def TX1 : u_T := fun k => match k with
  | 0 => ("RollingDigits$Burst", "entry", "[I", true)
  | 1 => ("RollingDigits$Burst", "toldBefore", "[I", true)
  | 2 => ("RollingDigits$Burst", "shown", "[[I", true)
  | _ => ("RollingDigits$Burst", "shownCount", "I", false)
def tyX1 : Nat → FieldType := fun k => match k with
  | 0 => .array .int
  | 1 => .array .int
  | 2 => .array (.array .int)
  | _ => .int
abbrev wsX10 : List Cond := u_ws RX1 TX1 4
theorem nmX1 : ∀ a, a < 4 → ∀ b, b < 4 → a ≠ b → (TX1 a).2.1 ≠ (TX1 b).2.1 := by decide +kernel
theorem tyX1_ok : ∀ k, k < 4 → parseFieldDescriptor (TX1 k).2.2.1 = some (tyX1 k) := by decide +kernel
abbrev cX1_init : ByteArray := prog_3_method_1_code
def yX1_init : MethodName := ⟨RX1, "<init>", "()V"⟩
abbrev cX1_make : ByteArray := prog_3_method_2_code
def yX1_make : MethodName := ⟨RX1, "make", "(LRollingDigits$Chip;I)V"⟩
abbrev cX1_seeAtOnce : ByteArray := prog_3_method_3_code
def yX1_seeAtOnce : MethodName := ⟨RX1, "seeAtOnce", "(LRollingDigits$Registers;)V"⟩
abbrev cX1_readInTurn : ByteArray := prog_3_method_4_code
def yX1_readInTurn : MethodName := ⟨RX1, "readInTurn", "(LRollingDigits$Chip;)V"⟩
abbrev cX1_keepShown : ByteArray := prog_3_method_5_code
def yX1_keepShown : MethodName := ⟨RX1, "keepShown", "(LRollingDigits$Registers;)V"⟩
abbrev cX1_isTorn : ByteArray := prog_3_method_6_code
def yX1_isTorn : MethodName := ⟨RX1, "isTorn", "()Z"⟩
abbrev cX1_isTold : ByteArray := prog_3_method_7_code
def yX1_isTold : MethodName := ⟨RX1, "isTold", "([I)Z"⟩
def RX2 : String := "RollingDigits$BurstLog"
def TX2 : u_T := fun k => match k with
  | 0 => ("RollingDigits$BurstLog", "entries", "[[I", true)
  | 1 => ("RollingDigits$BurstLog", "latest", "I", false)
  | _ => ("RollingDigits$BurstLog", "size", "I", false)
def tyX2 : Nat → FieldType := fun k => match k with
  | 0 => .array (.array .int)
  | 1 => .int
  | _ => .int
abbrev wsX20 : List Cond := u_ws RX2 TX2 3
theorem nmX2 : ∀ a, a < 3 → ∀ b, b < 3 → a ≠ b → (TX2 a).2.1 ≠ (TX2 b).2.1 := by decide +kernel
theorem tyX2_ok : ∀ k, k < 3 → parseFieldDescriptor (TX2 k).2.2.1 = some (tyX2 k) := by decide +kernel
abbrev cX2_init : ByteArray := prog_4_method_1_code
def yX2_init : MethodName := ⟨RX2, "<init>", "()V"⟩
abbrev cX2_copyFrom : ByteArray := prog_4_method_2_code
def yX2_copyFrom : MethodName := ⟨RX2, "copyFrom", "(LRollingDigits$BurstLog;)V"⟩
abbrev cX2_add : ByteArray := prog_4_method_3_code
def yX2_add : MethodName := ⟨RX2, "add", "([I)V"⟩
abbrev cX2_told : ByteArray := prog_4_method_4_code
def yX2_told : MethodName := ⟨RX2, "told", "(II)I"⟩
def RX3 : String := "RollingDigits$Chip"
def TX3 : u_T := fun k => match k with
  | 0 => ("RollingDigits$Chip", "registers", "LRollingDigits$Registers;", true)
  | 1 => ("RollingDigits$Chip", "alarms", "LRollingDigits$Alarms;", true)
  | 2 => ("RollingDigits$Chip", "bursts", "LRollingDigits$BurstLog;", true)
  | 3 => ("RollingDigits$Chip", "settings", "[I", true)
  | 4 => ("RollingDigits$Chip", "phase", "I", false)
  | 5 => ("RollingDigits$Chip", "tickCount", "I", false)
  | 6 => ("RollingDigits$Chip", "phaseCount", "I", false)
  | 7 => ("RollingDigits$Chip", "readCount", "I", false)
  | 8 => ("RollingDigits$Chip", "writingCount", "I", false)
  | 9 => ("RollingDigits$Chip", "burstCount", "I", false)
  | _ => ("RollingDigits$Chip", "tornCount", "I", false)
def tyX3 : Nat → FieldType := fun k => match k with
  | 0 => .object "RollingDigits$Registers"
  | 1 => .object "RollingDigits$Alarms"
  | 2 => .object "RollingDigits$BurstLog"
  | 3 => .array .int
  | 4 => .int
  | 5 => .int
  | 6 => .int
  | 7 => .int
  | 8 => .int
  | 9 => .int
  | _ => .int
abbrev wsX30 : List Cond := u_ws RX3 TX3 11
theorem nmX3 : ∀ a, a < 11 → ∀ b, b < 11 → a ≠ b → (TX3 a).2.1 ≠ (TX3 b).2.1 := by decide +kernel
theorem tyX3_ok : ∀ k, k < 11 → parseFieldDescriptor (TX3 k).2.2.1 = some (tyX3 k) := by decide +kernel
abbrev cX3_init : ByteArray := prog_5_method_1_code
def yX3_init : MethodName := ⟨RX3, "<init>", "()V"⟩
abbrev cX3_copyFrom : ByteArray := prog_5_method_2_code
def yX3_copyFrom : MethodName := ⟨RX3, "copyFrom", "(LRollingDigits$Chip;)V"⟩
abbrev cX3_passPhase : ByteArray := prog_5_method_3_code
def yX3_passPhase : MethodName := ⟨RX3, "passPhase", "()Z"⟩
abbrev cX3_passPhases : ByteArray := prog_5_method_4_code
def yX3_passPhases : MethodName := ⟨RX3, "passPhases", "(I)I"⟩
abbrev cX3_writeRegister : ByteArray := prog_5_method_5_code
def yX3_writeRegister : MethodName := ⟨RX3, "writeRegister", "(II)I"⟩
abbrev cX3_readRegister : ByteArray := prog_5_method_6_code
def yX3_readRegister : MethodName := ⟨RX3, "readRegister", "(I)I"⟩
abbrev cX3_changeSetting : ByteArray := prog_5_method_7_code
def yX3_changeSetting : MethodName := ⟨RX3, "changeSetting", "(II)I"⟩
abbrev cX3_logBurst : ByteArray := prog_5_method_8_code
def yX3_logBurst : MethodName := ⟨RX3, "logBurst", "([I)V"⟩
def RX4 : String := "RollingDigits$Order"
def TX4 : u_T := fun k => match k with
  | 0 => ("RollingDigits$Order", "numbers", "[I", true)
  | 1 => ("RollingDigits$Order", "letter", "C", false)
  | 2 => ("RollingDigits$Order", "isBroken", "Z", false)
  | _ => ("RollingDigits$Order", "length", "I", false)
def tyX4 : Nat → FieldType := fun k => match k with
  | 0 => .array .int
  | 1 => .char
  | 2 => .boolean
  | _ => .int
abbrev wsX40 : List Cond := u_ws RX4 TX4 4
theorem nmX4 : ∀ a, a < 4 → ∀ b, b < 4 → a ≠ b → (TX4 a).2.1 ≠ (TX4 b).2.1 := by decide +kernel
theorem tyX4_ok : ∀ k, k < 4 → parseFieldDescriptor (TX4 k).2.2.1 = some (tyX4 k) := by decide +kernel
abbrev cX4_init : ByteArray := prog_6_method_1_code
def yX4_init : MethodName := ⟨RX4, "<init>", "()V"⟩
def RX5 : String := "RollingDigits$Registers"
def TX5 : u_T := fun k => match k with
  | 0 => ("RollingDigits$Registers", "values", "[I", true)
  | 1 => ("RollingDigits$Registers", "failed", "[I", true)
  | 2 => ("RollingDigits$Registers", "failedAsOne", "[I", true)
  | _ => ("RollingDigits$Registers", "rolls", "[I", true)
def tyX5 : Nat → FieldType := fun k => match k with
  | 0 => .array .int
  | 1 => .array .int
  | 2 => .array .int
  | _ => .array .int
abbrev wsX50 : List Cond := u_ws RX5 TX5 4
theorem nmX5 : ∀ a, a < 4 → ∀ b, b < 4 → a ≠ b → (TX5 a).2.1 ≠ (TX5 b).2.1 := by decide +kernel
theorem tyX5_ok : ∀ k, k < 4 → parseFieldDescriptor (TX5 k).2.2.1 = some (tyX5 k) := by decide +kernel
abbrev cX5_init : ByteArray := prog_7_method_1_code
def yX5_init : MethodName := ⟨RX5, "<init>", "()V"⟩
abbrev cX5_copyFrom : ByteArray := prog_7_method_2_code
def yX5_copyFrom : MethodName := ⟨RX5, "copyFrom", "(LRollingDigits$Registers;)V"⟩
abbrev cX5_lastValue : ByteArray := prog_7_method_3_code
def yX5_lastValue : MethodName := ⟨RX5, "lastValue", "(I)I"⟩
abbrev cX5_isLeapYear : ByteArray := prog_7_method_4_code
def yX5_isLeapYear : MethodName := ⟨RX5, "isLeapYear", "()Z"⟩
abbrev cX5_whyWrong : ByteArray := prog_7_method_5_code
def yX5_whyWrong : MethodName := ⟨RX5, "whyWrong", "(I)I"⟩
abbrev cX5_wrongOnes : ByteArray := prog_7_method_6_code
def yX5_wrongOnes : MethodName := ⟨RX5, "wrongOnes", "()I"⟩
abbrev cX5_withCells : ByteArray := prog_7_method_7_code
def yX5_withCells : MethodName := ⟨RX5, "withCells", "(II)I"⟩
abbrev cX5_hasFailed : ByteArray := prog_7_method_8_code
def yX5_hasFailed : MethodName := ⟨RX5, "hasFailed", "(II)Z"⟩
abbrev cX5_failCell : ByteArray := prog_7_method_9_code
def yX5_failCell : MethodName := ⟨RX5, "failCell", "(III)I"⟩
abbrev cX5_healCell : ByteArray := prog_7_method_10_code
def yX5_healCell : MethodName := ⟨RX5, "healCell", "(II)V"⟩
abbrev cX5_failedCells : ByteArray := prog_7_method_11_code
def yX5_failedCells : MethodName := ⟨RX5, "failedCells", "()I"⟩
abbrev cX5_nextValue : ByteArray := prog_7_method_12_code
def yX5_nextValue : MethodName := ⟨RX5, "nextValue", "(II)I"⟩
abbrev cX5_stepOn : ByteArray := prog_7_method_13_code
def yX5_stepOn : MethodName := ⟨RX5, "stepOn", "(II)Z"⟩
abbrev cX5_tick : ByteArray := prog_7_method_14_code
def yX5_tick : MethodName := ⟨RX5, "tick", "()V"⟩
abbrev cX5_isDateRight : ByteArray := prog_7_method_15_code
def yX5_isDateRight : MethodName := ⟨RX5, "isDateRight", "()Z"⟩
abbrev cX5_daysOfYear : ByteArray := prog_7_method_16_code
def yX5_daysOfYear : MethodName := ⟨RX5, "daysOfYear", "()I"⟩
abbrev cX5_dayOfYear : ByteArray := prog_7_method_17_code
def yX5_dayOfYear : MethodName := ⟨RX5, "dayOfYear", "()I"⟩
abbrev cX5_daysFromStart : ByteArray := prog_7_method_18_code
def yX5_daysFromStart : MethodName := ⟨RX5, "daysFromStart", "()I"⟩
abbrev cX5_weekdayByDate : ByteArray := prog_7_method_19_code
def yX5_weekdayByDate : MethodName := ⟨RX5, "weekdayByDate", "()I"⟩
def RX6 : String := "RollingDigits"
def TX6 : u_T := fun k => match k with
  | 0 => ("RollingDigits", "now", "LRollingDigits$Chip;", true)
  | 1 => ("RollingDigits", "trial", "LRollingDigits$Chip;", true)
  | 2 => ("RollingDigits", "maker", "LRollingDigits$Burst;", true)
  | 3 => ("RollingDigits", "order", "LRollingDigits$Order;", true)
  | 4 => ("RollingDigits", "history", "[LRollingDigits$Chip;", true)
  | 5 => ("RollingDigits", "historySize", "I", false)
  | 6 => ("RollingDigits", "text", "[C", true)
  | _ => ("RollingDigits", "textLength", "I", false)
def tyX6 : Nat → FieldType := fun k => match k with
  | 0 => .object "RollingDigits$Chip"
  | 1 => .object "RollingDigits$Chip"
  | 2 => .object "RollingDigits$Burst"
  | 3 => .object "RollingDigits$Order"
  | 4 => .array (.object "RollingDigits$Chip")
  | 5 => .int
  | 6 => .array .char
  | _ => .int
abbrev wsX60 : List Cond := u_ws RX6 TX6 8
theorem nmX6 : ∀ a, a < 8 → ∀ b, b < 8 → a ≠ b → (TX6 a).2.1 ≠ (TX6 b).2.1 := by decide +kernel
theorem tyX6_ok : ∀ k, k < 8 → parseFieldDescriptor (TX6 k).2.2.1 = some (tyX6 k) := by decide +kernel
abbrev cX6_init : ByteArray := prog_1_method_1_code
def yX6_init : MethodName := ⟨RX6, "<init>", "()V"⟩
abbrev cX6_write : ByteArray := prog_1_method_2_code
def yX6_write : MethodName := ⟨RX6, "write", "(II)I"⟩
abbrev cX6_read : ByteArray := prog_1_method_3_code
def yX6_read : MethodName := ⟨RX6, "read", "(I)I"⟩
abbrev cX6_burst : ByteArray := prog_1_method_4_code
def yX6_burst : MethodName := ⟨RX6, "burst", "(I)I"⟩
abbrev cX6_pass : ByteArray := prog_1_method_5_code
def yX6_pass : MethodName := ⟨RX6, "pass", "(I)I"⟩
abbrev cX6_alarm : ByteArray := prog_1_method_6_code
def yX6_alarm : MethodName := ⟨RX6, "alarm", "(III)I"⟩
abbrev cX6_arm : ByteArray := prog_1_method_7_code
def yX6_arm : MethodName := ⟨RX6, "arm", "(II)I"⟩
abbrev cX6_clear : ByteArray := prog_1_method_8_code
def yX6_clear : MethodName := ⟨RX6, "clear", "()I"⟩
abbrev cX6_fail : ByteArray := prog_1_method_9_code
def yX6_fail : MethodName := ⟨RX6, "fail", "(III)I"⟩
abbrev cX6_heal : ByteArray := prog_1_method_10_code
def yX6_heal : MethodName := ⟨RX6, "heal", "(II)I"⟩
abbrev cX6_set : ByteArray := prog_1_method_11_code
def yX6_set : MethodName := ⟨RX6, "set", "(II)I"⟩
abbrev cX6_registerOf : ByteArray := prog_1_method_12_code
def yX6_registerOf : MethodName := ⟨RX6, "registerOf", "(II)I"⟩
abbrev cX6_alarmOf : ByteArray := prog_1_method_13_code
def yX6_alarmOf : MethodName := ⟨RX6, "alarmOf", "(II)I"⟩
abbrev cX6_date : ByteArray := prog_1_method_14_code
def yX6_date : MethodName := ⟨RX6, "date", "(I)I"⟩
abbrev cX6_log : ByteArray := prog_1_method_15_code
def yX6_log : MethodName := ⟨RX6, "log", "(II)I"⟩
abbrev cX6_count : ByteArray := prog_1_method_21_code
def yX6_count : MethodName := ⟨RX6, "count", "(I)I"⟩
abbrev cX6_keepState : ByteArray := prog_1_method_27_code
def yX6_keepState : MethodName := ⟨RX6, "keepState", "()V"⟩
abbrev cX6_mayWrite : ByteArray := prog_1_method_30_code
def yX6_mayWrite : MethodName := ⟨RX6, "mayWrite", "(II)Z"⟩
abbrev cX6_mayPass : ByteArray := prog_1_method_31_code
def yX6_mayPass : MethodName := ⟨RX6, "mayPass", "(I)Z"⟩
abbrev cX6_mayChangeAlarm : ByteArray := prog_1_method_32_code
def yX6_mayChangeAlarm : MethodName := ⟨RX6, "mayChangeAlarm", "(III)Z"⟩
abbrev cX6_isRegister : ByteArray := prog_1_method_33_code
def yX6_isRegister : MethodName := ⟨RX6, "isRegister", "(I)Z"⟩
abbrev cX6_isCell : ByteArray := prog_1_method_34_code
def yX6_isCell : MethodName := ⟨RX6, "isCell", "(II)Z"⟩
abbrev cX6_isAlarm : ByteArray := prog_1_method_35_code
def yX6_isAlarm : MethodName := ⟨RX6, "isAlarm", "(I)Z"⟩
abbrev cX6_isMode : ByteArray := prog_1_method_36_code
def yX6_isMode : MethodName := ⟨RX6, "isMode", "(I)Z"⟩
abbrev cX6_isWithin : ByteArray := prog_1_method_37_code
def yX6_isWithin : MethodName := ⟨RX6, "isWithin", "(III)Z"⟩
abbrev cX6_bitOf : ByteArray := prog_1_method_38_code
def yX6_bitOf : MethodName := ⟨RX6, "bitOf", "(II)I"⟩
abbrev cX6_numberOf : ByteArray := prog_1_method_39_code
def yX6_numberOf : MethodName := ⟨RX6, "numberOf", "(I)I"⟩
def RX7 : String := "RollingDigitsModel"
def TX7 : u_T := fun k => match k with
  | _ => ("", "", "", false)
def tyX7 : Nat → FieldType := fun k => match k with
  | _ => .int
abbrev wsX70 : List Cond := u_ws RX7 TX7 0
theorem nmX7 : ∀ a, a < 0 → ∀ b, b < 0 → a ≠ b → (TX7 a).2.1 ≠ (TX7 b).2.1 := by decide +kernel
theorem tyX7_ok : ∀ k, k < 0 → parseFieldDescriptor (TX7 k).2.2.1 = some (tyX7 k) := by decide +kernel
def RJ6 : String := "java/lang/Integer"
def TJ6 : u_T := fun k => match k with
  | _ => ("", "", "", false)
def tyJ6 : Nat → FieldType := fun k => match k with
  | _ => .int
abbrev wsJ60 : List Cond := u_ws RJ6 TJ6 0
theorem nmJ6 : ∀ a, a < 0 → ∀ b, b < 0 → a ≠ b → (TJ6 a).2.1 ≠ (TJ6 b).2.1 := by decide +kernel
theorem tyJ6_ok : ∀ k, k < 0 → parseFieldDescriptor (TJ6 k).2.2.1 = some (tyJ6 k) := by decide +kernel
abbrev cJ6_bitCount_0f7a4 : ByteArray := prog_10_method_49_code
def yJ6_bitCount_0f7a4 : MethodName := ⟨RJ6, "bitCount", "(I)I"⟩
def RJ10 : String := "java/lang/System"
def TJ10 : u_T := fun k => match k with
  | _ => ("", "", "", false)
def tyJ10 : Nat → FieldType := fun k => match k with
  | _ => .int
abbrev wsJ100 : List Cond := u_ws RJ10 TJ10 0
theorem nmJ10 : ∀ a, a < 0 → ∀ b, b < 0 → a ≠ b → (TJ10 a).2.1 ≠ (TJ10 b).2.1 := by decide +kernel
theorem tyJ10_ok : ∀ k, k < 0 → parseFieldDescriptor (TJ10 k).2.2.1 = some (tyJ10 k) := by decide +kernel
def RL : String := "RollingDigitsLaw"
abbrev cL_cell : ByteArray := method_2_code
def yL_cell : MethodName := ⟨RL, "cell", "([II)I"⟩
abbrev cL_number : ByteArray := method_4_code
def yL_number : MethodName := ⟨RL, "number", "(I)I"⟩
abbrev cL_isCode : ByteArray := method_5_code
def yL_isCode : MethodName := ⟨RL, "isCode", "(III)Z"⟩
abbrev cL_month : ByteArray := method_6_code
def yL_month : MethodName := ⟨RL, "month", "([I)I"⟩
abbrev cL_most : ByteArray := method_7_code
def yL_most : MethodName := ⟨RL, "most", "([II)I"⟩
abbrev cL_least : ByteArray := method_8_code
def yL_least : MethodName := ⟨RL, "least", "(I)I"⟩
abbrev cL_put : ByteArray := method_9_code
def yL_put : MethodName := ⟨RL, "put", "([I[I[III)V"⟩
abbrev cL_next : ByteArray := method_10_code
def yL_next : MethodName := ⟨RL, "next", "([II)I"⟩
abbrev cL_step : ByteArray := method_11_code
def yL_step : MethodName := ⟨RL, "step", "([I[I[I[II)Z"⟩
abbrev cL_matches : ByteArray := method_12_code
def yL_matches : MethodName := ⟨RL, "matches", "([I[II)Z"⟩
abbrev cL_phase : ByteArray := method_13_code
def yL_phase : MethodName := ⟨RL, "phase", "([I[I[I[I[I[I)Z"⟩
abbrev cL_reads : ByteArray := method_14_code
def yL_reads : MethodName := ⟨RL, "reads", "([I[I[I[I[I[I[I[I)Z"⟩
abbrev cL_isBurst : ByteArray := method_15_code
def yL_isBurst : MethodName := ⟨RL, "isBurst", "(LRollingDigits;[I[I[I[I[I[I[I[II)Z"⟩
abbrev cL_bits : ByteArray := method_16_code
def yL_bits : MethodName := ⟨RL, "bits", "(I)I"⟩
abbrev cL_areRegisters : ByteArray := method_17_code
def yL_areRegisters : MethodName := ⟨RL, "areRegisters", "(LRollingDigits;[I[I[I[I[I)Z"⟩
abbrev cL_areAlarms : ByteArray := method_18_code
def yL_areAlarms : MethodName := ⟨RL, "areAlarms", "(LRollingDigits;[I[I[I)Z"⟩
abbrev cL_isActed : ByteArray := method_19_code
def yL_isActed : MethodName := ⟨RL, "isActed", "(LRollingDigits;[I[I[I[I[I[I[I[III)Z"⟩
abbrev cL_isCell : ByteArray := method_20_code
def yL_isCell : MethodName := ⟨RL, "isCell", "(LRollingDigits;[I[I[IIIIZ)Z"⟩
abbrev cL_law : ByteArray := code
def yL_law : MethodName := ⟨RL, "law", "([I)Z"⟩
theorem dX0_init_0 : decode cX0_init 0 = .ok (.aload_n 0, 1) := by decide +kernel
theorem dX0_init_1 : decode cX0_init 1 = .ok (.invokespecial 3, 3) := by decide +kernel
theorem dX0_init_4 : decode cX0_init 4 = .ok (.aload_n 0, 1) := by decide +kernel
theorem dX0_init_5 : decode cX0_init 5 = .ok (.iconst 3, 1) := by decide +kernel
theorem dX0_init_6 : decode cX0_init 6 = .ok (.iconst 5, 1) := by decide +kernel
theorem dX0_init_7 : decode cX0_init 7 = .ok (.multianewarray 9 2, 4) := by decide +kernel
theorem dX0_init_11 : decode cX0_init 11 = .ok (.putfield 11, 3) := by decide +kernel
theorem dX0_init_14 : decode cX0_init 14 = .ok (.aload_n 0, 1) := by decide +kernel
theorem dX0_init_15 : decode cX0_init 15 = .ok (.iconst 3, 1) := by decide +kernel
theorem dX0_init_16 : decode cX0_init 16 = .ok (.newarray .int, 2) := by decide +kernel
theorem dX0_init_18 : decode cX0_init 18 = .ok (.putfield 16, 3) := by decide +kernel
theorem dX0_init_21 : decode cX0_init 21 = .ok (.aload_n 0, 1) := by decide +kernel
theorem dX0_init_22 : decode cX0_init 22 = .ok (.iconst 3, 1) := by decide +kernel
theorem dX0_init_23 : decode cX0_init 23 = .ok (.newarray .int, 2) := by decide +kernel
theorem dX0_init_25 : decode cX0_init 25 = .ok (.putfield 20, 3) := by decide +kernel
theorem dX0_init_28 : decode cX0_init 28 = .ok (.return_, 1) := by decide +kernel
theorem dX0_copyFrom_0 : decode cX0_copyFrom 0 = .ok (.iconst 0, 1) := by decide +kernel
theorem dX0_copyFrom_1 : decode cX0_copyFrom 1 = .ok (.istore_n 2, 1) := by decide +kernel
theorem dX0_copyFrom_2 : decode cX0_copyFrom 2 = .ok (.iload_n 2, 1) := by decide +kernel
theorem dX0_copyFrom_3 : decode cX0_copyFrom 3 = .ok (.iconst 3, 1) := by decide +kernel
theorem dX0_copyFrom_4 : decode cX0_copyFrom 4 = .ok (.if_icmp .ge 27, 3) := by decide +kernel
theorem dX0_copyFrom_7 : decode cX0_copyFrom 7 = .ok (.aload_n 1, 1) := by decide +kernel
theorem dX0_copyFrom_8 : decode cX0_copyFrom 8 = .ok (.getfield 11, 3) := by decide +kernel
theorem dX0_copyFrom_11 : decode cX0_copyFrom 11 = .ok (.iload_n 2, 1) := by decide +kernel
theorem dX0_copyFrom_12 : decode cX0_copyFrom 12 = .ok (.aaload, 1) := by decide +kernel
theorem dX0_copyFrom_13 : decode cX0_copyFrom 13 = .ok (.iconst 0, 1) := by decide +kernel
theorem dX0_copyFrom_14 : decode cX0_copyFrom 14 = .ok (.aload_n 0, 1) := by decide +kernel
theorem dX0_copyFrom_15 : decode cX0_copyFrom 15 = .ok (.getfield 11, 3) := by decide +kernel
theorem dX0_copyFrom_18 : decode cX0_copyFrom 18 = .ok (.iload_n 2, 1) := by decide +kernel
theorem dX0_copyFrom_19 : decode cX0_copyFrom 19 = .ok (.aaload, 1) := by decide +kernel
theorem dX0_copyFrom_20 : decode cX0_copyFrom 20 = .ok (.iconst 0, 1) := by decide +kernel
theorem dX0_copyFrom_21 : decode cX0_copyFrom 21 = .ok (.iconst 5, 1) := by decide +kernel
theorem dX0_copyFrom_22 : decode cX0_copyFrom 22 = .ok (.invokestatic 23, 3) := by decide +kernel
theorem dX0_copyFrom_25 : decode cX0_copyFrom 25 = .ok (.iinc 2 1, 3) := by decide +kernel
theorem dX0_copyFrom_28 : decode cX0_copyFrom 28 = .ok (.goto (-26), 3) := by decide +kernel
theorem dX0_copyFrom_31 : decode cX0_copyFrom 31 = .ok (.aload_n 1, 1) := by decide +kernel
theorem dX0_copyFrom_32 : decode cX0_copyFrom 32 = .ok (.getfield 16, 3) := by decide +kernel
theorem dX0_copyFrom_35 : decode cX0_copyFrom 35 = .ok (.iconst 0, 1) := by decide +kernel
theorem dX0_copyFrom_36 : decode cX0_copyFrom 36 = .ok (.aload_n 0, 1) := by decide +kernel
theorem dX0_copyFrom_37 : decode cX0_copyFrom 37 = .ok (.getfield 16, 3) := by decide +kernel
theorem dX0_copyFrom_40 : decode cX0_copyFrom 40 = .ok (.iconst 0, 1) := by decide +kernel
theorem dX0_copyFrom_41 : decode cX0_copyFrom 41 = .ok (.iconst 3, 1) := by decide +kernel
theorem dX0_copyFrom_42 : decode cX0_copyFrom 42 = .ok (.invokestatic 23, 3) := by decide +kernel
theorem dX0_copyFrom_45 : decode cX0_copyFrom 45 = .ok (.aload_n 1, 1) := by decide +kernel
theorem dX0_copyFrom_46 : decode cX0_copyFrom 46 = .ok (.getfield 20, 3) := by decide +kernel
theorem dX0_copyFrom_49 : decode cX0_copyFrom 49 = .ok (.iconst 0, 1) := by decide +kernel
theorem dX0_copyFrom_50 : decode cX0_copyFrom 50 = .ok (.aload_n 0, 1) := by decide +kernel
theorem dX0_copyFrom_51 : decode cX0_copyFrom 51 = .ok (.getfield 20, 3) := by decide +kernel
theorem dX0_copyFrom_54 : decode cX0_copyFrom 54 = .ok (.iconst 0, 1) := by decide +kernel
theorem dX0_copyFrom_55 : decode cX0_copyFrom 55 = .ok (.iconst 3, 1) := by decide +kernel
theorem dX0_copyFrom_56 : decode cX0_copyFrom 56 = .ok (.invokestatic 23, 3) := by decide +kernel
theorem dX0_copyFrom_59 : decode cX0_copyFrom 59 = .ok (.aload_n 0, 1) := by decide +kernel
theorem dX0_copyFrom_60 : decode cX0_copyFrom 60 = .ok (.aload_n 1, 1) := by decide +kernel
theorem dX0_copyFrom_61 : decode cX0_copyFrom 61 = .ok (.getfield 29, 3) := by decide +kernel
theorem dX0_copyFrom_64 : decode cX0_copyFrom 64 = .ok (.putfield 29, 3) := by decide +kernel
theorem dX0_copyFrom_67 : decode cX0_copyFrom 67 = .ok (.aload_n 0, 1) := by decide +kernel
theorem dX0_copyFrom_68 : decode cX0_copyFrom 68 = .ok (.aload_n 1, 1) := by decide +kernel
theorem dX0_copyFrom_69 : decode cX0_copyFrom 69 = .ok (.getfield 33, 3) := by decide +kernel
theorem dX0_copyFrom_72 : decode cX0_copyFrom 72 = .ok (.putfield 33, 3) := by decide +kernel
theorem dX0_copyFrom_75 : decode cX0_copyFrom 75 = .ok (.return_, 1) := by decide +kernel
theorem dX0_changeValue_0 : decode cX0_changeValue 0 = .ok (.aload_n 0, 1) := by decide +kernel
theorem dX0_changeValue_1 : decode cX0_changeValue 1 = .ok (.getfield 11, 3) := by decide +kernel
theorem dX0_changeValue_4 : decode cX0_changeValue 4 = .ok (.iload_n 1, 1) := by decide +kernel
theorem dX0_changeValue_5 : decode cX0_changeValue 5 = .ok (.aaload, 1) := by decide +kernel
theorem dX0_changeValue_6 : decode cX0_changeValue 6 = .ok (.iload_n 2, 1) := by decide +kernel
theorem dX0_changeValue_7 : decode cX0_changeValue 7 = .ok (.iaload, 1) := by decide +kernel
theorem dX0_changeValue_8 : decode cX0_changeValue 8 = .ok (.istore 4, 2) := by decide +kernel
theorem dX0_changeValue_10 : decode cX0_changeValue 10 = .ok (.aload_n 0, 1) := by decide +kernel
theorem dX0_changeValue_11 : decode cX0_changeValue 11 = .ok (.getfield 11, 3) := by decide +kernel
theorem dX0_changeValue_14 : decode cX0_changeValue 14 = .ok (.iload_n 1, 1) := by decide +kernel
theorem dX0_changeValue_15 : decode cX0_changeValue 15 = .ok (.aaload, 1) := by decide +kernel
theorem dX0_changeValue_16 : decode cX0_changeValue 16 = .ok (.iload_n 2, 1) := by decide +kernel
theorem dX0_changeValue_17 : decode cX0_changeValue 17 = .ok (.iload_n 3, 1) := by decide +kernel
theorem dX0_changeValue_18 : decode cX0_changeValue 18 = .ok (.iastore, 1) := by decide +kernel
theorem dX0_changeValue_19 : decode cX0_changeValue 19 = .ok (.iload 4, 2) := by decide +kernel
theorem dX0_changeValue_21 : decode cX0_changeValue 21 = .ok (.ireturn, 1) := by decide +kernel
theorem dX0_changeMask_0 : decode cX0_changeMask 0 = .ok (.aload_n 0, 1) := by decide +kernel
theorem dX0_changeMask_1 : decode cX0_changeMask 1 = .ok (.getfield 29, 3) := by decide +kernel
theorem dX0_changeMask_4 : decode cX0_changeMask 4 = .ok (.iload_n 1, 1) := by decide +kernel
theorem dX0_changeMask_5 : decode cX0_changeMask 5 = .ok (.invokestatic 36, 3) := by decide +kernel
theorem dX0_changeMask_8 : decode cX0_changeMask 8 = .ok (.istore_n 3, 1) := by decide +kernel
theorem dX0_changeMask_9 : decode cX0_changeMask 9 = .ok (.iload_n 2, 1) := by decide +kernel
theorem dX0_changeMask_10 : decode cX0_changeMask 10 = .ok (.iconst (-1), 1) := by decide +kernel
theorem dX0_changeMask_11 : decode cX0_changeMask 11 = .ok (.if_icmp .ne 20, 3) := by decide +kernel
theorem dX0_changeMask_14 : decode cX0_changeMask 14 = .ok (.aload_n 0, 1) := by decide +kernel
theorem dX0_changeMask_15 : decode cX0_changeMask 15 = .ok (.dup, 1) := by decide +kernel
theorem dX0_changeMask_16 : decode cX0_changeMask 16 = .ok (.getfield 29, 3) := by decide +kernel
theorem dX0_changeMask_19 : decode cX0_changeMask 19 = .ok (.iconst 1, 1) := by decide +kernel
theorem dX0_changeMask_20 : decode cX0_changeMask 20 = .ok (.iload_n 1, 1) := by decide +kernel
theorem dX0_changeMask_21 : decode cX0_changeMask 21 = .ok (.ishl, 1) := by decide +kernel
theorem dX0_changeMask_22 : decode cX0_changeMask 22 = .ok (.iconst (-1), 1) := by decide +kernel
theorem dX0_changeMask_23 : decode cX0_changeMask 23 = .ok (.ixor, 1) := by decide +kernel
theorem dX0_changeMask_24 : decode cX0_changeMask 24 = .ok (.iand, 1) := by decide +kernel
theorem dX0_changeMask_25 : decode cX0_changeMask 25 = .ok (.putfield 29, 3) := by decide +kernel
theorem dX0_changeMask_28 : decode cX0_changeMask 28 = .ok (.goto 22, 3) := by decide +kernel
theorem dX0_changeMask_31 : decode cX0_changeMask 31 = .ok (.aload_n 0, 1) := by decide +kernel
theorem dX0_changeMask_32 : decode cX0_changeMask 32 = .ok (.dup, 1) := by decide +kernel
theorem dX0_changeMask_33 : decode cX0_changeMask 33 = .ok (.getfield 29, 3) := by decide +kernel
theorem dX0_changeMask_36 : decode cX0_changeMask 36 = .ok (.iconst 1, 1) := by decide +kernel
theorem dX0_changeMask_37 : decode cX0_changeMask 37 = .ok (.iload_n 1, 1) := by decide +kernel
theorem dX0_changeMask_38 : decode cX0_changeMask 38 = .ok (.ishl, 1) := by decide +kernel
theorem dX0_changeMask_39 : decode cX0_changeMask 39 = .ok (.ior, 1) := by decide +kernel
theorem dX0_changeMask_40 : decode cX0_changeMask 40 = .ok (.putfield 29, 3) := by decide +kernel
theorem dX0_changeMask_43 : decode cX0_changeMask 43 = .ok (.aload_n 0, 1) := by decide +kernel
theorem dX0_changeMask_44 : decode cX0_changeMask 44 = .ok (.getfield 16, 3) := by decide +kernel
theorem dX0_changeMask_47 : decode cX0_changeMask 47 = .ok (.iload_n 1, 1) := by decide +kernel
theorem dX0_changeMask_48 : decode cX0_changeMask 48 = .ok (.iload_n 2, 1) := by decide +kernel
theorem dX0_changeMask_49 : decode cX0_changeMask 49 = .ok (.iastore, 1) := by decide +kernel
theorem dX0_changeMask_50 : decode cX0_changeMask 50 = .ok (.iload_n 3, 1) := by decide +kernel
theorem dX0_changeMask_51 : decode cX0_changeMask 51 = .ok (.ireturn, 1) := by decide +kernel
theorem dX0_matches_0 : decode cX0_matches 0 = .ok (.iconst 0, 1) := by decide +kernel
theorem dX0_matches_1 : decode cX0_matches 1 = .ok (.istore_n 3, 1) := by decide +kernel
theorem dX0_matches_2 : decode cX0_matches 2 = .ok (.iload_n 3, 1) := by decide +kernel
theorem dX0_matches_3 : decode cX0_matches 3 = .ok (.iconst 5, 1) := by decide +kernel
theorem dX0_matches_4 : decode cX0_matches 4 = .ok (.if_icmp .ge 54, 3) := by decide +kernel
theorem dX0_matches_7 : decode cX0_matches 7 = .ok (.aload_n 0, 1) := by decide +kernel
theorem dX0_matches_8 : decode cX0_matches 8 = .ok (.getfield 16, 3) := by decide +kernel
theorem dX0_matches_11 : decode cX0_matches 11 = .ok (.iload_n 1, 1) := by decide +kernel
theorem dX0_matches_12 : decode cX0_matches 12 = .ok (.iaload, 1) := by decide +kernel
theorem dX0_matches_13 : decode cX0_matches 13 = .ok (.iload_n 3, 1) := by decide +kernel
theorem dX0_matches_14 : decode cX0_matches 14 = .ok (.invokestatic 36, 3) := by decide +kernel
theorem dX0_matches_17 : decode cX0_matches 17 = .ok (.iconst 1, 1) := by decide +kernel
theorem dX0_matches_18 : decode cX0_matches 18 = .ok (.if_icmp .ne 7, 3) := by decide +kernel
theorem dX0_matches_21 : decode cX0_matches 21 = .ok (.iconst 1, 1) := by decide +kernel
theorem dX0_matches_22 : decode cX0_matches 22 = .ok (.goto 4, 3) := by decide +kernel
theorem dX0_matches_25 : decode cX0_matches 25 = .ok (.iconst 0, 1) := by decide +kernel
theorem dX0_matches_26 : decode cX0_matches 26 = .ok (.istore 4, 2) := by decide +kernel
theorem dX0_matches_28 : decode cX0_matches 28 = .ok (.iload 4, 2) := by decide +kernel
theorem dX0_matches_30 : decode cX0_matches 30 = .ok (.ifCond .ne 22, 3) := by decide +kernel
theorem dX0_matches_33 : decode cX0_matches 33 = .ok (.aload_n 2, 1) := by decide +kernel
theorem dX0_matches_34 : decode cX0_matches 34 = .ok (.getfield 40, 3) := by decide +kernel
theorem dX0_matches_37 : decode cX0_matches 37 = .ok (.iload_n 3, 1) := by decide +kernel
theorem dX0_matches_38 : decode cX0_matches 38 = .ok (.iaload, 1) := by decide +kernel
theorem dX0_matches_39 : decode cX0_matches 39 = .ok (.aload_n 0, 1) := by decide +kernel
theorem dX0_matches_40 : decode cX0_matches 40 = .ok (.getfield 11, 3) := by decide +kernel
theorem dX0_matches_43 : decode cX0_matches 43 = .ok (.iload_n 1, 1) := by decide +kernel
theorem dX0_matches_44 : decode cX0_matches 44 = .ok (.aaload, 1) := by decide +kernel
theorem dX0_matches_45 : decode cX0_matches 45 = .ok (.iload_n 3, 1) := by decide +kernel
theorem dX0_matches_46 : decode cX0_matches 46 = .ok (.iaload, 1) := by decide +kernel
theorem dX0_matches_47 : decode cX0_matches 47 = .ok (.if_icmp .eq 5, 3) := by decide +kernel
theorem dX0_matches_50 : decode cX0_matches 50 = .ok (.iconst 0, 1) := by decide +kernel
theorem dX0_matches_51 : decode cX0_matches 51 = .ok (.ireturn, 1) := by decide +kernel
theorem dX0_matches_52 : decode cX0_matches 52 = .ok (.iinc 3 1, 3) := by decide +kernel
theorem dX0_matches_55 : decode cX0_matches 55 = .ok (.goto (-53), 3) := by decide +kernel
theorem dX0_matches_58 : decode cX0_matches 58 = .ok (.iconst 1, 1) := by decide +kernel
theorem dX0_matches_59 : decode cX0_matches 59 = .ok (.ireturn, 1) := by decide +kernel
theorem dX0_comeIfDue_0 : decode cX0_comeIfDue 0 = .ok (.iconst 0, 1) := by decide +kernel
theorem dX0_comeIfDue_1 : decode cX0_comeIfDue 1 = .ok (.istore_n 2, 1) := by decide +kernel
theorem dX0_comeIfDue_2 : decode cX0_comeIfDue 2 = .ok (.iload_n 2, 1) := by decide +kernel
theorem dX0_comeIfDue_3 : decode cX0_comeIfDue 3 = .ok (.iconst 3, 1) := by decide +kernel
theorem dX0_comeIfDue_4 : decode cX0_comeIfDue 4 = .ok (.if_icmp .ge 52, 3) := by decide +kernel
theorem dX0_comeIfDue_7 : decode cX0_comeIfDue 7 = .ok (.aload_n 0, 1) := by decide +kernel
theorem dX0_comeIfDue_8 : decode cX0_comeIfDue 8 = .ok (.getfield 29, 3) := by decide +kernel
theorem dX0_comeIfDue_11 : decode cX0_comeIfDue 11 = .ok (.iload_n 2, 1) := by decide +kernel
theorem dX0_comeIfDue_12 : decode cX0_comeIfDue 12 = .ok (.invokestatic 36, 3) := by decide +kernel
theorem dX0_comeIfDue_15 : decode cX0_comeIfDue 15 = .ok (.iconst 1, 1) := by decide +kernel
theorem dX0_comeIfDue_16 : decode cX0_comeIfDue 16 = .ok (.if_icmp .ne 34, 3) := by decide +kernel
theorem dX0_comeIfDue_19 : decode cX0_comeIfDue 19 = .ok (.aload_n 0, 1) := by decide +kernel
theorem dX0_comeIfDue_20 : decode cX0_comeIfDue 20 = .ok (.iload_n 2, 1) := by decide +kernel
theorem dX0_comeIfDue_21 : decode cX0_comeIfDue 21 = .ok (.aload_n 1, 1) := by decide +kernel
theorem dX0_comeIfDue_22 : decode cX0_comeIfDue 22 = .ok (.invokevirtual 44, 3) := by decide +kernel
theorem dX0_comeIfDue_25 : decode cX0_comeIfDue 25 = .ok (.ifCond .eq 25, 3) := by decide +kernel
theorem dX0_comeIfDue_28 : decode cX0_comeIfDue 28 = .ok (.aload_n 0, 1) := by decide +kernel
theorem dX0_comeIfDue_29 : decode cX0_comeIfDue 29 = .ok (.dup, 1) := by decide +kernel
theorem dX0_comeIfDue_30 : decode cX0_comeIfDue 30 = .ok (.getfield 33, 3) := by decide +kernel
theorem dX0_comeIfDue_33 : decode cX0_comeIfDue 33 = .ok (.iconst 1, 1) := by decide +kernel
theorem dX0_comeIfDue_34 : decode cX0_comeIfDue 34 = .ok (.iload_n 2, 1) := by decide +kernel
theorem dX0_comeIfDue_35 : decode cX0_comeIfDue 35 = .ok (.ishl, 1) := by decide +kernel
theorem dX0_comeIfDue_36 : decode cX0_comeIfDue 36 = .ok (.ior, 1) := by decide +kernel
theorem dX0_comeIfDue_37 : decode cX0_comeIfDue 37 = .ok (.putfield 33, 3) := by decide +kernel
theorem dX0_comeIfDue_40 : decode cX0_comeIfDue 40 = .ok (.aload_n 0, 1) := by decide +kernel
theorem dX0_comeIfDue_41 : decode cX0_comeIfDue 41 = .ok (.getfield 20, 3) := by decide +kernel
theorem dX0_comeIfDue_44 : decode cX0_comeIfDue 44 = .ok (.iload_n 2, 1) := by decide +kernel
theorem dX0_comeIfDue_45 : decode cX0_comeIfDue 45 = .ok (.dup2, 1) := by decide +kernel
theorem dX0_comeIfDue_46 : decode cX0_comeIfDue 46 = .ok (.iaload, 1) := by decide +kernel
theorem dX0_comeIfDue_47 : decode cX0_comeIfDue 47 = .ok (.iconst 1, 1) := by decide +kernel
theorem dX0_comeIfDue_48 : decode cX0_comeIfDue 48 = .ok (.iadd, 1) := by decide +kernel
theorem dX0_comeIfDue_49 : decode cX0_comeIfDue 49 = .ok (.iastore, 1) := by decide +kernel
theorem dX0_comeIfDue_50 : decode cX0_comeIfDue 50 = .ok (.iinc 2 1, 3) := by decide +kernel
theorem dX0_comeIfDue_53 : decode cX0_comeIfDue 53 = .ok (.goto (-51), 3) := by decide +kernel
theorem dX0_comeIfDue_56 : decode cX0_comeIfDue 56 = .ok (.return_, 1) := by decide +kernel
theorem dX0_cameInAll_0 : decode cX0_cameInAll 0 = .ok (.iconst 0, 1) := by decide +kernel
theorem dX0_cameInAll_1 : decode cX0_cameInAll 1 = .ok (.istore_n 1, 1) := by decide +kernel
theorem dX0_cameInAll_2 : decode cX0_cameInAll 2 = .ok (.iconst 0, 1) := by decide +kernel
theorem dX0_cameInAll_3 : decode cX0_cameInAll 3 = .ok (.istore_n 2, 1) := by decide +kernel
theorem dX0_cameInAll_4 : decode cX0_cameInAll 4 = .ok (.iload_n 2, 1) := by decide +kernel
theorem dX0_cameInAll_5 : decode cX0_cameInAll 5 = .ok (.iconst 3, 1) := by decide +kernel
theorem dX0_cameInAll_6 : decode cX0_cameInAll 6 = .ok (.if_icmp .ge 18, 3) := by decide +kernel
theorem dX0_cameInAll_9 : decode cX0_cameInAll 9 = .ok (.iload_n 1, 1) := by decide +kernel
theorem dX0_cameInAll_10 : decode cX0_cameInAll 10 = .ok (.aload_n 0, 1) := by decide +kernel
theorem dX0_cameInAll_11 : decode cX0_cameInAll 11 = .ok (.getfield 20, 3) := by decide +kernel
theorem dX0_cameInAll_14 : decode cX0_cameInAll 14 = .ok (.iload_n 2, 1) := by decide +kernel
theorem dX0_cameInAll_15 : decode cX0_cameInAll 15 = .ok (.iaload, 1) := by decide +kernel
theorem dX0_cameInAll_16 : decode cX0_cameInAll 16 = .ok (.iadd, 1) := by decide +kernel
theorem dX0_cameInAll_17 : decode cX0_cameInAll 17 = .ok (.istore_n 1, 1) := by decide +kernel
theorem dX0_cameInAll_18 : decode cX0_cameInAll 18 = .ok (.iinc 2 1, 3) := by decide +kernel
theorem dX0_cameInAll_21 : decode cX0_cameInAll 21 = .ok (.goto (-17), 3) := by decide +kernel
theorem dX0_cameInAll_24 : decode cX0_cameInAll 24 = .ok (.iload_n 1, 1) := by decide +kernel
theorem dX0_cameInAll_25 : decode cX0_cameInAll 25 = .ok (.ireturn, 1) := by decide +kernel
theorem dX1_init_0 : decode cX1_init 0 = .ok (.aload_n 0, 1) := by decide +kernel
theorem dX1_init_1 : decode cX1_init 1 = .ok (.invokespecial 3, 3) := by decide +kernel
theorem dX1_init_4 : decode cX1_init 4 = .ok (.aload_n 0, 1) := by decide +kernel
theorem dX1_init_5 : decode cX1_init 5 = .ok (.bipush 10, 2) := by decide +kernel
theorem dX1_init_7 : decode cX1_init 7 = .ok (.newarray .int, 2) := by decide +kernel
theorem dX1_init_9 : decode cX1_init 9 = .ok (.putfield 9, 3) := by decide +kernel
theorem dX1_init_12 : decode cX1_init 12 = .ok (.aload_n 0, 1) := by decide +kernel
theorem dX1_init_13 : decode cX1_init 13 = .ok (.bipush 7, 2) := by decide +kernel
theorem dX1_init_15 : decode cX1_init 15 = .ok (.newarray .int, 2) := by decide +kernel
theorem dX1_init_17 : decode cX1_init 17 = .ok (.putfield 15, 3) := by decide +kernel
theorem dX1_init_20 : decode cX1_init 20 = .ok (.aload_n 0, 1) := by decide +kernel
theorem dX1_init_21 : decode cX1_init 21 = .ok (.bipush 13, 2) := by decide +kernel
theorem dX1_init_23 : decode cX1_init 23 = .ok (.bipush 7, 2) := by decide +kernel
theorem dX1_init_25 : decode cX1_init 25 = .ok (.multianewarray 18 2, 4) := by decide +kernel
theorem dX1_init_29 : decode cX1_init 29 = .ok (.putfield 20, 3) := by decide +kernel
theorem dX1_init_32 : decode cX1_init 32 = .ok (.return_, 1) := by decide +kernel
theorem dX1_make_0 : decode cX1_make 0 = .ok (.iconst 1, 1) := by decide +kernel
theorem dX1_make_1 : decode cX1_make 1 = .ok (.istore_n 3, 1) := by decide +kernel
theorem dX1_make_2 : decode cX1_make 2 = .ok (.iload_n 2, 1) := by decide +kernel
theorem dX1_make_3 : decode cX1_make 3 = .ok (.iconst 1, 1) := by decide +kernel
theorem dX1_make_4 : decode cX1_make 4 = .ok (.if_icmp .ne 28, 3) := by decide +kernel
theorem dX1_make_7 : decode cX1_make 7 = .ok (.aload_n 0, 1) := by decide +kernel
theorem dX1_make_8 : decode cX1_make 8 = .ok (.aload_n 1, 1) := by decide +kernel
theorem dX1_make_9 : decode cX1_make 9 = .ok (.getfield 23, 3) := by decide +kernel
theorem dX1_make_12 : decode cX1_make 12 = .ok (.invokevirtual 29, 3) := by decide +kernel
theorem dX1_make_15 : decode cX1_make 15 = .ok (.aload_n 1, 1) := by decide +kernel
theorem dX1_make_16 : decode cX1_make 16 = .ok (.bipush 7, 2) := by decide +kernel
theorem dX1_make_18 : decode cX1_make 18 = .ok (.aload_n 1, 1) := by decide +kernel
theorem dX1_make_19 : decode cX1_make 19 = .ok (.getfield 33, 3) := by decide +kernel
theorem dX1_make_22 : decode cX1_make 22 = .ok (.iconst 0, 1) := by decide +kernel
theorem dX1_make_23 : decode cX1_make 23 = .ok (.iaload, 1) := by decide +kernel
theorem dX1_make_24 : decode cX1_make 24 = .ok (.imul, 1) := by decide +kernel
theorem dX1_make_25 : decode cX1_make 25 = .ok (.invokevirtual 36, 3) := by decide +kernel
theorem dX1_make_28 : decode cX1_make 28 = .ok (.pop, 1) := by decide +kernel
theorem dX1_make_29 : decode cX1_make 29 = .ok (.goto 8, 3) := by decide +kernel
theorem dX1_make_32 : decode cX1_make 32 = .ok (.aload_n 0, 1) := by decide +kernel
theorem dX1_make_33 : decode cX1_make 33 = .ok (.aload_n 1, 1) := by decide +kernel
theorem dX1_make_34 : decode cX1_make 34 = .ok (.invokevirtual 40, 3) := by decide +kernel
theorem dX1_make_37 : decode cX1_make 37 = .ok (.iload_n 2, 1) := by decide +kernel
theorem dX1_make_38 : decode cX1_make 38 = .ok (.iconst 2, 1) := by decide +kernel
theorem dX1_make_39 : decode cX1_make 39 = .ok (.if_icmp .eq 7, 3) := by decide +kernel
theorem dX1_make_42 : decode cX1_make 42 = .ok (.iconst 1, 1) := by decide +kernel
theorem dX1_make_43 : decode cX1_make 43 = .ok (.goto 4, 3) := by decide +kernel
theorem dX1_make_46 : decode cX1_make 46 = .ok (.iconst 0, 1) := by decide +kernel
theorem dX1_make_47 : decode cX1_make 47 = .ok (.istore 4, 2) := by decide +kernel
theorem dX1_make_49 : decode cX1_make 49 = .ok (.iload_n 3, 1) := by decide +kernel
theorem dX1_make_50 : decode cX1_make 50 = .ok (.iconst 5, 1) := by decide +kernel
theorem dX1_make_51 : decode cX1_make 51 = .ok (.if_icmp .ge 44, 3) := by decide +kernel
theorem dX1_make_54 : decode cX1_make 54 = .ok (.iload 4, 2) := by decide +kernel
theorem dX1_make_56 : decode cX1_make 56 = .ok (.ifCond .ne 39, 3) := by decide +kernel
theorem dX1_make_59 : decode cX1_make 59 = .ok (.aload_n 0, 1) := by decide +kernel
theorem dX1_make_60 : decode cX1_make 60 = .ok (.getfield 9, 3) := by decide +kernel
theorem dX1_make_63 : decode cX1_make 63 = .ok (.iconst 0, 1) := by decide +kernel
theorem dX1_make_64 : decode cX1_make 64 = .ok (.aload_n 0, 1) := by decide +kernel
theorem dX1_make_65 : decode cX1_make 65 = .ok (.getfield 15, 3) := by decide +kernel
theorem dX1_make_68 : decode cX1_make 68 = .ok (.iconst 0, 1) := by decide +kernel
theorem dX1_make_69 : decode cX1_make 69 = .ok (.bipush 7, 2) := by decide +kernel
theorem dX1_make_71 : decode cX1_make 71 = .ok (.invokestatic 44, 3) := by decide +kernel
theorem dX1_make_74 : decode cX1_make 74 = .ok (.aload_n 0, 1) := by decide +kernel
theorem dX1_make_75 : decode cX1_make 75 = .ok (.aload_n 1, 1) := by decide +kernel
theorem dX1_make_76 : decode cX1_make 76 = .ok (.invokevirtual 40, 3) := by decide +kernel
theorem dX1_make_79 : decode cX1_make 79 = .ok (.iinc 3 1, 3) := by decide +kernel
theorem dX1_make_82 : decode cX1_make 82 = .ok (.aload_n 0, 1) := by decide +kernel
theorem dX1_make_83 : decode cX1_make 83 = .ok (.aload_n 0, 1) := by decide +kernel
theorem dX1_make_84 : decode cX1_make 84 = .ok (.getfield 15, 3) := by decide +kernel
theorem dX1_make_87 : decode cX1_make 87 = .ok (.invokevirtual 50, 3) := by decide +kernel
theorem dX1_make_90 : decode cX1_make 90 = .ok (.istore 4, 2) := by decide +kernel
theorem dX1_make_92 : decode cX1_make 92 = .ok (.goto (-43), 3) := by decide +kernel
theorem dX1_make_95 : decode cX1_make 95 = .ok (.aload_n 0, 1) := by decide +kernel
theorem dX1_make_96 : decode cX1_make 96 = .ok (.getfield 9, 3) := by decide +kernel
theorem dX1_make_99 : decode cX1_make 99 = .ok (.bipush 7, 2) := by decide +kernel
theorem dX1_make_101 : decode cX1_make 101 = .ok (.iload_n 2, 1) := by decide +kernel
theorem dX1_make_102 : decode cX1_make 102 = .ok (.iastore, 1) := by decide +kernel
theorem dX1_make_103 : decode cX1_make 103 = .ok (.aload_n 0, 1) := by decide +kernel
theorem dX1_make_104 : decode cX1_make 104 = .ok (.getfield 9, 3) := by decide +kernel
theorem dX1_make_107 : decode cX1_make 107 = .ok (.bipush 8, 2) := by decide +kernel
theorem dX1_make_109 : decode cX1_make 109 = .ok (.aload_n 0, 1) := by decide +kernel
theorem dX1_make_110 : decode cX1_make 110 = .ok (.invokevirtual 54, 3) := by decide +kernel
theorem dX1_make_113 : decode cX1_make 113 = .ok (.ifCond .eq 7, 3) := by decide +kernel
theorem dX1_make_116 : decode cX1_make 116 = .ok (.iconst 1, 1) := by decide +kernel
theorem dX1_make_117 : decode cX1_make 117 = .ok (.goto 4, 3) := by decide +kernel
theorem dX1_make_120 : decode cX1_make 120 = .ok (.iconst 0, 1) := by decide +kernel
theorem dX1_make_121 : decode cX1_make 121 = .ok (.iastore, 1) := by decide +kernel
theorem dX1_make_122 : decode cX1_make 122 = .ok (.aload_n 0, 1) := by decide +kernel
theorem dX1_make_123 : decode cX1_make 123 = .ok (.getfield 9, 3) := by decide +kernel
theorem dX1_make_126 : decode cX1_make 126 = .ok (.bipush 9, 2) := by decide +kernel
theorem dX1_make_128 : decode cX1_make 128 = .ok (.iload_n 3, 1) := by decide +kernel
theorem dX1_make_129 : decode cX1_make 129 = .ok (.iastore, 1) := by decide +kernel
theorem dX1_make_130 : decode cX1_make 130 = .ok (.aload_n 1, 1) := by decide +kernel
theorem dX1_make_131 : decode cX1_make 131 = .ok (.aload_n 0, 1) := by decide +kernel
theorem dX1_make_132 : decode cX1_make 132 = .ok (.getfield 9, 3) := by decide +kernel
theorem dX1_make_135 : decode cX1_make 135 = .ok (.invokevirtual 58, 3) := by decide +kernel
theorem dX1_make_138 : decode cX1_make 138 = .ok (.return_, 1) := by decide +kernel
theorem dX1_seeAtOnce_0 : decode cX1_seeAtOnce 0 = .ok (.aload_n 0, 1) := by decide +kernel
theorem dX1_seeAtOnce_1 : decode cX1_seeAtOnce 1 = .ok (.iconst 0, 1) := by decide +kernel
theorem dX1_seeAtOnce_2 : decode cX1_seeAtOnce 2 = .ok (.putfield 62, 3) := by decide +kernel
theorem dX1_seeAtOnce_5 : decode cX1_seeAtOnce 5 = .ok (.aload_n 0, 1) := by decide +kernel
theorem dX1_seeAtOnce_6 : decode cX1_seeAtOnce 6 = .ok (.aload_n 1, 1) := by decide +kernel
theorem dX1_seeAtOnce_7 : decode cX1_seeAtOnce 7 = .ok (.invokevirtual 66, 3) := by decide +kernel
theorem dX1_seeAtOnce_10 : decode cX1_seeAtOnce 10 = .ok (.aload_n 1, 1) := by decide +kernel
theorem dX1_seeAtOnce_11 : decode cX1_seeAtOnce 11 = .ok (.getfield 69, 3) := by decide +kernel
theorem dX1_seeAtOnce_14 : decode cX1_seeAtOnce 14 = .ok (.iconst 0, 1) := by decide +kernel
theorem dX1_seeAtOnce_15 : decode cX1_seeAtOnce 15 = .ok (.aload_n 0, 1) := by decide +kernel
theorem dX1_seeAtOnce_16 : decode cX1_seeAtOnce 16 = .ok (.getfield 9, 3) := by decide +kernel
theorem dX1_seeAtOnce_19 : decode cX1_seeAtOnce 19 = .ok (.iconst 0, 1) := by decide +kernel
theorem dX1_seeAtOnce_20 : decode cX1_seeAtOnce 20 = .ok (.bipush 7, 2) := by decide +kernel
theorem dX1_seeAtOnce_22 : decode cX1_seeAtOnce 22 = .ok (.invokestatic 44, 3) := by decide +kernel
theorem dX1_seeAtOnce_25 : decode cX1_seeAtOnce 25 = .ok (.return_, 1) := by decide +kernel
theorem dX1_readInTurn_0 : decode cX1_readInTurn 0 = .ok (.aload_n 0, 1) := by decide +kernel
theorem dX1_readInTurn_1 : decode cX1_readInTurn 1 = .ok (.iconst 0, 1) := by decide +kernel
theorem dX1_readInTurn_2 : decode cX1_readInTurn 2 = .ok (.putfield 62, 3) := by decide +kernel
theorem dX1_readInTurn_5 : decode cX1_readInTurn 5 = .ok (.aload_n 0, 1) := by decide +kernel
theorem dX1_readInTurn_6 : decode cX1_readInTurn 6 = .ok (.aload_n 1, 1) := by decide +kernel
theorem dX1_readInTurn_7 : decode cX1_readInTurn 7 = .ok (.getfield 23, 3) := by decide +kernel
theorem dX1_readInTurn_10 : decode cX1_readInTurn 10 = .ok (.invokevirtual 66, 3) := by decide +kernel
theorem dX1_readInTurn_13 : decode cX1_readInTurn 13 = .ok (.iconst 0, 1) := by decide +kernel
theorem dX1_readInTurn_14 : decode cX1_readInTurn 14 = .ok (.istore_n 2, 1) := by decide +kernel
theorem dX1_readInTurn_15 : decode cX1_readInTurn 15 = .ok (.iload_n 2, 1) := by decide +kernel
theorem dX1_readInTurn_16 : decode cX1_readInTurn 16 = .ok (.bipush 7, 2) := by decide +kernel
theorem dX1_readInTurn_18 : decode cX1_readInTurn 18 = .ok (.if_icmp .ge 83, 3) := by decide +kernel
theorem dX1_readInTurn_21 : decode cX1_readInTurn 21 = .ok (.aload_n 1, 1) := by decide +kernel
theorem dX1_readInTurn_22 : decode cX1_readInTurn 22 = .ok (.getfield 33, 3) := by decide +kernel
theorem dX1_readInTurn_25 : decode cX1_readInTurn 25 = .ok (.iconst 1, 1) := by decide +kernel
theorem dX1_readInTurn_26 : decode cX1_readInTurn 26 = .ok (.iaload, 1) := by decide +kernel
theorem dX1_readInTurn_27 : decode cX1_readInTurn 27 = .ok (.ifCond .ne 7, 3) := by decide +kernel
theorem dX1_readInTurn_30 : decode cX1_readInTurn 30 = .ok (.iload_n 2, 1) := by decide +kernel
theorem dX1_readInTurn_31 : decode cX1_readInTurn 31 = .ok (.goto 7, 3) := by decide +kernel
theorem dX1_readInTurn_34 : decode cX1_readInTurn 34 = .ok (.bipush 6, 2) := by decide +kernel
theorem dX1_readInTurn_36 : decode cX1_readInTurn 36 = .ok (.iload_n 2, 1) := by decide +kernel
theorem dX1_readInTurn_37 : decode cX1_readInTurn 37 = .ok (.isub, 1) := by decide +kernel
theorem dX1_readInTurn_38 : decode cX1_readInTurn 38 = .ok (.istore_n 3, 1) := by decide +kernel
theorem dX1_readInTurn_39 : decode cX1_readInTurn 39 = .ok (.aload_n 0, 1) := by decide +kernel
theorem dX1_readInTurn_40 : decode cX1_readInTurn 40 = .ok (.getfield 9, 3) := by decide +kernel
theorem dX1_readInTurn_43 : decode cX1_readInTurn 43 = .ok (.iload_n 3, 1) := by decide +kernel
theorem dX1_readInTurn_44 : decode cX1_readInTurn 44 = .ok (.aload_n 1, 1) := by decide +kernel
theorem dX1_readInTurn_45 : decode cX1_readInTurn 45 = .ok (.getfield 23, 3) := by decide +kernel
theorem dX1_readInTurn_48 : decode cX1_readInTurn 48 = .ok (.getfield 69, 3) := by decide +kernel
theorem dX1_readInTurn_51 : decode cX1_readInTurn 51 = .ok (.iload_n 3, 1) := by decide +kernel
theorem dX1_readInTurn_52 : decode cX1_readInTurn 52 = .ok (.iaload, 1) := by decide +kernel
theorem dX1_readInTurn_53 : decode cX1_readInTurn 53 = .ok (.iastore, 1) := by decide +kernel
theorem dX1_readInTurn_54 : decode cX1_readInTurn 54 = .ok (.iconst 0, 1) := by decide +kernel
theorem dX1_readInTurn_55 : decode cX1_readInTurn 55 = .ok (.istore 4, 2) := by decide +kernel
theorem dX1_readInTurn_57 : decode cX1_readInTurn 57 = .ok (.iload 4, 2) := by decide +kernel
theorem dX1_readInTurn_59 : decode cX1_readInTurn 59 = .ok (.aload_n 1, 1) := by decide +kernel
theorem dX1_readInTurn_60 : decode cX1_readInTurn 60 = .ok (.getfield 33, 3) := by decide +kernel
theorem dX1_readInTurn_63 : decode cX1_readInTurn 63 = .ok (.iconst 0, 1) := by decide +kernel
theorem dX1_readInTurn_64 : decode cX1_readInTurn 64 = .ok (.iaload, 1) := by decide +kernel
theorem dX1_readInTurn_65 : decode cX1_readInTurn 65 = .ok (.if_icmp .ge 30, 3) := by decide +kernel
theorem dX1_readInTurn_68 : decode cX1_readInTurn 68 = .ok (.aload_n 1, 1) := by decide +kernel
theorem dX1_readInTurn_69 : decode cX1_readInTurn 69 = .ok (.invokevirtual 74, 3) := by decide +kernel
theorem dX1_readInTurn_72 : decode cX1_readInTurn 72 = .ok (.ifCond .eq 17, 3) := by decide +kernel
theorem dX1_readInTurn_75 : decode cX1_readInTurn 75 = .ok (.iload_n 2, 1) := by decide +kernel
theorem dX1_readInTurn_76 : decode cX1_readInTurn 76 = .ok (.bipush 6, 2) := by decide +kernel
theorem dX1_readInTurn_78 : decode cX1_readInTurn 78 = .ok (.if_icmp .ge 11, 3) := by decide +kernel
theorem dX1_readInTurn_81 : decode cX1_readInTurn 81 = .ok (.aload_n 0, 1) := by decide +kernel
theorem dX1_readInTurn_82 : decode cX1_readInTurn 82 = .ok (.aload_n 1, 1) := by decide +kernel
theorem dX1_readInTurn_83 : decode cX1_readInTurn 83 = .ok (.getfield 23, 3) := by decide +kernel
theorem dX1_readInTurn_86 : decode cX1_readInTurn 86 = .ok (.invokevirtual 66, 3) := by decide +kernel
theorem dX1_readInTurn_89 : decode cX1_readInTurn 89 = .ok (.iinc 4 1, 3) := by decide +kernel
theorem dX1_readInTurn_92 : decode cX1_readInTurn 92 = .ok (.goto (-35), 3) := by decide +kernel
theorem dX1_readInTurn_95 : decode cX1_readInTurn 95 = .ok (.iinc 2 1, 3) := by decide +kernel
theorem dX1_readInTurn_98 : decode cX1_readInTurn 98 = .ok (.goto (-83), 3) := by decide +kernel
theorem dX1_readInTurn_101 : decode cX1_readInTurn 101 = .ok (.return_, 1) := by decide +kernel
theorem dX1_keepShown_0 : decode cX1_keepShown 0 = .ok (.aload_n 0, 1) := by decide +kernel
theorem dX1_keepShown_1 : decode cX1_keepShown 1 = .ok (.getfield 62, 3) := by decide +kernel
theorem dX1_keepShown_4 : decode cX1_keepShown 4 = .ok (.bipush 13, 2) := by decide +kernel
theorem dX1_keepShown_6 : decode cX1_keepShown 6 = .ok (.if_icmp .ge 33, 3) := by decide +kernel
theorem dX1_keepShown_9 : decode cX1_keepShown 9 = .ok (.aload_n 1, 1) := by decide +kernel
theorem dX1_keepShown_10 : decode cX1_keepShown 10 = .ok (.getfield 69, 3) := by decide +kernel
theorem dX1_keepShown_13 : decode cX1_keepShown 13 = .ok (.iconst 0, 1) := by decide +kernel
theorem dX1_keepShown_14 : decode cX1_keepShown 14 = .ok (.aload_n 0, 1) := by decide +kernel
theorem dX1_keepShown_15 : decode cX1_keepShown 15 = .ok (.getfield 20, 3) := by decide +kernel
theorem dX1_keepShown_18 : decode cX1_keepShown 18 = .ok (.aload_n 0, 1) := by decide +kernel
theorem dX1_keepShown_19 : decode cX1_keepShown 19 = .ok (.getfield 62, 3) := by decide +kernel
theorem dX1_keepShown_22 : decode cX1_keepShown 22 = .ok (.aaload, 1) := by decide +kernel
theorem dX1_keepShown_23 : decode cX1_keepShown 23 = .ok (.iconst 0, 1) := by decide +kernel
theorem dX1_keepShown_24 : decode cX1_keepShown 24 = .ok (.bipush 7, 2) := by decide +kernel
theorem dX1_keepShown_26 : decode cX1_keepShown 26 = .ok (.invokestatic 44, 3) := by decide +kernel
theorem dX1_keepShown_29 : decode cX1_keepShown 29 = .ok (.aload_n 0, 1) := by decide +kernel
theorem dX1_keepShown_30 : decode cX1_keepShown 30 = .ok (.dup, 1) := by decide +kernel
theorem dX1_keepShown_31 : decode cX1_keepShown 31 = .ok (.getfield 62, 3) := by decide +kernel
theorem dX1_keepShown_34 : decode cX1_keepShown 34 = .ok (.iconst 1, 1) := by decide +kernel
theorem dX1_keepShown_35 : decode cX1_keepShown 35 = .ok (.iadd, 1) := by decide +kernel
theorem dX1_keepShown_36 : decode cX1_keepShown 36 = .ok (.putfield 62, 3) := by decide +kernel
theorem dX1_keepShown_39 : decode cX1_keepShown 39 = .ok (.return_, 1) := by decide +kernel
theorem dX1_isTorn_0 : decode cX1_isTorn 0 = .ok (.iconst 0, 1) := by decide +kernel
theorem dX1_isTorn_1 : decode cX1_isTorn 1 = .ok (.istore_n 1, 1) := by decide +kernel
theorem dX1_isTorn_2 : decode cX1_isTorn 2 = .ok (.iload_n 1, 1) := by decide +kernel
theorem dX1_isTorn_3 : decode cX1_isTorn 3 = .ok (.aload_n 0, 1) := by decide +kernel
theorem dX1_isTorn_4 : decode cX1_isTorn 4 = .ok (.getfield 62, 3) := by decide +kernel
theorem dX1_isTorn_7 : decode cX1_isTorn 7 = .ok (.if_icmp .ge 30, 3) := by decide +kernel
theorem dX1_isTorn_10 : decode cX1_isTorn 10 = .ok (.iload_n 1, 1) := by decide +kernel
theorem dX1_isTorn_11 : decode cX1_isTorn 11 = .ok (.bipush 13, 2) := by decide +kernel
theorem dX1_isTorn_13 : decode cX1_isTorn 13 = .ok (.if_icmp .ge 24, 3) := by decide +kernel
theorem dX1_isTorn_16 : decode cX1_isTorn 16 = .ok (.aload_n 0, 1) := by decide +kernel
theorem dX1_isTorn_17 : decode cX1_isTorn 17 = .ok (.aload_n 0, 1) := by decide +kernel
theorem dX1_isTorn_18 : decode cX1_isTorn 18 = .ok (.getfield 20, 3) := by decide +kernel
theorem dX1_isTorn_21 : decode cX1_isTorn 21 = .ok (.iload_n 1, 1) := by decide +kernel
theorem dX1_isTorn_22 : decode cX1_isTorn 22 = .ok (.aaload, 1) := by decide +kernel
theorem dX1_isTorn_23 : decode cX1_isTorn 23 = .ok (.invokevirtual 50, 3) := by decide +kernel
theorem dX1_isTorn_26 : decode cX1_isTorn 26 = .ok (.ifCond .eq 5, 3) := by decide +kernel
theorem dX1_isTorn_29 : decode cX1_isTorn 29 = .ok (.iconst 0, 1) := by decide +kernel
theorem dX1_isTorn_30 : decode cX1_isTorn 30 = .ok (.ireturn, 1) := by decide +kernel
theorem dX1_isTorn_31 : decode cX1_isTorn 31 = .ok (.iinc 1 1, 3) := by decide +kernel
theorem dX1_isTorn_34 : decode cX1_isTorn 34 = .ok (.goto (-32), 3) := by decide +kernel
theorem dX1_isTorn_37 : decode cX1_isTorn 37 = .ok (.iconst 1, 1) := by decide +kernel
theorem dX1_isTorn_38 : decode cX1_isTorn 38 = .ok (.ireturn, 1) := by decide +kernel
theorem dX1_isTold_0 : decode cX1_isTold 0 = .ok (.iconst 0, 1) := by decide +kernel
theorem dX1_isTold_1 : decode cX1_isTold 1 = .ok (.istore_n 2, 1) := by decide +kernel
theorem dX1_isTold_2 : decode cX1_isTold 2 = .ok (.iload_n 2, 1) := by decide +kernel
theorem dX1_isTold_3 : decode cX1_isTold 3 = .ok (.bipush 7, 2) := by decide +kernel
theorem dX1_isTold_5 : decode cX1_isTold 5 = .ok (.if_icmp .ge 29, 3) := by decide +kernel
theorem dX1_isTold_8 : decode cX1_isTold 8 = .ok (.iload_n 2, 1) := by decide +kernel
theorem dX1_isTold_9 : decode cX1_isTold 9 = .ok (.aload_n 1, 1) := by decide +kernel
theorem dX1_isTold_10 : decode cX1_isTold 10 = .ok (.arraylength, 1) := by decide +kernel
theorem dX1_isTold_11 : decode cX1_isTold 11 = .ok (.if_icmp .ge 23, 3) := by decide +kernel
theorem dX1_isTold_14 : decode cX1_isTold 14 = .ok (.aload_n 1, 1) := by decide +kernel
theorem dX1_isTold_15 : decode cX1_isTold 15 = .ok (.iload_n 2, 1) := by decide +kernel
theorem dX1_isTold_16 : decode cX1_isTold 16 = .ok (.iaload, 1) := by decide +kernel
theorem dX1_isTold_17 : decode cX1_isTold 17 = .ok (.aload_n 0, 1) := by decide +kernel
theorem dX1_isTold_18 : decode cX1_isTold 18 = .ok (.getfield 9, 3) := by decide +kernel
theorem dX1_isTold_21 : decode cX1_isTold 21 = .ok (.iload_n 2, 1) := by decide +kernel
theorem dX1_isTold_22 : decode cX1_isTold 22 = .ok (.iaload, 1) := by decide +kernel
theorem dX1_isTold_23 : decode cX1_isTold 23 = .ok (.if_icmp .eq 5, 3) := by decide +kernel
theorem dX1_isTold_26 : decode cX1_isTold 26 = .ok (.iconst 0, 1) := by decide +kernel
theorem dX1_isTold_27 : decode cX1_isTold 27 = .ok (.ireturn, 1) := by decide +kernel
theorem dX1_isTold_28 : decode cX1_isTold 28 = .ok (.iinc 2 1, 3) := by decide +kernel
theorem dX1_isTold_31 : decode cX1_isTold 31 = .ok (.goto (-29), 3) := by decide +kernel
theorem dX1_isTold_34 : decode cX1_isTold 34 = .ok (.iconst 1, 1) := by decide +kernel
theorem dX1_isTold_35 : decode cX1_isTold 35 = .ok (.ireturn, 1) := by decide +kernel
theorem dX2_init_0 : decode cX2_init 0 = .ok (.aload_n 0, 1) := by decide +kernel
theorem dX2_init_1 : decode cX2_init 1 = .ok (.invokespecial 3, 3) := by decide +kernel
theorem dX2_init_4 : decode cX2_init 4 = .ok (.aload_n 0, 1) := by decide +kernel
theorem dX2_init_5 : decode cX2_init 5 = .ok (.bipush 6, 2) := by decide +kernel
theorem dX2_init_7 : decode cX2_init 7 = .ok (.bipush 10, 2) := by decide +kernel
theorem dX2_init_9 : decode cX2_init 9 = .ok (.multianewarray 9 2, 4) := by decide +kernel
theorem dX2_init_13 : decode cX2_init 13 = .ok (.putfield 11, 3) := by decide +kernel
theorem dX2_init_16 : decode cX2_init 16 = .ok (.return_, 1) := by decide +kernel
theorem dX2_copyFrom_0 : decode cX2_copyFrom 0 = .ok (.iconst 0, 1) := by decide +kernel
theorem dX2_copyFrom_1 : decode cX2_copyFrom 1 = .ok (.istore_n 2, 1) := by decide +kernel
theorem dX2_copyFrom_2 : decode cX2_copyFrom 2 = .ok (.iload_n 2, 1) := by decide +kernel
theorem dX2_copyFrom_3 : decode cX2_copyFrom 3 = .ok (.bipush 6, 2) := by decide +kernel
theorem dX2_copyFrom_5 : decode cX2_copyFrom 5 = .ok (.if_icmp .ge 28, 3) := by decide +kernel
theorem dX2_copyFrom_8 : decode cX2_copyFrom 8 = .ok (.aload_n 1, 1) := by decide +kernel
theorem dX2_copyFrom_9 : decode cX2_copyFrom 9 = .ok (.getfield 11, 3) := by decide +kernel
theorem dX2_copyFrom_12 : decode cX2_copyFrom 12 = .ok (.iload_n 2, 1) := by decide +kernel
theorem dX2_copyFrom_13 : decode cX2_copyFrom 13 = .ok (.aaload, 1) := by decide +kernel
theorem dX2_copyFrom_14 : decode cX2_copyFrom 14 = .ok (.iconst 0, 1) := by decide +kernel
theorem dX2_copyFrom_15 : decode cX2_copyFrom 15 = .ok (.aload_n 0, 1) := by decide +kernel
theorem dX2_copyFrom_16 : decode cX2_copyFrom 16 = .ok (.getfield 11, 3) := by decide +kernel
theorem dX2_copyFrom_19 : decode cX2_copyFrom 19 = .ok (.iload_n 2, 1) := by decide +kernel
theorem dX2_copyFrom_20 : decode cX2_copyFrom 20 = .ok (.aaload, 1) := by decide +kernel
theorem dX2_copyFrom_21 : decode cX2_copyFrom 21 = .ok (.iconst 0, 1) := by decide +kernel
theorem dX2_copyFrom_22 : decode cX2_copyFrom 22 = .ok (.bipush 10, 2) := by decide +kernel
theorem dX2_copyFrom_24 : decode cX2_copyFrom 24 = .ok (.invokestatic 16, 3) := by decide +kernel
theorem dX2_copyFrom_27 : decode cX2_copyFrom 27 = .ok (.iinc 2 1, 3) := by decide +kernel
theorem dX2_copyFrom_30 : decode cX2_copyFrom 30 = .ok (.goto (-28), 3) := by decide +kernel
theorem dX2_copyFrom_33 : decode cX2_copyFrom 33 = .ok (.aload_n 0, 1) := by decide +kernel
theorem dX2_copyFrom_34 : decode cX2_copyFrom 34 = .ok (.aload_n 1, 1) := by decide +kernel
theorem dX2_copyFrom_35 : decode cX2_copyFrom 35 = .ok (.getfield 22, 3) := by decide +kernel
theorem dX2_copyFrom_38 : decode cX2_copyFrom 38 = .ok (.putfield 22, 3) := by decide +kernel
theorem dX2_copyFrom_41 : decode cX2_copyFrom 41 = .ok (.aload_n 0, 1) := by decide +kernel
theorem dX2_copyFrom_42 : decode cX2_copyFrom 42 = .ok (.aload_n 1, 1) := by decide +kernel
theorem dX2_copyFrom_43 : decode cX2_copyFrom 43 = .ok (.getfield 26, 3) := by decide +kernel
theorem dX2_copyFrom_46 : decode cX2_copyFrom 46 = .ok (.putfield 26, 3) := by decide +kernel
theorem dX2_copyFrom_49 : decode cX2_copyFrom 49 = .ok (.return_, 1) := by decide +kernel
theorem dX2_add_0 : decode cX2_add 0 = .ok (.aload_n 0, 1) := by decide +kernel
theorem dX2_add_1 : decode cX2_add 1 = .ok (.aload_n 0, 1) := by decide +kernel
theorem dX2_add_2 : decode cX2_add 2 = .ok (.getfield 22, 3) := by decide +kernel
theorem dX2_add_5 : decode cX2_add 5 = .ok (.iconst 1, 1) := by decide +kernel
theorem dX2_add_6 : decode cX2_add 6 = .ok (.iadd, 1) := by decide +kernel
theorem dX2_add_7 : decode cX2_add 7 = .ok (.bipush 6, 2) := by decide +kernel
theorem dX2_add_9 : decode cX2_add 9 = .ok (.if_icmp .ge 12, 3) := by decide +kernel
theorem dX2_add_12 : decode cX2_add 12 = .ok (.aload_n 0, 1) := by decide +kernel
theorem dX2_add_13 : decode cX2_add 13 = .ok (.getfield 22, 3) := by decide +kernel
theorem dX2_add_16 : decode cX2_add 16 = .ok (.iconst 1, 1) := by decide +kernel
theorem dX2_add_17 : decode cX2_add 17 = .ok (.iadd, 1) := by decide +kernel
theorem dX2_add_18 : decode cX2_add 18 = .ok (.goto 4, 3) := by decide +kernel
theorem dX2_add_21 : decode cX2_add 21 = .ok (.iconst 0, 1) := by decide +kernel
theorem dX2_add_22 : decode cX2_add 22 = .ok (.putfield 22, 3) := by decide +kernel
theorem dX2_add_25 : decode cX2_add 25 = .ok (.aload_n 1, 1) := by decide +kernel
theorem dX2_add_26 : decode cX2_add 26 = .ok (.iconst 0, 1) := by decide +kernel
theorem dX2_add_27 : decode cX2_add 27 = .ok (.aload_n 0, 1) := by decide +kernel
theorem dX2_add_28 : decode cX2_add 28 = .ok (.getfield 11, 3) := by decide +kernel
theorem dX2_add_31 : decode cX2_add 31 = .ok (.aload_n 0, 1) := by decide +kernel
theorem dX2_add_32 : decode cX2_add 32 = .ok (.getfield 22, 3) := by decide +kernel
theorem dX2_add_35 : decode cX2_add 35 = .ok (.aaload, 1) := by decide +kernel
theorem dX2_add_36 : decode cX2_add 36 = .ok (.iconst 0, 1) := by decide +kernel
theorem dX2_add_37 : decode cX2_add 37 = .ok (.bipush 10, 2) := by decide +kernel
theorem dX2_add_39 : decode cX2_add 39 = .ok (.invokestatic 16, 3) := by decide +kernel
theorem dX2_add_42 : decode cX2_add 42 = .ok (.aload_n 0, 1) := by decide +kernel
theorem dX2_add_43 : decode cX2_add 43 = .ok (.getfield 26, 3) := by decide +kernel
theorem dX2_add_46 : decode cX2_add 46 = .ok (.bipush 6, 2) := by decide +kernel
theorem dX2_add_48 : decode cX2_add 48 = .ok (.if_icmp .ge 13, 3) := by decide +kernel
theorem dX2_add_51 : decode cX2_add 51 = .ok (.aload_n 0, 1) := by decide +kernel
theorem dX2_add_52 : decode cX2_add 52 = .ok (.dup, 1) := by decide +kernel
theorem dX2_add_53 : decode cX2_add 53 = .ok (.getfield 26, 3) := by decide +kernel
theorem dX2_add_56 : decode cX2_add 56 = .ok (.iconst 1, 1) := by decide +kernel
theorem dX2_add_57 : decode cX2_add 57 = .ok (.iadd, 1) := by decide +kernel
theorem dX2_add_58 : decode cX2_add 58 = .ok (.putfield 26, 3) := by decide +kernel
theorem dX2_add_61 : decode cX2_add 61 = .ok (.return_, 1) := by decide +kernel
theorem dX2_told_0 : decode cX2_told 0 = .ok (.aload_n 0, 1) := by decide +kernel
theorem dX2_told_1 : decode cX2_told 1 = .ok (.getfield 22, 3) := by decide +kernel
theorem dX2_told_4 : decode cX2_told 4 = .ok (.iload_n 1, 1) := by decide +kernel
theorem dX2_told_5 : decode cX2_told 5 = .ok (.isub, 1) := by decide +kernel
theorem dX2_told_6 : decode cX2_told 6 = .ok (.istore_n 3, 1) := by decide +kernel
theorem dX2_told_7 : decode cX2_told 7 = .ok (.aload_n 0, 1) := by decide +kernel
theorem dX2_told_8 : decode cX2_told 8 = .ok (.getfield 11, 3) := by decide +kernel
theorem dX2_told_11 : decode cX2_told 11 = .ok (.iload_n 3, 1) := by decide +kernel
theorem dX2_told_12 : decode cX2_told 12 = .ok (.ifCond .ge 10, 3) := by decide +kernel
theorem dX2_told_15 : decode cX2_told 15 = .ok (.iload_n 3, 1) := by decide +kernel
theorem dX2_told_16 : decode cX2_told 16 = .ok (.bipush 6, 2) := by decide +kernel
theorem dX2_told_18 : decode cX2_told 18 = .ok (.iadd, 1) := by decide +kernel
theorem dX2_told_19 : decode cX2_told 19 = .ok (.goto 4, 3) := by decide +kernel
theorem dX2_told_22 : decode cX2_told 22 = .ok (.iload_n 3, 1) := by decide +kernel
theorem dX2_told_23 : decode cX2_told 23 = .ok (.aaload, 1) := by decide +kernel
theorem dX2_told_24 : decode cX2_told 24 = .ok (.iload_n 2, 1) := by decide +kernel
theorem dX2_told_25 : decode cX2_told 25 = .ok (.iaload, 1) := by decide +kernel
theorem dX2_told_26 : decode cX2_told 26 = .ok (.ireturn, 1) := by decide +kernel
theorem dX3_init_0 : decode cX3_init 0 = .ok (.aload_n 0, 1) := by decide +kernel
theorem dX3_init_1 : decode cX3_init 1 = .ok (.invokespecial 3, 3) := by decide +kernel
theorem dX3_init_4 : decode cX3_init 4 = .ok (.aload_n 0, 1) := by decide +kernel
theorem dX3_init_5 : decode cX3_init 5 = .ok (.new 9, 3) := by decide +kernel
theorem dX3_init_8 : decode cX3_init 8 = .ok (.dup, 1) := by decide +kernel
theorem dX3_init_9 : decode cX3_init 9 = .ok (.invokespecial 11, 3) := by decide +kernel
theorem dX3_init_12 : decode cX3_init 12 = .ok (.putfield 12, 3) := by decide +kernel
theorem dX3_init_15 : decode cX3_init 15 = .ok (.aload_n 0, 1) := by decide +kernel
theorem dX3_init_16 : decode cX3_init 16 = .ok (.new 18, 3) := by decide +kernel
theorem dX3_init_19 : decode cX3_init 19 = .ok (.dup, 1) := by decide +kernel
theorem dX3_init_20 : decode cX3_init 20 = .ok (.invokespecial 20, 3) := by decide +kernel
theorem dX3_init_23 : decode cX3_init 23 = .ok (.putfield 21, 3) := by decide +kernel
theorem dX3_init_26 : decode cX3_init 26 = .ok (.aload_n 0, 1) := by decide +kernel
theorem dX3_init_27 : decode cX3_init 27 = .ok (.new 25, 3) := by decide +kernel
theorem dX3_init_30 : decode cX3_init 30 = .ok (.dup, 1) := by decide +kernel
theorem dX3_init_31 : decode cX3_init 31 = .ok (.invokespecial 27, 3) := by decide +kernel
theorem dX3_init_34 : decode cX3_init 34 = .ok (.putfield 28, 3) := by decide +kernel
theorem dX3_init_37 : decode cX3_init 37 = .ok (.aload_n 0, 1) := by decide +kernel
theorem dX3_init_38 : decode cX3_init 38 = .ok (.iconst 3, 1) := by decide +kernel
theorem dX3_init_39 : decode cX3_init 39 = .ok (.newarray .int, 2) := by decide +kernel
theorem dX3_init_41 : decode cX3_init 41 = .ok (.putfield 32, 3) := by decide +kernel
theorem dX3_init_44 : decode cX3_init 44 = .ok (.aload_n 0, 1) := by decide +kernel
theorem dX3_init_45 : decode cX3_init 45 = .ok (.getfield 32, 3) := by decide +kernel
theorem dX3_init_48 : decode cX3_init 48 = .ok (.iconst 0, 1) := by decide +kernel
theorem dX3_init_49 : decode cX3_init 49 = .ok (.iconst 2, 1) := by decide +kernel
theorem dX3_init_50 : decode cX3_init 50 = .ok (.iastore, 1) := by decide +kernel
theorem dX3_init_51 : decode cX3_init 51 = .ok (.aload_n 0, 1) := by decide +kernel
theorem dX3_init_52 : decode cX3_init 52 = .ok (.getfield 32, 3) := by decide +kernel
theorem dX3_init_55 : decode cX3_init 55 = .ok (.iconst 1, 1) := by decide +kernel
theorem dX3_init_56 : decode cX3_init 56 = .ok (.iconst 0, 1) := by decide +kernel
theorem dX3_init_57 : decode cX3_init 57 = .ok (.iastore, 1) := by decide +kernel
theorem dX3_init_58 : decode cX3_init 58 = .ok (.aload_n 0, 1) := by decide +kernel
theorem dX3_init_59 : decode cX3_init 59 = .ok (.getfield 32, 3) := by decide +kernel
theorem dX3_init_62 : decode cX3_init 62 = .ok (.iconst 2, 1) := by decide +kernel
theorem dX3_init_63 : decode cX3_init 63 = .ok (.bipush 16, 2) := by decide +kernel
theorem dX3_init_65 : decode cX3_init 65 = .ok (.iastore, 1) := by decide +kernel
theorem dX3_init_66 : decode cX3_init 66 = .ok (.return_, 1) := by decide +kernel
theorem dX3_copyFrom_0 : decode cX3_copyFrom 0 = .ok (.aload_n 0, 1) := by decide +kernel
theorem dX3_copyFrom_1 : decode cX3_copyFrom 1 = .ok (.getfield 12, 3) := by decide +kernel
theorem dX3_copyFrom_4 : decode cX3_copyFrom 4 = .ok (.aload_n 1, 1) := by decide +kernel
theorem dX3_copyFrom_5 : decode cX3_copyFrom 5 = .ok (.getfield 12, 3) := by decide +kernel
theorem dX3_copyFrom_8 : decode cX3_copyFrom 8 = .ok (.invokevirtual 36, 3) := by decide +kernel
theorem dX3_copyFrom_11 : decode cX3_copyFrom 11 = .ok (.aload_n 0, 1) := by decide +kernel
theorem dX3_copyFrom_12 : decode cX3_copyFrom 12 = .ok (.getfield 21, 3) := by decide +kernel
theorem dX3_copyFrom_15 : decode cX3_copyFrom 15 = .ok (.aload_n 1, 1) := by decide +kernel
theorem dX3_copyFrom_16 : decode cX3_copyFrom 16 = .ok (.getfield 21, 3) := by decide +kernel
theorem dX3_copyFrom_19 : decode cX3_copyFrom 19 = .ok (.invokevirtual 40, 3) := by decide +kernel
theorem dX3_copyFrom_22 : decode cX3_copyFrom 22 = .ok (.aload_n 0, 1) := by decide +kernel
theorem dX3_copyFrom_23 : decode cX3_copyFrom 23 = .ok (.getfield 28, 3) := by decide +kernel
theorem dX3_copyFrom_26 : decode cX3_copyFrom 26 = .ok (.aload_n 1, 1) := by decide +kernel
theorem dX3_copyFrom_27 : decode cX3_copyFrom 27 = .ok (.getfield 28, 3) := by decide +kernel
theorem dX3_copyFrom_30 : decode cX3_copyFrom 30 = .ok (.invokevirtual 43, 3) := by decide +kernel
theorem dX3_copyFrom_33 : decode cX3_copyFrom 33 = .ok (.aload_n 1, 1) := by decide +kernel
theorem dX3_copyFrom_34 : decode cX3_copyFrom 34 = .ok (.getfield 32, 3) := by decide +kernel
theorem dX3_copyFrom_37 : decode cX3_copyFrom 37 = .ok (.iconst 0, 1) := by decide +kernel
theorem dX3_copyFrom_38 : decode cX3_copyFrom 38 = .ok (.aload_n 0, 1) := by decide +kernel
theorem dX3_copyFrom_39 : decode cX3_copyFrom 39 = .ok (.getfield 32, 3) := by decide +kernel
theorem dX3_copyFrom_42 : decode cX3_copyFrom 42 = .ok (.iconst 0, 1) := by decide +kernel
theorem dX3_copyFrom_43 : decode cX3_copyFrom 43 = .ok (.iconst 3, 1) := by decide +kernel
theorem dX3_copyFrom_44 : decode cX3_copyFrom 44 = .ok (.invokestatic 46, 3) := by decide +kernel
theorem dX3_copyFrom_47 : decode cX3_copyFrom 47 = .ok (.aload_n 0, 1) := by decide +kernel
theorem dX3_copyFrom_48 : decode cX3_copyFrom 48 = .ok (.aload_n 1, 1) := by decide +kernel
theorem dX3_copyFrom_49 : decode cX3_copyFrom 49 = .ok (.getfield 52, 3) := by decide +kernel
theorem dX3_copyFrom_52 : decode cX3_copyFrom 52 = .ok (.putfield 52, 3) := by decide +kernel
theorem dX3_copyFrom_55 : decode cX3_copyFrom 55 = .ok (.aload_n 0, 1) := by decide +kernel
theorem dX3_copyFrom_56 : decode cX3_copyFrom 56 = .ok (.aload_n 1, 1) := by decide +kernel
theorem dX3_copyFrom_57 : decode cX3_copyFrom 57 = .ok (.getfield 56, 3) := by decide +kernel
theorem dX3_copyFrom_60 : decode cX3_copyFrom 60 = .ok (.putfield 56, 3) := by decide +kernel
theorem dX3_copyFrom_63 : decode cX3_copyFrom 63 = .ok (.aload_n 0, 1) := by decide +kernel
theorem dX3_copyFrom_64 : decode cX3_copyFrom 64 = .ok (.aload_n 1, 1) := by decide +kernel
theorem dX3_copyFrom_65 : decode cX3_copyFrom 65 = .ok (.getfield 59, 3) := by decide +kernel
theorem dX3_copyFrom_68 : decode cX3_copyFrom 68 = .ok (.putfield 59, 3) := by decide +kernel
theorem dX3_copyFrom_71 : decode cX3_copyFrom 71 = .ok (.aload_n 0, 1) := by decide +kernel
theorem dX3_copyFrom_72 : decode cX3_copyFrom 72 = .ok (.aload_n 1, 1) := by decide +kernel
theorem dX3_copyFrom_73 : decode cX3_copyFrom 73 = .ok (.getfield 62, 3) := by decide +kernel
theorem dX3_copyFrom_76 : decode cX3_copyFrom 76 = .ok (.putfield 62, 3) := by decide +kernel
theorem dX3_copyFrom_79 : decode cX3_copyFrom 79 = .ok (.aload_n 0, 1) := by decide +kernel
theorem dX3_copyFrom_80 : decode cX3_copyFrom 80 = .ok (.aload_n 1, 1) := by decide +kernel
theorem dX3_copyFrom_81 : decode cX3_copyFrom 81 = .ok (.getfield 65, 3) := by decide +kernel
theorem dX3_copyFrom_84 : decode cX3_copyFrom 84 = .ok (.putfield 65, 3) := by decide +kernel
theorem dX3_copyFrom_87 : decode cX3_copyFrom 87 = .ok (.aload_n 0, 1) := by decide +kernel
theorem dX3_copyFrom_88 : decode cX3_copyFrom 88 = .ok (.aload_n 1, 1) := by decide +kernel
theorem dX3_copyFrom_89 : decode cX3_copyFrom 89 = .ok (.getfield 68, 3) := by decide +kernel
theorem dX3_copyFrom_92 : decode cX3_copyFrom 92 = .ok (.putfield 68, 3) := by decide +kernel
theorem dX3_copyFrom_95 : decode cX3_copyFrom 95 = .ok (.aload_n 0, 1) := by decide +kernel
theorem dX3_copyFrom_96 : decode cX3_copyFrom 96 = .ok (.aload_n 1, 1) := by decide +kernel
theorem dX3_copyFrom_97 : decode cX3_copyFrom 97 = .ok (.getfield 71, 3) := by decide +kernel
theorem dX3_copyFrom_100 : decode cX3_copyFrom 100 = .ok (.putfield 71, 3) := by decide +kernel
theorem dX3_copyFrom_103 : decode cX3_copyFrom 103 = .ok (.return_, 1) := by decide +kernel
theorem dX3_passPhase_0 : decode cX3_passPhase 0 = .ok (.aload_n 0, 1) := by decide +kernel
theorem dX3_passPhase_1 : decode cX3_passPhase 1 = .ok (.dup, 1) := by decide +kernel
theorem dX3_passPhase_2 : decode cX3_passPhase 2 = .ok (.getfield 59, 3) := by decide +kernel
theorem dX3_passPhase_5 : decode cX3_passPhase 5 = .ok (.iconst 1, 1) := by decide +kernel
theorem dX3_passPhase_6 : decode cX3_passPhase 6 = .ok (.iadd, 1) := by decide +kernel
theorem dX3_passPhase_7 : decode cX3_passPhase 7 = .ok (.putfield 59, 3) := by decide +kernel
theorem dX3_passPhase_10 : decode cX3_passPhase 10 = .ok (.aload_n 0, 1) := by decide +kernel
theorem dX3_passPhase_11 : decode cX3_passPhase 11 = .ok (.dup, 1) := by decide +kernel
theorem dX3_passPhase_12 : decode cX3_passPhase 12 = .ok (.getfield 52, 3) := by decide +kernel
theorem dX3_passPhase_15 : decode cX3_passPhase 15 = .ok (.iconst 1, 1) := by decide +kernel
theorem dX3_passPhase_16 : decode cX3_passPhase 16 = .ok (.iadd, 1) := by decide +kernel
theorem dX3_passPhase_17 : decode cX3_passPhase 17 = .ok (.putfield 52, 3) := by decide +kernel
theorem dX3_passPhase_20 : decode cX3_passPhase 20 = .ok (.aload_n 0, 1) := by decide +kernel
theorem dX3_passPhase_21 : decode cX3_passPhase 21 = .ok (.getfield 52, 3) := by decide +kernel
theorem dX3_passPhase_24 : decode cX3_passPhase 24 = .ok (.aload_n 0, 1) := by decide +kernel
theorem dX3_passPhase_25 : decode cX3_passPhase 25 = .ok (.getfield 32, 3) := by decide +kernel
theorem dX3_passPhase_28 : decode cX3_passPhase 28 = .ok (.iconst 2, 1) := by decide +kernel
theorem dX3_passPhase_29 : decode cX3_passPhase 29 = .ok (.iaload, 1) := by decide +kernel
theorem dX3_passPhase_30 : decode cX3_passPhase 30 = .ok (.if_icmp .ge 5, 3) := by decide +kernel
theorem dX3_passPhase_33 : decode cX3_passPhase 33 = .ok (.iconst 0, 1) := by decide +kernel
theorem dX3_passPhase_34 : decode cX3_passPhase 34 = .ok (.ireturn, 1) := by decide +kernel
theorem dX3_passPhase_35 : decode cX3_passPhase 35 = .ok (.aload_n 0, 1) := by decide +kernel
theorem dX3_passPhase_36 : decode cX3_passPhase 36 = .ok (.iconst 0, 1) := by decide +kernel
theorem dX3_passPhase_37 : decode cX3_passPhase 37 = .ok (.putfield 52, 3) := by decide +kernel
theorem dX3_passPhase_40 : decode cX3_passPhase 40 = .ok (.aload_n 0, 1) := by decide +kernel
theorem dX3_passPhase_41 : decode cX3_passPhase 41 = .ok (.dup, 1) := by decide +kernel
theorem dX3_passPhase_42 : decode cX3_passPhase 42 = .ok (.getfield 56, 3) := by decide +kernel
theorem dX3_passPhase_45 : decode cX3_passPhase 45 = .ok (.iconst 1, 1) := by decide +kernel
theorem dX3_passPhase_46 : decode cX3_passPhase 46 = .ok (.iadd, 1) := by decide +kernel
theorem dX3_passPhase_47 : decode cX3_passPhase 47 = .ok (.putfield 56, 3) := by decide +kernel
theorem dX3_passPhase_50 : decode cX3_passPhase 50 = .ok (.aload_n 0, 1) := by decide +kernel
theorem dX3_passPhase_51 : decode cX3_passPhase 51 = .ok (.getfield 12, 3) := by decide +kernel
theorem dX3_passPhase_54 : decode cX3_passPhase 54 = .ok (.invokevirtual 74, 3) := by decide +kernel
theorem dX3_passPhase_57 : decode cX3_passPhase 57 = .ok (.aload_n 0, 1) := by decide +kernel
theorem dX3_passPhase_58 : decode cX3_passPhase 58 = .ok (.getfield 21, 3) := by decide +kernel
theorem dX3_passPhase_61 : decode cX3_passPhase 61 = .ok (.aload_n 0, 1) := by decide +kernel
theorem dX3_passPhase_62 : decode cX3_passPhase 62 = .ok (.getfield 12, 3) := by decide +kernel
theorem dX3_passPhase_65 : decode cX3_passPhase 65 = .ok (.invokevirtual 77, 3) := by decide +kernel
theorem dX3_passPhase_68 : decode cX3_passPhase 68 = .ok (.iconst 1, 1) := by decide +kernel
theorem dX3_passPhase_69 : decode cX3_passPhase 69 = .ok (.ireturn, 1) := by decide +kernel
theorem dX3_passPhases_0 : decode cX3_passPhases 0 = .ok (.iconst 0, 1) := by decide +kernel
theorem dX3_passPhases_1 : decode cX3_passPhases 1 = .ok (.istore_n 2, 1) := by decide +kernel
theorem dX3_passPhases_2 : decode cX3_passPhases 2 = .ok (.iconst 0, 1) := by decide +kernel
theorem dX3_passPhases_3 : decode cX3_passPhases 3 = .ok (.istore_n 3, 1) := by decide +kernel
theorem dX3_passPhases_4 : decode cX3_passPhases 4 = .ok (.iload_n 3, 1) := by decide +kernel
theorem dX3_passPhases_5 : decode cX3_passPhases 5 = .ok (.iload_n 1, 1) := by decide +kernel
theorem dX3_passPhases_6 : decode cX3_passPhases 6 = .ok (.if_icmp .ge 19, 3) := by decide +kernel
theorem dX3_passPhases_9 : decode cX3_passPhases 9 = .ok (.aload_n 0, 1) := by decide +kernel
theorem dX3_passPhases_10 : decode cX3_passPhases 10 = .ok (.invokevirtual 80, 3) := by decide +kernel
theorem dX3_passPhases_13 : decode cX3_passPhases 13 = .ok (.ifCond .eq 6, 3) := by decide +kernel
theorem dX3_passPhases_16 : decode cX3_passPhases 16 = .ok (.iinc 2 1, 3) := by decide +kernel
theorem dX3_passPhases_19 : decode cX3_passPhases 19 = .ok (.iinc 3 1, 3) := by decide +kernel
theorem dX3_passPhases_22 : decode cX3_passPhases 22 = .ok (.goto (-18), 3) := by decide +kernel
theorem dX3_passPhases_25 : decode cX3_passPhases 25 = .ok (.iload_n 2, 1) := by decide +kernel
theorem dX3_passPhases_26 : decode cX3_passPhases 26 = .ok (.ireturn, 1) := by decide +kernel
theorem dX3_writeRegister_0 : decode cX3_writeRegister 0 = .ok (.aload_n 0, 1) := by decide +kernel
theorem dX3_writeRegister_1 : decode cX3_writeRegister 1 = .ok (.dup, 1) := by decide +kernel
theorem dX3_writeRegister_2 : decode cX3_writeRegister 2 = .ok (.getfield 65, 3) := by decide +kernel
theorem dX3_writeRegister_5 : decode cX3_writeRegister 5 = .ok (.iconst 1, 1) := by decide +kernel
theorem dX3_writeRegister_6 : decode cX3_writeRegister 6 = .ok (.iadd, 1) := by decide +kernel
theorem dX3_writeRegister_7 : decode cX3_writeRegister 7 = .ok (.putfield 65, 3) := by decide +kernel
theorem dX3_writeRegister_10 : decode cX3_writeRegister 10 = .ok (.aload_n 0, 1) := by decide +kernel
theorem dX3_writeRegister_11 : decode cX3_writeRegister 11 = .ok (.getfield 12, 3) := by decide +kernel
theorem dX3_writeRegister_14 : decode cX3_writeRegister 14 = .ok (.getfield 84, 3) := by decide +kernel
theorem dX3_writeRegister_17 : decode cX3_writeRegister 17 = .ok (.iload_n 1, 1) := by decide +kernel
theorem dX3_writeRegister_18 : decode cX3_writeRegister 18 = .ok (.aload_n 0, 1) := by decide +kernel
theorem dX3_writeRegister_19 : decode cX3_writeRegister 19 = .ok (.getfield 12, 3) := by decide +kernel
theorem dX3_writeRegister_22 : decode cX3_writeRegister 22 = .ok (.iload_n 1, 1) := by decide +kernel
theorem dX3_writeRegister_23 : decode cX3_writeRegister 23 = .ok (.iload_n 2, 1) := by decide +kernel
theorem dX3_writeRegister_24 : decode cX3_writeRegister 24 = .ok (.invokevirtual 87, 3) := by decide +kernel
theorem dX3_writeRegister_27 : decode cX3_writeRegister 27 = .ok (.iastore, 1) := by decide +kernel
theorem dX3_writeRegister_28 : decode cX3_writeRegister 28 = .ok (.aload_n 0, 1) := by decide +kernel
theorem dX3_writeRegister_29 : decode cX3_writeRegister 29 = .ok (.getfield 12, 3) := by decide +kernel
theorem dX3_writeRegister_32 : decode cX3_writeRegister 32 = .ok (.getfield 84, 3) := by decide +kernel
theorem dX3_writeRegister_35 : decode cX3_writeRegister 35 = .ok (.iload_n 1, 1) := by decide +kernel
theorem dX3_writeRegister_36 : decode cX3_writeRegister 36 = .ok (.iaload, 1) := by decide +kernel
theorem dX3_writeRegister_37 : decode cX3_writeRegister 37 = .ok (.ireturn, 1) := by decide +kernel
theorem dX3_readRegister_0 : decode cX3_readRegister 0 = .ok (.aload_n 0, 1) := by decide +kernel
theorem dX3_readRegister_1 : decode cX3_readRegister 1 = .ok (.dup, 1) := by decide +kernel
theorem dX3_readRegister_2 : decode cX3_readRegister 2 = .ok (.getfield 62, 3) := by decide +kernel
theorem dX3_readRegister_5 : decode cX3_readRegister 5 = .ok (.iconst 1, 1) := by decide +kernel
theorem dX3_readRegister_6 : decode cX3_readRegister 6 = .ok (.iadd, 1) := by decide +kernel
theorem dX3_readRegister_7 : decode cX3_readRegister 7 = .ok (.putfield 62, 3) := by decide +kernel
theorem dX3_readRegister_10 : decode cX3_readRegister 10 = .ok (.aload_n 0, 1) := by decide +kernel
theorem dX3_readRegister_11 : decode cX3_readRegister 11 = .ok (.getfield 12, 3) := by decide +kernel
theorem dX3_readRegister_14 : decode cX3_readRegister 14 = .ok (.getfield 84, 3) := by decide +kernel
theorem dX3_readRegister_17 : decode cX3_readRegister 17 = .ok (.iload_n 1, 1) := by decide +kernel
theorem dX3_readRegister_18 : decode cX3_readRegister 18 = .ok (.iaload, 1) := by decide +kernel
theorem dX3_readRegister_19 : decode cX3_readRegister 19 = .ok (.istore_n 2, 1) := by decide +kernel
theorem dX3_readRegister_20 : decode cX3_readRegister 20 = .ok (.aload_n 0, 1) := by decide +kernel
theorem dX3_readRegister_21 : decode cX3_readRegister 21 = .ok (.aload_n 0, 1) := by decide +kernel
theorem dX3_readRegister_22 : decode cX3_readRegister 22 = .ok (.getfield 32, 3) := by decide +kernel
theorem dX3_readRegister_25 : decode cX3_readRegister 25 = .ok (.iconst 0, 1) := by decide +kernel
theorem dX3_readRegister_26 : decode cX3_readRegister 26 = .ok (.iaload, 1) := by decide +kernel
theorem dX3_readRegister_27 : decode cX3_readRegister 27 = .ok (.invokevirtual 91, 3) := by decide +kernel
theorem dX3_readRegister_30 : decode cX3_readRegister 30 = .ok (.pop, 1) := by decide +kernel
theorem dX3_readRegister_31 : decode cX3_readRegister 31 = .ok (.iload_n 2, 1) := by decide +kernel
theorem dX3_readRegister_32 : decode cX3_readRegister 32 = .ok (.ireturn, 1) := by decide +kernel
theorem dX3_changeSetting_0 : decode cX3_changeSetting 0 = .ok (.aload_n 0, 1) := by decide +kernel
theorem dX3_changeSetting_1 : decode cX3_changeSetting 1 = .ok (.getfield 32, 3) := by decide +kernel
theorem dX3_changeSetting_4 : decode cX3_changeSetting 4 = .ok (.iload_n 1, 1) := by decide +kernel
theorem dX3_changeSetting_5 : decode cX3_changeSetting 5 = .ok (.iaload, 1) := by decide +kernel
theorem dX3_changeSetting_6 : decode cX3_changeSetting 6 = .ok (.istore_n 3, 1) := by decide +kernel
theorem dX3_changeSetting_7 : decode cX3_changeSetting 7 = .ok (.aload_n 0, 1) := by decide +kernel
theorem dX3_changeSetting_8 : decode cX3_changeSetting 8 = .ok (.getfield 32, 3) := by decide +kernel
theorem dX3_changeSetting_11 : decode cX3_changeSetting 11 = .ok (.iload_n 1, 1) := by decide +kernel
theorem dX3_changeSetting_12 : decode cX3_changeSetting 12 = .ok (.iload_n 2, 1) := by decide +kernel
theorem dX3_changeSetting_13 : decode cX3_changeSetting 13 = .ok (.iastore, 1) := by decide +kernel
theorem dX3_changeSetting_14 : decode cX3_changeSetting 14 = .ok (.aload_n 0, 1) := by decide +kernel
theorem dX3_changeSetting_15 : decode cX3_changeSetting 15 = .ok (.getfield 52, 3) := by decide +kernel
theorem dX3_changeSetting_18 : decode cX3_changeSetting 18 = .ok (.aload_n 0, 1) := by decide +kernel
theorem dX3_changeSetting_19 : decode cX3_changeSetting 19 = .ok (.getfield 32, 3) := by decide +kernel
theorem dX3_changeSetting_22 : decode cX3_changeSetting 22 = .ok (.iconst 2, 1) := by decide +kernel
theorem dX3_changeSetting_23 : decode cX3_changeSetting 23 = .ok (.iaload, 1) := by decide +kernel
theorem dX3_changeSetting_24 : decode cX3_changeSetting 24 = .ok (.if_icmp .lt 15, 3) := by decide +kernel
theorem dX3_changeSetting_27 : decode cX3_changeSetting 27 = .ok (.aload_n 0, 1) := by decide +kernel
theorem dX3_changeSetting_28 : decode cX3_changeSetting 28 = .ok (.aload_n 0, 1) := by decide +kernel
theorem dX3_changeSetting_29 : decode cX3_changeSetting 29 = .ok (.getfield 32, 3) := by decide +kernel
theorem dX3_changeSetting_32 : decode cX3_changeSetting 32 = .ok (.iconst 2, 1) := by decide +kernel
theorem dX3_changeSetting_33 : decode cX3_changeSetting 33 = .ok (.iaload, 1) := by decide +kernel
theorem dX3_changeSetting_34 : decode cX3_changeSetting 34 = .ok (.iconst 1, 1) := by decide +kernel
theorem dX3_changeSetting_35 : decode cX3_changeSetting 35 = .ok (.isub, 1) := by decide +kernel
theorem dX3_changeSetting_36 : decode cX3_changeSetting 36 = .ok (.putfield 52, 3) := by decide +kernel
theorem dX3_changeSetting_39 : decode cX3_changeSetting 39 = .ok (.iload_n 3, 1) := by decide +kernel
theorem dX3_changeSetting_40 : decode cX3_changeSetting 40 = .ok (.ireturn, 1) := by decide +kernel
theorem dX3_logBurst_0 : decode cX3_logBurst 0 = .ok (.aload_n 0, 1) := by decide +kernel
theorem dX3_logBurst_1 : decode cX3_logBurst 1 = .ok (.dup, 1) := by decide +kernel
theorem dX3_logBurst_2 : decode cX3_logBurst 2 = .ok (.getfield 68, 3) := by decide +kernel
theorem dX3_logBurst_5 : decode cX3_logBurst 5 = .ok (.iconst 1, 1) := by decide +kernel
theorem dX3_logBurst_6 : decode cX3_logBurst 6 = .ok (.iadd, 1) := by decide +kernel
theorem dX3_logBurst_7 : decode cX3_logBurst 7 = .ok (.putfield 68, 3) := by decide +kernel
theorem dX3_logBurst_10 : decode cX3_logBurst 10 = .ok (.aload_n 0, 1) := by decide +kernel
theorem dX3_logBurst_11 : decode cX3_logBurst 11 = .ok (.dup, 1) := by decide +kernel
theorem dX3_logBurst_12 : decode cX3_logBurst 12 = .ok (.getfield 71, 3) := by decide +kernel
theorem dX3_logBurst_15 : decode cX3_logBurst 15 = .ok (.aload_n 1, 1) := by decide +kernel
theorem dX3_logBurst_16 : decode cX3_logBurst 16 = .ok (.bipush 8, 2) := by decide +kernel
theorem dX3_logBurst_18 : decode cX3_logBurst 18 = .ok (.iaload, 1) := by decide +kernel
theorem dX3_logBurst_19 : decode cX3_logBurst 19 = .ok (.iadd, 1) := by decide +kernel
theorem dX3_logBurst_20 : decode cX3_logBurst 20 = .ok (.putfield 71, 3) := by decide +kernel
theorem dX3_logBurst_23 : decode cX3_logBurst 23 = .ok (.aload_n 0, 1) := by decide +kernel
theorem dX3_logBurst_24 : decode cX3_logBurst 24 = .ok (.getfield 28, 3) := by decide +kernel
theorem dX3_logBurst_27 : decode cX3_logBurst 27 = .ok (.aload_n 1, 1) := by decide +kernel
theorem dX3_logBurst_28 : decode cX3_logBurst 28 = .ok (.invokevirtual 95, 3) := by decide +kernel
theorem dX3_logBurst_31 : decode cX3_logBurst 31 = .ok (.return_, 1) := by decide +kernel
theorem dX4_init_0 : decode cX4_init 0 = .ok (.aload_n 0, 1) := by decide +kernel
theorem dX4_init_1 : decode cX4_init 1 = .ok (.invokespecial 1, 3) := by decide +kernel
theorem dX4_init_4 : decode cX4_init 4 = .ok (.aload_n 0, 1) := by decide +kernel
theorem dX4_init_5 : decode cX4_init 5 = .ok (.iconst 3, 1) := by decide +kernel
theorem dX4_init_6 : decode cX4_init 6 = .ok (.newarray .int, 2) := by decide +kernel
theorem dX4_init_8 : decode cX4_init 8 = .ok (.putfield 9, 3) := by decide +kernel
theorem dX4_init_11 : decode cX4_init 11 = .ok (.return_, 1) := by decide +kernel
theorem dX5_init_0 : decode cX5_init 0 = .ok (.aload_n 0, 1) := by decide +kernel
theorem dX5_init_1 : decode cX5_init 1 = .ok (.invokespecial 3, 3) := by decide +kernel
theorem dX5_init_4 : decode cX5_init 4 = .ok (.aload_n 0, 1) := by decide +kernel
theorem dX5_init_5 : decode cX5_init 5 = .ok (.bipush 7, 2) := by decide +kernel
theorem dX5_init_7 : decode cX5_init 7 = .ok (.newarray .int, 2) := by decide +kernel
theorem dX5_init_9 : decode cX5_init 9 = .ok (.putfield 9, 3) := by decide +kernel
theorem dX5_init_12 : decode cX5_init 12 = .ok (.aload_n 0, 1) := by decide +kernel
theorem dX5_init_13 : decode cX5_init 13 = .ok (.bipush 7, 2) := by decide +kernel
theorem dX5_init_15 : decode cX5_init 15 = .ok (.newarray .int, 2) := by decide +kernel
theorem dX5_init_17 : decode cX5_init 17 = .ok (.putfield 15, 3) := by decide +kernel
theorem dX5_init_20 : decode cX5_init 20 = .ok (.aload_n 0, 1) := by decide +kernel
theorem dX5_init_21 : decode cX5_init 21 = .ok (.bipush 7, 2) := by decide +kernel
theorem dX5_init_23 : decode cX5_init 23 = .ok (.newarray .int, 2) := by decide +kernel
theorem dX5_init_25 : decode cX5_init 25 = .ok (.putfield 18, 3) := by decide +kernel
theorem dX5_init_28 : decode cX5_init 28 = .ok (.aload_n 0, 1) := by decide +kernel
theorem dX5_init_29 : decode cX5_init 29 = .ok (.bipush 7, 2) := by decide +kernel
theorem dX5_init_31 : decode cX5_init 31 = .ok (.newarray .int, 2) := by decide +kernel
theorem dX5_init_33 : decode cX5_init 33 = .ok (.putfield 21, 3) := by decide +kernel
theorem dX5_init_36 : decode cX5_init 36 = .ok (.getstatic 24, 3) := by decide +kernel
theorem dX5_init_39 : decode cX5_init 39 = .ok (.iconst 0, 1) := by decide +kernel
theorem dX5_init_40 : decode cX5_init 40 = .ok (.aload_n 0, 1) := by decide +kernel
theorem dX5_init_41 : decode cX5_init 41 = .ok (.getfield 9, 3) := by decide +kernel
theorem dX5_init_44 : decode cX5_init 44 = .ok (.iconst 0, 1) := by decide +kernel
theorem dX5_init_45 : decode cX5_init 45 = .ok (.bipush 7, 2) := by decide +kernel
theorem dX5_init_47 : decode cX5_init 47 = .ok (.invokestatic 27, 3) := by decide +kernel
theorem dX5_init_50 : decode cX5_init 50 = .ok (.aload_n 0, 1) := by decide +kernel
theorem dX5_init_51 : decode cX5_init 51 = .ok (.getfield 9, 3) := by decide +kernel
theorem dX5_init_54 : decode cX5_init 54 = .ok (.iconst 3, 1) := by decide +kernel
theorem dX5_init_55 : decode cX5_init 55 = .ok (.bipush 6, 2) := by decide +kernel
theorem dX5_init_57 : decode cX5_init 57 = .ok (.iastore, 1) := by decide +kernel
theorem dX5_init_58 : decode cX5_init 58 = .ok (.return_, 1) := by decide +kernel
theorem dX5_copyFrom_0 : decode cX5_copyFrom 0 = .ok (.aload_n 1, 1) := by decide +kernel
theorem dX5_copyFrom_1 : decode cX5_copyFrom 1 = .ok (.getfield 9, 3) := by decide +kernel
theorem dX5_copyFrom_4 : decode cX5_copyFrom 4 = .ok (.iconst 0, 1) := by decide +kernel
theorem dX5_copyFrom_5 : decode cX5_copyFrom 5 = .ok (.aload_n 0, 1) := by decide +kernel
theorem dX5_copyFrom_6 : decode cX5_copyFrom 6 = .ok (.getfield 9, 3) := by decide +kernel
theorem dX5_copyFrom_9 : decode cX5_copyFrom 9 = .ok (.iconst 0, 1) := by decide +kernel
theorem dX5_copyFrom_10 : decode cX5_copyFrom 10 = .ok (.bipush 7, 2) := by decide +kernel
theorem dX5_copyFrom_12 : decode cX5_copyFrom 12 = .ok (.invokestatic 27, 3) := by decide +kernel
theorem dX5_copyFrom_15 : decode cX5_copyFrom 15 = .ok (.aload_n 1, 1) := by decide +kernel
theorem dX5_copyFrom_16 : decode cX5_copyFrom 16 = .ok (.getfield 15, 3) := by decide +kernel
theorem dX5_copyFrom_19 : decode cX5_copyFrom 19 = .ok (.iconst 0, 1) := by decide +kernel
theorem dX5_copyFrom_20 : decode cX5_copyFrom 20 = .ok (.aload_n 0, 1) := by decide +kernel
theorem dX5_copyFrom_21 : decode cX5_copyFrom 21 = .ok (.getfield 15, 3) := by decide +kernel
theorem dX5_copyFrom_24 : decode cX5_copyFrom 24 = .ok (.iconst 0, 1) := by decide +kernel
theorem dX5_copyFrom_25 : decode cX5_copyFrom 25 = .ok (.bipush 7, 2) := by decide +kernel
theorem dX5_copyFrom_27 : decode cX5_copyFrom 27 = .ok (.invokestatic 27, 3) := by decide +kernel
theorem dX5_copyFrom_30 : decode cX5_copyFrom 30 = .ok (.aload_n 1, 1) := by decide +kernel
theorem dX5_copyFrom_31 : decode cX5_copyFrom 31 = .ok (.getfield 18, 3) := by decide +kernel
theorem dX5_copyFrom_34 : decode cX5_copyFrom 34 = .ok (.iconst 0, 1) := by decide +kernel
theorem dX5_copyFrom_35 : decode cX5_copyFrom 35 = .ok (.aload_n 0, 1) := by decide +kernel
theorem dX5_copyFrom_36 : decode cX5_copyFrom 36 = .ok (.getfield 18, 3) := by decide +kernel
theorem dX5_copyFrom_39 : decode cX5_copyFrom 39 = .ok (.iconst 0, 1) := by decide +kernel
theorem dX5_copyFrom_40 : decode cX5_copyFrom 40 = .ok (.bipush 7, 2) := by decide +kernel
theorem dX5_copyFrom_42 : decode cX5_copyFrom 42 = .ok (.invokestatic 27, 3) := by decide +kernel
theorem dX5_copyFrom_45 : decode cX5_copyFrom 45 = .ok (.aload_n 1, 1) := by decide +kernel
theorem dX5_copyFrom_46 : decode cX5_copyFrom 46 = .ok (.getfield 21, 3) := by decide +kernel
theorem dX5_copyFrom_49 : decode cX5_copyFrom 49 = .ok (.iconst 0, 1) := by decide +kernel
theorem dX5_copyFrom_50 : decode cX5_copyFrom 50 = .ok (.aload_n 0, 1) := by decide +kernel
theorem dX5_copyFrom_51 : decode cX5_copyFrom 51 = .ok (.getfield 21, 3) := by decide +kernel
theorem dX5_copyFrom_54 : decode cX5_copyFrom 54 = .ok (.iconst 0, 1) := by decide +kernel
theorem dX5_copyFrom_55 : decode cX5_copyFrom 55 = .ok (.bipush 7, 2) := by decide +kernel
theorem dX5_copyFrom_57 : decode cX5_copyFrom 57 = .ok (.invokestatic 27, 3) := by decide +kernel
theorem dX5_copyFrom_60 : decode cX5_copyFrom 60 = .ok (.return_, 1) := by decide +kernel
theorem dX5_lastValue_0 : decode cX5_lastValue 0 = .ok (.iload_n 1, 1) := by decide +kernel
theorem dX5_lastValue_1 : decode cX5_lastValue 1 = .ok (.iconst 4, 1) := by decide +kernel
theorem dX5_lastValue_2 : decode cX5_lastValue 2 = .ok (.if_icmp .eq 9, 3) := by decide +kernel
theorem dX5_lastValue_5 : decode cX5_lastValue 5 = .ok (.getstatic 33, 3) := by decide +kernel
theorem dX5_lastValue_8 : decode cX5_lastValue 8 = .ok (.iload_n 1, 1) := by decide +kernel
theorem dX5_lastValue_9 : decode cX5_lastValue 9 = .ok (.iaload, 1) := by decide +kernel
theorem dX5_lastValue_10 : decode cX5_lastValue 10 = .ok (.ireturn, 1) := by decide +kernel
theorem dX5_lastValue_11 : decode cX5_lastValue 11 = .ok (.aload_n 0, 1) := by decide +kernel
theorem dX5_lastValue_12 : decode cX5_lastValue 12 = .ok (.getfield 9, 3) := by decide +kernel
theorem dX5_lastValue_15 : decode cX5_lastValue 15 = .ok (.iconst 5, 1) := by decide +kernel
theorem dX5_lastValue_16 : decode cX5_lastValue 16 = .ok (.iaload, 1) := by decide +kernel
theorem dX5_lastValue_17 : decode cX5_lastValue 17 = .ok (.lookupswitch 69 #[(2, 54), (4, 51), (6, 51), (9, 51), (17, 51)], 51) := by decide +kernel
theorem dX5_lastValue_68 : decode cX5_lastValue 68 = .ok (.bipush 48, 2) := by decide +kernel
theorem dX5_lastValue_70 : decode cX5_lastValue 70 = .ok (.ireturn, 1) := by decide +kernel
theorem dX5_lastValue_71 : decode cX5_lastValue 71 = .ok (.aload_n 0, 1) := by decide +kernel
theorem dX5_lastValue_72 : decode cX5_lastValue 72 = .ok (.invokevirtual 36, 3) := by decide +kernel
theorem dX5_lastValue_75 : decode cX5_lastValue 75 = .ok (.ifCond .eq 8, 3) := by decide +kernel
theorem dX5_lastValue_78 : decode cX5_lastValue 78 = .ok (.bipush 41, 2) := by decide +kernel
theorem dX5_lastValue_80 : decode cX5_lastValue 80 = .ok (.goto 5, 3) := by decide +kernel
theorem dX5_lastValue_83 : decode cX5_lastValue 83 = .ok (.bipush 40, 2) := by decide +kernel
theorem dX5_lastValue_85 : decode cX5_lastValue 85 = .ok (.ireturn, 1) := by decide +kernel
theorem dX5_lastValue_86 : decode cX5_lastValue 86 = .ok (.getstatic 33, 3) := by decide +kernel
theorem dX5_lastValue_89 : decode cX5_lastValue 89 = .ok (.iconst 4, 1) := by decide +kernel
theorem dX5_lastValue_90 : decode cX5_lastValue 90 = .ok (.iaload, 1) := by decide +kernel
theorem dX5_lastValue_91 : decode cX5_lastValue 91 = .ok (.ireturn, 1) := by decide +kernel
theorem dX5_isLeapYear_0 : decode cX5_isLeapYear 0 = .ok (.aload_n 0, 1) := by decide +kernel
theorem dX5_isLeapYear_1 : decode cX5_isLeapYear 1 = .ok (.getfield 9, 3) := by decide +kernel
theorem dX5_isLeapYear_4 : decode cX5_isLeapYear 4 = .ok (.bipush 6, 2) := by decide +kernel
theorem dX5_isLeapYear_6 : decode cX5_isLeapYear 6 = .ok (.iaload, 1) := by decide +kernel
theorem dX5_isLeapYear_7 : decode cX5_isLeapYear 7 = .ok (.iconst 4, 1) := by decide +kernel
theorem dX5_isLeapYear_8 : decode cX5_isLeapYear 8 = .ok (.ishr, 1) := by decide +kernel
theorem dX5_isLeapYear_9 : decode cX5_isLeapYear 9 = .ok (.istore_n 1, 1) := by decide +kernel
theorem dX5_isLeapYear_10 : decode cX5_isLeapYear 10 = .ok (.aload_n 0, 1) := by decide +kernel
theorem dX5_isLeapYear_11 : decode cX5_isLeapYear 11 = .ok (.getfield 9, 3) := by decide +kernel
theorem dX5_isLeapYear_14 : decode cX5_isLeapYear 14 = .ok (.bipush 6, 2) := by decide +kernel
theorem dX5_isLeapYear_16 : decode cX5_isLeapYear 16 = .ok (.iaload, 1) := by decide +kernel
theorem dX5_isLeapYear_17 : decode cX5_isLeapYear 17 = .ok (.bipush 15, 2) := by decide +kernel
theorem dX5_isLeapYear_19 : decode cX5_isLeapYear 19 = .ok (.iand, 1) := by decide +kernel
theorem dX5_isLeapYear_20 : decode cX5_isLeapYear 20 = .ok (.istore_n 2, 1) := by decide +kernel
theorem dX5_isLeapYear_21 : decode cX5_isLeapYear 21 = .ok (.iload_n 1, 1) := by decide +kernel
theorem dX5_isLeapYear_22 : decode cX5_isLeapYear 22 = .ok (.bipush 9, 2) := by decide +kernel
theorem dX5_isLeapYear_24 : decode cX5_isLeapYear 24 = .ok (.if_icmp .gt 24, 3) := by decide +kernel
theorem dX5_isLeapYear_27 : decode cX5_isLeapYear 27 = .ok (.iload_n 2, 1) := by decide +kernel
theorem dX5_isLeapYear_28 : decode cX5_isLeapYear 28 = .ok (.bipush 9, 2) := by decide +kernel
theorem dX5_isLeapYear_30 : decode cX5_isLeapYear 30 = .ok (.if_icmp .gt 18, 3) := by decide +kernel
theorem dX5_isLeapYear_33 : decode cX5_isLeapYear 33 = .ok (.bipush 10, 2) := by decide +kernel
theorem dX5_isLeapYear_35 : decode cX5_isLeapYear 35 = .ok (.iload_n 1, 1) := by decide +kernel
theorem dX5_isLeapYear_36 : decode cX5_isLeapYear 36 = .ok (.imul, 1) := by decide +kernel
theorem dX5_isLeapYear_37 : decode cX5_isLeapYear 37 = .ok (.iload_n 2, 1) := by decide +kernel
theorem dX5_isLeapYear_38 : decode cX5_isLeapYear 38 = .ok (.iadd, 1) := by decide +kernel
theorem dX5_isLeapYear_39 : decode cX5_isLeapYear 39 = .ok (.iconst 4, 1) := by decide +kernel
theorem dX5_isLeapYear_40 : decode cX5_isLeapYear 40 = .ok (.irem, 1) := by decide +kernel
theorem dX5_isLeapYear_41 : decode cX5_isLeapYear 41 = .ok (.ifCond .ne 7, 3) := by decide +kernel
theorem dX5_isLeapYear_44 : decode cX5_isLeapYear 44 = .ok (.iconst 1, 1) := by decide +kernel
theorem dX5_isLeapYear_45 : decode cX5_isLeapYear 45 = .ok (.goto 4, 3) := by decide +kernel
theorem dX5_isLeapYear_48 : decode cX5_isLeapYear 48 = .ok (.iconst 0, 1) := by decide +kernel
theorem dX5_isLeapYear_49 : decode cX5_isLeapYear 49 = .ok (.ireturn, 1) := by decide +kernel
theorem dX5_whyWrong_0 : decode cX5_whyWrong 0 = .ok (.aload_n 0, 1) := by decide +kernel
theorem dX5_whyWrong_1 : decode cX5_whyWrong 1 = .ok (.getfield 9, 3) := by decide +kernel
theorem dX5_whyWrong_4 : decode cX5_whyWrong 4 = .ok (.iload_n 1, 1) := by decide +kernel
theorem dX5_whyWrong_5 : decode cX5_whyWrong 5 = .ok (.iaload, 1) := by decide +kernel
theorem dX5_whyWrong_6 : decode cX5_whyWrong 6 = .ok (.istore_n 2, 1) := by decide +kernel
theorem dX5_whyWrong_7 : decode cX5_whyWrong 7 = .ok (.iload_n 2, 1) := by decide +kernel
theorem dX5_whyWrong_8 : decode cX5_whyWrong 8 = .ok (.iconst 4, 1) := by decide +kernel
theorem dX5_whyWrong_9 : decode cX5_whyWrong 9 = .ok (.ishr, 1) := by decide +kernel
theorem dX5_whyWrong_10 : decode cX5_whyWrong 10 = .ok (.bipush 9, 2) := by decide +kernel
theorem dX5_whyWrong_12 : decode cX5_whyWrong 12 = .ok (.if_icmp .gt 12, 3) := by decide +kernel
theorem dX5_whyWrong_15 : decode cX5_whyWrong 15 = .ok (.iload_n 2, 1) := by decide +kernel
theorem dX5_whyWrong_16 : decode cX5_whyWrong 16 = .ok (.bipush 15, 2) := by decide +kernel
theorem dX5_whyWrong_18 : decode cX5_whyWrong 18 = .ok (.iand, 1) := by decide +kernel
theorem dX5_whyWrong_19 : decode cX5_whyWrong 19 = .ok (.bipush 9, 2) := by decide +kernel
theorem dX5_whyWrong_21 : decode cX5_whyWrong 21 = .ok (.if_icmp .le 5, 3) := by decide +kernel
theorem dX5_whyWrong_24 : decode cX5_whyWrong 24 = .ok (.iconst 1, 1) := by decide +kernel
theorem dX5_whyWrong_25 : decode cX5_whyWrong 25 = .ok (.ireturn, 1) := by decide +kernel
theorem dX5_whyWrong_26 : decode cX5_whyWrong 26 = .ok (.iload_n 2, 1) := by decide +kernel
theorem dX5_whyWrong_27 : decode cX5_whyWrong 27 = .ok (.getstatic 24, 3) := by decide +kernel
theorem dX5_whyWrong_30 : decode cX5_whyWrong 30 = .ok (.iload_n 1, 1) := by decide +kernel
theorem dX5_whyWrong_31 : decode cX5_whyWrong 31 = .ok (.iaload, 1) := by decide +kernel
theorem dX5_whyWrong_32 : decode cX5_whyWrong 32 = .ok (.if_icmp .ge 5, 3) := by decide +kernel
theorem dX5_whyWrong_35 : decode cX5_whyWrong 35 = .ok (.iconst 2, 1) := by decide +kernel
theorem dX5_whyWrong_36 : decode cX5_whyWrong 36 = .ok (.ireturn, 1) := by decide +kernel
theorem dX5_whyWrong_37 : decode cX5_whyWrong 37 = .ok (.iload_n 2, 1) := by decide +kernel
theorem dX5_whyWrong_38 : decode cX5_whyWrong 38 = .ok (.aload_n 0, 1) := by decide +kernel
theorem dX5_whyWrong_39 : decode cX5_whyWrong 39 = .ok (.iload_n 1, 1) := by decide +kernel
theorem dX5_whyWrong_40 : decode cX5_whyWrong 40 = .ok (.invokevirtual 40, 3) := by decide +kernel
theorem dX5_whyWrong_43 : decode cX5_whyWrong 43 = .ok (.if_icmp .le 7, 3) := by decide +kernel
theorem dX5_whyWrong_46 : decode cX5_whyWrong 46 = .ok (.iconst 3, 1) := by decide +kernel
theorem dX5_whyWrong_47 : decode cX5_whyWrong 47 = .ok (.goto 4, 3) := by decide +kernel
theorem dX5_whyWrong_50 : decode cX5_whyWrong 50 = .ok (.iconst 0, 1) := by decide +kernel
theorem dX5_whyWrong_51 : decode cX5_whyWrong 51 = .ok (.ireturn, 1) := by decide +kernel
theorem dX5_wrongOnes_0 : decode cX5_wrongOnes 0 = .ok (.iconst 0, 1) := by decide +kernel
theorem dX5_wrongOnes_1 : decode cX5_wrongOnes 1 = .ok (.istore_n 1, 1) := by decide +kernel
theorem dX5_wrongOnes_2 : decode cX5_wrongOnes 2 = .ok (.iconst 0, 1) := by decide +kernel
theorem dX5_wrongOnes_3 : decode cX5_wrongOnes 3 = .ok (.istore_n 2, 1) := by decide +kernel
theorem dX5_wrongOnes_4 : decode cX5_wrongOnes 4 = .ok (.iload_n 2, 1) := by decide +kernel
theorem dX5_wrongOnes_5 : decode cX5_wrongOnes 5 = .ok (.bipush 7, 2) := by decide +kernel
theorem dX5_wrongOnes_7 : decode cX5_wrongOnes 7 = .ok (.if_icmp .ge 23, 3) := by decide +kernel
theorem dX5_wrongOnes_10 : decode cX5_wrongOnes 10 = .ok (.aload_n 0, 1) := by decide +kernel
theorem dX5_wrongOnes_11 : decode cX5_wrongOnes 11 = .ok (.iload_n 2, 1) := by decide +kernel
theorem dX5_wrongOnes_12 : decode cX5_wrongOnes 12 = .ok (.invokevirtual 44, 3) := by decide +kernel
theorem dX5_wrongOnes_15 : decode cX5_wrongOnes 15 = .ok (.ifCond .eq 9, 3) := by decide +kernel
theorem dX5_wrongOnes_18 : decode cX5_wrongOnes 18 = .ok (.iload_n 1, 1) := by decide +kernel
theorem dX5_wrongOnes_19 : decode cX5_wrongOnes 19 = .ok (.iconst 1, 1) := by decide +kernel
theorem dX5_wrongOnes_20 : decode cX5_wrongOnes 20 = .ok (.iload_n 2, 1) := by decide +kernel
theorem dX5_wrongOnes_21 : decode cX5_wrongOnes 21 = .ok (.ishl, 1) := by decide +kernel
theorem dX5_wrongOnes_22 : decode cX5_wrongOnes 22 = .ok (.ior, 1) := by decide +kernel
theorem dX5_wrongOnes_23 : decode cX5_wrongOnes 23 = .ok (.istore_n 1, 1) := by decide +kernel
theorem dX5_wrongOnes_24 : decode cX5_wrongOnes 24 = .ok (.iinc 2 1, 3) := by decide +kernel
theorem dX5_wrongOnes_27 : decode cX5_wrongOnes 27 = .ok (.goto (-23), 3) := by decide +kernel
theorem dX5_wrongOnes_30 : decode cX5_wrongOnes 30 = .ok (.iload_n 1, 1) := by decide +kernel
theorem dX5_wrongOnes_31 : decode cX5_wrongOnes 31 = .ok (.ireturn, 1) := by decide +kernel
theorem dX5_withCells_0 : decode cX5_withCells 0 = .ok (.iload_n 2, 1) := by decide +kernel
theorem dX5_withCells_1 : decode cX5_withCells 1 = .ok (.aload_n 0, 1) := by decide +kernel
theorem dX5_withCells_2 : decode cX5_withCells 2 = .ok (.getfield 15, 3) := by decide +kernel
theorem dX5_withCells_5 : decode cX5_withCells 5 = .ok (.iload_n 1, 1) := by decide +kernel
theorem dX5_withCells_6 : decode cX5_withCells 6 = .ok (.iaload, 1) := by decide +kernel
theorem dX5_withCells_7 : decode cX5_withCells 7 = .ok (.iconst (-1), 1) := by decide +kernel
theorem dX5_withCells_8 : decode cX5_withCells 8 = .ok (.ixor, 1) := by decide +kernel
theorem dX5_withCells_9 : decode cX5_withCells 9 = .ok (.iand, 1) := by decide +kernel
theorem dX5_withCells_10 : decode cX5_withCells 10 = .ok (.aload_n 0, 1) := by decide +kernel
theorem dX5_withCells_11 : decode cX5_withCells 11 = .ok (.getfield 18, 3) := by decide +kernel
theorem dX5_withCells_14 : decode cX5_withCells 14 = .ok (.iload_n 1, 1) := by decide +kernel
theorem dX5_withCells_15 : decode cX5_withCells 15 = .ok (.iaload, 1) := by decide +kernel
theorem dX5_withCells_16 : decode cX5_withCells 16 = .ok (.ior, 1) := by decide +kernel
theorem dX5_withCells_17 : decode cX5_withCells 17 = .ok (.ireturn, 1) := by decide +kernel
theorem dX5_hasFailed_0 : decode cX5_hasFailed 0 = .ok (.aload_n 0, 1) := by decide +kernel
theorem dX5_hasFailed_1 : decode cX5_hasFailed 1 = .ok (.getfield 15, 3) := by decide +kernel
theorem dX5_hasFailed_4 : decode cX5_hasFailed 4 = .ok (.iload_n 1, 1) := by decide +kernel
theorem dX5_hasFailed_5 : decode cX5_hasFailed 5 = .ok (.iaload, 1) := by decide +kernel
theorem dX5_hasFailed_6 : decode cX5_hasFailed 6 = .ok (.iload_n 2, 1) := by decide +kernel
theorem dX5_hasFailed_7 : decode cX5_hasFailed 7 = .ok (.invokestatic 47, 3) := by decide +kernel
theorem dX5_hasFailed_10 : decode cX5_hasFailed 10 = .ok (.iconst 1, 1) := by decide +kernel
theorem dX5_hasFailed_11 : decode cX5_hasFailed 11 = .ok (.if_icmp .ne 7, 3) := by decide +kernel
theorem dX5_hasFailed_14 : decode cX5_hasFailed 14 = .ok (.iconst 1, 1) := by decide +kernel
theorem dX5_hasFailed_15 : decode cX5_hasFailed 15 = .ok (.goto 4, 3) := by decide +kernel
theorem dX5_hasFailed_18 : decode cX5_hasFailed 18 = .ok (.iconst 0, 1) := by decide +kernel
theorem dX5_hasFailed_19 : decode cX5_hasFailed 19 = .ok (.ireturn, 1) := by decide +kernel
theorem dX5_failCell_0 : decode cX5_failCell 0 = .ok (.aload_n 0, 1) := by decide +kernel
theorem dX5_failCell_1 : decode cX5_failCell 1 = .ok (.getfield 15, 3) := by decide +kernel
theorem dX5_failCell_4 : decode cX5_failCell 4 = .ok (.iload_n 1, 1) := by decide +kernel
theorem dX5_failCell_5 : decode cX5_failCell 5 = .ok (.dup2, 1) := by decide +kernel
theorem dX5_failCell_6 : decode cX5_failCell 6 = .ok (.iaload, 1) := by decide +kernel
theorem dX5_failCell_7 : decode cX5_failCell 7 = .ok (.iconst 1, 1) := by decide +kernel
theorem dX5_failCell_8 : decode cX5_failCell 8 = .ok (.iload_n 2, 1) := by decide +kernel
theorem dX5_failCell_9 : decode cX5_failCell 9 = .ok (.ishl, 1) := by decide +kernel
theorem dX5_failCell_10 : decode cX5_failCell 10 = .ok (.ior, 1) := by decide +kernel
theorem dX5_failCell_11 : decode cX5_failCell 11 = .ok (.iastore, 1) := by decide +kernel
theorem dX5_failCell_12 : decode cX5_failCell 12 = .ok (.aload_n 0, 1) := by decide +kernel
theorem dX5_failCell_13 : decode cX5_failCell 13 = .ok (.getfield 18, 3) := by decide +kernel
theorem dX5_failCell_16 : decode cX5_failCell 16 = .ok (.iload_n 1, 1) := by decide +kernel
theorem dX5_failCell_17 : decode cX5_failCell 17 = .ok (.dup2, 1) := by decide +kernel
theorem dX5_failCell_18 : decode cX5_failCell 18 = .ok (.iaload, 1) := by decide +kernel
theorem dX5_failCell_19 : decode cX5_failCell 19 = .ok (.iload_n 3, 1) := by decide +kernel
theorem dX5_failCell_20 : decode cX5_failCell 20 = .ok (.iload_n 2, 1) := by decide +kernel
theorem dX5_failCell_21 : decode cX5_failCell 21 = .ok (.ishl, 1) := by decide +kernel
theorem dX5_failCell_22 : decode cX5_failCell 22 = .ok (.ior, 1) := by decide +kernel
theorem dX5_failCell_23 : decode cX5_failCell 23 = .ok (.iastore, 1) := by decide +kernel
theorem dX5_failCell_24 : decode cX5_failCell 24 = .ok (.aload_n 0, 1) := by decide +kernel
theorem dX5_failCell_25 : decode cX5_failCell 25 = .ok (.getfield 9, 3) := by decide +kernel
theorem dX5_failCell_28 : decode cX5_failCell 28 = .ok (.iload_n 1, 1) := by decide +kernel
theorem dX5_failCell_29 : decode cX5_failCell 29 = .ok (.aload_n 0, 1) := by decide +kernel
theorem dX5_failCell_30 : decode cX5_failCell 30 = .ok (.iload_n 1, 1) := by decide +kernel
theorem dX5_failCell_31 : decode cX5_failCell 31 = .ok (.aload_n 0, 1) := by decide +kernel
theorem dX5_failCell_32 : decode cX5_failCell 32 = .ok (.getfield 9, 3) := by decide +kernel
theorem dX5_failCell_35 : decode cX5_failCell 35 = .ok (.iload_n 1, 1) := by decide +kernel
theorem dX5_failCell_36 : decode cX5_failCell 36 = .ok (.iaload, 1) := by decide +kernel
theorem dX5_failCell_37 : decode cX5_failCell 37 = .ok (.invokevirtual 51, 3) := by decide +kernel
theorem dX5_failCell_40 : decode cX5_failCell 40 = .ok (.iastore, 1) := by decide +kernel
theorem dX5_failCell_41 : decode cX5_failCell 41 = .ok (.aload_n 0, 1) := by decide +kernel
theorem dX5_failCell_42 : decode cX5_failCell 42 = .ok (.getfield 9, 3) := by decide +kernel
theorem dX5_failCell_45 : decode cX5_failCell 45 = .ok (.iload_n 1, 1) := by decide +kernel
theorem dX5_failCell_46 : decode cX5_failCell 46 = .ok (.iaload, 1) := by decide +kernel
theorem dX5_failCell_47 : decode cX5_failCell 47 = .ok (.ireturn, 1) := by decide +kernel
theorem dX5_healCell_0 : decode cX5_healCell 0 = .ok (.aload_n 0, 1) := by decide +kernel
theorem dX5_healCell_1 : decode cX5_healCell 1 = .ok (.getfield 15, 3) := by decide +kernel
theorem dX5_healCell_4 : decode cX5_healCell 4 = .ok (.iload_n 1, 1) := by decide +kernel
theorem dX5_healCell_5 : decode cX5_healCell 5 = .ok (.dup2, 1) := by decide +kernel
theorem dX5_healCell_6 : decode cX5_healCell 6 = .ok (.iaload, 1) := by decide +kernel
theorem dX5_healCell_7 : decode cX5_healCell 7 = .ok (.iconst 1, 1) := by decide +kernel
theorem dX5_healCell_8 : decode cX5_healCell 8 = .ok (.iload_n 2, 1) := by decide +kernel
theorem dX5_healCell_9 : decode cX5_healCell 9 = .ok (.ishl, 1) := by decide +kernel
theorem dX5_healCell_10 : decode cX5_healCell 10 = .ok (.iconst (-1), 1) := by decide +kernel
theorem dX5_healCell_11 : decode cX5_healCell 11 = .ok (.ixor, 1) := by decide +kernel
theorem dX5_healCell_12 : decode cX5_healCell 12 = .ok (.iand, 1) := by decide +kernel
theorem dX5_healCell_13 : decode cX5_healCell 13 = .ok (.iastore, 1) := by decide +kernel
theorem dX5_healCell_14 : decode cX5_healCell 14 = .ok (.aload_n 0, 1) := by decide +kernel
theorem dX5_healCell_15 : decode cX5_healCell 15 = .ok (.getfield 18, 3) := by decide +kernel
theorem dX5_healCell_18 : decode cX5_healCell 18 = .ok (.iload_n 1, 1) := by decide +kernel
theorem dX5_healCell_19 : decode cX5_healCell 19 = .ok (.dup2, 1) := by decide +kernel
theorem dX5_healCell_20 : decode cX5_healCell 20 = .ok (.iaload, 1) := by decide +kernel
theorem dX5_healCell_21 : decode cX5_healCell 21 = .ok (.iconst 1, 1) := by decide +kernel
theorem dX5_healCell_22 : decode cX5_healCell 22 = .ok (.iload_n 2, 1) := by decide +kernel
theorem dX5_healCell_23 : decode cX5_healCell 23 = .ok (.ishl, 1) := by decide +kernel
theorem dX5_healCell_24 : decode cX5_healCell 24 = .ok (.iconst (-1), 1) := by decide +kernel
theorem dX5_healCell_25 : decode cX5_healCell 25 = .ok (.ixor, 1) := by decide +kernel
theorem dX5_healCell_26 : decode cX5_healCell 26 = .ok (.iand, 1) := by decide +kernel
theorem dX5_healCell_27 : decode cX5_healCell 27 = .ok (.iastore, 1) := by decide +kernel
theorem dX5_healCell_28 : decode cX5_healCell 28 = .ok (.return_, 1) := by decide +kernel
theorem dX5_failedCells_0 : decode cX5_failedCells 0 = .ok (.iconst 0, 1) := by decide +kernel
theorem dX5_failedCells_1 : decode cX5_failedCells 1 = .ok (.istore_n 1, 1) := by decide +kernel
theorem dX5_failedCells_2 : decode cX5_failedCells 2 = .ok (.iconst 0, 1) := by decide +kernel
theorem dX5_failedCells_3 : decode cX5_failedCells 3 = .ok (.istore_n 2, 1) := by decide +kernel
theorem dX5_failedCells_4 : decode cX5_failedCells 4 = .ok (.iload_n 2, 1) := by decide +kernel
theorem dX5_failedCells_5 : decode cX5_failedCells 5 = .ok (.bipush 7, 2) := by decide +kernel
theorem dX5_failedCells_7 : decode cX5_failedCells 7 = .ok (.if_icmp .ge 21, 3) := by decide +kernel
theorem dX5_failedCells_10 : decode cX5_failedCells 10 = .ok (.iload_n 1, 1) := by decide +kernel
theorem dX5_failedCells_11 : decode cX5_failedCells 11 = .ok (.aload_n 0, 1) := by decide +kernel
theorem dX5_failedCells_12 : decode cX5_failedCells 12 = .ok (.getfield 15, 3) := by decide +kernel
theorem dX5_failedCells_15 : decode cX5_failedCells 15 = .ok (.iload_n 2, 1) := by decide +kernel
theorem dX5_failedCells_16 : decode cX5_failedCells 16 = .ok (.iaload, 1) := by decide +kernel
theorem dX5_failedCells_17 : decode cX5_failedCells 17 = .ok (.invokestatic 54, 3) := by decide +kernel
theorem dX5_failedCells_20 : decode cX5_failedCells 20 = .ok (.iadd, 1) := by decide +kernel
theorem dX5_failedCells_21 : decode cX5_failedCells 21 = .ok (.istore_n 1, 1) := by decide +kernel
theorem dX5_failedCells_22 : decode cX5_failedCells 22 = .ok (.iinc 2 1, 3) := by decide +kernel
theorem dX5_failedCells_25 : decode cX5_failedCells 25 = .ok (.goto (-21), 3) := by decide +kernel
theorem dX5_failedCells_28 : decode cX5_failedCells 28 = .ok (.iload_n 1, 1) := by decide +kernel
theorem dX5_failedCells_29 : decode cX5_failedCells 29 = .ok (.ireturn, 1) := by decide +kernel
theorem dX5_nextValue_0 : decode cX5_nextValue 0 = .ok (.aload_n 0, 1) := by decide +kernel
theorem dX5_nextValue_1 : decode cX5_nextValue 1 = .ok (.getfield 9, 3) := by decide +kernel
theorem dX5_nextValue_4 : decode cX5_nextValue 4 = .ok (.iload_n 1, 1) := by decide +kernel
theorem dX5_nextValue_5 : decode cX5_nextValue 5 = .ok (.iaload, 1) := by decide +kernel
theorem dX5_nextValue_6 : decode cX5_nextValue 6 = .ok (.istore_n 3, 1) := by decide +kernel
theorem dX5_nextValue_7 : decode cX5_nextValue 7 = .ok (.iload_n 3, 1) := by decide +kernel
theorem dX5_nextValue_8 : decode cX5_nextValue 8 = .ok (.iload_n 2, 1) := by decide +kernel
theorem dX5_nextValue_9 : decode cX5_nextValue 9 = .ok (.if_icmp .ne 9, 3) := by decide +kernel
theorem dX5_nextValue_12 : decode cX5_nextValue 12 = .ok (.getstatic 24, 3) := by decide +kernel
theorem dX5_nextValue_15 : decode cX5_nextValue 15 = .ok (.iload_n 1, 1) := by decide +kernel
theorem dX5_nextValue_16 : decode cX5_nextValue 16 = .ok (.iaload, 1) := by decide +kernel
theorem dX5_nextValue_17 : decode cX5_nextValue 17 = .ok (.ireturn, 1) := by decide +kernel
theorem dX5_nextValue_18 : decode cX5_nextValue 18 = .ok (.iload_n 3, 1) := by decide +kernel
theorem dX5_nextValue_19 : decode cX5_nextValue 19 = .ok (.bipush 15, 2) := by decide +kernel
theorem dX5_nextValue_21 : decode cX5_nextValue 21 = .ok (.iand, 1) := by decide +kernel
theorem dX5_nextValue_22 : decode cX5_nextValue 22 = .ok (.bipush 9, 2) := by decide +kernel
theorem dX5_nextValue_24 : decode cX5_nextValue 24 = .ok (.if_icmp .ge 7, 3) := by decide +kernel
theorem dX5_nextValue_27 : decode cX5_nextValue 27 = .ok (.iload_n 3, 1) := by decide +kernel
theorem dX5_nextValue_28 : decode cX5_nextValue 28 = .ok (.iconst 1, 1) := by decide +kernel
theorem dX5_nextValue_29 : decode cX5_nextValue 29 = .ok (.iadd, 1) := by decide +kernel
theorem dX5_nextValue_30 : decode cX5_nextValue 30 = .ok (.ireturn, 1) := by decide +kernel
theorem dX5_nextValue_31 : decode cX5_nextValue 31 = .ok (.iload_n 3, 1) := by decide +kernel
theorem dX5_nextValue_32 : decode cX5_nextValue 32 = .ok (.sipush 240, 3) := by decide +kernel
theorem dX5_nextValue_35 : decode cX5_nextValue 35 = .ok (.iand, 1) := by decide +kernel
theorem dX5_nextValue_36 : decode cX5_nextValue 36 = .ok (.bipush 16, 2) := by decide +kernel
theorem dX5_nextValue_38 : decode cX5_nextValue 38 = .ok (.iadd, 1) := by decide +kernel
theorem dX5_nextValue_39 : decode cX5_nextValue 39 = .ok (.sipush 255, 3) := by decide +kernel
theorem dX5_nextValue_42 : decode cX5_nextValue 42 = .ok (.iand, 1) := by decide +kernel
theorem dX5_nextValue_43 : decode cX5_nextValue 43 = .ok (.ireturn, 1) := by decide +kernel
theorem dX5_stepOn_0 : decode cX5_stepOn 0 = .ok (.aload_n 0, 1) := by decide +kernel
theorem dX5_stepOn_1 : decode cX5_stepOn 1 = .ok (.getfield 9, 3) := by decide +kernel
theorem dX5_stepOn_4 : decode cX5_stepOn 4 = .ok (.iload_n 1, 1) := by decide +kernel
theorem dX5_stepOn_5 : decode cX5_stepOn 5 = .ok (.iaload, 1) := by decide +kernel
theorem dX5_stepOn_6 : decode cX5_stepOn 6 = .ok (.iload_n 2, 1) := by decide +kernel
theorem dX5_stepOn_7 : decode cX5_stepOn 7 = .ok (.if_icmp .ne 7, 3) := by decide +kernel
theorem dX5_stepOn_10 : decode cX5_stepOn 10 = .ok (.iconst 1, 1) := by decide +kernel
theorem dX5_stepOn_11 : decode cX5_stepOn 11 = .ok (.goto 4, 3) := by decide +kernel
theorem dX5_stepOn_14 : decode cX5_stepOn 14 = .ok (.iconst 0, 1) := by decide +kernel
theorem dX5_stepOn_15 : decode cX5_stepOn 15 = .ok (.istore_n 3, 1) := by decide +kernel
theorem dX5_stepOn_16 : decode cX5_stepOn 16 = .ok (.aload_n 0, 1) := by decide +kernel
theorem dX5_stepOn_17 : decode cX5_stepOn 17 = .ok (.getfield 9, 3) := by decide +kernel
theorem dX5_stepOn_20 : decode cX5_stepOn 20 = .ok (.iload_n 1, 1) := by decide +kernel
theorem dX5_stepOn_21 : decode cX5_stepOn 21 = .ok (.aload_n 0, 1) := by decide +kernel
theorem dX5_stepOn_22 : decode cX5_stepOn 22 = .ok (.iload_n 1, 1) := by decide +kernel
theorem dX5_stepOn_23 : decode cX5_stepOn 23 = .ok (.aload_n 0, 1) := by decide +kernel
theorem dX5_stepOn_24 : decode cX5_stepOn 24 = .ok (.iload_n 1, 1) := by decide +kernel
theorem dX5_stepOn_25 : decode cX5_stepOn 25 = .ok (.iload_n 2, 1) := by decide +kernel
theorem dX5_stepOn_26 : decode cX5_stepOn 26 = .ok (.invokevirtual 59, 3) := by decide +kernel
theorem dX5_stepOn_29 : decode cX5_stepOn 29 = .ok (.invokevirtual 51, 3) := by decide +kernel
theorem dX5_stepOn_32 : decode cX5_stepOn 32 = .ok (.iastore, 1) := by decide +kernel
theorem dX5_stepOn_33 : decode cX5_stepOn 33 = .ok (.iload_n 3, 1) := by decide +kernel
theorem dX5_stepOn_34 : decode cX5_stepOn 34 = .ok (.ifCond .eq 13, 3) := by decide +kernel
theorem dX5_stepOn_37 : decode cX5_stepOn 37 = .ok (.aload_n 0, 1) := by decide +kernel
theorem dX5_stepOn_38 : decode cX5_stepOn 38 = .ok (.getfield 21, 3) := by decide +kernel
theorem dX5_stepOn_41 : decode cX5_stepOn 41 = .ok (.iload_n 1, 1) := by decide +kernel
theorem dX5_stepOn_42 : decode cX5_stepOn 42 = .ok (.dup2, 1) := by decide +kernel
theorem dX5_stepOn_43 : decode cX5_stepOn 43 = .ok (.iaload, 1) := by decide +kernel
theorem dX5_stepOn_44 : decode cX5_stepOn 44 = .ok (.iconst 1, 1) := by decide +kernel
theorem dX5_stepOn_45 : decode cX5_stepOn 45 = .ok (.iadd, 1) := by decide +kernel
theorem dX5_stepOn_46 : decode cX5_stepOn 46 = .ok (.iastore, 1) := by decide +kernel
theorem dX5_stepOn_47 : decode cX5_stepOn 47 = .ok (.iload_n 3, 1) := by decide +kernel
theorem dX5_stepOn_48 : decode cX5_stepOn 48 = .ok (.ireturn, 1) := by decide +kernel
theorem dX5_tick_0 : decode cX5_tick 0 = .ok (.aload_n 0, 1) := by decide +kernel
theorem dX5_tick_1 : decode cX5_tick 1 = .ok (.iconst 0, 1) := by decide +kernel
theorem dX5_tick_2 : decode cX5_tick 2 = .ok (.aload_n 0, 1) := by decide +kernel
theorem dX5_tick_3 : decode cX5_tick 3 = .ok (.iconst 0, 1) := by decide +kernel
theorem dX5_tick_4 : decode cX5_tick 4 = .ok (.invokevirtual 40, 3) := by decide +kernel
theorem dX5_tick_7 : decode cX5_tick 7 = .ok (.invokevirtual 62, 3) := by decide +kernel
theorem dX5_tick_10 : decode cX5_tick 10 = .ok (.ifCond .eq 79, 3) := by decide +kernel
theorem dX5_tick_13 : decode cX5_tick 13 = .ok (.aload_n 0, 1) := by decide +kernel
theorem dX5_tick_14 : decode cX5_tick 14 = .ok (.iconst 1, 1) := by decide +kernel
theorem dX5_tick_15 : decode cX5_tick 15 = .ok (.aload_n 0, 1) := by decide +kernel
theorem dX5_tick_16 : decode cX5_tick 16 = .ok (.iconst 1, 1) := by decide +kernel
theorem dX5_tick_17 : decode cX5_tick 17 = .ok (.invokevirtual 40, 3) := by decide +kernel
theorem dX5_tick_20 : decode cX5_tick 20 = .ok (.invokevirtual 62, 3) := by decide +kernel
theorem dX5_tick_23 : decode cX5_tick 23 = .ok (.ifCond .eq 66, 3) := by decide +kernel
theorem dX5_tick_26 : decode cX5_tick 26 = .ok (.aload_n 0, 1) := by decide +kernel
theorem dX5_tick_27 : decode cX5_tick 27 = .ok (.iconst 2, 1) := by decide +kernel
theorem dX5_tick_28 : decode cX5_tick 28 = .ok (.aload_n 0, 1) := by decide +kernel
theorem dX5_tick_29 : decode cX5_tick 29 = .ok (.iconst 2, 1) := by decide +kernel
theorem dX5_tick_30 : decode cX5_tick 30 = .ok (.invokevirtual 40, 3) := by decide +kernel
theorem dX5_tick_33 : decode cX5_tick 33 = .ok (.invokevirtual 62, 3) := by decide +kernel
theorem dX5_tick_36 : decode cX5_tick 36 = .ok (.ifCond .eq 53, 3) := by decide +kernel
theorem dX5_tick_39 : decode cX5_tick 39 = .ok (.aload_n 0, 1) := by decide +kernel
theorem dX5_tick_40 : decode cX5_tick 40 = .ok (.iconst 3, 1) := by decide +kernel
theorem dX5_tick_41 : decode cX5_tick 41 = .ok (.aload_n 0, 1) := by decide +kernel
theorem dX5_tick_42 : decode cX5_tick 42 = .ok (.iconst 3, 1) := by decide +kernel
theorem dX5_tick_43 : decode cX5_tick 43 = .ok (.invokevirtual 40, 3) := by decide +kernel
theorem dX5_tick_46 : decode cX5_tick 46 = .ok (.invokevirtual 62, 3) := by decide +kernel
theorem dX5_tick_49 : decode cX5_tick 49 = .ok (.pop, 1) := by decide +kernel
theorem dX5_tick_50 : decode cX5_tick 50 = .ok (.aload_n 0, 1) := by decide +kernel
theorem dX5_tick_51 : decode cX5_tick 51 = .ok (.iconst 4, 1) := by decide +kernel
theorem dX5_tick_52 : decode cX5_tick 52 = .ok (.aload_n 0, 1) := by decide +kernel
theorem dX5_tick_53 : decode cX5_tick 53 = .ok (.iconst 4, 1) := by decide +kernel
theorem dX5_tick_54 : decode cX5_tick 54 = .ok (.invokevirtual 40, 3) := by decide +kernel
theorem dX5_tick_57 : decode cX5_tick 57 = .ok (.invokevirtual 62, 3) := by decide +kernel
theorem dX5_tick_60 : decode cX5_tick 60 = .ok (.ifCond .eq 29, 3) := by decide +kernel
theorem dX5_tick_63 : decode cX5_tick 63 = .ok (.aload_n 0, 1) := by decide +kernel
theorem dX5_tick_64 : decode cX5_tick 64 = .ok (.iconst 5, 1) := by decide +kernel
theorem dX5_tick_65 : decode cX5_tick 65 = .ok (.aload_n 0, 1) := by decide +kernel
theorem dX5_tick_66 : decode cX5_tick 66 = .ok (.iconst 5, 1) := by decide +kernel
theorem dX5_tick_67 : decode cX5_tick 67 = .ok (.invokevirtual 40, 3) := by decide +kernel
theorem dX5_tick_70 : decode cX5_tick 70 = .ok (.invokevirtual 62, 3) := by decide +kernel
theorem dX5_tick_73 : decode cX5_tick 73 = .ok (.ifCond .eq 16, 3) := by decide +kernel
theorem dX5_tick_76 : decode cX5_tick 76 = .ok (.aload_n 0, 1) := by decide +kernel
theorem dX5_tick_77 : decode cX5_tick 77 = .ok (.bipush 6, 2) := by decide +kernel
theorem dX5_tick_79 : decode cX5_tick 79 = .ok (.aload_n 0, 1) := by decide +kernel
theorem dX5_tick_80 : decode cX5_tick 80 = .ok (.bipush 6, 2) := by decide +kernel
theorem dX5_tick_82 : decode cX5_tick 82 = .ok (.invokevirtual 40, 3) := by decide +kernel
theorem dX5_tick_85 : decode cX5_tick 85 = .ok (.invokevirtual 62, 3) := by decide +kernel
theorem dX5_tick_88 : decode cX5_tick 88 = .ok (.pop, 1) := by decide +kernel
theorem dX5_tick_89 : decode cX5_tick 89 = .ok (.return_, 1) := by decide +kernel
theorem dX5_isDateRight_0 : decode cX5_isDateRight 0 = .ok (.aload_n 0, 1) := by decide +kernel
theorem dX5_isDateRight_1 : decode cX5_isDateRight 1 = .ok (.iconst 4, 1) := by decide +kernel
theorem dX5_isDateRight_2 : decode cX5_isDateRight 2 = .ok (.invokevirtual 44, 3) := by decide +kernel
theorem dX5_isDateRight_5 : decode cX5_isDateRight 5 = .ok (.ifCond .ne 24, 3) := by decide +kernel
theorem dX5_isDateRight_8 : decode cX5_isDateRight 8 = .ok (.aload_n 0, 1) := by decide +kernel
theorem dX5_isDateRight_9 : decode cX5_isDateRight 9 = .ok (.iconst 5, 1) := by decide +kernel
theorem dX5_isDateRight_10 : decode cX5_isDateRight 10 = .ok (.invokevirtual 44, 3) := by decide +kernel
theorem dX5_isDateRight_13 : decode cX5_isDateRight 13 = .ok (.ifCond .ne 16, 3) := by decide +kernel
theorem dX5_isDateRight_16 : decode cX5_isDateRight 16 = .ok (.aload_n 0, 1) := by decide +kernel
theorem dX5_isDateRight_17 : decode cX5_isDateRight 17 = .ok (.bipush 6, 2) := by decide +kernel
theorem dX5_isDateRight_19 : decode cX5_isDateRight 19 = .ok (.invokevirtual 44, 3) := by decide +kernel
theorem dX5_isDateRight_22 : decode cX5_isDateRight 22 = .ok (.ifCond .ne 7, 3) := by decide +kernel
theorem dX5_isDateRight_25 : decode cX5_isDateRight 25 = .ok (.iconst 1, 1) := by decide +kernel
theorem dX5_isDateRight_26 : decode cX5_isDateRight 26 = .ok (.goto 4, 3) := by decide +kernel
theorem dX5_isDateRight_29 : decode cX5_isDateRight 29 = .ok (.iconst 0, 1) := by decide +kernel
theorem dX5_isDateRight_30 : decode cX5_isDateRight 30 = .ok (.ireturn, 1) := by decide +kernel
theorem dX5_daysOfYear_0 : decode cX5_daysOfYear 0 = .ok (.aload_n 0, 1) := by decide +kernel
theorem dX5_daysOfYear_1 : decode cX5_daysOfYear 1 = .ok (.invokevirtual 36, 3) := by decide +kernel
theorem dX5_daysOfYear_4 : decode cX5_daysOfYear 4 = .ok (.ifCond .eq 9, 3) := by decide +kernel
theorem dX5_daysOfYear_7 : decode cX5_daysOfYear 7 = .ok (.sipush 366, 3) := by decide +kernel
theorem dX5_daysOfYear_10 : decode cX5_daysOfYear 10 = .ok (.goto 6, 3) := by decide +kernel
theorem dX5_daysOfYear_13 : decode cX5_daysOfYear 13 = .ok (.sipush 365, 3) := by decide +kernel
theorem dX5_daysOfYear_16 : decode cX5_daysOfYear 16 = .ok (.ireturn, 1) := by decide +kernel
theorem dX5_dayOfYear_0 : decode cX5_dayOfYear 0 = .ok (.aload_n 0, 1) := by decide +kernel
theorem dX5_dayOfYear_1 : decode cX5_dayOfYear 1 = .ok (.getfield 9, 3) := by decide +kernel
theorem dX5_dayOfYear_4 : decode cX5_dayOfYear 4 = .ok (.iconst 5, 1) := by decide +kernel
theorem dX5_dayOfYear_5 : decode cX5_dayOfYear 5 = .ok (.iaload, 1) := by decide +kernel
theorem dX5_dayOfYear_6 : decode cX5_dayOfYear 6 = .ok (.invokestatic 66, 3) := by decide +kernel
theorem dX5_dayOfYear_9 : decode cX5_dayOfYear 9 = .ok (.istore_n 1, 1) := by decide +kernel
theorem dX5_dayOfYear_10 : decode cX5_dayOfYear 10 = .ok (.iload_n 1, 1) := by decide +kernel
theorem dX5_dayOfYear_11 : decode cX5_dayOfYear 11 = .ok (.iconst 1, 1) := by decide +kernel
theorem dX5_dayOfYear_12 : decode cX5_dayOfYear 12 = .ok (.if_icmp .lt 11, 3) := by decide +kernel
theorem dX5_dayOfYear_15 : decode cX5_dayOfYear 15 = .ok (.iload_n 1, 1) := by decide +kernel
theorem dX5_dayOfYear_16 : decode cX5_dayOfYear 16 = .ok (.getstatic 69, 3) := by decide +kernel
theorem dX5_dayOfYear_19 : decode cX5_dayOfYear 19 = .ok (.arraylength, 1) := by decide +kernel
theorem dX5_dayOfYear_20 : decode cX5_dayOfYear 20 = .ok (.if_icmp .le 5, 3) := by decide +kernel
theorem dX5_dayOfYear_23 : decode cX5_dayOfYear 23 = .ok (.iconst 0, 1) := by decide +kernel
theorem dX5_dayOfYear_24 : decode cX5_dayOfYear 24 = .ok (.ireturn, 1) := by decide +kernel
theorem dX5_dayOfYear_25 : decode cX5_dayOfYear 25 = .ok (.iload_n 1, 1) := by decide +kernel
theorem dX5_dayOfYear_26 : decode cX5_dayOfYear 26 = .ok (.iconst 2, 1) := by decide +kernel
theorem dX5_dayOfYear_27 : decode cX5_dayOfYear 27 = .ok (.if_icmp .le 14, 3) := by decide +kernel
theorem dX5_dayOfYear_30 : decode cX5_dayOfYear 30 = .ok (.aload_n 0, 1) := by decide +kernel
theorem dX5_dayOfYear_31 : decode cX5_dayOfYear 31 = .ok (.invokevirtual 36, 3) := by decide +kernel
theorem dX5_dayOfYear_34 : decode cX5_dayOfYear 34 = .ok (.ifCond .eq 7, 3) := by decide +kernel
theorem dX5_dayOfYear_37 : decode cX5_dayOfYear 37 = .ok (.iconst 1, 1) := by decide +kernel
theorem dX5_dayOfYear_38 : decode cX5_dayOfYear 38 = .ok (.goto 4, 3) := by decide +kernel
theorem dX5_dayOfYear_41 : decode cX5_dayOfYear 41 = .ok (.iconst 0, 1) := by decide +kernel
theorem dX5_dayOfYear_42 : decode cX5_dayOfYear 42 = .ok (.istore_n 2, 1) := by decide +kernel
theorem dX5_dayOfYear_43 : decode cX5_dayOfYear 43 = .ok (.getstatic 69, 3) := by decide +kernel
theorem dX5_dayOfYear_46 : decode cX5_dayOfYear 46 = .ok (.iload_n 1, 1) := by decide +kernel
theorem dX5_dayOfYear_47 : decode cX5_dayOfYear 47 = .ok (.iconst 1, 1) := by decide +kernel
theorem dX5_dayOfYear_48 : decode cX5_dayOfYear 48 = .ok (.isub, 1) := by decide +kernel
theorem dX5_dayOfYear_49 : decode cX5_dayOfYear 49 = .ok (.iaload, 1) := by decide +kernel
theorem dX5_dayOfYear_50 : decode cX5_dayOfYear 50 = .ok (.iload_n 2, 1) := by decide +kernel
theorem dX5_dayOfYear_51 : decode cX5_dayOfYear 51 = .ok (.iadd, 1) := by decide +kernel
theorem dX5_dayOfYear_52 : decode cX5_dayOfYear 52 = .ok (.aload_n 0, 1) := by decide +kernel
theorem dX5_dayOfYear_53 : decode cX5_dayOfYear 53 = .ok (.getfield 9, 3) := by decide +kernel
theorem dX5_dayOfYear_56 : decode cX5_dayOfYear 56 = .ok (.iconst 4, 1) := by decide +kernel
theorem dX5_dayOfYear_57 : decode cX5_dayOfYear 57 = .ok (.iaload, 1) := by decide +kernel
theorem dX5_dayOfYear_58 : decode cX5_dayOfYear 58 = .ok (.invokestatic 66, 3) := by decide +kernel
theorem dX5_dayOfYear_61 : decode cX5_dayOfYear 61 = .ok (.iadd, 1) := by decide +kernel
theorem dX5_dayOfYear_62 : decode cX5_dayOfYear 62 = .ok (.iconst 1, 1) := by decide +kernel
theorem dX5_dayOfYear_63 : decode cX5_dayOfYear 63 = .ok (.isub, 1) := by decide +kernel
theorem dX5_dayOfYear_64 : decode cX5_dayOfYear 64 = .ok (.ireturn, 1) := by decide +kernel
theorem dX5_daysFromStart_0 : decode cX5_daysFromStart 0 = .ok (.aload_n 0, 1) := by decide +kernel
theorem dX5_daysFromStart_1 : decode cX5_daysFromStart 1 = .ok (.getfield 9, 3) := by decide +kernel
theorem dX5_daysFromStart_4 : decode cX5_daysFromStart 4 = .ok (.bipush 6, 2) := by decide +kernel
theorem dX5_daysFromStart_6 : decode cX5_daysFromStart 6 = .ok (.iaload, 1) := by decide +kernel
theorem dX5_daysFromStart_7 : decode cX5_daysFromStart 7 = .ok (.invokestatic 66, 3) := by decide +kernel
theorem dX5_daysFromStart_10 : decode cX5_daysFromStart 10 = .ok (.istore_n 1, 1) := by decide +kernel
theorem dX5_daysFromStart_11 : decode cX5_daysFromStart 11 = .ok (.iload_n 1, 1) := by decide +kernel
theorem dX5_daysFromStart_12 : decode cX5_daysFromStart 12 = .ok (.iconst 3, 1) := by decide +kernel
theorem dX5_daysFromStart_13 : decode cX5_daysFromStart 13 = .ok (.iadd, 1) := by decide +kernel
theorem dX5_daysFromStart_14 : decode cX5_daysFromStart 14 = .ok (.iconst 4, 1) := by decide +kernel
theorem dX5_daysFromStart_15 : decode cX5_daysFromStart 15 = .ok (.idiv, 1) := by decide +kernel
theorem dX5_daysFromStart_16 : decode cX5_daysFromStart 16 = .ok (.istore_n 2, 1) := by decide +kernel
theorem dX5_daysFromStart_17 : decode cX5_daysFromStart 17 = .ok (.sipush 365, 3) := by decide +kernel
theorem dX5_daysFromStart_20 : decode cX5_daysFromStart 20 = .ok (.iload_n 1, 1) := by decide +kernel
theorem dX5_daysFromStart_21 : decode cX5_daysFromStart 21 = .ok (.imul, 1) := by decide +kernel
theorem dX5_daysFromStart_22 : decode cX5_daysFromStart 22 = .ok (.iload_n 2, 1) := by decide +kernel
theorem dX5_daysFromStart_23 : decode cX5_daysFromStart 23 = .ok (.iadd, 1) := by decide +kernel
theorem dX5_daysFromStart_24 : decode cX5_daysFromStart 24 = .ok (.aload_n 0, 1) := by decide +kernel
theorem dX5_daysFromStart_25 : decode cX5_daysFromStart 25 = .ok (.invokevirtual 72, 3) := by decide +kernel
theorem dX5_daysFromStart_28 : decode cX5_daysFromStart 28 = .ok (.iadd, 1) := by decide +kernel
theorem dX5_daysFromStart_29 : decode cX5_daysFromStart 29 = .ok (.ireturn, 1) := by decide +kernel
theorem dX5_weekdayByDate_0 : decode cX5_weekdayByDate 0 = .ok (.aload_n 0, 1) := by decide +kernel
theorem dX5_weekdayByDate_1 : decode cX5_weekdayByDate 1 = .ok (.invokevirtual 76, 3) := by decide +kernel
theorem dX5_weekdayByDate_4 : decode cX5_weekdayByDate 4 = .ok (.bipush 6, 2) := by decide +kernel
theorem dX5_weekdayByDate_6 : decode cX5_weekdayByDate 6 = .ok (.iadd, 1) := by decide +kernel
theorem dX5_weekdayByDate_7 : decode cX5_weekdayByDate 7 = .ok (.iconst 1, 1) := by decide +kernel
theorem dX5_weekdayByDate_8 : decode cX5_weekdayByDate 8 = .ok (.isub, 1) := by decide +kernel
theorem dX5_weekdayByDate_9 : decode cX5_weekdayByDate 9 = .ok (.bipush 7, 2) := by decide +kernel
theorem dX5_weekdayByDate_11 : decode cX5_weekdayByDate 11 = .ok (.irem, 1) := by decide +kernel
theorem dX5_weekdayByDate_12 : decode cX5_weekdayByDate 12 = .ok (.iconst 1, 1) := by decide +kernel
theorem dX5_weekdayByDate_13 : decode cX5_weekdayByDate 13 = .ok (.iadd, 1) := by decide +kernel
theorem dX5_weekdayByDate_14 : decode cX5_weekdayByDate 14 = .ok (.ireturn, 1) := by decide +kernel
theorem dX6_init_0 : decode cX6_init 0 = .ok (.aload_n 0, 1) := by decide +kernel
theorem dX6_init_1 : decode cX6_init 1 = .ok (.invokespecial 1, 3) := by decide +kernel
theorem dX6_init_4 : decode cX6_init 4 = .ok (.aload_n 0, 1) := by decide +kernel
theorem dX6_init_5 : decode cX6_init 5 = .ok (.new 7, 3) := by decide +kernel
theorem dX6_init_8 : decode cX6_init 8 = .ok (.dup, 1) := by decide +kernel
theorem dX6_init_9 : decode cX6_init 9 = .ok (.invokespecial 9, 3) := by decide +kernel
theorem dX6_init_12 : decode cX6_init 12 = .ok (.putfield 10, 3) := by decide +kernel
theorem dX6_init_15 : decode cX6_init 15 = .ok (.aload_n 0, 1) := by decide +kernel
theorem dX6_init_16 : decode cX6_init 16 = .ok (.new 7, 3) := by decide +kernel
theorem dX6_init_19 : decode cX6_init 19 = .ok (.dup, 1) := by decide +kernel
theorem dX6_init_20 : decode cX6_init 20 = .ok (.invokespecial 9, 3) := by decide +kernel
theorem dX6_init_23 : decode cX6_init 23 = .ok (.putfield 16, 3) := by decide +kernel
theorem dX6_init_26 : decode cX6_init 26 = .ok (.aload_n 0, 1) := by decide +kernel
theorem dX6_init_27 : decode cX6_init 27 = .ok (.new 19, 3) := by decide +kernel
theorem dX6_init_30 : decode cX6_init 30 = .ok (.dup, 1) := by decide +kernel
theorem dX6_init_31 : decode cX6_init 31 = .ok (.invokespecial 21, 3) := by decide +kernel
theorem dX6_init_34 : decode cX6_init 34 = .ok (.putfield 22, 3) := by decide +kernel
theorem dX6_init_37 : decode cX6_init 37 = .ok (.aload_n 0, 1) := by decide +kernel
theorem dX6_init_38 : decode cX6_init 38 = .ok (.new 26, 3) := by decide +kernel
theorem dX6_init_41 : decode cX6_init 41 = .ok (.dup, 1) := by decide +kernel
theorem dX6_init_42 : decode cX6_init 42 = .ok (.invokespecial 28, 3) := by decide +kernel
theorem dX6_init_45 : decode cX6_init 45 = .ok (.putfield 29, 3) := by decide +kernel
theorem dX6_init_48 : decode cX6_init 48 = .ok (.aload_n 0, 1) := by decide +kernel
theorem dX6_init_49 : decode cX6_init 49 = .ok (.iconst 4, 1) := by decide +kernel
theorem dX6_init_50 : decode cX6_init 50 = .ok (.anewarray 7, 3) := by decide +kernel
theorem dX6_init_53 : decode cX6_init 53 = .ok (.putfield 33, 3) := by decide +kernel
theorem dX6_init_56 : decode cX6_init 56 = .ok (.aload_n 0, 1) := by decide +kernel
theorem dX6_init_57 : decode cX6_init 57 = .ok (.bipush 60, 2) := by decide +kernel
theorem dX6_init_59 : decode cX6_init 59 = .ok (.newarray .char, 2) := by decide +kernel
theorem dX6_init_61 : decode cX6_init 61 = .ok (.putfield 37, 3) := by decide +kernel
theorem dX6_init_64 : decode cX6_init 64 = .ok (.iconst 0, 1) := by decide +kernel
theorem dX6_init_65 : decode cX6_init 65 = .ok (.istore_n 1, 1) := by decide +kernel
theorem dX6_init_66 : decode cX6_init 66 = .ok (.iload_n 1, 1) := by decide +kernel
theorem dX6_init_67 : decode cX6_init 67 = .ok (.iconst 4, 1) := by decide +kernel
theorem dX6_init_68 : decode cX6_init 68 = .ok (.if_icmp .ge 22, 3) := by decide +kernel
theorem dX6_init_71 : decode cX6_init 71 = .ok (.aload_n 0, 1) := by decide +kernel
theorem dX6_init_72 : decode cX6_init 72 = .ok (.getfield 33, 3) := by decide +kernel
theorem dX6_init_75 : decode cX6_init 75 = .ok (.iload_n 1, 1) := by decide +kernel
theorem dX6_init_76 : decode cX6_init 76 = .ok (.new 7, 3) := by decide +kernel
theorem dX6_init_79 : decode cX6_init 79 = .ok (.dup, 1) := by decide +kernel
theorem dX6_init_80 : decode cX6_init 80 = .ok (.invokespecial 9, 3) := by decide +kernel
theorem dX6_init_83 : decode cX6_init 83 = .ok (.aastore, 1) := by decide +kernel
theorem dX6_init_84 : decode cX6_init 84 = .ok (.iinc 1 1, 3) := by decide +kernel
theorem dX6_init_87 : decode cX6_init 87 = .ok (.goto (-21), 3) := by decide +kernel
theorem dX6_init_90 : decode cX6_init 90 = .ok (.return_, 1) := by decide +kernel
theorem dX6_write_0 : decode cX6_write 0 = .ok (.iload_n 1, 1) := by decide +kernel
theorem dX6_write_1 : decode cX6_write 1 = .ok (.iload_n 2, 1) := by decide +kernel
theorem dX6_write_2 : decode cX6_write 2 = .ok (.invokestatic 41, 3) := by decide +kernel
theorem dX6_write_5 : decode cX6_write 5 = .ok (.ifCond .ne 6, 3) := by decide +kernel
theorem dX6_write_8 : decode cX6_write 8 = .ok (.ldc 45, 2) := by decide +kernel
theorem dX6_write_10 : decode cX6_write 10 = .ok (.ireturn, 1) := by decide +kernel
theorem dX6_write_11 : decode cX6_write 11 = .ok (.aload_n 0, 1) := by decide +kernel
theorem dX6_write_12 : decode cX6_write 12 = .ok (.invokevirtual 46, 3) := by decide +kernel
theorem dX6_write_15 : decode cX6_write 15 = .ok (.aload_n 0, 1) := by decide +kernel
theorem dX6_write_16 : decode cX6_write 16 = .ok (.getfield 10, 3) := by decide +kernel
theorem dX6_write_19 : decode cX6_write 19 = .ok (.iload_n 1, 1) := by decide +kernel
theorem dX6_write_20 : decode cX6_write 20 = .ok (.iload_n 2, 1) := by decide +kernel
theorem dX6_write_21 : decode cX6_write 21 = .ok (.invokevirtual 49, 3) := by decide +kernel
theorem dX6_write_24 : decode cX6_write 24 = .ok (.ireturn, 1) := by decide +kernel
theorem dX6_read_0 : decode cX6_read 0 = .ok (.iload_n 1, 1) := by decide +kernel
theorem dX6_read_1 : decode cX6_read 1 = .ok (.invokestatic 53, 3) := by decide +kernel
theorem dX6_read_4 : decode cX6_read 4 = .ok (.ifCond .ne 6, 3) := by decide +kernel
theorem dX6_read_7 : decode cX6_read 7 = .ok (.ldc 45, 2) := by decide +kernel
theorem dX6_read_9 : decode cX6_read 9 = .ok (.ireturn, 1) := by decide +kernel
theorem dX6_read_10 : decode cX6_read 10 = .ok (.aload_n 0, 1) := by decide +kernel
theorem dX6_read_11 : decode cX6_read 11 = .ok (.invokevirtual 46, 3) := by decide +kernel
theorem dX6_read_14 : decode cX6_read 14 = .ok (.aload_n 0, 1) := by decide +kernel
theorem dX6_read_15 : decode cX6_read 15 = .ok (.getfield 10, 3) := by decide +kernel
theorem dX6_read_18 : decode cX6_read 18 = .ok (.iload_n 1, 1) := by decide +kernel
theorem dX6_read_19 : decode cX6_read 19 = .ok (.invokevirtual 57, 3) := by decide +kernel
theorem dX6_read_22 : decode cX6_read 22 = .ok (.ireturn, 1) := by decide +kernel
theorem dX6_burst_0 : decode cX6_burst 0 = .ok (.iload_n 1, 1) := by decide +kernel
theorem dX6_burst_1 : decode cX6_burst 1 = .ok (.invokestatic 61, 3) := by decide +kernel
theorem dX6_burst_4 : decode cX6_burst 4 = .ok (.ifCond .ne 6, 3) := by decide +kernel
theorem dX6_burst_7 : decode cX6_burst 7 = .ok (.ldc 45, 2) := by decide +kernel
theorem dX6_burst_9 : decode cX6_burst 9 = .ok (.ireturn, 1) := by decide +kernel
theorem dX6_burst_10 : decode cX6_burst 10 = .ok (.aload_n 0, 1) := by decide +kernel
theorem dX6_burst_11 : decode cX6_burst 11 = .ok (.invokevirtual 46, 3) := by decide +kernel
theorem dX6_burst_14 : decode cX6_burst 14 = .ok (.aload_n 0, 1) := by decide +kernel
theorem dX6_burst_15 : decode cX6_burst 15 = .ok (.getfield 22, 3) := by decide +kernel
theorem dX6_burst_18 : decode cX6_burst 18 = .ok (.aload_n 0, 1) := by decide +kernel
theorem dX6_burst_19 : decode cX6_burst 19 = .ok (.getfield 10, 3) := by decide +kernel
theorem dX6_burst_22 : decode cX6_burst 22 = .ok (.iload_n 1, 1) := by decide +kernel
theorem dX6_burst_23 : decode cX6_burst 23 = .ok (.invokevirtual 64, 3) := by decide +kernel
theorem dX6_burst_26 : decode cX6_burst 26 = .ok (.aload_n 0, 1) := by decide +kernel
theorem dX6_burst_27 : decode cX6_burst 27 = .ok (.getfield 22, 3) := by decide +kernel
theorem dX6_burst_30 : decode cX6_burst 30 = .ok (.getfield 68, 3) := by decide +kernel
theorem dX6_burst_33 : decode cX6_burst 33 = .ok (.bipush 8, 2) := by decide +kernel
theorem dX6_burst_35 : decode cX6_burst 35 = .ok (.iaload, 1) := by decide +kernel
theorem dX6_burst_36 : decode cX6_burst 36 = .ok (.ireturn, 1) := by decide +kernel
theorem dX6_pass_0 : decode cX6_pass 0 = .ok (.iload_n 1, 1) := by decide +kernel
theorem dX6_pass_1 : decode cX6_pass 1 = .ok (.invokestatic 72, 3) := by decide +kernel
theorem dX6_pass_4 : decode cX6_pass 4 = .ok (.ifCond .ne 6, 3) := by decide +kernel
theorem dX6_pass_7 : decode cX6_pass 7 = .ok (.ldc 45, 2) := by decide +kernel
theorem dX6_pass_9 : decode cX6_pass 9 = .ok (.ireturn, 1) := by decide +kernel
theorem dX6_pass_10 : decode cX6_pass 10 = .ok (.aload_n 0, 1) := by decide +kernel
theorem dX6_pass_11 : decode cX6_pass 11 = .ok (.invokevirtual 46, 3) := by decide +kernel
theorem dX6_pass_14 : decode cX6_pass 14 = .ok (.aload_n 0, 1) := by decide +kernel
theorem dX6_pass_15 : decode cX6_pass 15 = .ok (.getfield 10, 3) := by decide +kernel
theorem dX6_pass_18 : decode cX6_pass 18 = .ok (.iload_n 1, 1) := by decide +kernel
theorem dX6_pass_19 : decode cX6_pass 19 = .ok (.invokevirtual 75, 3) := by decide +kernel
theorem dX6_pass_22 : decode cX6_pass 22 = .ok (.ireturn, 1) := by decide +kernel
theorem dX6_alarm_0 : decode cX6_alarm 0 = .ok (.iload_n 1, 1) := by decide +kernel
theorem dX6_alarm_1 : decode cX6_alarm 1 = .ok (.iload_n 2, 1) := by decide +kernel
theorem dX6_alarm_2 : decode cX6_alarm 2 = .ok (.iload_n 3, 1) := by decide +kernel
theorem dX6_alarm_3 : decode cX6_alarm 3 = .ok (.invokestatic 78, 3) := by decide +kernel
theorem dX6_alarm_6 : decode cX6_alarm 6 = .ok (.ifCond .ne 6, 3) := by decide +kernel
theorem dX6_alarm_9 : decode cX6_alarm 9 = .ok (.ldc 45, 2) := by decide +kernel
theorem dX6_alarm_11 : decode cX6_alarm 11 = .ok (.ireturn, 1) := by decide +kernel
theorem dX6_alarm_12 : decode cX6_alarm 12 = .ok (.aload_n 0, 1) := by decide +kernel
theorem dX6_alarm_13 : decode cX6_alarm 13 = .ok (.invokevirtual 46, 3) := by decide +kernel
theorem dX6_alarm_16 : decode cX6_alarm 16 = .ok (.aload_n 0, 1) := by decide +kernel
theorem dX6_alarm_17 : decode cX6_alarm 17 = .ok (.getfield 10, 3) := by decide +kernel
theorem dX6_alarm_20 : decode cX6_alarm 20 = .ok (.getfield 82, 3) := by decide +kernel
theorem dX6_alarm_23 : decode cX6_alarm 23 = .ok (.iload_n 1, 1) := by decide +kernel
theorem dX6_alarm_24 : decode cX6_alarm 24 = .ok (.iload_n 2, 1) := by decide +kernel
theorem dX6_alarm_25 : decode cX6_alarm 25 = .ok (.iload_n 3, 1) := by decide +kernel
theorem dX6_alarm_26 : decode cX6_alarm 26 = .ok (.invokevirtual 86, 3) := by decide +kernel
theorem dX6_alarm_29 : decode cX6_alarm 29 = .ok (.ireturn, 1) := by decide +kernel
theorem dX6_arm_0 : decode cX6_arm 0 = .ok (.iload_n 1, 1) := by decide +kernel
theorem dX6_arm_1 : decode cX6_arm 1 = .ok (.invokestatic 92, 3) := by decide +kernel
theorem dX6_arm_4 : decode cX6_arm 4 = .ok (.ifCond .eq 13, 3) := by decide +kernel
theorem dX6_arm_7 : decode cX6_arm 7 = .ok (.iload_n 2, 1) := by decide +kernel
theorem dX6_arm_8 : decode cX6_arm 8 = .ok (.iconst (-1), 1) := by decide +kernel
theorem dX6_arm_9 : decode cX6_arm 9 = .ok (.bipush 31, 2) := by decide +kernel
theorem dX6_arm_11 : decode cX6_arm 11 = .ok (.invokestatic 95, 3) := by decide +kernel
theorem dX6_arm_14 : decode cX6_arm 14 = .ok (.ifCond .ne 6, 3) := by decide +kernel
theorem dX6_arm_17 : decode cX6_arm 17 = .ok (.ldc 45, 2) := by decide +kernel
theorem dX6_arm_19 : decode cX6_arm 19 = .ok (.ireturn, 1) := by decide +kernel
theorem dX6_arm_20 : decode cX6_arm 20 = .ok (.aload_n 0, 1) := by decide +kernel
theorem dX6_arm_21 : decode cX6_arm 21 = .ok (.invokevirtual 46, 3) := by decide +kernel
theorem dX6_arm_24 : decode cX6_arm 24 = .ok (.aload_n 0, 1) := by decide +kernel
theorem dX6_arm_25 : decode cX6_arm 25 = .ok (.getfield 10, 3) := by decide +kernel
theorem dX6_arm_28 : decode cX6_arm 28 = .ok (.getfield 82, 3) := by decide +kernel
theorem dX6_arm_31 : decode cX6_arm 31 = .ok (.iload_n 1, 1) := by decide +kernel
theorem dX6_arm_32 : decode cX6_arm 32 = .ok (.iload_n 2, 1) := by decide +kernel
theorem dX6_arm_33 : decode cX6_arm 33 = .ok (.invokevirtual 98, 3) := by decide +kernel
theorem dX6_arm_36 : decode cX6_arm 36 = .ok (.ireturn, 1) := by decide +kernel
theorem dX6_clear_0 : decode cX6_clear 0 = .ok (.aload_n 0, 1) := by decide +kernel
theorem dX6_clear_1 : decode cX6_clear 1 = .ok (.invokevirtual 46, 3) := by decide +kernel
theorem dX6_clear_4 : decode cX6_clear 4 = .ok (.aload_n 0, 1) := by decide +kernel
theorem dX6_clear_5 : decode cX6_clear 5 = .ok (.getfield 10, 3) := by decide +kernel
theorem dX6_clear_8 : decode cX6_clear 8 = .ok (.getfield 82, 3) := by decide +kernel
theorem dX6_clear_11 : decode cX6_clear 11 = .ok (.getfield 101, 3) := by decide +kernel
theorem dX6_clear_14 : decode cX6_clear 14 = .ok (.istore_n 1, 1) := by decide +kernel
theorem dX6_clear_15 : decode cX6_clear 15 = .ok (.aload_n 0, 1) := by decide +kernel
theorem dX6_clear_16 : decode cX6_clear 16 = .ok (.getfield 10, 3) := by decide +kernel
theorem dX6_clear_19 : decode cX6_clear 19 = .ok (.getfield 82, 3) := by decide +kernel
theorem dX6_clear_22 : decode cX6_clear 22 = .ok (.iconst 0, 1) := by decide +kernel
theorem dX6_clear_23 : decode cX6_clear 23 = .ok (.putfield 101, 3) := by decide +kernel
theorem dX6_clear_26 : decode cX6_clear 26 = .ok (.iload_n 1, 1) := by decide +kernel
theorem dX6_clear_27 : decode cX6_clear 27 = .ok (.ireturn, 1) := by decide +kernel
theorem dX6_fail_0 : decode cX6_fail 0 = .ok (.iload_n 1, 1) := by decide +kernel
theorem dX6_fail_1 : decode cX6_fail 1 = .ok (.iload_n 2, 1) := by decide +kernel
theorem dX6_fail_2 : decode cX6_fail 2 = .ok (.invokestatic 105, 3) := by decide +kernel
theorem dX6_fail_5 : decode cX6_fail 5 = .ok (.ifCond .eq 12, 3) := by decide +kernel
theorem dX6_fail_8 : decode cX6_fail 8 = .ok (.iload_n 3, 1) := by decide +kernel
theorem dX6_fail_9 : decode cX6_fail 9 = .ok (.iconst 0, 1) := by decide +kernel
theorem dX6_fail_10 : decode cX6_fail 10 = .ok (.iconst 1, 1) := by decide +kernel
theorem dX6_fail_11 : decode cX6_fail 11 = .ok (.invokestatic 95, 3) := by decide +kernel
theorem dX6_fail_14 : decode cX6_fail 14 = .ok (.ifCond .ne 6, 3) := by decide +kernel
theorem dX6_fail_17 : decode cX6_fail 17 = .ok (.ldc 45, 2) := by decide +kernel
theorem dX6_fail_19 : decode cX6_fail 19 = .ok (.ireturn, 1) := by decide +kernel
theorem dX6_fail_20 : decode cX6_fail 20 = .ok (.aload_n 0, 1) := by decide +kernel
theorem dX6_fail_21 : decode cX6_fail 21 = .ok (.getfield 10, 3) := by decide +kernel
theorem dX6_fail_24 : decode cX6_fail 24 = .ok (.getfield 108, 3) := by decide +kernel
theorem dX6_fail_27 : decode cX6_fail 27 = .ok (.iload_n 1, 1) := by decide +kernel
theorem dX6_fail_28 : decode cX6_fail 28 = .ok (.iload_n 2, 1) := by decide +kernel
theorem dX6_fail_29 : decode cX6_fail 29 = .ok (.invokevirtual 112, 3) := by decide +kernel
theorem dX6_fail_32 : decode cX6_fail 32 = .ok (.ifCond .eq 6, 3) := by decide +kernel
theorem dX6_fail_35 : decode cX6_fail 35 = .ok (.ldc 117, 2) := by decide +kernel
theorem dX6_fail_37 : decode cX6_fail 37 = .ok (.ireturn, 1) := by decide +kernel
theorem dX6_fail_38 : decode cX6_fail 38 = .ok (.aload_n 0, 1) := by decide +kernel
theorem dX6_fail_39 : decode cX6_fail 39 = .ok (.invokevirtual 46, 3) := by decide +kernel
theorem dX6_fail_42 : decode cX6_fail 42 = .ok (.aload_n 0, 1) := by decide +kernel
theorem dX6_fail_43 : decode cX6_fail 43 = .ok (.getfield 10, 3) := by decide +kernel
theorem dX6_fail_46 : decode cX6_fail 46 = .ok (.getfield 108, 3) := by decide +kernel
theorem dX6_fail_49 : decode cX6_fail 49 = .ok (.iload_n 1, 1) := by decide +kernel
theorem dX6_fail_50 : decode cX6_fail 50 = .ok (.iload_n 2, 1) := by decide +kernel
theorem dX6_fail_51 : decode cX6_fail 51 = .ok (.iload_n 3, 1) := by decide +kernel
theorem dX6_fail_52 : decode cX6_fail 52 = .ok (.invokevirtual 118, 3) := by decide +kernel
theorem dX6_fail_55 : decode cX6_fail 55 = .ok (.ireturn, 1) := by decide +kernel
theorem dX6_heal_0 : decode cX6_heal 0 = .ok (.iload_n 1, 1) := by decide +kernel
theorem dX6_heal_1 : decode cX6_heal 1 = .ok (.iload_n 2, 1) := by decide +kernel
theorem dX6_heal_2 : decode cX6_heal 2 = .ok (.invokestatic 105, 3) := by decide +kernel
theorem dX6_heal_5 : decode cX6_heal 5 = .ok (.ifCond .ne 6, 3) := by decide +kernel
theorem dX6_heal_8 : decode cX6_heal 8 = .ok (.ldc 45, 2) := by decide +kernel
theorem dX6_heal_10 : decode cX6_heal 10 = .ok (.ireturn, 1) := by decide +kernel
theorem dX6_heal_11 : decode cX6_heal 11 = .ok (.aload_n 0, 1) := by decide +kernel
theorem dX6_heal_12 : decode cX6_heal 12 = .ok (.getfield 10, 3) := by decide +kernel
theorem dX6_heal_15 : decode cX6_heal 15 = .ok (.getfield 108, 3) := by decide +kernel
theorem dX6_heal_18 : decode cX6_heal 18 = .ok (.iload_n 1, 1) := by decide +kernel
theorem dX6_heal_19 : decode cX6_heal 19 = .ok (.iload_n 2, 1) := by decide +kernel
theorem dX6_heal_20 : decode cX6_heal 20 = .ok (.invokevirtual 112, 3) := by decide +kernel
theorem dX6_heal_23 : decode cX6_heal 23 = .ok (.ifCond .ne 6, 3) := by decide +kernel
theorem dX6_heal_26 : decode cX6_heal 26 = .ok (.ldc 117, 2) := by decide +kernel
theorem dX6_heal_28 : decode cX6_heal 28 = .ok (.ireturn, 1) := by decide +kernel
theorem dX6_heal_29 : decode cX6_heal 29 = .ok (.aload_n 0, 1) := by decide +kernel
theorem dX6_heal_30 : decode cX6_heal 30 = .ok (.invokevirtual 46, 3) := by decide +kernel
theorem dX6_heal_33 : decode cX6_heal 33 = .ok (.aload_n 0, 1) := by decide +kernel
theorem dX6_heal_34 : decode cX6_heal 34 = .ok (.getfield 10, 3) := by decide +kernel
theorem dX6_heal_37 : decode cX6_heal 37 = .ok (.getfield 108, 3) := by decide +kernel
theorem dX6_heal_40 : decode cX6_heal 40 = .ok (.iload_n 1, 1) := by decide +kernel
theorem dX6_heal_41 : decode cX6_heal 41 = .ok (.iload_n 2, 1) := by decide +kernel
theorem dX6_heal_42 : decode cX6_heal 42 = .ok (.invokevirtual 121, 3) := by decide +kernel
theorem dX6_heal_45 : decode cX6_heal 45 = .ok (.aload_n 0, 1) := by decide +kernel
theorem dX6_heal_46 : decode cX6_heal 46 = .ok (.getfield 10, 3) := by decide +kernel
theorem dX6_heal_49 : decode cX6_heal 49 = .ok (.getfield 108, 3) := by decide +kernel
theorem dX6_heal_52 : decode cX6_heal 52 = .ok (.invokevirtual 125, 3) := by decide +kernel
theorem dX6_heal_55 : decode cX6_heal 55 = .ok (.ireturn, 1) := by decide +kernel
theorem dX6_set_0 : decode cX6_set 0 = .ok (.iload_n 1, 1) := by decide +kernel
theorem dX6_set_1 : decode cX6_set 1 = .ok (.iconst 0, 1) := by decide +kernel
theorem dX6_set_2 : decode cX6_set 2 = .ok (.iconst 2, 1) := by decide +kernel
theorem dX6_set_3 : decode cX6_set 3 = .ok (.invokestatic 95, 3) := by decide +kernel
theorem dX6_set_6 : decode cX6_set 6 = .ok (.ifCond .eq 20, 3) := by decide +kernel
theorem dX6_set_9 : decode cX6_set 9 = .ok (.iload_n 2, 1) := by decide +kernel
theorem dX6_set_10 : decode cX6_set 10 = .ok (.getstatic 129, 3) := by decide +kernel
theorem dX6_set_13 : decode cX6_set 13 = .ok (.iload_n 1, 1) := by decide +kernel
theorem dX6_set_14 : decode cX6_set 14 = .ok (.iaload, 1) := by decide +kernel
theorem dX6_set_15 : decode cX6_set 15 = .ok (.getstatic 132, 3) := by decide +kernel
theorem dX6_set_18 : decode cX6_set 18 = .ok (.iload_n 1, 1) := by decide +kernel
theorem dX6_set_19 : decode cX6_set 19 = .ok (.iaload, 1) := by decide +kernel
theorem dX6_set_20 : decode cX6_set 20 = .ok (.invokestatic 95, 3) := by decide +kernel
theorem dX6_set_23 : decode cX6_set 23 = .ok (.ifCond .ne 6, 3) := by decide +kernel
theorem dX6_set_26 : decode cX6_set 26 = .ok (.ldc 45, 2) := by decide +kernel
theorem dX6_set_28 : decode cX6_set 28 = .ok (.ireturn, 1) := by decide +kernel
theorem dX6_set_29 : decode cX6_set 29 = .ok (.aload_n 0, 1) := by decide +kernel
theorem dX6_set_30 : decode cX6_set 30 = .ok (.invokevirtual 46, 3) := by decide +kernel
theorem dX6_set_33 : decode cX6_set 33 = .ok (.aload_n 0, 1) := by decide +kernel
theorem dX6_set_34 : decode cX6_set 34 = .ok (.getfield 10, 3) := by decide +kernel
theorem dX6_set_37 : decode cX6_set 37 = .ok (.iload_n 1, 1) := by decide +kernel
theorem dX6_set_38 : decode cX6_set 38 = .ok (.iload_n 2, 1) := by decide +kernel
theorem dX6_set_39 : decode cX6_set 39 = .ok (.invokevirtual 135, 3) := by decide +kernel
theorem dX6_set_42 : decode cX6_set 42 = .ok (.ireturn, 1) := by decide +kernel
theorem dX6_registerOf_0 : decode cX6_registerOf 0 = .ok (.iload_n 1, 1) := by decide +kernel
theorem dX6_registerOf_1 : decode cX6_registerOf 1 = .ok (.invokestatic 53, 3) := by decide +kernel
theorem dX6_registerOf_4 : decode cX6_registerOf 4 = .ok (.ifCond .eq 13, 3) := by decide +kernel
theorem dX6_registerOf_7 : decode cX6_registerOf 7 = .ok (.iload_n 2, 1) := by decide +kernel
theorem dX6_registerOf_8 : decode cX6_registerOf 8 = .ok (.iconst 0, 1) := by decide +kernel
theorem dX6_registerOf_9 : decode cX6_registerOf 9 = .ok (.bipush 6, 2) := by decide +kernel
theorem dX6_registerOf_11 : decode cX6_registerOf 11 = .ok (.invokestatic 95, 3) := by decide +kernel
theorem dX6_registerOf_14 : decode cX6_registerOf 14 = .ok (.ifCond .ne 6, 3) := by decide +kernel
theorem dX6_registerOf_17 : decode cX6_registerOf 17 = .ok (.ldc 45, 2) := by decide +kernel
theorem dX6_registerOf_19 : decode cX6_registerOf 19 = .ok (.ireturn, 1) := by decide +kernel
theorem dX6_registerOf_20 : decode cX6_registerOf 20 = .ok (.aload_n 0, 1) := by decide +kernel
theorem dX6_registerOf_21 : decode cX6_registerOf 21 = .ok (.getfield 10, 3) := by decide +kernel
theorem dX6_registerOf_24 : decode cX6_registerOf 24 = .ok (.getfield 108, 3) := by decide +kernel
theorem dX6_registerOf_27 : decode cX6_registerOf 27 = .ok (.astore_n 3, 1) := by decide +kernel
theorem dX6_registerOf_28 : decode cX6_registerOf 28 = .ok (.aload_n 3, 1) := by decide +kernel
theorem dX6_registerOf_29 : decode cX6_registerOf 29 = .ok (.iload_n 1, 1) := by decide +kernel
theorem dX6_registerOf_30 : decode cX6_registerOf 30 = .ok (.invokevirtual 138, 3) := by decide +kernel
theorem dX6_registerOf_33 : decode cX6_registerOf 33 = .ok (.istore 4, 2) := by decide +kernel
theorem dX6_registerOf_35 : decode cX6_registerOf 35 = .ok (.iload_n 2, 1) := by decide +kernel
theorem dX6_registerOf_36 : decode cX6_registerOf 36 = .ok (.tableswitch 83 0 5 #[40, 47, 57, 63, 69, 76], 40) := by decide +kernel
theorem dX6_registerOf_76 : decode cX6_registerOf 76 = .ok (.aload_n 3, 1) := by decide +kernel
theorem dX6_registerOf_77 : decode cX6_registerOf 77 = .ok (.getfield 141, 3) := by decide +kernel
theorem dX6_registerOf_80 : decode cX6_registerOf 80 = .ok (.iload_n 1, 1) := by decide +kernel
theorem dX6_registerOf_81 : decode cX6_registerOf 81 = .ok (.iaload, 1) := by decide +kernel
theorem dX6_registerOf_82 : decode cX6_registerOf 82 = .ok (.ireturn, 1) := by decide +kernel
theorem dX6_registerOf_83 : decode cX6_registerOf 83 = .ok (.aload_n 3, 1) := by decide +kernel
theorem dX6_registerOf_84 : decode cX6_registerOf 84 = .ok (.getfield 141, 3) := by decide +kernel
theorem dX6_registerOf_87 : decode cX6_registerOf 87 = .ok (.iload_n 1, 1) := by decide +kernel
theorem dX6_registerOf_88 : decode cX6_registerOf 88 = .ok (.iaload, 1) := by decide +kernel
theorem dX6_registerOf_89 : decode cX6_registerOf 89 = .ok (.invokestatic 144, 3) := by decide +kernel
theorem dX6_registerOf_92 : decode cX6_registerOf 92 = .ok (.ireturn, 1) := by decide +kernel
theorem dX6_registerOf_93 : decode cX6_registerOf 93 = .ok (.aload_n 3, 1) := by decide +kernel
theorem dX6_registerOf_94 : decode cX6_registerOf 94 = .ok (.iload_n 1, 1) := by decide +kernel
theorem dX6_registerOf_95 : decode cX6_registerOf 95 = .ok (.invokevirtual 147, 3) := by decide +kernel
theorem dX6_registerOf_98 : decode cX6_registerOf 98 = .ok (.ireturn, 1) := by decide +kernel
theorem dX6_registerOf_99 : decode cX6_registerOf 99 = .ok (.iload 4, 2) := by decide +kernel
theorem dX6_registerOf_101 : decode cX6_registerOf 101 = .ok (.invokestatic 144, 3) := by decide +kernel
theorem dX6_registerOf_104 : decode cX6_registerOf 104 = .ok (.ireturn, 1) := by decide +kernel
theorem dX6_registerOf_105 : decode cX6_registerOf 105 = .ok (.aload_n 3, 1) := by decide +kernel
theorem dX6_registerOf_106 : decode cX6_registerOf 106 = .ok (.getfield 150, 3) := by decide +kernel
theorem dX6_registerOf_109 : decode cX6_registerOf 109 = .ok (.iload_n 1, 1) := by decide +kernel
theorem dX6_registerOf_110 : decode cX6_registerOf 110 = .ok (.iaload, 1) := by decide +kernel
theorem dX6_registerOf_111 : decode cX6_registerOf 111 = .ok (.ireturn, 1) := by decide +kernel
theorem dX6_registerOf_112 : decode cX6_registerOf 112 = .ok (.aload_n 3, 1) := by decide +kernel
theorem dX6_registerOf_113 : decode cX6_registerOf 113 = .ok (.getfield 153, 3) := by decide +kernel
theorem dX6_registerOf_116 : decode cX6_registerOf 116 = .ok (.iload_n 1, 1) := by decide +kernel
theorem dX6_registerOf_117 : decode cX6_registerOf 117 = .ok (.iaload, 1) := by decide +kernel
theorem dX6_registerOf_118 : decode cX6_registerOf 118 = .ok (.ireturn, 1) := by decide +kernel
theorem dX6_registerOf_119 : decode cX6_registerOf 119 = .ok (.aload_n 3, 1) := by decide +kernel
theorem dX6_registerOf_120 : decode cX6_registerOf 120 = .ok (.iload_n 1, 1) := by decide +kernel
theorem dX6_registerOf_121 : decode cX6_registerOf 121 = .ok (.aload_n 3, 1) := by decide +kernel
theorem dX6_registerOf_122 : decode cX6_registerOf 122 = .ok (.iload_n 1, 1) := by decide +kernel
theorem dX6_registerOf_123 : decode cX6_registerOf 123 = .ok (.iload 4, 2) := by decide +kernel
theorem dX6_registerOf_125 : decode cX6_registerOf 125 = .ok (.invokevirtual 156, 3) := by decide +kernel
theorem dX6_registerOf_128 : decode cX6_registerOf 128 = .ok (.invokevirtual 159, 3) := by decide +kernel
theorem dX6_registerOf_131 : decode cX6_registerOf 131 = .ok (.ireturn, 1) := by decide +kernel
theorem dX6_alarmOf_0 : decode cX6_alarmOf 0 = .ok (.iload_n 1, 1) := by decide +kernel
theorem dX6_alarmOf_1 : decode cX6_alarmOf 1 = .ok (.invokestatic 92, 3) := by decide +kernel
theorem dX6_alarmOf_4 : decode cX6_alarmOf 4 = .ok (.ifCond .eq 13, 3) := by decide +kernel
theorem dX6_alarmOf_7 : decode cX6_alarmOf 7 = .ok (.iload_n 2, 1) := by decide +kernel
theorem dX6_alarmOf_8 : decode cX6_alarmOf 8 = .ok (.iconst 0, 1) := by decide +kernel
theorem dX6_alarmOf_9 : decode cX6_alarmOf 9 = .ok (.bipush 9, 2) := by decide +kernel
theorem dX6_alarmOf_11 : decode cX6_alarmOf 11 = .ok (.invokestatic 95, 3) := by decide +kernel
theorem dX6_alarmOf_14 : decode cX6_alarmOf 14 = .ok (.ifCond .ne 6, 3) := by decide +kernel
theorem dX6_alarmOf_17 : decode cX6_alarmOf 17 = .ok (.ldc 45, 2) := by decide +kernel
theorem dX6_alarmOf_19 : decode cX6_alarmOf 19 = .ok (.ireturn, 1) := by decide +kernel
theorem dX6_alarmOf_20 : decode cX6_alarmOf 20 = .ok (.aload_n 0, 1) := by decide +kernel
theorem dX6_alarmOf_21 : decode cX6_alarmOf 21 = .ok (.getfield 10, 3) := by decide +kernel
theorem dX6_alarmOf_24 : decode cX6_alarmOf 24 = .ok (.getfield 82, 3) := by decide +kernel
theorem dX6_alarmOf_27 : decode cX6_alarmOf 27 = .ok (.astore_n 3, 1) := by decide +kernel
theorem dX6_alarmOf_28 : decode cX6_alarmOf 28 = .ok (.iload_n 2, 1) := by decide +kernel
theorem dX6_alarmOf_29 : decode cX6_alarmOf 29 = .ok (.iconst 5, 1) := by decide +kernel
theorem dX6_alarmOf_30 : decode cX6_alarmOf 30 = .ok (.if_icmp .ge 12, 3) := by decide +kernel
theorem dX6_alarmOf_33 : decode cX6_alarmOf 33 = .ok (.aload_n 3, 1) := by decide +kernel
theorem dX6_alarmOf_34 : decode cX6_alarmOf 34 = .ok (.getfield 162, 3) := by decide +kernel
theorem dX6_alarmOf_37 : decode cX6_alarmOf 37 = .ok (.iload_n 1, 1) := by decide +kernel
theorem dX6_alarmOf_38 : decode cX6_alarmOf 38 = .ok (.aaload, 1) := by decide +kernel
theorem dX6_alarmOf_39 : decode cX6_alarmOf 39 = .ok (.iload_n 2, 1) := by decide +kernel
theorem dX6_alarmOf_40 : decode cX6_alarmOf 40 = .ok (.iaload, 1) := by decide +kernel
theorem dX6_alarmOf_41 : decode cX6_alarmOf 41 = .ok (.ireturn, 1) := by decide +kernel
theorem dX6_alarmOf_42 : decode cX6_alarmOf 42 = .ok (.iload_n 2, 1) := by decide +kernel
theorem dX6_alarmOf_43 : decode cX6_alarmOf 43 = .ok (.tableswitch 61 5 8 #[29, 36, 45, 54], 29) := by decide +kernel
theorem dX6_alarmOf_72 : decode cX6_alarmOf 72 = .ok (.aload_n 3, 1) := by decide +kernel
theorem dX6_alarmOf_73 : decode cX6_alarmOf 73 = .ok (.getfield 165, 3) := by decide +kernel
theorem dX6_alarmOf_76 : decode cX6_alarmOf 76 = .ok (.iload_n 1, 1) := by decide +kernel
theorem dX6_alarmOf_77 : decode cX6_alarmOf 77 = .ok (.iaload, 1) := by decide +kernel
theorem dX6_alarmOf_78 : decode cX6_alarmOf 78 = .ok (.ireturn, 1) := by decide +kernel
theorem dX6_alarmOf_79 : decode cX6_alarmOf 79 = .ok (.aload_n 3, 1) := by decide +kernel
theorem dX6_alarmOf_80 : decode cX6_alarmOf 80 = .ok (.getfield 168, 3) := by decide +kernel
theorem dX6_alarmOf_83 : decode cX6_alarmOf 83 = .ok (.iload_n 1, 1) := by decide +kernel
theorem dX6_alarmOf_84 : decode cX6_alarmOf 84 = .ok (.invokestatic 171, 3) := by decide +kernel
theorem dX6_alarmOf_87 : decode cX6_alarmOf 87 = .ok (.ireturn, 1) := by decide +kernel
theorem dX6_alarmOf_88 : decode cX6_alarmOf 88 = .ok (.aload_n 3, 1) := by decide +kernel
theorem dX6_alarmOf_89 : decode cX6_alarmOf 89 = .ok (.getfield 101, 3) := by decide +kernel
theorem dX6_alarmOf_92 : decode cX6_alarmOf 92 = .ok (.iload_n 1, 1) := by decide +kernel
theorem dX6_alarmOf_93 : decode cX6_alarmOf 93 = .ok (.invokestatic 171, 3) := by decide +kernel
theorem dX6_alarmOf_96 : decode cX6_alarmOf 96 = .ok (.ireturn, 1) := by decide +kernel
theorem dX6_alarmOf_97 : decode cX6_alarmOf 97 = .ok (.aload_n 3, 1) := by decide +kernel
theorem dX6_alarmOf_98 : decode cX6_alarmOf 98 = .ok (.getfield 174, 3) := by decide +kernel
theorem dX6_alarmOf_101 : decode cX6_alarmOf 101 = .ok (.iload_n 1, 1) := by decide +kernel
theorem dX6_alarmOf_102 : decode cX6_alarmOf 102 = .ok (.iaload, 1) := by decide +kernel
theorem dX6_alarmOf_103 : decode cX6_alarmOf 103 = .ok (.ireturn, 1) := by decide +kernel
theorem dX6_alarmOf_104 : decode cX6_alarmOf 104 = .ok (.aload_n 3, 1) := by decide +kernel
theorem dX6_alarmOf_105 : decode cX6_alarmOf 105 = .ok (.iload_n 1, 1) := by decide +kernel
theorem dX6_alarmOf_106 : decode cX6_alarmOf 106 = .ok (.aload_n 0, 1) := by decide +kernel
theorem dX6_alarmOf_107 : decode cX6_alarmOf 107 = .ok (.getfield 10, 3) := by decide +kernel
theorem dX6_alarmOf_110 : decode cX6_alarmOf 110 = .ok (.getfield 108, 3) := by decide +kernel
theorem dX6_alarmOf_113 : decode cX6_alarmOf 113 = .ok (.invokevirtual 177, 3) := by decide +kernel
theorem dX6_alarmOf_116 : decode cX6_alarmOf 116 = .ok (.ifCond .eq 7, 3) := by decide +kernel
theorem dX6_alarmOf_119 : decode cX6_alarmOf 119 = .ok (.iconst 1, 1) := by decide +kernel
theorem dX6_alarmOf_120 : decode cX6_alarmOf 120 = .ok (.goto 4, 3) := by decide +kernel
theorem dX6_alarmOf_123 : decode cX6_alarmOf 123 = .ok (.iconst 0, 1) := by decide +kernel
theorem dX6_alarmOf_124 : decode cX6_alarmOf 124 = .ok (.ireturn, 1) := by decide +kernel
theorem dX6_date_0 : decode cX6_date 0 = .ok (.iload_n 1, 1) := by decide +kernel
theorem dX6_date_1 : decode cX6_date 1 = .ok (.iconst 0, 1) := by decide +kernel
theorem dX6_date_2 : decode cX6_date 2 = .ok (.iconst 4, 1) := by decide +kernel
theorem dX6_date_3 : decode cX6_date 3 = .ok (.invokestatic 95, 3) := by decide +kernel
theorem dX6_date_6 : decode cX6_date 6 = .ok (.ifCond .ne 6, 3) := by decide +kernel
theorem dX6_date_9 : decode cX6_date 9 = .ok (.ldc 45, 2) := by decide +kernel
theorem dX6_date_11 : decode cX6_date 11 = .ok (.ireturn, 1) := by decide +kernel
theorem dX6_date_12 : decode cX6_date 12 = .ok (.aload_n 0, 1) := by decide +kernel
theorem dX6_date_13 : decode cX6_date 13 = .ok (.getfield 10, 3) := by decide +kernel
theorem dX6_date_16 : decode cX6_date 16 = .ok (.getfield 108, 3) := by decide +kernel
theorem dX6_date_19 : decode cX6_date 19 = .ok (.astore_n 2, 1) := by decide +kernel
theorem dX6_date_20 : decode cX6_date 20 = .ok (.iload_n 1, 1) := by decide +kernel
theorem dX6_date_21 : decode cX6_date 21 = .ok (.iconst 3, 1) := by decide +kernel
theorem dX6_date_22 : decode cX6_date 22 = .ok (.if_icmp .ne 12, 3) := by decide +kernel
theorem dX6_date_25 : decode cX6_date 25 = .ok (.aload_n 2, 1) := by decide +kernel
theorem dX6_date_26 : decode cX6_date 26 = .ok (.iconst 4, 1) := by decide +kernel
theorem dX6_date_27 : decode cX6_date 27 = .ok (.invokevirtual 138, 3) := by decide +kernel
theorem dX6_date_30 : decode cX6_date 30 = .ok (.invokestatic 144, 3) := by decide +kernel
theorem dX6_date_33 : decode cX6_date 33 = .ok (.ireturn, 1) := by decide +kernel
theorem dX6_date_34 : decode cX6_date 34 = .ok (.aload_n 2, 1) := by decide +kernel
theorem dX6_date_35 : decode cX6_date 35 = .ok (.invokevirtual 181, 3) := by decide +kernel
theorem dX6_date_38 : decode cX6_date 38 = .ok (.ifCond .ne 6, 3) := by decide +kernel
theorem dX6_date_41 : decode cX6_date 41 = .ok (.ldc 185, 2) := by decide +kernel
theorem dX6_date_43 : decode cX6_date 43 = .ok (.ireturn, 1) := by decide +kernel
theorem dX6_date_44 : decode cX6_date 44 = .ok (.iload_n 1, 1) := by decide +kernel
theorem dX6_date_45 : decode cX6_date 45 = .ok (.tableswitch 59 0 2 #[27, 32, 37], 27) := by decide +kernel
theorem dX6_date_72 : decode cX6_date 72 = .ok (.aload_n 2, 1) := by decide +kernel
theorem dX6_date_73 : decode cX6_date 73 = .ok (.invokevirtual 186, 3) := by decide +kernel
theorem dX6_date_76 : decode cX6_date 76 = .ok (.ireturn, 1) := by decide +kernel
theorem dX6_date_77 : decode cX6_date 77 = .ok (.aload_n 2, 1) := by decide +kernel
theorem dX6_date_78 : decode cX6_date 78 = .ok (.invokevirtual 189, 3) := by decide +kernel
theorem dX6_date_81 : decode cX6_date 81 = .ok (.ireturn, 1) := by decide +kernel
theorem dX6_date_82 : decode cX6_date 82 = .ok (.aload_n 2, 1) := by decide +kernel
theorem dX6_date_83 : decode cX6_date 83 = .ok (.getfield 141, 3) := by decide +kernel
theorem dX6_date_86 : decode cX6_date 86 = .ok (.iconst 3, 1) := by decide +kernel
theorem dX6_date_87 : decode cX6_date 87 = .ok (.iaload, 1) := by decide +kernel
theorem dX6_date_88 : decode cX6_date 88 = .ok (.invokestatic 144, 3) := by decide +kernel
theorem dX6_date_91 : decode cX6_date 91 = .ok (.aload_n 2, 1) := by decide +kernel
theorem dX6_date_92 : decode cX6_date 92 = .ok (.invokevirtual 189, 3) := by decide +kernel
theorem dX6_date_95 : decode cX6_date 95 = .ok (.if_icmp .ne 7, 3) := by decide +kernel
theorem dX6_date_98 : decode cX6_date 98 = .ok (.iconst 1, 1) := by decide +kernel
theorem dX6_date_99 : decode cX6_date 99 = .ok (.goto 4, 3) := by decide +kernel
theorem dX6_date_102 : decode cX6_date 102 = .ok (.iconst 0, 1) := by decide +kernel
theorem dX6_date_103 : decode cX6_date 103 = .ok (.ireturn, 1) := by decide +kernel
theorem dX6_date_104 : decode cX6_date 104 = .ok (.aload_n 2, 1) := by decide +kernel
theorem dX6_date_105 : decode cX6_date 105 = .ok (.invokevirtual 192, 3) := by decide +kernel
theorem dX6_date_108 : decode cX6_date 108 = .ok (.iconst 1, 1) := by decide +kernel
theorem dX6_date_109 : decode cX6_date 109 = .ok (.isub, 1) := by decide +kernel
theorem dX6_date_110 : decode cX6_date 110 = .ok (.aload_n 2, 1) := by decide +kernel
theorem dX6_date_111 : decode cX6_date 111 = .ok (.invokevirtual 195, 3) := by decide +kernel
theorem dX6_date_114 : decode cX6_date 114 = .ok (.isub, 1) := by decide +kernel
theorem dX6_date_115 : decode cX6_date 115 = .ok (.ireturn, 1) := by decide +kernel
theorem dX6_log_0 : decode cX6_log 0 = .ok (.iload_n 1, 1) := by decide +kernel
theorem dX6_log_1 : decode cX6_log 1 = .ok (.ifCond .lt 13, 3) := by decide +kernel
theorem dX6_log_4 : decode cX6_log 4 = .ok (.iload_n 2, 1) := by decide +kernel
theorem dX6_log_5 : decode cX6_log 5 = .ok (.iconst 0, 1) := by decide +kernel
theorem dX6_log_6 : decode cX6_log 6 = .ok (.bipush 9, 2) := by decide +kernel
theorem dX6_log_8 : decode cX6_log 8 = .ok (.invokestatic 95, 3) := by decide +kernel
theorem dX6_log_11 : decode cX6_log 11 = .ok (.ifCond .ne 6, 3) := by decide +kernel
theorem dX6_log_14 : decode cX6_log 14 = .ok (.ldc 45, 2) := by decide +kernel
theorem dX6_log_16 : decode cX6_log 16 = .ok (.ireturn, 1) := by decide +kernel
theorem dX6_log_17 : decode cX6_log 17 = .ok (.iload_n 1, 1) := by decide +kernel
theorem dX6_log_18 : decode cX6_log 18 = .ok (.aload_n 0, 1) := by decide +kernel
theorem dX6_log_19 : decode cX6_log 19 = .ok (.getfield 10, 3) := by decide +kernel
theorem dX6_log_22 : decode cX6_log 22 = .ok (.getfield 198, 3) := by decide +kernel
theorem dX6_log_25 : decode cX6_log 25 = .ok (.getfield 202, 3) := by decide +kernel
theorem dX6_log_28 : decode cX6_log 28 = .ok (.if_icmp .lt 6, 3) := by decide +kernel
theorem dX6_log_31 : decode cX6_log 31 = .ok (.ldc 185, 2) := by decide +kernel
theorem dX6_log_33 : decode cX6_log 33 = .ok (.ireturn, 1) := by decide +kernel
theorem dX6_log_34 : decode cX6_log 34 = .ok (.aload_n 0, 1) := by decide +kernel
theorem dX6_log_35 : decode cX6_log 35 = .ok (.getfield 10, 3) := by decide +kernel
theorem dX6_log_38 : decode cX6_log 38 = .ok (.getfield 198, 3) := by decide +kernel
theorem dX6_log_41 : decode cX6_log 41 = .ok (.iload_n 1, 1) := by decide +kernel
theorem dX6_log_42 : decode cX6_log 42 = .ok (.iload_n 2, 1) := by decide +kernel
theorem dX6_log_43 : decode cX6_log 43 = .ok (.invokevirtual 207, 3) := by decide +kernel
theorem dX6_log_46 : decode cX6_log 46 = .ok (.ireturn, 1) := by decide +kernel
theorem dX6_count_0 : decode cX6_count 0 = .ok (.iload_n 1, 1) := by decide +kernel
theorem dX6_count_1 : decode cX6_count 1 = .ok (.bipush 20, 2) := by decide +kernel
theorem dX6_count_3 : decode cX6_count 3 = .ok (.bipush 22, 2) := by decide +kernel
theorem dX6_count_5 : decode cX6_count 5 = .ok (.invokestatic 95, 3) := by decide +kernel
theorem dX6_count_8 : decode cX6_count 8 = .ok (.ifCond .eq 16, 3) := by decide +kernel
theorem dX6_count_11 : decode cX6_count 11 = .ok (.aload_n 0, 1) := by decide +kernel
theorem dX6_count_12 : decode cX6_count 12 = .ok (.getfield 10, 3) := by decide +kernel
theorem dX6_count_15 : decode cX6_count 15 = .ok (.getfield 210, 3) := by decide +kernel
theorem dX6_count_18 : decode cX6_count 18 = .ok (.iload_n 1, 1) := by decide +kernel
theorem dX6_count_19 : decode cX6_count 19 = .ok (.bipush 20, 2) := by decide +kernel
theorem dX6_count_21 : decode cX6_count 21 = .ok (.isub, 1) := by decide +kernel
theorem dX6_count_22 : decode cX6_count 22 = .ok (.iaload, 1) := by decide +kernel
theorem dX6_count_23 : decode cX6_count 23 = .ok (.ireturn, 1) := by decide +kernel
theorem dX6_count_24 : decode cX6_count 24 = .ok (.iload_n 1, 1) := by decide +kernel
theorem dX6_count_25 : decode cX6_count 25 = .ok (.tableswitch 192 0 13 #[71, 79, 87, 98, 109, 120, 131, 139, 147, 155, 163, 171, 182, 187], 71) := by decide +kernel
theorem dX6_count_96 : decode cX6_count 96 = .ok (.aload_n 0, 1) := by decide +kernel
theorem dX6_count_97 : decode cX6_count 97 = .ok (.getfield 10, 3) := by decide +kernel
theorem dX6_count_100 : decode cX6_count 100 = .ok (.getfield 213, 3) := by decide +kernel
theorem dX6_count_103 : decode cX6_count 103 = .ok (.ireturn, 1) := by decide +kernel
theorem dX6_count_104 : decode cX6_count 104 = .ok (.aload_n 0, 1) := by decide +kernel
theorem dX6_count_105 : decode cX6_count 105 = .ok (.getfield 10, 3) := by decide +kernel
theorem dX6_count_108 : decode cX6_count 108 = .ok (.getfield 236, 3) := by decide +kernel
theorem dX6_count_111 : decode cX6_count 111 = .ok (.ireturn, 1) := by decide +kernel
theorem dX6_count_112 : decode cX6_count 112 = .ok (.aload_n 0, 1) := by decide +kernel
theorem dX6_count_113 : decode cX6_count 113 = .ok (.getfield 10, 3) := by decide +kernel
theorem dX6_count_116 : decode cX6_count 116 = .ok (.getfield 108, 3) := by decide +kernel
theorem dX6_count_119 : decode cX6_count 119 = .ok (.invokevirtual 239, 3) := by decide +kernel
theorem dX6_count_122 : decode cX6_count 122 = .ok (.ireturn, 1) := by decide +kernel
theorem dX6_count_123 : decode cX6_count 123 = .ok (.aload_n 0, 1) := by decide +kernel
theorem dX6_count_124 : decode cX6_count 124 = .ok (.getfield 10, 3) := by decide +kernel
theorem dX6_count_127 : decode cX6_count 127 = .ok (.getfield 82, 3) := by decide +kernel
theorem dX6_count_130 : decode cX6_count 130 = .ok (.getfield 101, 3) := by decide +kernel
theorem dX6_count_133 : decode cX6_count 133 = .ok (.ireturn, 1) := by decide +kernel
theorem dX6_count_134 : decode cX6_count 134 = .ok (.aload_n 0, 1) := by decide +kernel
theorem dX6_count_135 : decode cX6_count 135 = .ok (.getfield 10, 3) := by decide +kernel
theorem dX6_count_138 : decode cX6_count 138 = .ok (.getfield 82, 3) := by decide +kernel
theorem dX6_count_141 : decode cX6_count 141 = .ok (.invokevirtual 242, 3) := by decide +kernel
theorem dX6_count_144 : decode cX6_count 144 = .ok (.ireturn, 1) := by decide +kernel
theorem dX6_count_145 : decode cX6_count 145 = .ok (.aload_n 0, 1) := by decide +kernel
theorem dX6_count_146 : decode cX6_count 146 = .ok (.getfield 10, 3) := by decide +kernel
theorem dX6_count_149 : decode cX6_count 149 = .ok (.getfield 108, 3) := by decide +kernel
theorem dX6_count_152 : decode cX6_count 152 = .ok (.invokevirtual 125, 3) := by decide +kernel
theorem dX6_count_155 : decode cX6_count 155 = .ok (.ireturn, 1) := by decide +kernel
theorem dX6_count_156 : decode cX6_count 156 = .ok (.aload_n 0, 1) := by decide +kernel
theorem dX6_count_157 : decode cX6_count 157 = .ok (.getfield 10, 3) := by decide +kernel
theorem dX6_count_160 : decode cX6_count 160 = .ok (.getfield 226, 3) := by decide +kernel
theorem dX6_count_163 : decode cX6_count 163 = .ok (.ireturn, 1) := by decide +kernel
theorem dX6_count_164 : decode cX6_count 164 = .ok (.aload_n 0, 1) := by decide +kernel
theorem dX6_count_165 : decode cX6_count 165 = .ok (.getfield 10, 3) := by decide +kernel
theorem dX6_count_168 : decode cX6_count 168 = .ok (.getfield 229, 3) := by decide +kernel
theorem dX6_count_171 : decode cX6_count 171 = .ok (.ireturn, 1) := by decide +kernel
theorem dX6_count_172 : decode cX6_count 172 = .ok (.aload_n 0, 1) := by decide +kernel
theorem dX6_count_173 : decode cX6_count 173 = .ok (.getfield 10, 3) := by decide +kernel
theorem dX6_count_176 : decode cX6_count 176 = .ok (.getfield 245, 3) := by decide +kernel
theorem dX6_count_179 : decode cX6_count 179 = .ok (.ireturn, 1) := by decide +kernel
theorem dX6_count_180 : decode cX6_count 180 = .ok (.aload_n 0, 1) := by decide +kernel
theorem dX6_count_181 : decode cX6_count 181 = .ok (.getfield 10, 3) := by decide +kernel
theorem dX6_count_184 : decode cX6_count 184 = .ok (.getfield 248, 3) := by decide +kernel
theorem dX6_count_187 : decode cX6_count 187 = .ok (.ireturn, 1) := by decide +kernel
theorem dX6_count_188 : decode cX6_count 188 = .ok (.aload_n 0, 1) := by decide +kernel
theorem dX6_count_189 : decode cX6_count 189 = .ok (.getfield 10, 3) := by decide +kernel
theorem dX6_count_192 : decode cX6_count 192 = .ok (.getfield 251, 3) := by decide +kernel
theorem dX6_count_195 : decode cX6_count 195 = .ok (.ireturn, 1) := by decide +kernel
theorem dX6_count_196 : decode cX6_count 196 = .ok (.aload_n 0, 1) := by decide +kernel
theorem dX6_count_197 : decode cX6_count 197 = .ok (.getfield 10, 3) := by decide +kernel
theorem dX6_count_200 : decode cX6_count 200 = .ok (.getfield 198, 3) := by decide +kernel
theorem dX6_count_203 : decode cX6_count 203 = .ok (.getfield 202, 3) := by decide +kernel
theorem dX6_count_206 : decode cX6_count 206 = .ok (.ireturn, 1) := by decide +kernel
theorem dX6_count_207 : decode cX6_count 207 = .ok (.aload_n 0, 1) := by decide +kernel
theorem dX6_count_208 : decode cX6_count 208 = .ok (.getfield 254, 3) := by decide +kernel
theorem dX6_count_211 : decode cX6_count 211 = .ok (.ireturn, 1) := by decide +kernel
theorem dX6_count_212 : decode cX6_count 212 = .ok (.aload_n 0, 1) := by decide +kernel
theorem dX6_count_213 : decode cX6_count 213 = .ok (.getfield 257, 3) := by decide +kernel
theorem dX6_count_216 : decode cX6_count 216 = .ok (.ireturn, 1) := by decide +kernel
theorem dX6_count_217 : decode cX6_count 217 = .ok (.ldc 45, 2) := by decide +kernel
theorem dX6_count_219 : decode cX6_count 219 = .ok (.ireturn, 1) := by decide +kernel
theorem dX6_keepState_0 : decode cX6_keepState 0 = .ok (.aload_n 0, 1) := by decide +kernel
theorem dX6_keepState_1 : decode cX6_keepState 1 = .ok (.getfield 254, 3) := by decide +kernel
theorem dX6_keepState_4 : decode cX6_keepState 4 = .ok (.iconst 4, 1) := by decide +kernel
theorem dX6_keepState_5 : decode cX6_keepState 5 = .ok (.if_icmp .lt 49, 3) := by decide +kernel
theorem dX6_keepState_8 : decode cX6_keepState 8 = .ok (.aload_n 0, 1) := by decide +kernel
theorem dX6_keepState_9 : decode cX6_keepState 9 = .ok (.getfield 33, 3) := by decide +kernel
theorem dX6_keepState_12 : decode cX6_keepState 12 = .ok (.iconst 0, 1) := by decide +kernel
theorem dX6_keepState_13 : decode cX6_keepState 13 = .ok (.aaload, 1) := by decide +kernel
theorem dX6_keepState_14 : decode cX6_keepState 14 = .ok (.astore_n 1, 1) := by decide +kernel
theorem dX6_keepState_15 : decode cX6_keepState 15 = .ok (.iconst 1, 1) := by decide +kernel
theorem dX6_keepState_16 : decode cX6_keepState 16 = .ok (.istore_n 2, 1) := by decide +kernel
theorem dX6_keepState_17 : decode cX6_keepState 17 = .ok (.iload_n 2, 1) := by decide +kernel
theorem dX6_keepState_18 : decode cX6_keepState 18 = .ok (.iconst 4, 1) := by decide +kernel
theorem dX6_keepState_19 : decode cX6_keepState 19 = .ok (.if_icmp .ge 23, 3) := by decide +kernel
theorem dX6_keepState_22 : decode cX6_keepState 22 = .ok (.aload_n 0, 1) := by decide +kernel
theorem dX6_keepState_23 : decode cX6_keepState 23 = .ok (.getfield 33, 3) := by decide +kernel
theorem dX6_keepState_26 : decode cX6_keepState 26 = .ok (.iload_n 2, 1) := by decide +kernel
theorem dX6_keepState_27 : decode cX6_keepState 27 = .ok (.iconst 1, 1) := by decide +kernel
theorem dX6_keepState_28 : decode cX6_keepState 28 = .ok (.isub, 1) := by decide +kernel
theorem dX6_keepState_29 : decode cX6_keepState 29 = .ok (.aload_n 0, 1) := by decide +kernel
theorem dX6_keepState_30 : decode cX6_keepState 30 = .ok (.getfield 33, 3) := by decide +kernel
theorem dX6_keepState_33 : decode cX6_keepState 33 = .ok (.iload_n 2, 1) := by decide +kernel
theorem dX6_keepState_34 : decode cX6_keepState 34 = .ok (.aaload, 1) := by decide +kernel
theorem dX6_keepState_35 : decode cX6_keepState 35 = .ok (.aastore, 1) := by decide +kernel
theorem dX6_keepState_36 : decode cX6_keepState 36 = .ok (.iinc 2 1, 3) := by decide +kernel
theorem dX6_keepState_39 : decode cX6_keepState 39 = .ok (.goto (-22), 3) := by decide +kernel
theorem dX6_keepState_42 : decode cX6_keepState 42 = .ok (.aload_n 0, 1) := by decide +kernel
theorem dX6_keepState_43 : decode cX6_keepState 43 = .ok (.getfield 33, 3) := by decide +kernel
theorem dX6_keepState_46 : decode cX6_keepState 46 = .ok (.iconst 3, 1) := by decide +kernel
theorem dX6_keepState_47 : decode cX6_keepState 47 = .ok (.aload_n 1, 1) := by decide +kernel
theorem dX6_keepState_48 : decode cX6_keepState 48 = .ok (.aastore, 1) := by decide +kernel
theorem dX6_keepState_49 : decode cX6_keepState 49 = .ok (.aload_n 0, 1) := by decide +kernel
theorem dX6_keepState_50 : decode cX6_keepState 50 = .ok (.iconst 3, 1) := by decide +kernel
theorem dX6_keepState_51 : decode cX6_keepState 51 = .ok (.putfield 254, 3) := by decide +kernel
theorem dX6_keepState_54 : decode cX6_keepState 54 = .ok (.aload_n 0, 1) := by decide +kernel
theorem dX6_keepState_55 : decode cX6_keepState 55 = .ok (.getfield 33, 3) := by decide +kernel
theorem dX6_keepState_58 : decode cX6_keepState 58 = .ok (.aload_n 0, 1) := by decide +kernel
theorem dX6_keepState_59 : decode cX6_keepState 59 = .ok (.getfield 254, 3) := by decide +kernel
theorem dX6_keepState_62 : decode cX6_keepState 62 = .ok (.aaload, 1) := by decide +kernel
theorem dX6_keepState_63 : decode cX6_keepState 63 = .ok (.astore_n 1, 1) := by decide +kernel
theorem dX6_keepState_64 : decode cX6_keepState 64 = .ok (.aload_n 1, 1) := by decide +kernel
theorem dX6_keepState_65 : decode cX6_keepState 65 = .ok (.ifnull 21, 3) := by decide +kernel
theorem dX6_keepState_68 : decode cX6_keepState 68 = .ok (.aload_n 1, 1) := by decide +kernel
theorem dX6_keepState_69 : decode cX6_keepState 69 = .ok (.aload_n 0, 1) := by decide +kernel
theorem dX6_keepState_70 : decode cX6_keepState 70 = .ok (.getfield 10, 3) := by decide +kernel
theorem dX6_keepState_73 : decode cX6_keepState 73 = .ok (.invokevirtual 216, 3) := by decide +kernel
theorem dX6_keepState_76 : decode cX6_keepState 76 = .ok (.aload_n 0, 1) := by decide +kernel
theorem dX6_keepState_77 : decode cX6_keepState 77 = .ok (.dup, 1) := by decide +kernel
theorem dX6_keepState_78 : decode cX6_keepState 78 = .ok (.getfield 254, 3) := by decide +kernel
theorem dX6_keepState_81 : decode cX6_keepState 81 = .ok (.iconst 1, 1) := by decide +kernel
theorem dX6_keepState_82 : decode cX6_keepState 82 = .ok (.iadd, 1) := by decide +kernel
theorem dX6_keepState_83 : decode cX6_keepState 83 = .ok (.putfield 254, 3) := by decide +kernel
theorem dX6_keepState_86 : decode cX6_keepState 86 = .ok (.return_, 1) := by decide +kernel
theorem dX6_mayWrite_0 : decode cX6_mayWrite 0 = .ok (.iload_n 0, 1) := by decide +kernel
theorem dX6_mayWrite_1 : decode cX6_mayWrite 1 = .ok (.invokestatic 53, 3) := by decide +kernel
theorem dX6_mayWrite_4 : decode cX6_mayWrite 4 = .ok (.ifCond .eq 18, 3) := by decide +kernel
theorem dX6_mayWrite_7 : decode cX6_mayWrite 7 = .ok (.iload_n 1, 1) := by decide +kernel
theorem dX6_mayWrite_8 : decode cX6_mayWrite 8 = .ok (.iconst 0, 1) := by decide +kernel
theorem dX6_mayWrite_9 : decode cX6_mayWrite 9 = .ok (.sipush 255, 3) := by decide +kernel
theorem dX6_mayWrite_12 : decode cX6_mayWrite 12 = .ok (.invokestatic 95, 3) := by decide +kernel
theorem dX6_mayWrite_15 : decode cX6_mayWrite 15 = .ok (.ifCond .eq 7, 3) := by decide +kernel
theorem dX6_mayWrite_18 : decode cX6_mayWrite 18 = .ok (.iconst 1, 1) := by decide +kernel
theorem dX6_mayWrite_19 : decode cX6_mayWrite 19 = .ok (.goto 4, 3) := by decide +kernel
theorem dX6_mayWrite_22 : decode cX6_mayWrite 22 = .ok (.iconst 0, 1) := by decide +kernel
theorem dX6_mayWrite_23 : decode cX6_mayWrite 23 = .ok (.ireturn, 1) := by decide +kernel
theorem dX6_mayPass_0 : decode cX6_mayPass 0 = .ok (.iload_n 0, 1) := by decide +kernel
theorem dX6_mayPass_1 : decode cX6_mayPass 1 = .ok (.iconst 1, 1) := by decide +kernel
theorem dX6_mayPass_2 : decode cX6_mayPass 2 = .ok (.sipush 9999, 3) := by decide +kernel
theorem dX6_mayPass_5 : decode cX6_mayPass 5 = .ok (.invokestatic 95, 3) := by decide +kernel
theorem dX6_mayPass_8 : decode cX6_mayPass 8 = .ok (.ireturn, 1) := by decide +kernel
theorem dX6_mayChangeAlarm_0 : decode cX6_mayChangeAlarm 0 = .ok (.iload_n 0, 1) := by decide +kernel
theorem dX6_mayChangeAlarm_1 : decode cX6_mayChangeAlarm 1 = .ok (.invokestatic 92, 3) := by decide +kernel
theorem dX6_mayChangeAlarm_4 : decode cX6_mayChangeAlarm 4 = .ok (.ifCond .eq 27, 3) := by decide +kernel
theorem dX6_mayChangeAlarm_7 : decode cX6_mayChangeAlarm 7 = .ok (.iload_n 1, 1) := by decide +kernel
theorem dX6_mayChangeAlarm_8 : decode cX6_mayChangeAlarm 8 = .ok (.iconst 0, 1) := by decide +kernel
theorem dX6_mayChangeAlarm_9 : decode cX6_mayChangeAlarm 9 = .ok (.iconst 4, 1) := by decide +kernel
theorem dX6_mayChangeAlarm_10 : decode cX6_mayChangeAlarm 10 = .ok (.invokestatic 95, 3) := by decide +kernel
theorem dX6_mayChangeAlarm_13 : decode cX6_mayChangeAlarm 13 = .ok (.ifCond .eq 18, 3) := by decide +kernel
theorem dX6_mayChangeAlarm_16 : decode cX6_mayChangeAlarm 16 = .ok (.iload_n 2, 1) := by decide +kernel
theorem dX6_mayChangeAlarm_17 : decode cX6_mayChangeAlarm 17 = .ok (.iconst 0, 1) := by decide +kernel
theorem dX6_mayChangeAlarm_18 : decode cX6_mayChangeAlarm 18 = .ok (.sipush 255, 3) := by decide +kernel
theorem dX6_mayChangeAlarm_21 : decode cX6_mayChangeAlarm 21 = .ok (.invokestatic 95, 3) := by decide +kernel
theorem dX6_mayChangeAlarm_24 : decode cX6_mayChangeAlarm 24 = .ok (.ifCond .eq 7, 3) := by decide +kernel
theorem dX6_mayChangeAlarm_27 : decode cX6_mayChangeAlarm 27 = .ok (.iconst 1, 1) := by decide +kernel
theorem dX6_mayChangeAlarm_28 : decode cX6_mayChangeAlarm 28 = .ok (.goto 4, 3) := by decide +kernel
theorem dX6_mayChangeAlarm_31 : decode cX6_mayChangeAlarm 31 = .ok (.iconst 0, 1) := by decide +kernel
theorem dX6_mayChangeAlarm_32 : decode cX6_mayChangeAlarm 32 = .ok (.ireturn, 1) := by decide +kernel
theorem dX6_isRegister_0 : decode cX6_isRegister 0 = .ok (.iload_n 0, 1) := by decide +kernel
theorem dX6_isRegister_1 : decode cX6_isRegister 1 = .ok (.iconst 0, 1) := by decide +kernel
theorem dX6_isRegister_2 : decode cX6_isRegister 2 = .ok (.bipush 6, 2) := by decide +kernel
theorem dX6_isRegister_4 : decode cX6_isRegister 4 = .ok (.invokestatic 95, 3) := by decide +kernel
theorem dX6_isRegister_7 : decode cX6_isRegister 7 = .ok (.ireturn, 1) := by decide +kernel
theorem dX6_isCell_0 : decode cX6_isCell 0 = .ok (.iload_n 0, 1) := by decide +kernel
theorem dX6_isCell_1 : decode cX6_isCell 1 = .ok (.invokestatic 53, 3) := by decide +kernel
theorem dX6_isCell_4 : decode cX6_isCell 4 = .ok (.ifCond .eq 17, 3) := by decide +kernel
theorem dX6_isCell_7 : decode cX6_isCell 7 = .ok (.iload_n 1, 1) := by decide +kernel
theorem dX6_isCell_8 : decode cX6_isCell 8 = .ok (.iconst 0, 1) := by decide +kernel
theorem dX6_isCell_9 : decode cX6_isCell 9 = .ok (.bipush 7, 2) := by decide +kernel
theorem dX6_isCell_11 : decode cX6_isCell 11 = .ok (.invokestatic 95, 3) := by decide +kernel
theorem dX6_isCell_14 : decode cX6_isCell 14 = .ok (.ifCond .eq 7, 3) := by decide +kernel
theorem dX6_isCell_17 : decode cX6_isCell 17 = .ok (.iconst 1, 1) := by decide +kernel
theorem dX6_isCell_18 : decode cX6_isCell 18 = .ok (.goto 4, 3) := by decide +kernel
theorem dX6_isCell_21 : decode cX6_isCell 21 = .ok (.iconst 0, 1) := by decide +kernel
theorem dX6_isCell_22 : decode cX6_isCell 22 = .ok (.ireturn, 1) := by decide +kernel
theorem dX6_isAlarm_0 : decode cX6_isAlarm 0 = .ok (.iload_n 0, 1) := by decide +kernel
theorem dX6_isAlarm_1 : decode cX6_isAlarm 1 = .ok (.iconst 0, 1) := by decide +kernel
theorem dX6_isAlarm_2 : decode cX6_isAlarm 2 = .ok (.iconst 2, 1) := by decide +kernel
theorem dX6_isAlarm_3 : decode cX6_isAlarm 3 = .ok (.invokestatic 95, 3) := by decide +kernel
theorem dX6_isAlarm_6 : decode cX6_isAlarm 6 = .ok (.ireturn, 1) := by decide +kernel
theorem dX6_isMode_0 : decode cX6_isMode 0 = .ok (.iload_n 0, 1) := by decide +kernel
theorem dX6_isMode_1 : decode cX6_isMode 1 = .ok (.iconst 0, 1) := by decide +kernel
theorem dX6_isMode_2 : decode cX6_isMode 2 = .ok (.iconst 2, 1) := by decide +kernel
theorem dX6_isMode_3 : decode cX6_isMode 3 = .ok (.invokestatic 95, 3) := by decide +kernel
theorem dX6_isMode_6 : decode cX6_isMode 6 = .ok (.ireturn, 1) := by decide +kernel
theorem dX6_isWithin_0 : decode cX6_isWithin 0 = .ok (.iload_n 0, 1) := by decide +kernel
theorem dX6_isWithin_1 : decode cX6_isWithin 1 = .ok (.iload_n 1, 1) := by decide +kernel
theorem dX6_isWithin_2 : decode cX6_isWithin 2 = .ok (.if_icmp .lt 12, 3) := by decide +kernel
theorem dX6_isWithin_5 : decode cX6_isWithin 5 = .ok (.iload_n 0, 1) := by decide +kernel
theorem dX6_isWithin_6 : decode cX6_isWithin 6 = .ok (.iload_n 2, 1) := by decide +kernel
theorem dX6_isWithin_7 : decode cX6_isWithin 7 = .ok (.if_icmp .gt 7, 3) := by decide +kernel
theorem dX6_isWithin_10 : decode cX6_isWithin 10 = .ok (.iconst 1, 1) := by decide +kernel
theorem dX6_isWithin_11 : decode cX6_isWithin 11 = .ok (.goto 4, 3) := by decide +kernel
theorem dX6_isWithin_14 : decode cX6_isWithin 14 = .ok (.iconst 0, 1) := by decide +kernel
theorem dX6_isWithin_15 : decode cX6_isWithin 15 = .ok (.ireturn, 1) := by decide +kernel
theorem dX6_bitOf_0 : decode cX6_bitOf 0 = .ok (.iload_n 0, 1) := by decide +kernel
theorem dX6_bitOf_1 : decode cX6_bitOf 1 = .ok (.iload_n 1, 1) := by decide +kernel
theorem dX6_bitOf_2 : decode cX6_bitOf 2 = .ok (.ishr, 1) := by decide +kernel
theorem dX6_bitOf_3 : decode cX6_bitOf 3 = .ok (.iconst 1, 1) := by decide +kernel
theorem dX6_bitOf_4 : decode cX6_bitOf 4 = .ok (.iand, 1) := by decide +kernel
theorem dX6_bitOf_5 : decode cX6_bitOf 5 = .ok (.ireturn, 1) := by decide +kernel
theorem dX6_numberOf_0 : decode cX6_numberOf 0 = .ok (.bipush 10, 2) := by decide +kernel
theorem dX6_numberOf_2 : decode cX6_numberOf 2 = .ok (.iload_n 0, 1) := by decide +kernel
theorem dX6_numberOf_3 : decode cX6_numberOf 3 = .ok (.iconst 4, 1) := by decide +kernel
theorem dX6_numberOf_4 : decode cX6_numberOf 4 = .ok (.ishr, 1) := by decide +kernel
theorem dX6_numberOf_5 : decode cX6_numberOf 5 = .ok (.imul, 1) := by decide +kernel
theorem dX6_numberOf_6 : decode cX6_numberOf 6 = .ok (.iload_n 0, 1) := by decide +kernel
theorem dX6_numberOf_7 : decode cX6_numberOf 7 = .ok (.bipush 15, 2) := by decide +kernel
theorem dX6_numberOf_9 : decode cX6_numberOf 9 = .ok (.iand, 1) := by decide +kernel
theorem dX6_numberOf_10 : decode cX6_numberOf 10 = .ok (.iadd, 1) := by decide +kernel
theorem dX6_numberOf_11 : decode cX6_numberOf 11 = .ok (.ireturn, 1) := by decide +kernel
theorem dJ6_bitCount_0f7a4_0 : decode cJ6_bitCount_0f7a4 0 = .ok (.iload_n 0, 1) := by decide +kernel
theorem dJ6_bitCount_0f7a4_1 : decode cJ6_bitCount_0f7a4 1 = .ok (.iload_n 0, 1) := by decide +kernel
theorem dJ6_bitCount_0f7a4_2 : decode cJ6_bitCount_0f7a4 2 = .ok (.iconst 1, 1) := by decide +kernel
theorem dJ6_bitCount_0f7a4_3 : decode cJ6_bitCount_0f7a4 3 = .ok (.iushr, 1) := by decide +kernel
theorem dJ6_bitCount_0f7a4_4 : decode cJ6_bitCount_0f7a4 4 = .ok (.ldc_w 265, 3) := by decide +kernel
theorem dJ6_bitCount_0f7a4_7 : decode cJ6_bitCount_0f7a4 7 = .ok (.iand, 1) := by decide +kernel
theorem dJ6_bitCount_0f7a4_8 : decode cJ6_bitCount_0f7a4 8 = .ok (.isub, 1) := by decide +kernel
theorem dJ6_bitCount_0f7a4_9 : decode cJ6_bitCount_0f7a4 9 = .ok (.istore_n 0, 1) := by decide +kernel
theorem dJ6_bitCount_0f7a4_10 : decode cJ6_bitCount_0f7a4 10 = .ok (.iload_n 0, 1) := by decide +kernel
theorem dJ6_bitCount_0f7a4_11 : decode cJ6_bitCount_0f7a4 11 = .ok (.ldc_w 266, 3) := by decide +kernel
theorem dJ6_bitCount_0f7a4_14 : decode cJ6_bitCount_0f7a4 14 = .ok (.iand, 1) := by decide +kernel
theorem dJ6_bitCount_0f7a4_15 : decode cJ6_bitCount_0f7a4 15 = .ok (.iload_n 0, 1) := by decide +kernel
theorem dJ6_bitCount_0f7a4_16 : decode cJ6_bitCount_0f7a4 16 = .ok (.iconst 2, 1) := by decide +kernel
theorem dJ6_bitCount_0f7a4_17 : decode cJ6_bitCount_0f7a4 17 = .ok (.iushr, 1) := by decide +kernel
theorem dJ6_bitCount_0f7a4_18 : decode cJ6_bitCount_0f7a4 18 = .ok (.ldc_w 266, 3) := by decide +kernel
theorem dJ6_bitCount_0f7a4_21 : decode cJ6_bitCount_0f7a4 21 = .ok (.iand, 1) := by decide +kernel
theorem dJ6_bitCount_0f7a4_22 : decode cJ6_bitCount_0f7a4 22 = .ok (.iadd, 1) := by decide +kernel
theorem dJ6_bitCount_0f7a4_23 : decode cJ6_bitCount_0f7a4 23 = .ok (.istore_n 0, 1) := by decide +kernel
theorem dJ6_bitCount_0f7a4_24 : decode cJ6_bitCount_0f7a4 24 = .ok (.iload_n 0, 1) := by decide +kernel
theorem dJ6_bitCount_0f7a4_25 : decode cJ6_bitCount_0f7a4 25 = .ok (.iload_n 0, 1) := by decide +kernel
theorem dJ6_bitCount_0f7a4_26 : decode cJ6_bitCount_0f7a4 26 = .ok (.iconst 4, 1) := by decide +kernel
theorem dJ6_bitCount_0f7a4_27 : decode cJ6_bitCount_0f7a4 27 = .ok (.iushr, 1) := by decide +kernel
theorem dJ6_bitCount_0f7a4_28 : decode cJ6_bitCount_0f7a4 28 = .ok (.iadd, 1) := by decide +kernel
theorem dJ6_bitCount_0f7a4_29 : decode cJ6_bitCount_0f7a4 29 = .ok (.ldc_w 267, 3) := by decide +kernel
theorem dJ6_bitCount_0f7a4_32 : decode cJ6_bitCount_0f7a4 32 = .ok (.iand, 1) := by decide +kernel
theorem dJ6_bitCount_0f7a4_33 : decode cJ6_bitCount_0f7a4 33 = .ok (.istore_n 0, 1) := by decide +kernel
theorem dJ6_bitCount_0f7a4_34 : decode cJ6_bitCount_0f7a4 34 = .ok (.iload_n 0, 1) := by decide +kernel
theorem dJ6_bitCount_0f7a4_35 : decode cJ6_bitCount_0f7a4 35 = .ok (.iload_n 0, 1) := by decide +kernel
theorem dJ6_bitCount_0f7a4_36 : decode cJ6_bitCount_0f7a4 36 = .ok (.bipush 8, 2) := by decide +kernel
theorem dJ6_bitCount_0f7a4_38 : decode cJ6_bitCount_0f7a4 38 = .ok (.iushr, 1) := by decide +kernel
theorem dJ6_bitCount_0f7a4_39 : decode cJ6_bitCount_0f7a4 39 = .ok (.iadd, 1) := by decide +kernel
theorem dJ6_bitCount_0f7a4_40 : decode cJ6_bitCount_0f7a4 40 = .ok (.istore_n 0, 1) := by decide +kernel
theorem dJ6_bitCount_0f7a4_41 : decode cJ6_bitCount_0f7a4 41 = .ok (.iload_n 0, 1) := by decide +kernel
theorem dJ6_bitCount_0f7a4_42 : decode cJ6_bitCount_0f7a4 42 = .ok (.iload_n 0, 1) := by decide +kernel
theorem dJ6_bitCount_0f7a4_43 : decode cJ6_bitCount_0f7a4 43 = .ok (.bipush 16, 2) := by decide +kernel
theorem dJ6_bitCount_0f7a4_45 : decode cJ6_bitCount_0f7a4 45 = .ok (.iushr, 1) := by decide +kernel
theorem dJ6_bitCount_0f7a4_46 : decode cJ6_bitCount_0f7a4 46 = .ok (.iadd, 1) := by decide +kernel
theorem dJ6_bitCount_0f7a4_47 : decode cJ6_bitCount_0f7a4 47 = .ok (.istore_n 0, 1) := by decide +kernel
theorem dJ6_bitCount_0f7a4_48 : decode cJ6_bitCount_0f7a4 48 = .ok (.iload_n 0, 1) := by decide +kernel
theorem dJ6_bitCount_0f7a4_49 : decode cJ6_bitCount_0f7a4 49 = .ok (.bipush 63, 2) := by decide +kernel
theorem dJ6_bitCount_0f7a4_51 : decode cJ6_bitCount_0f7a4 51 = .ok (.iand, 1) := by decide +kernel
theorem dJ6_bitCount_0f7a4_52 : decode cJ6_bitCount_0f7a4 52 = .ok (.ireturn, 1) := by decide +kernel
theorem dL_cell_0 : decode cL_cell 0 = .ok (.iload_n 1, 1) := by decide +kernel
theorem dL_cell_1 : decode cL_cell 1 = .ok (.aload_n 0, 1) := by decide +kernel
theorem dL_cell_2 : decode cL_cell 2 = .ok (.arraylength, 1) := by decide +kernel
theorem dL_cell_3 : decode cL_cell 3 = .ok (.if_icmp .ge 9, 3) := by decide +kernel
theorem dL_cell_6 : decode cL_cell 6 = .ok (.aload_n 0, 1) := by decide +kernel
theorem dL_cell_7 : decode cL_cell 7 = .ok (.iload_n 1, 1) := by decide +kernel
theorem dL_cell_8 : decode cL_cell 8 = .ok (.iaload, 1) := by decide +kernel
theorem dL_cell_9 : decode cL_cell 9 = .ok (.goto 9, 3) := by decide +kernel
theorem dL_cell_12 : decode cL_cell 12 = .ok (.ldc 7, 2) := by decide +kernel
theorem dL_cell_14 : decode cL_cell 14 = .ok (.iload_n 1, 1) := by decide +kernel
theorem dL_cell_15 : decode cL_cell 15 = .ok (.iconst 3, 1) := by decide +kernel
theorem dL_cell_16 : decode cL_cell 16 = .ok (.iadd, 1) := by decide +kernel
theorem dL_cell_17 : decode cL_cell 17 = .ok (.imul, 1) := by decide +kernel
theorem dL_cell_18 : decode cL_cell 18 = .ok (.ireturn, 1) := by decide +kernel
theorem dL_number_0 : decode cL_number 0 = .ok (.iload_n 0, 1) := by decide +kernel
theorem dL_number_1 : decode cL_number 1 = .ok (.bipush 16, 2) := by decide +kernel
theorem dL_number_3 : decode cL_number 3 = .ok (.idiv, 1) := by decide +kernel
theorem dL_number_4 : decode cL_number 4 = .ok (.bipush 10, 2) := by decide +kernel
theorem dL_number_6 : decode cL_number 6 = .ok (.imul, 1) := by decide +kernel
theorem dL_number_7 : decode cL_number 7 = .ok (.iload_n 0, 1) := by decide +kernel
theorem dL_number_8 : decode cL_number 8 = .ok (.bipush 16, 2) := by decide +kernel
theorem dL_number_10 : decode cL_number 10 = .ok (.irem, 1) := by decide +kernel
theorem dL_number_11 : decode cL_number 11 = .ok (.iadd, 1) := by decide +kernel
theorem dL_number_12 : decode cL_number 12 = .ok (.ireturn, 1) := by decide +kernel
theorem dL_isCode_0 : decode cL_isCode 0 = .ok (.iload_n 0, 1) := by decide +kernel
theorem dL_isCode_1 : decode cL_isCode 1 = .ok (.bipush 16, 2) := by decide +kernel
theorem dL_isCode_3 : decode cL_isCode 3 = .ok (.irem, 1) := by decide +kernel
theorem dL_isCode_4 : decode cL_isCode 4 = .ok (.bipush 10, 2) := by decide +kernel
theorem dL_isCode_6 : decode cL_isCode 6 = .ok (.if_icmp .ge 32, 3) := by decide +kernel
theorem dL_isCode_9 : decode cL_isCode 9 = .ok (.iload_n 0, 1) := by decide +kernel
theorem dL_isCode_10 : decode cL_isCode 10 = .ok (.bipush 16, 2) := by decide +kernel
theorem dL_isCode_12 : decode cL_isCode 12 = .ok (.idiv, 1) := by decide +kernel
theorem dL_isCode_13 : decode cL_isCode 13 = .ok (.bipush 10, 2) := by decide +kernel
theorem dL_isCode_15 : decode cL_isCode 15 = .ok (.if_icmp .ge 23, 3) := by decide +kernel
theorem dL_isCode_18 : decode cL_isCode 18 = .ok (.iload_n 0, 1) := by decide +kernel
theorem dL_isCode_19 : decode cL_isCode 19 = .ok (.invokestatic 9, 3) := by decide +kernel
theorem dL_isCode_22 : decode cL_isCode 22 = .ok (.iload_n 1, 1) := by decide +kernel
theorem dL_isCode_23 : decode cL_isCode 23 = .ok (.if_icmp .lt 15, 3) := by decide +kernel
theorem dL_isCode_26 : decode cL_isCode 26 = .ok (.iload_n 0, 1) := by decide +kernel
theorem dL_isCode_27 : decode cL_isCode 27 = .ok (.invokestatic 9, 3) := by decide +kernel
theorem dL_isCode_30 : decode cL_isCode 30 = .ok (.iload_n 2, 1) := by decide +kernel
theorem dL_isCode_31 : decode cL_isCode 31 = .ok (.if_icmp .gt 7, 3) := by decide +kernel
theorem dL_isCode_34 : decode cL_isCode 34 = .ok (.iconst 1, 1) := by decide +kernel
theorem dL_isCode_35 : decode cL_isCode 35 = .ok (.goto 4, 3) := by decide +kernel
theorem dL_isCode_38 : decode cL_isCode 38 = .ok (.iconst 0, 1) := by decide +kernel
theorem dL_isCode_39 : decode cL_isCode 39 = .ok (.ireturn, 1) := by decide +kernel
theorem dL_month_0 : decode cL_month 0 = .ok (.aload_n 0, 1) := by decide +kernel
theorem dL_month_1 : decode cL_month 1 = .ok (.iconst 5, 1) := by decide +kernel
theorem dL_month_2 : decode cL_month 2 = .ok (.iaload, 1) := by decide +kernel
theorem dL_month_3 : decode cL_month 3 = .ok (.iconst 1, 1) := by decide +kernel
theorem dL_month_4 : decode cL_month 4 = .ok (.bipush 12, 2) := by decide +kernel
theorem dL_month_6 : decode cL_month 6 = .ok (.invokestatic 15, 3) := by decide +kernel
theorem dL_month_9 : decode cL_month 9 = .ok (.ifCond .ne 6, 3) := by decide +kernel
theorem dL_month_12 : decode cL_month 12 = .ok (.bipush 31, 2) := by decide +kernel
theorem dL_month_14 : decode cL_month 14 = .ok (.ireturn, 1) := by decide +kernel
theorem dL_month_15 : decode cL_month 15 = .ok (.aload_n 0, 1) := by decide +kernel
theorem dL_month_16 : decode cL_month 16 = .ok (.iconst 5, 1) := by decide +kernel
theorem dL_month_17 : decode cL_month 17 = .ok (.iaload, 1) := by decide +kernel
theorem dL_month_18 : decode cL_month 18 = .ok (.invokestatic 9, 3) := by decide +kernel
theorem dL_month_21 : decode cL_month 21 = .ok (.istore_n 1, 1) := by decide +kernel
theorem dL_month_22 : decode cL_month 22 = .ok (.aload_n 0, 1) := by decide +kernel
theorem dL_month_23 : decode cL_month 23 = .ok (.bipush 6, 2) := by decide +kernel
theorem dL_month_25 : decode cL_month 25 = .ok (.iaload, 1) := by decide +kernel
theorem dL_month_26 : decode cL_month 26 = .ok (.iconst 0, 1) := by decide +kernel
theorem dL_month_27 : decode cL_month 27 = .ok (.bipush 99, 2) := by decide +kernel
theorem dL_month_29 : decode cL_month 29 = .ok (.invokestatic 15, 3) := by decide +kernel
theorem dL_month_32 : decode cL_month 32 = .ok (.ifCond .eq 19, 3) := by decide +kernel
theorem dL_month_35 : decode cL_month 35 = .ok (.aload_n 0, 1) := by decide +kernel
theorem dL_month_36 : decode cL_month 36 = .ok (.bipush 6, 2) := by decide +kernel
theorem dL_month_38 : decode cL_month 38 = .ok (.iaload, 1) := by decide +kernel
theorem dL_month_39 : decode cL_month 39 = .ok (.invokestatic 9, 3) := by decide +kernel
theorem dL_month_42 : decode cL_month 42 = .ok (.iconst 4, 1) := by decide +kernel
theorem dL_month_43 : decode cL_month 43 = .ok (.irem, 1) := by decide +kernel
theorem dL_month_44 : decode cL_month 44 = .ok (.ifCond .ne 7, 3) := by decide +kernel
theorem dL_month_47 : decode cL_month 47 = .ok (.iconst 1, 1) := by decide +kernel
theorem dL_month_48 : decode cL_month 48 = .ok (.goto 4, 3) := by decide +kernel
theorem dL_month_51 : decode cL_month 51 = .ok (.iconst 0, 1) := by decide +kernel
theorem dL_month_52 : decode cL_month 52 = .ok (.istore_n 2, 1) := by decide +kernel
theorem dL_month_53 : decode cL_month 53 = .ok (.iload_n 1, 1) := by decide +kernel
theorem dL_month_54 : decode cL_month 54 = .ok (.iconst 2, 1) := by decide +kernel
theorem dL_month_55 : decode cL_month 55 = .ok (.if_icmp .ne 17, 3) := by decide +kernel
theorem dL_month_58 : decode cL_month 58 = .ok (.iload_n 2, 1) := by decide +kernel
theorem dL_month_59 : decode cL_month 59 = .ok (.ifCond .eq 8, 3) := by decide +kernel
theorem dL_month_62 : decode cL_month 62 = .ok (.bipush 29, 2) := by decide +kernel
theorem dL_month_64 : decode cL_month 64 = .ok (.goto 38, 3) := by decide +kernel
theorem dL_month_67 : decode cL_month 67 = .ok (.bipush 28, 2) := by decide +kernel
theorem dL_month_69 : decode cL_month 69 = .ok (.goto 33, 3) := by decide +kernel
theorem dL_month_72 : decode cL_month 72 = .ok (.iload_n 1, 1) := by decide +kernel
theorem dL_month_73 : decode cL_month 73 = .ok (.iconst 4, 1) := by decide +kernel
theorem dL_month_74 : decode cL_month 74 = .ok (.if_icmp .eq 21, 3) := by decide +kernel
theorem dL_month_77 : decode cL_month 77 = .ok (.iload_n 1, 1) := by decide +kernel
theorem dL_month_78 : decode cL_month 78 = .ok (.bipush 6, 2) := by decide +kernel
theorem dL_month_80 : decode cL_month 80 = .ok (.if_icmp .eq 15, 3) := by decide +kernel
theorem dL_month_83 : decode cL_month 83 = .ok (.iload_n 1, 1) := by decide +kernel
theorem dL_month_84 : decode cL_month 84 = .ok (.bipush 9, 2) := by decide +kernel
theorem dL_month_86 : decode cL_month 86 = .ok (.if_icmp .eq 9, 3) := by decide +kernel
theorem dL_month_89 : decode cL_month 89 = .ok (.iload_n 1, 1) := by decide +kernel
theorem dL_month_90 : decode cL_month 90 = .ok (.bipush 11, 2) := by decide +kernel
theorem dL_month_92 : decode cL_month 92 = .ok (.if_icmp .ne 8, 3) := by decide +kernel
theorem dL_month_95 : decode cL_month 95 = .ok (.bipush 30, 2) := by decide +kernel
theorem dL_month_97 : decode cL_month 97 = .ok (.goto 5, 3) := by decide +kernel
theorem dL_month_100 : decode cL_month 100 = .ok (.bipush 31, 2) := by decide +kernel
theorem dL_month_102 : decode cL_month 102 = .ok (.ireturn, 1) := by decide +kernel
theorem dL_most_0 : decode cL_most 0 = .ok (.iload_n 1, 1) := by decide +kernel
theorem dL_most_1 : decode cL_most 1 = .ok (.iconst 2, 1) := by decide +kernel
theorem dL_most_2 : decode cL_most 2 = .ok (.if_icmp .ge 8, 3) := by decide +kernel
theorem dL_most_5 : decode cL_most 5 = .ok (.bipush 59, 2) := by decide +kernel
theorem dL_most_7 : decode cL_most 7 = .ok (.goto 47, 3) := by decide +kernel
theorem dL_most_10 : decode cL_most 10 = .ok (.iload_n 1, 1) := by decide +kernel
theorem dL_most_11 : decode cL_most 11 = .ok (.iconst 2, 1) := by decide +kernel
theorem dL_most_12 : decode cL_most 12 = .ok (.if_icmp .ne 8, 3) := by decide +kernel
theorem dL_most_15 : decode cL_most 15 = .ok (.bipush 23, 2) := by decide +kernel
theorem dL_most_17 : decode cL_most 17 = .ok (.goto 37, 3) := by decide +kernel
theorem dL_most_20 : decode cL_most 20 = .ok (.iload_n 1, 1) := by decide +kernel
theorem dL_most_21 : decode cL_most 21 = .ok (.iconst 3, 1) := by decide +kernel
theorem dL_most_22 : decode cL_most 22 = .ok (.if_icmp .ne 8, 3) := by decide +kernel
theorem dL_most_25 : decode cL_most 25 = .ok (.bipush 7, 2) := by decide +kernel
theorem dL_most_27 : decode cL_most 27 = .ok (.goto 27, 3) := by decide +kernel
theorem dL_most_30 : decode cL_most 30 = .ok (.iload_n 1, 1) := by decide +kernel
theorem dL_most_31 : decode cL_most 31 = .ok (.iconst 4, 1) := by decide +kernel
theorem dL_most_32 : decode cL_most 32 = .ok (.if_icmp .ne 10, 3) := by decide +kernel
theorem dL_most_35 : decode cL_most 35 = .ok (.aload_n 0, 1) := by decide +kernel
theorem dL_most_36 : decode cL_most 36 = .ok (.invokestatic 19, 3) := by decide +kernel
theorem dL_most_39 : decode cL_most 39 = .ok (.goto 15, 3) := by decide +kernel
theorem dL_most_42 : decode cL_most 42 = .ok (.iload_n 1, 1) := by decide +kernel
theorem dL_most_43 : decode cL_most 43 = .ok (.iconst 5, 1) := by decide +kernel
theorem dL_most_44 : decode cL_most 44 = .ok (.if_icmp .ne 8, 3) := by decide +kernel
theorem dL_most_47 : decode cL_most 47 = .ok (.bipush 12, 2) := by decide +kernel
theorem dL_most_49 : decode cL_most 49 = .ok (.goto 5, 3) := by decide +kernel
theorem dL_most_52 : decode cL_most 52 = .ok (.bipush 99, 2) := by decide +kernel
theorem dL_most_54 : decode cL_most 54 = .ok (.ireturn, 1) := by decide +kernel
theorem dL_least_0 : decode cL_least 0 = .ok (.iload_n 0, 1) := by decide +kernel
theorem dL_least_1 : decode cL_least 1 = .ok (.iconst 2, 1) := by decide +kernel
theorem dL_least_2 : decode cL_least 2 = .ok (.if_icmp .le 13, 3) := by decide +kernel
theorem dL_least_5 : decode cL_least 5 = .ok (.iload_n 0, 1) := by decide +kernel
theorem dL_least_6 : decode cL_least 6 = .ok (.bipush 6, 2) := by decide +kernel
theorem dL_least_8 : decode cL_least 8 = .ok (.if_icmp .ge 7, 3) := by decide +kernel
theorem dL_least_11 : decode cL_least 11 = .ok (.iconst 1, 1) := by decide +kernel
theorem dL_least_12 : decode cL_least 12 = .ok (.goto 4, 3) := by decide +kernel
theorem dL_least_15 : decode cL_least 15 = .ok (.iconst 0, 1) := by decide +kernel
theorem dL_least_16 : decode cL_least 16 = .ok (.ireturn, 1) := by decide +kernel
theorem dL_put_0 : decode cL_put 0 = .ok (.iconst 0, 1) := by decide +kernel
theorem dL_put_1 : decode cL_put 1 = .ok (.istore 5, 2) := by decide +kernel
theorem dL_put_3 : decode cL_put 3 = .ok (.iconst 0, 1) := by decide +kernel
theorem dL_put_4 : decode cL_put 4 = .ok (.istore 6, 2) := by decide +kernel
theorem dL_put_6 : decode cL_put 6 = .ok (.iload 6, 2) := by decide +kernel
theorem dL_put_8 : decode cL_put 8 = .ok (.bipush 8, 2) := by decide +kernel
theorem dL_put_10 : decode cL_put 10 = .ok (.if_icmp .ge 47, 3) := by decide +kernel
theorem dL_put_13 : decode cL_put 13 = .ok (.iload 5, 2) := by decide +kernel
theorem dL_put_15 : decode cL_put 15 = .ok (.aload_n 1, 1) := by decide +kernel
theorem dL_put_16 : decode cL_put 16 = .ok (.iload_n 3, 1) := by decide +kernel
theorem dL_put_17 : decode cL_put 17 = .ok (.iaload, 1) := by decide +kernel
theorem dL_put_18 : decode cL_put 18 = .ok (.iload 6, 2) := by decide +kernel
theorem dL_put_20 : decode cL_put 20 = .ok (.ishr, 1) := by decide +kernel
theorem dL_put_21 : decode cL_put 21 = .ok (.iconst 1, 1) := by decide +kernel
theorem dL_put_22 : decode cL_put 22 = .ok (.iand, 1) := by decide +kernel
theorem dL_put_23 : decode cL_put 23 = .ok (.iconst 1, 1) := by decide +kernel
theorem dL_put_24 : decode cL_put 24 = .ok (.if_icmp .ne 14, 3) := by decide +kernel
theorem dL_put_27 : decode cL_put 27 = .ok (.aload_n 2, 1) := by decide +kernel
theorem dL_put_28 : decode cL_put 28 = .ok (.iload_n 3, 1) := by decide +kernel
theorem dL_put_29 : decode cL_put 29 = .ok (.iaload, 1) := by decide +kernel
theorem dL_put_30 : decode cL_put 30 = .ok (.iload 6, 2) := by decide +kernel
theorem dL_put_32 : decode cL_put 32 = .ok (.ishr, 1) := by decide +kernel
theorem dL_put_33 : decode cL_put 33 = .ok (.iconst 1, 1) := by decide +kernel
theorem dL_put_34 : decode cL_put 34 = .ok (.iand, 1) := by decide +kernel
theorem dL_put_35 : decode cL_put 35 = .ok (.goto 10, 3) := by decide +kernel
theorem dL_put_38 : decode cL_put 38 = .ok (.iload 4, 2) := by decide +kernel
theorem dL_put_40 : decode cL_put 40 = .ok (.iload 6, 2) := by decide +kernel
theorem dL_put_42 : decode cL_put 42 = .ok (.ishr, 1) := by decide +kernel
theorem dL_put_43 : decode cL_put 43 = .ok (.iconst 1, 1) := by decide +kernel
theorem dL_put_44 : decode cL_put 44 = .ok (.iand, 1) := by decide +kernel
theorem dL_put_45 : decode cL_put 45 = .ok (.iload 6, 2) := by decide +kernel
theorem dL_put_47 : decode cL_put 47 = .ok (.ishl, 1) := by decide +kernel
theorem dL_put_48 : decode cL_put 48 = .ok (.iadd, 1) := by decide +kernel
theorem dL_put_49 : decode cL_put 49 = .ok (.istore 5, 2) := by decide +kernel
theorem dL_put_51 : decode cL_put 51 = .ok (.iinc 6 1, 3) := by decide +kernel
theorem dL_put_54 : decode cL_put 54 = .ok (.goto (-48), 3) := by decide +kernel
theorem dL_put_57 : decode cL_put 57 = .ok (.aload_n 0, 1) := by decide +kernel
theorem dL_put_58 : decode cL_put 58 = .ok (.iload_n 3, 1) := by decide +kernel
theorem dL_put_59 : decode cL_put 59 = .ok (.iload 5, 2) := by decide +kernel
theorem dL_put_61 : decode cL_put 61 = .ok (.iastore, 1) := by decide +kernel
theorem dL_put_62 : decode cL_put 62 = .ok (.return_, 1) := by decide +kernel
theorem dL_next_0 : decode cL_next 0 = .ok (.aload_n 0, 1) := by decide +kernel
theorem dL_next_1 : decode cL_next 1 = .ok (.iload_n 1, 1) := by decide +kernel
theorem dL_next_2 : decode cL_next 2 = .ok (.iaload, 1) := by decide +kernel
theorem dL_next_3 : decode cL_next 3 = .ok (.iload_n 1, 1) := by decide +kernel
theorem dL_next_4 : decode cL_next 4 = .ok (.invokestatic 23, 3) := by decide +kernel
theorem dL_next_7 : decode cL_next 7 = .ok (.aload_n 0, 1) := by decide +kernel
theorem dL_next_8 : decode cL_next 8 = .ok (.iload_n 1, 1) := by decide +kernel
theorem dL_next_9 : decode cL_next 9 = .ok (.invokestatic 26, 3) := by decide +kernel
theorem dL_next_12 : decode cL_next 12 = .ok (.invokestatic 15, 3) := by decide +kernel
theorem dL_next_15 : decode cL_next 15 = .ok (.ifCond .eq 22, 3) := by decide +kernel
theorem dL_next_18 : decode cL_next 18 = .ok (.aload_n 0, 1) := by decide +kernel
theorem dL_next_19 : decode cL_next 19 = .ok (.iload_n 1, 1) := by decide +kernel
theorem dL_next_20 : decode cL_next 20 = .ok (.iaload, 1) := by decide +kernel
theorem dL_next_21 : decode cL_next 21 = .ok (.invokestatic 9, 3) := by decide +kernel
theorem dL_next_24 : decode cL_next 24 = .ok (.aload_n 0, 1) := by decide +kernel
theorem dL_next_25 : decode cL_next 25 = .ok (.iload_n 1, 1) := by decide +kernel
theorem dL_next_26 : decode cL_next 26 = .ok (.invokestatic 26, 3) := by decide +kernel
theorem dL_next_29 : decode cL_next 29 = .ok (.if_icmp .ne 8, 3) := by decide +kernel
theorem dL_next_32 : decode cL_next 32 = .ok (.iload_n 1, 1) := by decide +kernel
theorem dL_next_33 : decode cL_next 33 = .ok (.invokestatic 23, 3) := by decide +kernel
theorem dL_next_36 : decode cL_next 36 = .ok (.ireturn, 1) := by decide +kernel
theorem dL_next_37 : decode cL_next 37 = .ok (.aload_n 0, 1) := by decide +kernel
theorem dL_next_38 : decode cL_next 38 = .ok (.iload_n 1, 1) := by decide +kernel
theorem dL_next_39 : decode cL_next 39 = .ok (.iaload, 1) := by decide +kernel
theorem dL_next_40 : decode cL_next 40 = .ok (.bipush 16, 2) := by decide +kernel
theorem dL_next_42 : decode cL_next 42 = .ok (.irem, 1) := by decide +kernel
theorem dL_next_43 : decode cL_next 43 = .ok (.istore_n 2, 1) := by decide +kernel
theorem dL_next_44 : decode cL_next 44 = .ok (.iload_n 2, 1) := by decide +kernel
theorem dL_next_45 : decode cL_next 45 = .ok (.bipush 9, 2) := by decide +kernel
theorem dL_next_47 : decode cL_next 47 = .ok (.if_icmp .ge 11, 3) := by decide +kernel
theorem dL_next_50 : decode cL_next 50 = .ok (.aload_n 0, 1) := by decide +kernel
theorem dL_next_51 : decode cL_next 51 = .ok (.iload_n 1, 1) := by decide +kernel
theorem dL_next_52 : decode cL_next 52 = .ok (.iaload, 1) := by decide +kernel
theorem dL_next_53 : decode cL_next 53 = .ok (.iconst 1, 1) := by decide +kernel
theorem dL_next_54 : decode cL_next 54 = .ok (.iadd, 1) := by decide +kernel
theorem dL_next_55 : decode cL_next 55 = .ok (.goto 15, 3) := by decide +kernel
theorem dL_next_58 : decode cL_next 58 = .ok (.aload_n 0, 1) := by decide +kernel
theorem dL_next_59 : decode cL_next 59 = .ok (.iload_n 1, 1) := by decide +kernel
theorem dL_next_60 : decode cL_next 60 = .ok (.iaload, 1) := by decide +kernel
theorem dL_next_61 : decode cL_next 61 = .ok (.bipush 16, 2) := by decide +kernel
theorem dL_next_63 : decode cL_next 63 = .ok (.iadd, 1) := by decide +kernel
theorem dL_next_64 : decode cL_next 64 = .ok (.iload_n 2, 1) := by decide +kernel
theorem dL_next_65 : decode cL_next 65 = .ok (.isub, 1) := by decide +kernel
theorem dL_next_66 : decode cL_next 66 = .ok (.sipush 255, 3) := by decide +kernel
theorem dL_next_69 : decode cL_next 69 = .ok (.iand, 1) := by decide +kernel
theorem dL_next_70 : decode cL_next 70 = .ok (.ireturn, 1) := by decide +kernel
theorem dL_step_0 : decode cL_step 0 = .ok (.aload_n 0, 1) := by decide +kernel
theorem dL_step_1 : decode cL_step 1 = .ok (.iload 4, 2) := by decide +kernel
theorem dL_step_3 : decode cL_step 3 = .ok (.iaload, 1) := by decide +kernel
theorem dL_step_4 : decode cL_step 4 = .ok (.iload 4, 2) := by decide +kernel
theorem dL_step_6 : decode cL_step 6 = .ok (.invokestatic 23, 3) := by decide +kernel
theorem dL_step_9 : decode cL_step 9 = .ok (.aload_n 0, 1) := by decide +kernel
theorem dL_step_10 : decode cL_step 10 = .ok (.iload 4, 2) := by decide +kernel
theorem dL_step_12 : decode cL_step 12 = .ok (.invokestatic 26, 3) := by decide +kernel
theorem dL_step_15 : decode cL_step 15 = .ok (.invokestatic 15, 3) := by decide +kernel
theorem dL_step_18 : decode cL_step 18 = .ok (.ifCond .eq 23, 3) := by decide +kernel
theorem dL_step_21 : decode cL_step 21 = .ok (.aload_n 0, 1) := by decide +kernel
theorem dL_step_22 : decode cL_step 22 = .ok (.iload 4, 2) := by decide +kernel
theorem dL_step_24 : decode cL_step 24 = .ok (.iaload, 1) := by decide +kernel
theorem dL_step_25 : decode cL_step 25 = .ok (.invokestatic 9, 3) := by decide +kernel
theorem dL_step_28 : decode cL_step 28 = .ok (.aload_n 0, 1) := by decide +kernel
theorem dL_step_29 : decode cL_step 29 = .ok (.iload 4, 2) := by decide +kernel
theorem dL_step_31 : decode cL_step 31 = .ok (.invokestatic 26, 3) := by decide +kernel
theorem dL_step_34 : decode cL_step 34 = .ok (.if_icmp .ne 7, 3) := by decide +kernel
theorem dL_step_37 : decode cL_step 37 = .ok (.iconst 1, 1) := by decide +kernel
theorem dL_step_38 : decode cL_step 38 = .ok (.goto 4, 3) := by decide +kernel
theorem dL_step_41 : decode cL_step 41 = .ok (.iconst 0, 1) := by decide +kernel
theorem dL_step_42 : decode cL_step 42 = .ok (.istore 5, 2) := by decide +kernel
theorem dL_step_44 : decode cL_step 44 = .ok (.aload_n 0, 1) := by decide +kernel
theorem dL_step_45 : decode cL_step 45 = .ok (.aload_n 1, 1) := by decide +kernel
theorem dL_step_46 : decode cL_step 46 = .ok (.aload_n 2, 1) := by decide +kernel
theorem dL_step_47 : decode cL_step 47 = .ok (.iload 4, 2) := by decide +kernel
theorem dL_step_49 : decode cL_step 49 = .ok (.aload_n 0, 1) := by decide +kernel
theorem dL_step_50 : decode cL_step 50 = .ok (.iload 4, 2) := by decide +kernel
theorem dL_step_52 : decode cL_step 52 = .ok (.invokestatic 30, 3) := by decide +kernel
theorem dL_step_55 : decode cL_step 55 = .ok (.invokestatic 33, 3) := by decide +kernel
theorem dL_step_58 : decode cL_step 58 = .ok (.aload_n 3, 1) := by decide +kernel
theorem dL_step_59 : decode cL_step 59 = .ok (.iload 4, 2) := by decide +kernel
theorem dL_step_61 : decode cL_step 61 = .ok (.dup2, 1) := by decide +kernel
theorem dL_step_62 : decode cL_step 62 = .ok (.iaload, 1) := by decide +kernel
theorem dL_step_63 : decode cL_step 63 = .ok (.iload 5, 2) := by decide +kernel
theorem dL_step_65 : decode cL_step 65 = .ok (.ifCond .eq 7, 3) := by decide +kernel
theorem dL_step_68 : decode cL_step 68 = .ok (.iconst 1, 1) := by decide +kernel
theorem dL_step_69 : decode cL_step 69 = .ok (.goto 4, 3) := by decide +kernel
theorem dL_step_72 : decode cL_step 72 = .ok (.iconst 0, 1) := by decide +kernel
theorem dL_step_73 : decode cL_step 73 = .ok (.iadd, 1) := by decide +kernel
theorem dL_step_74 : decode cL_step 74 = .ok (.iastore, 1) := by decide +kernel
theorem dL_step_75 : decode cL_step 75 = .ok (.iload 5, 2) := by decide +kernel
theorem dL_step_77 : decode cL_step 77 = .ok (.ireturn, 1) := by decide +kernel
theorem dL_matches_0 : decode cL_matches 0 = .ok (.iconst 0, 1) := by decide +kernel
theorem dL_matches_1 : decode cL_matches 1 = .ok (.istore_n 3, 1) := by decide +kernel
theorem dL_matches_2 : decode cL_matches 2 = .ok (.iload_n 3, 1) := by decide +kernel
theorem dL_matches_3 : decode cL_matches 3 = .ok (.iconst 5, 1) := by decide +kernel
theorem dL_matches_4 : decode cL_matches 4 = .ok (.if_icmp .ge 40, 3) := by decide +kernel
theorem dL_matches_7 : decode cL_matches 7 = .ok (.aload_n 1, 1) := by decide +kernel
theorem dL_matches_8 : decode cL_matches 8 = .ok (.bipush 9, 2) := by decide +kernel
theorem dL_matches_10 : decode cL_matches 10 = .ok (.iload_n 2, 1) := by decide +kernel
theorem dL_matches_11 : decode cL_matches 11 = .ok (.imul, 1) := by decide +kernel
theorem dL_matches_12 : decode cL_matches 12 = .ok (.iconst 5, 1) := by decide +kernel
theorem dL_matches_13 : decode cL_matches 13 = .ok (.iadd, 1) := by decide +kernel
theorem dL_matches_14 : decode cL_matches 14 = .ok (.iaload, 1) := by decide +kernel
theorem dL_matches_15 : decode cL_matches 15 = .ok (.iload_n 3, 1) := by decide +kernel
theorem dL_matches_16 : decode cL_matches 16 = .ok (.ishr, 1) := by decide +kernel
theorem dL_matches_17 : decode cL_matches 17 = .ok (.iconst 1, 1) := by decide +kernel
theorem dL_matches_18 : decode cL_matches 18 = .ok (.iand, 1) := by decide +kernel
theorem dL_matches_19 : decode cL_matches 19 = .ok (.ifCond .ne 19, 3) := by decide +kernel
theorem dL_matches_22 : decode cL_matches 22 = .ok (.aload_n 1, 1) := by decide +kernel
theorem dL_matches_23 : decode cL_matches 23 = .ok (.bipush 9, 2) := by decide +kernel
theorem dL_matches_25 : decode cL_matches 25 = .ok (.iload_n 2, 1) := by decide +kernel
theorem dL_matches_26 : decode cL_matches 26 = .ok (.imul, 1) := by decide +kernel
theorem dL_matches_27 : decode cL_matches 27 = .ok (.iload_n 3, 1) := by decide +kernel
theorem dL_matches_28 : decode cL_matches 28 = .ok (.iadd, 1) := by decide +kernel
theorem dL_matches_29 : decode cL_matches 29 = .ok (.iaload, 1) := by decide +kernel
theorem dL_matches_30 : decode cL_matches 30 = .ok (.aload_n 0, 1) := by decide +kernel
theorem dL_matches_31 : decode cL_matches 31 = .ok (.iload_n 3, 1) := by decide +kernel
theorem dL_matches_32 : decode cL_matches 32 = .ok (.iaload, 1) := by decide +kernel
theorem dL_matches_33 : decode cL_matches 33 = .ok (.if_icmp .eq 5, 3) := by decide +kernel
theorem dL_matches_36 : decode cL_matches 36 = .ok (.iconst 0, 1) := by decide +kernel
theorem dL_matches_37 : decode cL_matches 37 = .ok (.ireturn, 1) := by decide +kernel
theorem dL_matches_38 : decode cL_matches 38 = .ok (.iinc 3 1, 3) := by decide +kernel
theorem dL_matches_41 : decode cL_matches 41 = .ok (.goto (-39), 3) := by decide +kernel
theorem dL_matches_44 : decode cL_matches 44 = .ok (.iconst 1, 1) := by decide +kernel
theorem dL_matches_45 : decode cL_matches 45 = .ok (.ireturn, 1) := by decide +kernel
theorem dL_phase_0 : decode cL_phase 0 = .ok (.aload 4, 2) := by decide +kernel
theorem dL_phase_2 : decode cL_phase 2 = .ok (.iconst 2, 1) := by decide +kernel
theorem dL_phase_3 : decode cL_phase 3 = .ok (.dup2, 1) := by decide +kernel
theorem dL_phase_4 : decode cL_phase 4 = .ok (.iaload, 1) := by decide +kernel
theorem dL_phase_5 : decode cL_phase 5 = .ok (.iconst 1, 1) := by decide +kernel
theorem dL_phase_6 : decode cL_phase 6 = .ok (.iadd, 1) := by decide +kernel
theorem dL_phase_7 : decode cL_phase 7 = .ok (.iastore, 1) := by decide +kernel
theorem dL_phase_8 : decode cL_phase 8 = .ok (.aload 4, 2) := by decide +kernel
theorem dL_phase_10 : decode cL_phase 10 = .ok (.iconst 0, 1) := by decide +kernel
theorem dL_phase_11 : decode cL_phase 11 = .ok (.dup2, 1) := by decide +kernel
theorem dL_phase_12 : decode cL_phase 12 = .ok (.iaload, 1) := by decide +kernel
theorem dL_phase_13 : decode cL_phase 13 = .ok (.iconst 1, 1) := by decide +kernel
theorem dL_phase_14 : decode cL_phase 14 = .ok (.iadd, 1) := by decide +kernel
theorem dL_phase_15 : decode cL_phase 15 = .ok (.iastore, 1) := by decide +kernel
theorem dL_phase_16 : decode cL_phase 16 = .ok (.aload 4, 2) := by decide +kernel
theorem dL_phase_18 : decode cL_phase 18 = .ok (.iconst 0, 1) := by decide +kernel
theorem dL_phase_19 : decode cL_phase 19 = .ok (.iaload, 1) := by decide +kernel
theorem dL_phase_20 : decode cL_phase 20 = .ok (.aload 4, 2) := by decide +kernel
theorem dL_phase_22 : decode cL_phase 22 = .ok (.bipush 10, 2) := by decide +kernel
theorem dL_phase_24 : decode cL_phase 24 = .ok (.iaload, 1) := by decide +kernel
theorem dL_phase_25 : decode cL_phase 25 = .ok (.if_icmp .ge 5, 3) := by decide +kernel
theorem dL_phase_28 : decode cL_phase 28 = .ok (.iconst 0, 1) := by decide +kernel
theorem dL_phase_29 : decode cL_phase 29 = .ok (.ireturn, 1) := by decide +kernel
theorem dL_phase_30 : decode cL_phase 30 = .ok (.aload 4, 2) := by decide +kernel
theorem dL_phase_32 : decode cL_phase 32 = .ok (.iconst 0, 1) := by decide +kernel
theorem dL_phase_33 : decode cL_phase 33 = .ok (.iconst 0, 1) := by decide +kernel
theorem dL_phase_34 : decode cL_phase 34 = .ok (.iastore, 1) := by decide +kernel
theorem dL_phase_35 : decode cL_phase 35 = .ok (.aload 4, 2) := by decide +kernel
theorem dL_phase_37 : decode cL_phase 37 = .ok (.iconst 1, 1) := by decide +kernel
theorem dL_phase_38 : decode cL_phase 38 = .ok (.dup2, 1) := by decide +kernel
theorem dL_phase_39 : decode cL_phase 39 = .ok (.iaload, 1) := by decide +kernel
theorem dL_phase_40 : decode cL_phase 40 = .ok (.iconst 1, 1) := by decide +kernel
theorem dL_phase_41 : decode cL_phase 41 = .ok (.iadd, 1) := by decide +kernel
theorem dL_phase_42 : decode cL_phase 42 = .ok (.iastore, 1) := by decide +kernel
theorem dL_phase_43 : decode cL_phase 43 = .ok (.aload_n 0, 1) := by decide +kernel
theorem dL_phase_44 : decode cL_phase 44 = .ok (.aload_n 1, 1) := by decide +kernel
theorem dL_phase_45 : decode cL_phase 45 = .ok (.aload_n 2, 1) := by decide +kernel
theorem dL_phase_46 : decode cL_phase 46 = .ok (.aload_n 3, 1) := by decide +kernel
theorem dL_phase_47 : decode cL_phase 47 = .ok (.iconst 0, 1) := by decide +kernel
theorem dL_phase_48 : decode cL_phase 48 = .ok (.invokestatic 37, 3) := by decide +kernel
theorem dL_phase_51 : decode cL_phase 51 = .ok (.ifCond .eq 76, 3) := by decide +kernel
theorem dL_phase_54 : decode cL_phase 54 = .ok (.aload_n 0, 1) := by decide +kernel
theorem dL_phase_55 : decode cL_phase 55 = .ok (.aload_n 1, 1) := by decide +kernel
theorem dL_phase_56 : decode cL_phase 56 = .ok (.aload_n 2, 1) := by decide +kernel
theorem dL_phase_57 : decode cL_phase 57 = .ok (.aload_n 3, 1) := by decide +kernel
theorem dL_phase_58 : decode cL_phase 58 = .ok (.iconst 1, 1) := by decide +kernel
theorem dL_phase_59 : decode cL_phase 59 = .ok (.invokestatic 37, 3) := by decide +kernel
theorem dL_phase_62 : decode cL_phase 62 = .ok (.ifCond .eq 65, 3) := by decide +kernel
theorem dL_phase_65 : decode cL_phase 65 = .ok (.aload_n 0, 1) := by decide +kernel
theorem dL_phase_66 : decode cL_phase 66 = .ok (.aload_n 1, 1) := by decide +kernel
theorem dL_phase_67 : decode cL_phase 67 = .ok (.aload_n 2, 1) := by decide +kernel
theorem dL_phase_68 : decode cL_phase 68 = .ok (.aload_n 3, 1) := by decide +kernel
theorem dL_phase_69 : decode cL_phase 69 = .ok (.iconst 2, 1) := by decide +kernel
theorem dL_phase_70 : decode cL_phase 70 = .ok (.invokestatic 37, 3) := by decide +kernel
theorem dL_phase_73 : decode cL_phase 73 = .ok (.ifCond .eq 54, 3) := by decide +kernel
theorem dL_phase_76 : decode cL_phase 76 = .ok (.aload_n 0, 1) := by decide +kernel
theorem dL_phase_77 : decode cL_phase 77 = .ok (.aload_n 1, 1) := by decide +kernel
theorem dL_phase_78 : decode cL_phase 78 = .ok (.aload_n 2, 1) := by decide +kernel
theorem dL_phase_79 : decode cL_phase 79 = .ok (.aload_n 3, 1) := by decide +kernel
theorem dL_phase_80 : decode cL_phase 80 = .ok (.iconst 3, 1) := by decide +kernel
theorem dL_phase_81 : decode cL_phase 81 = .ok (.invokestatic 37, 3) := by decide +kernel
theorem dL_phase_84 : decode cL_phase 84 = .ok (.istore 6, 2) := by decide +kernel
theorem dL_phase_86 : decode cL_phase 86 = .ok (.aload_n 0, 1) := by decide +kernel
theorem dL_phase_87 : decode cL_phase 87 = .ok (.aload_n 1, 1) := by decide +kernel
theorem dL_phase_88 : decode cL_phase 88 = .ok (.aload_n 2, 1) := by decide +kernel
theorem dL_phase_89 : decode cL_phase 89 = .ok (.aload_n 3, 1) := by decide +kernel
theorem dL_phase_90 : decode cL_phase 90 = .ok (.iconst 4, 1) := by decide +kernel
theorem dL_phase_91 : decode cL_phase 91 = .ok (.invokestatic 37, 3) := by decide +kernel
theorem dL_phase_94 : decode cL_phase 94 = .ok (.ifCond .eq 30, 3) := by decide +kernel
theorem dL_phase_97 : decode cL_phase 97 = .ok (.aload_n 0, 1) := by decide +kernel
theorem dL_phase_98 : decode cL_phase 98 = .ok (.aload_n 1, 1) := by decide +kernel
theorem dL_phase_99 : decode cL_phase 99 = .ok (.aload_n 2, 1) := by decide +kernel
theorem dL_phase_100 : decode cL_phase 100 = .ok (.aload_n 3, 1) := by decide +kernel
theorem dL_phase_101 : decode cL_phase 101 = .ok (.iconst 5, 1) := by decide +kernel
theorem dL_phase_102 : decode cL_phase 102 = .ok (.invokestatic 37, 3) := by decide +kernel
theorem dL_phase_105 : decode cL_phase 105 = .ok (.ifCond .eq 19, 3) := by decide +kernel
theorem dL_phase_108 : decode cL_phase 108 = .ok (.aload_n 0, 1) := by decide +kernel
theorem dL_phase_109 : decode cL_phase 109 = .ok (.aload_n 1, 1) := by decide +kernel
theorem dL_phase_110 : decode cL_phase 110 = .ok (.aload_n 2, 1) := by decide +kernel
theorem dL_phase_111 : decode cL_phase 111 = .ok (.aload_n 3, 1) := by decide +kernel
theorem dL_phase_112 : decode cL_phase 112 = .ok (.bipush 6, 2) := by decide +kernel
theorem dL_phase_114 : decode cL_phase 114 = .ok (.invokestatic 37, 3) := by decide +kernel
theorem dL_phase_117 : decode cL_phase 117 = .ok (.ifCond .eq 7, 3) := by decide +kernel
theorem dL_phase_120 : decode cL_phase 120 = .ok (.iconst 1, 1) := by decide +kernel
theorem dL_phase_121 : decode cL_phase 121 = .ok (.goto 4, 3) := by decide +kernel
theorem dL_phase_124 : decode cL_phase 124 = .ok (.iconst 0, 1) := by decide +kernel
theorem dL_phase_125 : decode cL_phase 125 = .ok (.istore 7, 2) := by decide +kernel
theorem dL_phase_127 : decode cL_phase 127 = .ok (.iconst 0, 1) := by decide +kernel
theorem dL_phase_128 : decode cL_phase 128 = .ok (.istore 6, 2) := by decide +kernel
theorem dL_phase_130 : decode cL_phase 130 = .ok (.iload 6, 2) := by decide +kernel
theorem dL_phase_132 : decode cL_phase 132 = .ok (.iconst 3, 1) := by decide +kernel
theorem dL_phase_133 : decode cL_phase 133 = .ok (.if_icmp .ge 71, 3) := by decide +kernel
theorem dL_phase_136 : decode cL_phase 136 = .ok (.aload 5, 2) := by decide +kernel
theorem dL_phase_138 : decode cL_phase 138 = .ok (.bipush 9, 2) := by decide +kernel
theorem dL_phase_140 : decode cL_phase 140 = .ok (.iload 6, 2) := by decide +kernel
theorem dL_phase_142 : decode cL_phase 142 = .ok (.imul, 1) := by decide +kernel
theorem dL_phase_143 : decode cL_phase 143 = .ok (.bipush 6, 2) := by decide +kernel
theorem dL_phase_145 : decode cL_phase 145 = .ok (.iadd, 1) := by decide +kernel
theorem dL_phase_146 : decode cL_phase 146 = .ok (.iaload, 1) := by decide +kernel
theorem dL_phase_147 : decode cL_phase 147 = .ok (.iconst 1, 1) := by decide +kernel
theorem dL_phase_148 : decode cL_phase 148 = .ok (.if_icmp .ne 50, 3) := by decide +kernel
theorem dL_phase_151 : decode cL_phase 151 = .ok (.aload_n 0, 1) := by decide +kernel
theorem dL_phase_152 : decode cL_phase 152 = .ok (.aload 5, 2) := by decide +kernel
theorem dL_phase_154 : decode cL_phase 154 = .ok (.iload 6, 2) := by decide +kernel
theorem dL_phase_156 : decode cL_phase 156 = .ok (.invokestatic 41, 3) := by decide +kernel
theorem dL_phase_159 : decode cL_phase 159 = .ok (.ifCond .eq 39, 3) := by decide +kernel
theorem dL_phase_162 : decode cL_phase 162 = .ok (.aload 5, 2) := by decide +kernel
theorem dL_phase_164 : decode cL_phase 164 = .ok (.bipush 9, 2) := by decide +kernel
theorem dL_phase_166 : decode cL_phase 166 = .ok (.iload 6, 2) := by decide +kernel
theorem dL_phase_168 : decode cL_phase 168 = .ok (.imul, 1) := by decide +kernel
theorem dL_phase_169 : decode cL_phase 169 = .ok (.bipush 7, 2) := by decide +kernel
theorem dL_phase_171 : decode cL_phase 171 = .ok (.iadd, 1) := by decide +kernel
theorem dL_phase_172 : decode cL_phase 172 = .ok (.iconst 1, 1) := by decide +kernel
theorem dL_phase_173 : decode cL_phase 173 = .ok (.iastore, 1) := by decide +kernel
theorem dL_phase_174 : decode cL_phase 174 = .ok (.aload 5, 2) := by decide +kernel
theorem dL_phase_176 : decode cL_phase 176 = .ok (.bipush 9, 2) := by decide +kernel
theorem dL_phase_178 : decode cL_phase 178 = .ok (.iload 6, 2) := by decide +kernel
theorem dL_phase_180 : decode cL_phase 180 = .ok (.imul, 1) := by decide +kernel
theorem dL_phase_181 : decode cL_phase 181 = .ok (.bipush 8, 2) := by decide +kernel
theorem dL_phase_183 : decode cL_phase 183 = .ok (.iadd, 1) := by decide +kernel
theorem dL_phase_184 : decode cL_phase 184 = .ok (.dup2, 1) := by decide +kernel
theorem dL_phase_185 : decode cL_phase 185 = .ok (.iaload, 1) := by decide +kernel
theorem dL_phase_186 : decode cL_phase 186 = .ok (.iconst 1, 1) := by decide +kernel
theorem dL_phase_187 : decode cL_phase 187 = .ok (.iadd, 1) := by decide +kernel
theorem dL_phase_188 : decode cL_phase 188 = .ok (.iastore, 1) := by decide +kernel
theorem dL_phase_189 : decode cL_phase 189 = .ok (.aload 4, 2) := by decide +kernel
theorem dL_phase_191 : decode cL_phase 191 = .ok (.bipush 7, 2) := by decide +kernel
theorem dL_phase_193 : decode cL_phase 193 = .ok (.dup2, 1) := by decide +kernel
theorem dL_phase_194 : decode cL_phase 194 = .ok (.iaload, 1) := by decide +kernel
theorem dL_phase_195 : decode cL_phase 195 = .ok (.iconst 1, 1) := by decide +kernel
theorem dL_phase_196 : decode cL_phase 196 = .ok (.iadd, 1) := by decide +kernel
theorem dL_phase_197 : decode cL_phase 197 = .ok (.iastore, 1) := by decide +kernel
theorem dL_phase_198 : decode cL_phase 198 = .ok (.iinc 6 1, 3) := by decide +kernel
theorem dL_phase_201 : decode cL_phase 201 = .ok (.goto (-71), 3) := by decide +kernel
theorem dL_phase_204 : decode cL_phase 204 = .ok (.iconst 1, 1) := by decide +kernel
theorem dL_phase_205 : decode cL_phase 205 = .ok (.ireturn, 1) := by decide +kernel
theorem dL_reads_0 : decode cL_reads 0 = .ok (.iconst 1, 1) := by decide +kernel
theorem dL_reads_1 : decode cL_reads 1 = .ok (.istore 8, 2) := by decide +kernel
theorem dL_reads_3 : decode cL_reads 3 = .ok (.iconst 0, 1) := by decide +kernel
theorem dL_reads_4 : decode cL_reads 4 = .ok (.istore 9, 2) := by decide +kernel
theorem dL_reads_6 : decode cL_reads 6 = .ok (.iload 9, 2) := by decide +kernel
theorem dL_reads_8 : decode cL_reads 8 = .ok (.bipush 7, 2) := by decide +kernel
theorem dL_reads_10 : decode cL_reads 10 = .ok (.if_icmp .ge 18, 3) := by decide +kernel
theorem dL_reads_13 : decode cL_reads 13 = .ok (.aload 6, 2) := by decide +kernel
theorem dL_reads_15 : decode cL_reads 15 = .ok (.iload 9, 2) := by decide +kernel
theorem dL_reads_17 : decode cL_reads 17 = .ok (.aload_n 0, 1) := by decide +kernel
theorem dL_reads_18 : decode cL_reads 18 = .ok (.iload 9, 2) := by decide +kernel
theorem dL_reads_20 : decode cL_reads 20 = .ok (.iaload, 1) := by decide +kernel
theorem dL_reads_21 : decode cL_reads 21 = .ok (.iastore, 1) := by decide +kernel
theorem dL_reads_22 : decode cL_reads 22 = .ok (.iinc 9 1, 3) := by decide +kernel
theorem dL_reads_25 : decode cL_reads 25 = .ok (.goto (-19), 3) := by decide +kernel
theorem dL_reads_28 : decode cL_reads 28 = .ok (.iconst 0, 1) := by decide +kernel
theorem dL_reads_29 : decode cL_reads 29 = .ok (.istore 9, 2) := by decide +kernel
theorem dL_reads_31 : decode cL_reads 31 = .ok (.iload 9, 2) := by decide +kernel
theorem dL_reads_33 : decode cL_reads 33 = .ok (.bipush 7, 2) := by decide +kernel
theorem dL_reads_35 : decode cL_reads 35 = .ok (.if_icmp .ge 135, 3) := by decide +kernel
theorem dL_reads_38 : decode cL_reads 38 = .ok (.aload 4, 2) := by decide +kernel
theorem dL_reads_40 : decode cL_reads 40 = .ok (.bipush 9, 2) := by decide +kernel
theorem dL_reads_42 : decode cL_reads 42 = .ok (.iaload, 1) := by decide +kernel
theorem dL_reads_43 : decode cL_reads 43 = .ok (.ifCond .ne 8, 3) := by decide +kernel
theorem dL_reads_46 : decode cL_reads 46 = .ok (.iload 9, 2) := by decide +kernel
theorem dL_reads_48 : decode cL_reads 48 = .ok (.goto 8, 3) := by decide +kernel
theorem dL_reads_51 : decode cL_reads 51 = .ok (.bipush 6, 2) := by decide +kernel
theorem dL_reads_53 : decode cL_reads 53 = .ok (.iload 9, 2) := by decide +kernel
theorem dL_reads_55 : decode cL_reads 55 = .ok (.isub, 1) := by decide +kernel
theorem dL_reads_56 : decode cL_reads 56 = .ok (.istore 10, 2) := by decide +kernel
theorem dL_reads_58 : decode cL_reads 58 = .ok (.aload 7, 2) := by decide +kernel
theorem dL_reads_60 : decode cL_reads 60 = .ok (.iload 10, 2) := by decide +kernel
theorem dL_reads_62 : decode cL_reads 62 = .ok (.aload_n 0, 1) := by decide +kernel
theorem dL_reads_63 : decode cL_reads 63 = .ok (.iload 10, 2) := by decide +kernel
theorem dL_reads_65 : decode cL_reads 65 = .ok (.iaload, 1) := by decide +kernel
theorem dL_reads_66 : decode cL_reads 66 = .ok (.iastore, 1) := by decide +kernel
theorem dL_reads_67 : decode cL_reads 67 = .ok (.iconst 0, 1) := by decide +kernel
theorem dL_reads_68 : decode cL_reads 68 = .ok (.istore 11, 2) := by decide +kernel
theorem dL_reads_70 : decode cL_reads 70 = .ok (.iload 11, 2) := by decide +kernel
theorem dL_reads_72 : decode cL_reads 72 = .ok (.aload 4, 2) := by decide +kernel
theorem dL_reads_74 : decode cL_reads 74 = .ok (.bipush 8, 2) := by decide +kernel
theorem dL_reads_76 : decode cL_reads 76 = .ok (.iaload, 1) := by decide +kernel
theorem dL_reads_77 : decode cL_reads 77 = .ok (.if_icmp .ge 87, 3) := by decide +kernel
theorem dL_reads_80 : decode cL_reads 80 = .ok (.aload_n 0, 1) := by decide +kernel
theorem dL_reads_81 : decode cL_reads 81 = .ok (.aload_n 1, 1) := by decide +kernel
theorem dL_reads_82 : decode cL_reads 82 = .ok (.aload_n 2, 1) := by decide +kernel
theorem dL_reads_83 : decode cL_reads 83 = .ok (.aload_n 3, 1) := by decide +kernel
theorem dL_reads_84 : decode cL_reads 84 = .ok (.aload 4, 2) := by decide +kernel
theorem dL_reads_86 : decode cL_reads 86 = .ok (.aload 5, 2) := by decide +kernel
theorem dL_reads_88 : decode cL_reads 88 = .ok (.invokestatic 45, 3) := by decide +kernel
theorem dL_reads_91 : decode cL_reads 91 = .ok (.istore 12, 2) := by decide +kernel
theorem dL_reads_93 : decode cL_reads 93 = .ok (.iconst 0, 1) := by decide +kernel
theorem dL_reads_94 : decode cL_reads 94 = .ok (.istore 13, 2) := by decide +kernel
theorem dL_reads_96 : decode cL_reads 96 = .ok (.iload 13, 2) := by decide +kernel
theorem dL_reads_98 : decode cL_reads 98 = .ok (.bipush 7, 2) := by decide +kernel
theorem dL_reads_100 : decode cL_reads 100 = .ok (.if_icmp .ge 36, 3) := by decide +kernel
theorem dL_reads_103 : decode cL_reads 103 = .ok (.iload 12, 2) := by decide +kernel
theorem dL_reads_105 : decode cL_reads 105 = .ok (.ifCond .eq 31, 3) := by decide +kernel
theorem dL_reads_108 : decode cL_reads 108 = .ok (.iload 9, 2) := by decide +kernel
theorem dL_reads_110 : decode cL_reads 110 = .ok (.bipush 6, 2) := by decide +kernel
theorem dL_reads_112 : decode cL_reads 112 = .ok (.if_icmp .ge 24, 3) := by decide +kernel
theorem dL_reads_115 : decode cL_reads 115 = .ok (.aload 6, 2) := by decide +kernel
theorem dL_reads_117 : decode cL_reads 117 = .ok (.bipush 7, 2) := by decide +kernel
theorem dL_reads_119 : decode cL_reads 119 = .ok (.iload 8, 2) := by decide +kernel
theorem dL_reads_121 : decode cL_reads 121 = .ok (.imul, 1) := by decide +kernel
theorem dL_reads_122 : decode cL_reads 122 = .ok (.iload 13, 2) := by decide +kernel
theorem dL_reads_124 : decode cL_reads 124 = .ok (.iadd, 1) := by decide +kernel
theorem dL_reads_125 : decode cL_reads 125 = .ok (.aload_n 0, 1) := by decide +kernel
theorem dL_reads_126 : decode cL_reads 126 = .ok (.iload 13, 2) := by decide +kernel
theorem dL_reads_128 : decode cL_reads 128 = .ok (.iaload, 1) := by decide +kernel
theorem dL_reads_129 : decode cL_reads 129 = .ok (.iastore, 1) := by decide +kernel
theorem dL_reads_130 : decode cL_reads 130 = .ok (.iinc 13 1, 3) := by decide +kernel
theorem dL_reads_133 : decode cL_reads 133 = .ok (.goto (-37), 3) := by decide +kernel
theorem dL_reads_136 : decode cL_reads 136 = .ok (.iload 8, 2) := by decide +kernel
theorem dL_reads_138 : decode cL_reads 138 = .ok (.iload 12, 2) := by decide +kernel
theorem dL_reads_140 : decode cL_reads 140 = .ok (.ifCond .eq 14, 3) := by decide +kernel
theorem dL_reads_143 : decode cL_reads 143 = .ok (.iload 9, 2) := by decide +kernel
theorem dL_reads_145 : decode cL_reads 145 = .ok (.bipush 6, 2) := by decide +kernel
theorem dL_reads_147 : decode cL_reads 147 = .ok (.if_icmp .ge 7, 3) := by decide +kernel
theorem dL_reads_150 : decode cL_reads 150 = .ok (.iconst 1, 1) := by decide +kernel
theorem dL_reads_151 : decode cL_reads 151 = .ok (.goto 4, 3) := by decide +kernel
theorem dL_reads_154 : decode cL_reads 154 = .ok (.iconst 0, 1) := by decide +kernel
theorem dL_reads_155 : decode cL_reads 155 = .ok (.iadd, 1) := by decide +kernel
theorem dL_reads_156 : decode cL_reads 156 = .ok (.istore 8, 2) := by decide +kernel
theorem dL_reads_158 : decode cL_reads 158 = .ok (.iinc 11 1, 3) := by decide +kernel
theorem dL_reads_161 : decode cL_reads 161 = .ok (.goto (-91), 3) := by decide +kernel
theorem dL_reads_164 : decode cL_reads 164 = .ok (.iinc 9 1, 3) := by decide +kernel
theorem dL_reads_167 : decode cL_reads 167 = .ok (.goto (-136), 3) := by decide +kernel
theorem dL_reads_170 : decode cL_reads 170 = .ok (.iconst 0, 1) := by decide +kernel
theorem dL_reads_171 : decode cL_reads 171 = .ok (.istore 9, 2) := by decide +kernel
theorem dL_reads_173 : decode cL_reads 173 = .ok (.iload 9, 2) := by decide +kernel
theorem dL_reads_175 : decode cL_reads 175 = .ok (.iload 8, 2) := by decide +kernel
theorem dL_reads_177 : decode cL_reads 177 = .ok (.if_icmp .ge 66, 3) := by decide +kernel
theorem dL_reads_180 : decode cL_reads 180 = .ok (.iconst 0, 1) := by decide +kernel
theorem dL_reads_181 : decode cL_reads 181 = .ok (.istore 10, 2) := by decide +kernel
theorem dL_reads_183 : decode cL_reads 183 = .ok (.iconst 0, 1) := by decide +kernel
theorem dL_reads_184 : decode cL_reads 184 = .ok (.istore 11, 2) := by decide +kernel
theorem dL_reads_186 : decode cL_reads 186 = .ok (.iload 11, 2) := by decide +kernel
theorem dL_reads_188 : decode cL_reads 188 = .ok (.bipush 7, 2) := by decide +kernel
theorem dL_reads_190 : decode cL_reads 190 = .ok (.if_icmp .ge 38, 3) := by decide +kernel
theorem dL_reads_193 : decode cL_reads 193 = .ok (.iload 10, 2) := by decide +kernel
theorem dL_reads_195 : decode cL_reads 195 = .ok (.aload 7, 2) := by decide +kernel
theorem dL_reads_197 : decode cL_reads 197 = .ok (.iload 11, 2) := by decide +kernel
theorem dL_reads_199 : decode cL_reads 199 = .ok (.iaload, 1) := by decide +kernel
theorem dL_reads_200 : decode cL_reads 200 = .ok (.aload 6, 2) := by decide +kernel
theorem dL_reads_202 : decode cL_reads 202 = .ok (.bipush 7, 2) := by decide +kernel
theorem dL_reads_204 : decode cL_reads 204 = .ok (.iload 9, 2) := by decide +kernel
theorem dL_reads_206 : decode cL_reads 206 = .ok (.imul, 1) := by decide +kernel
theorem dL_reads_207 : decode cL_reads 207 = .ok (.iload 11, 2) := by decide +kernel
theorem dL_reads_209 : decode cL_reads 209 = .ok (.iadd, 1) := by decide +kernel
theorem dL_reads_210 : decode cL_reads 210 = .ok (.iaload, 1) := by decide +kernel
theorem dL_reads_211 : decode cL_reads 211 = .ok (.if_icmp .ne 7, 3) := by decide +kernel
theorem dL_reads_214 : decode cL_reads 214 = .ok (.iconst 1, 1) := by decide +kernel
theorem dL_reads_215 : decode cL_reads 215 = .ok (.goto 4, 3) := by decide +kernel
theorem dL_reads_218 : decode cL_reads 218 = .ok (.iconst 0, 1) := by decide +kernel
theorem dL_reads_219 : decode cL_reads 219 = .ok (.iadd, 1) := by decide +kernel
theorem dL_reads_220 : decode cL_reads 220 = .ok (.istore 10, 2) := by decide +kernel
theorem dL_reads_222 : decode cL_reads 222 = .ok (.iinc 11 1, 3) := by decide +kernel
theorem dL_reads_225 : decode cL_reads 225 = .ok (.goto (-39), 3) := by decide +kernel
theorem dL_reads_228 : decode cL_reads 228 = .ok (.iload 10, 2) := by decide +kernel
theorem dL_reads_230 : decode cL_reads 230 = .ok (.bipush 7, 2) := by decide +kernel
theorem dL_reads_232 : decode cL_reads 232 = .ok (.if_icmp .ne 5, 3) := by decide +kernel
theorem dL_reads_235 : decode cL_reads 235 = .ok (.iconst 0, 1) := by decide +kernel
theorem dL_reads_236 : decode cL_reads 236 = .ok (.ireturn, 1) := by decide +kernel
theorem dL_reads_237 : decode cL_reads 237 = .ok (.iinc 9 1, 3) := by decide +kernel
theorem dL_reads_240 : decode cL_reads 240 = .ok (.goto (-67), 3) := by decide +kernel
theorem dL_reads_243 : decode cL_reads 243 = .ok (.iconst 1, 1) := by decide +kernel
theorem dL_reads_244 : decode cL_reads 244 = .ok (.ireturn, 1) := by decide +kernel
theorem dL_isBurst_0 : decode cL_isBurst 0 = .ok (.iconst 0, 1) := by decide +kernel
theorem dL_isBurst_1 : decode cL_isBurst 1 = .ok (.istore 10, 2) := by decide +kernel
theorem dL_isBurst_3 : decode cL_isBurst 3 = .ok (.iconst 1, 1) := by decide +kernel
theorem dL_isBurst_4 : decode cL_isBurst 4 = .ok (.istore 11, 2) := by decide +kernel
theorem dL_isBurst_6 : decode cL_isBurst 6 = .ok (.iload 9, 2) := by decide +kernel
theorem dL_isBurst_8 : decode cL_isBurst 8 = .ok (.iconst 1, 1) := by decide +kernel
theorem dL_isBurst_9 : decode cL_isBurst 9 = .ok (.if_icmp .ne 80, 3) := by decide +kernel
theorem dL_isBurst_12 : decode cL_isBurst 12 = .ok (.iconst 0, 1) := by decide +kernel
theorem dL_isBurst_13 : decode cL_isBurst 13 = .ok (.istore 12, 2) := by decide +kernel
theorem dL_isBurst_15 : decode cL_isBurst 15 = .ok (.iload 12, 2) := by decide +kernel
theorem dL_isBurst_17 : decode cL_isBurst 17 = .ok (.bipush 7, 2) := by decide +kernel
theorem dL_isBurst_19 : decode cL_isBurst 19 = .ok (.if_icmp .ge 18, 3) := by decide +kernel
theorem dL_isBurst_22 : decode cL_isBurst 22 = .ok (.aload 8, 2) := by decide +kernel
theorem dL_isBurst_24 : decode cL_isBurst 24 = .ok (.iload 12, 2) := by decide +kernel
theorem dL_isBurst_26 : decode cL_isBurst 26 = .ok (.aload_n 1, 1) := by decide +kernel
theorem dL_isBurst_27 : decode cL_isBurst 27 = .ok (.iload 12, 2) := by decide +kernel
theorem dL_isBurst_29 : decode cL_isBurst 29 = .ok (.iaload, 1) := by decide +kernel
theorem dL_isBurst_30 : decode cL_isBurst 30 = .ok (.iastore, 1) := by decide +kernel
theorem dL_isBurst_31 : decode cL_isBurst 31 = .ok (.iinc 12 1, 3) := by decide +kernel
theorem dL_isBurst_34 : decode cL_isBurst 34 = .ok (.goto (-19), 3) := by decide +kernel
theorem dL_isBurst_37 : decode cL_isBurst 37 = .ok (.iconst 0, 1) := by decide +kernel
theorem dL_isBurst_38 : decode cL_isBurst 38 = .ok (.istore 12, 2) := by decide +kernel
theorem dL_isBurst_40 : decode cL_isBurst 40 = .ok (.iload 12, 2) := by decide +kernel
theorem dL_isBurst_42 : decode cL_isBurst 42 = .ok (.bipush 7, 2) := by decide +kernel
theorem dL_isBurst_44 : decode cL_isBurst 44 = .ok (.aload 5, 2) := by decide +kernel
theorem dL_isBurst_46 : decode cL_isBurst 46 = .ok (.bipush 8, 2) := by decide +kernel
theorem dL_isBurst_48 : decode cL_isBurst 48 = .ok (.iaload, 1) := by decide +kernel
theorem dL_isBurst_49 : decode cL_isBurst 49 = .ok (.imul, 1) := by decide +kernel
theorem dL_isBurst_50 : decode cL_isBurst 50 = .ok (.if_icmp .ge 36, 3) := by decide +kernel
theorem dL_isBurst_53 : decode cL_isBurst 53 = .ok (.aload_n 1, 1) := by decide +kernel
theorem dL_isBurst_54 : decode cL_isBurst 54 = .ok (.aload_n 2, 1) := by decide +kernel
theorem dL_isBurst_55 : decode cL_isBurst 55 = .ok (.aload_n 3, 1) := by decide +kernel
theorem dL_isBurst_56 : decode cL_isBurst 56 = .ok (.aload 4, 2) := by decide +kernel
theorem dL_isBurst_58 : decode cL_isBurst 58 = .ok (.aload 5, 2) := by decide +kernel
theorem dL_isBurst_60 : decode cL_isBurst 60 = .ok (.aload 6, 2) := by decide +kernel
theorem dL_isBurst_62 : decode cL_isBurst 62 = .ok (.invokestatic 45, 3) := by decide +kernel
theorem dL_isBurst_65 : decode cL_isBurst 65 = .ok (.ifCond .eq 12, 3) := by decide +kernel
theorem dL_isBurst_68 : decode cL_isBurst 68 = .ok (.iload 10, 2) := by decide +kernel
theorem dL_isBurst_70 : decode cL_isBurst 70 = .ok (.ifCond .eq 7, 3) := by decide +kernel
theorem dL_isBurst_73 : decode cL_isBurst 73 = .ok (.iconst 1, 1) := by decide +kernel
theorem dL_isBurst_74 : decode cL_isBurst 74 = .ok (.goto 4, 3) := by decide +kernel
theorem dL_isBurst_77 : decode cL_isBurst 77 = .ok (.iconst 0, 1) := by decide +kernel
theorem dL_isBurst_78 : decode cL_isBurst 78 = .ok (.istore 10, 2) := by decide +kernel
theorem dL_isBurst_80 : decode cL_isBurst 80 = .ok (.iinc 12 1, 3) := by decide +kernel
theorem dL_isBurst_83 : decode cL_isBurst 83 = .ok (.goto (-43), 3) := by decide +kernel
theorem dL_isBurst_86 : decode cL_isBurst 86 = .ok (.goto 144, 3) := by decide +kernel
theorem dL_isBurst_89 : decode cL_isBurst 89 = .ok (.aload_n 1, 1) := by decide +kernel
theorem dL_isBurst_90 : decode cL_isBurst 90 = .ok (.aload_n 2, 1) := by decide +kernel
theorem dL_isBurst_91 : decode cL_isBurst 91 = .ok (.aload_n 3, 1) := by decide +kernel
theorem dL_isBurst_92 : decode cL_isBurst 92 = .ok (.aload 4, 2) := by decide +kernel
theorem dL_isBurst_94 : decode cL_isBurst 94 = .ok (.aload 5, 2) := by decide +kernel
theorem dL_isBurst_96 : decode cL_isBurst 96 = .ok (.aload 6, 2) := by decide +kernel
theorem dL_isBurst_98 : decode cL_isBurst 98 = .ok (.aload 7, 2) := by decide +kernel
theorem dL_isBurst_100 : decode cL_isBurst 100 = .ok (.aload 8, 2) := by decide +kernel
theorem dL_isBurst_102 : decode cL_isBurst 102 = .ok (.invokestatic 49, 3) := by decide +kernel
theorem dL_isBurst_105 : decode cL_isBurst 105 = .ok (.istore 10, 2) := by decide +kernel
theorem dL_isBurst_107 : decode cL_isBurst 107 = .ok (.iload 9, 2) := by decide +kernel
theorem dL_isBurst_109 : decode cL_isBurst 109 = .ok (.ifCond .ne 7, 3) := by decide +kernel
theorem dL_isBurst_112 : decode cL_isBurst 112 = .ok (.iconst 1, 1) := by decide +kernel
theorem dL_isBurst_113 : decode cL_isBurst 113 = .ok (.goto 4, 3) := by decide +kernel
theorem dL_isBurst_116 : decode cL_isBurst 116 = .ok (.iconst 0, 1) := by decide +kernel
theorem dL_isBurst_117 : decode cL_isBurst 117 = .ok (.istore 12, 2) := by decide +kernel
theorem dL_isBurst_119 : decode cL_isBurst 119 = .ok (.iload 12, 2) := by decide +kernel
theorem dL_isBurst_121 : decode cL_isBurst 121 = .ok (.ifCond .ne 109, 3) := by decide +kernel
theorem dL_isBurst_124 : decode cL_isBurst 124 = .ok (.iload 11, 2) := by decide +kernel
theorem dL_isBurst_126 : decode cL_isBurst 126 = .ok (.iconst 5, 1) := by decide +kernel
theorem dL_isBurst_127 : decode cL_isBurst 127 = .ok (.if_icmp .ge 103, 3) := by decide +kernel
theorem dL_isBurst_130 : decode cL_isBurst 130 = .ok (.iconst 0, 1) := by decide +kernel
theorem dL_isBurst_131 : decode cL_isBurst 131 = .ok (.istore 13, 2) := by decide +kernel
theorem dL_isBurst_133 : decode cL_isBurst 133 = .ok (.iload 13, 2) := by decide +kernel
theorem dL_isBurst_135 : decode cL_isBurst 135 = .ok (.bipush 7, 2) := by decide +kernel
theorem dL_isBurst_137 : decode cL_isBurst 137 = .ok (.if_icmp .ge 22, 3) := by decide +kernel
theorem dL_isBurst_140 : decode cL_isBurst 140 = .ok (.aload 8, 2) := by decide +kernel
theorem dL_isBurst_142 : decode cL_isBurst 142 = .ok (.bipush 7, 2) := by decide +kernel
theorem dL_isBurst_144 : decode cL_isBurst 144 = .ok (.iload 13, 2) := by decide +kernel
theorem dL_isBurst_146 : decode cL_isBurst 146 = .ok (.iadd, 1) := by decide +kernel
theorem dL_isBurst_147 : decode cL_isBurst 147 = .ok (.aload 8, 2) := by decide +kernel
theorem dL_isBurst_149 : decode cL_isBurst 149 = .ok (.iload 13, 2) := by decide +kernel
theorem dL_isBurst_151 : decode cL_isBurst 151 = .ok (.iaload, 1) := by decide +kernel
theorem dL_isBurst_152 : decode cL_isBurst 152 = .ok (.iastore, 1) := by decide +kernel
theorem dL_isBurst_153 : decode cL_isBurst 153 = .ok (.iinc 13 1, 3) := by decide +kernel
theorem dL_isBurst_156 : decode cL_isBurst 156 = .ok (.goto (-23), 3) := by decide +kernel
theorem dL_isBurst_159 : decode cL_isBurst 159 = .ok (.aload_n 1, 1) := by decide +kernel
theorem dL_isBurst_160 : decode cL_isBurst 160 = .ok (.aload_n 2, 1) := by decide +kernel
theorem dL_isBurst_161 : decode cL_isBurst 161 = .ok (.aload_n 3, 1) := by decide +kernel
theorem dL_isBurst_162 : decode cL_isBurst 162 = .ok (.aload 4, 2) := by decide +kernel
theorem dL_isBurst_164 : decode cL_isBurst 164 = .ok (.aload 5, 2) := by decide +kernel
theorem dL_isBurst_166 : decode cL_isBurst 166 = .ok (.aload 6, 2) := by decide +kernel
theorem dL_isBurst_168 : decode cL_isBurst 168 = .ok (.aload 7, 2) := by decide +kernel
theorem dL_isBurst_170 : decode cL_isBurst 170 = .ok (.aload 8, 2) := by decide +kernel
theorem dL_isBurst_172 : decode cL_isBurst 172 = .ok (.invokestatic 49, 3) := by decide +kernel
theorem dL_isBurst_175 : decode cL_isBurst 175 = .ok (.istore 10, 2) := by decide +kernel
theorem dL_isBurst_177 : decode cL_isBurst 177 = .ok (.iinc 11 1, 3) := by decide +kernel
theorem dL_isBurst_180 : decode cL_isBurst 180 = .ok (.iconst 1, 1) := by decide +kernel
theorem dL_isBurst_181 : decode cL_isBurst 181 = .ok (.istore 12, 2) := by decide +kernel
theorem dL_isBurst_183 : decode cL_isBurst 183 = .ok (.iconst 0, 1) := by decide +kernel
theorem dL_isBurst_184 : decode cL_isBurst 184 = .ok (.istore 13, 2) := by decide +kernel
theorem dL_isBurst_186 : decode cL_isBurst 186 = .ok (.iload 13, 2) := by decide +kernel
theorem dL_isBurst_188 : decode cL_isBurst 188 = .ok (.bipush 7, 2) := by decide +kernel
theorem dL_isBurst_190 : decode cL_isBurst 190 = .ok (.if_icmp .ge 37, 3) := by decide +kernel
theorem dL_isBurst_193 : decode cL_isBurst 193 = .ok (.iload 12, 2) := by decide +kernel
theorem dL_isBurst_195 : decode cL_isBurst 195 = .ok (.ifCond .eq 23, 3) := by decide +kernel
theorem dL_isBurst_198 : decode cL_isBurst 198 = .ok (.aload 8, 2) := by decide +kernel
theorem dL_isBurst_200 : decode cL_isBurst 200 = .ok (.iload 13, 2) := by decide +kernel
theorem dL_isBurst_202 : decode cL_isBurst 202 = .ok (.iaload, 1) := by decide +kernel
theorem dL_isBurst_203 : decode cL_isBurst 203 = .ok (.aload 8, 2) := by decide +kernel
theorem dL_isBurst_205 : decode cL_isBurst 205 = .ok (.bipush 7, 2) := by decide +kernel
theorem dL_isBurst_207 : decode cL_isBurst 207 = .ok (.iload 13, 2) := by decide +kernel
theorem dL_isBurst_209 : decode cL_isBurst 209 = .ok (.iadd, 1) := by decide +kernel
theorem dL_isBurst_210 : decode cL_isBurst 210 = .ok (.iaload, 1) := by decide +kernel
theorem dL_isBurst_211 : decode cL_isBurst 211 = .ok (.if_icmp .ne 7, 3) := by decide +kernel
theorem dL_isBurst_214 : decode cL_isBurst 214 = .ok (.iconst 1, 1) := by decide +kernel
theorem dL_isBurst_215 : decode cL_isBurst 215 = .ok (.goto 4, 3) := by decide +kernel
theorem dL_isBurst_218 : decode cL_isBurst 218 = .ok (.iconst 0, 1) := by decide +kernel
theorem dL_isBurst_219 : decode cL_isBurst 219 = .ok (.istore 12, 2) := by decide +kernel
theorem dL_isBurst_221 : decode cL_isBurst 221 = .ok (.iinc 13 1, 3) := by decide +kernel
theorem dL_isBurst_224 : decode cL_isBurst 224 = .ok (.goto (-38), 3) := by decide +kernel
theorem dL_isBurst_227 : decode cL_isBurst 227 = .ok (.goto (-108), 3) := by decide +kernel
theorem dL_isBurst_230 : decode cL_isBurst 230 = .ok (.aload 5, 2) := by decide +kernel
theorem dL_isBurst_232 : decode cL_isBurst 232 = .ok (.iconst 5, 1) := by decide +kernel
theorem dL_isBurst_233 : decode cL_isBurst 233 = .ok (.dup2, 1) := by decide +kernel
theorem dL_isBurst_234 : decode cL_isBurst 234 = .ok (.iaload, 1) := by decide +kernel
theorem dL_isBurst_235 : decode cL_isBurst 235 = .ok (.iconst 1, 1) := by decide +kernel
theorem dL_isBurst_236 : decode cL_isBurst 236 = .ok (.iadd, 1) := by decide +kernel
theorem dL_isBurst_237 : decode cL_isBurst 237 = .ok (.iastore, 1) := by decide +kernel
theorem dL_isBurst_238 : decode cL_isBurst 238 = .ok (.aload 5, 2) := by decide +kernel
theorem dL_isBurst_240 : decode cL_isBurst 240 = .ok (.bipush 6, 2) := by decide +kernel
theorem dL_isBurst_242 : decode cL_isBurst 242 = .ok (.dup2, 1) := by decide +kernel
theorem dL_isBurst_243 : decode cL_isBurst 243 = .ok (.iaload, 1) := by decide +kernel
theorem dL_isBurst_244 : decode cL_isBurst 244 = .ok (.iload 10, 2) := by decide +kernel
theorem dL_isBurst_246 : decode cL_isBurst 246 = .ok (.ifCond .eq 7, 3) := by decide +kernel
theorem dL_isBurst_249 : decode cL_isBurst 249 = .ok (.iconst 1, 1) := by decide +kernel
theorem dL_isBurst_250 : decode cL_isBurst 250 = .ok (.goto 4, 3) := by decide +kernel
theorem dL_isBurst_253 : decode cL_isBurst 253 = .ok (.iconst 0, 1) := by decide +kernel
theorem dL_isBurst_254 : decode cL_isBurst 254 = .ok (.iadd, 1) := by decide +kernel
theorem dL_isBurst_255 : decode cL_isBurst 255 = .ok (.iastore, 1) := by decide +kernel
theorem dL_isBurst_256 : decode cL_isBurst 256 = .ok (.aload_n 0, 1) := by decide +kernel
theorem dL_isBurst_257 : decode cL_isBurst 257 = .ok (.iload 9, 2) := by decide +kernel
theorem dL_isBurst_259 : decode cL_isBurst 259 = .ok (.invokevirtual 53, 3) := by decide +kernel
theorem dL_isBurst_262 : decode cL_isBurst 262 = .ok (.iload 10, 2) := by decide +kernel
theorem dL_isBurst_264 : decode cL_isBurst 264 = .ok (.ifCond .eq 7, 3) := by decide +kernel
theorem dL_isBurst_267 : decode cL_isBurst 267 = .ok (.iconst 1, 1) := by decide +kernel
theorem dL_isBurst_268 : decode cL_isBurst 268 = .ok (.goto 4, 3) := by decide +kernel
theorem dL_isBurst_271 : decode cL_isBurst 271 = .ok (.iconst 0, 1) := by decide +kernel
theorem dL_isBurst_272 : decode cL_isBurst 272 = .ok (.if_icmp .ne 63, 3) := by decide +kernel
theorem dL_isBurst_275 : decode cL_isBurst 275 = .ok (.aload_n 0, 1) := by decide +kernel
theorem dL_isBurst_276 : decode cL_isBurst 276 = .ok (.iconst 0, 1) := by decide +kernel
theorem dL_isBurst_277 : decode cL_isBurst 277 = .ok (.bipush 7, 2) := by decide +kernel
theorem dL_isBurst_279 : decode cL_isBurst 279 = .ok (.invokevirtual 58, 3) := by decide +kernel
theorem dL_isBurst_282 : decode cL_isBurst 282 = .ok (.iload 9, 2) := by decide +kernel
theorem dL_isBurst_284 : decode cL_isBurst 284 = .ok (.if_icmp .ne 51, 3) := by decide +kernel
theorem dL_isBurst_287 : decode cL_isBurst 287 = .ok (.aload_n 0, 1) := by decide +kernel
theorem dL_isBurst_288 : decode cL_isBurst 288 = .ok (.iconst 0, 1) := by decide +kernel
theorem dL_isBurst_289 : decode cL_isBurst 289 = .ok (.bipush 8, 2) := by decide +kernel
theorem dL_isBurst_291 : decode cL_isBurst 291 = .ok (.invokevirtual 58, 3) := by decide +kernel
theorem dL_isBurst_294 : decode cL_isBurst 294 = .ok (.iload 10, 2) := by decide +kernel
theorem dL_isBurst_296 : decode cL_isBurst 296 = .ok (.ifCond .eq 7, 3) := by decide +kernel
theorem dL_isBurst_299 : decode cL_isBurst 299 = .ok (.iconst 1, 1) := by decide +kernel
theorem dL_isBurst_300 : decode cL_isBurst 300 = .ok (.goto 4, 3) := by decide +kernel
theorem dL_isBurst_303 : decode cL_isBurst 303 = .ok (.iconst 0, 1) := by decide +kernel
theorem dL_isBurst_304 : decode cL_isBurst 304 = .ok (.if_icmp .ne 31, 3) := by decide +kernel
theorem dL_isBurst_307 : decode cL_isBurst 307 = .ok (.aload_n 0, 1) := by decide +kernel
theorem dL_isBurst_308 : decode cL_isBurst 308 = .ok (.iconst 0, 1) := by decide +kernel
theorem dL_isBurst_309 : decode cL_isBurst 309 = .ok (.bipush 9, 2) := by decide +kernel
theorem dL_isBurst_311 : decode cL_isBurst 311 = .ok (.invokevirtual 58, 3) := by decide +kernel
theorem dL_isBurst_314 : decode cL_isBurst 314 = .ok (.iload 11, 2) := by decide +kernel
theorem dL_isBurst_316 : decode cL_isBurst 316 = .ok (.if_icmp .ne 19, 3) := by decide +kernel
theorem dL_isBurst_319 : decode cL_isBurst 319 = .ok (.aload_n 0, 1) := by decide +kernel
theorem dL_isBurst_320 : decode cL_isBurst 320 = .ok (.iconst 0, 1) := by decide +kernel
theorem dL_isBurst_321 : decode cL_isBurst 321 = .ok (.bipush 10, 2) := by decide +kernel
theorem dL_isBurst_323 : decode cL_isBurst 323 = .ok (.invokevirtual 58, 3) := by decide +kernel
theorem dL_isBurst_326 : decode cL_isBurst 326 = .ok (.ldc 62, 2) := by decide +kernel
theorem dL_isBurst_328 : decode cL_isBurst 328 = .ok (.if_icmp .ne 7, 3) := by decide +kernel
theorem dL_isBurst_331 : decode cL_isBurst 331 = .ok (.iconst 1, 1) := by decide +kernel
theorem dL_isBurst_332 : decode cL_isBurst 332 = .ok (.goto 4, 3) := by decide +kernel
theorem dL_isBurst_335 : decode cL_isBurst 335 = .ok (.iconst 0, 1) := by decide +kernel
theorem dL_isBurst_336 : decode cL_isBurst 336 = .ok (.istore 12, 2) := by decide +kernel
theorem dL_isBurst_338 : decode cL_isBurst 338 = .ok (.iconst 0, 1) := by decide +kernel
theorem dL_isBurst_339 : decode cL_isBurst 339 = .ok (.istore 13, 2) := by decide +kernel
theorem dL_isBurst_341 : decode cL_isBurst 341 = .ok (.iload 13, 2) := by decide +kernel
theorem dL_isBurst_343 : decode cL_isBurst 343 = .ok (.bipush 7, 2) := by decide +kernel
theorem dL_isBurst_345 : decode cL_isBurst 345 = .ok (.if_icmp .ge 36, 3) := by decide +kernel
theorem dL_isBurst_348 : decode cL_isBurst 348 = .ok (.iload 12, 2) := by decide +kernel
theorem dL_isBurst_350 : decode cL_isBurst 350 = .ok (.ifCond .eq 22, 3) := by decide +kernel
theorem dL_isBurst_353 : decode cL_isBurst 353 = .ok (.aload_n 0, 1) := by decide +kernel
theorem dL_isBurst_354 : decode cL_isBurst 354 = .ok (.iconst 0, 1) := by decide +kernel
theorem dL_isBurst_355 : decode cL_isBurst 355 = .ok (.iload 13, 2) := by decide +kernel
theorem dL_isBurst_357 : decode cL_isBurst 357 = .ok (.invokevirtual 58, 3) := by decide +kernel
theorem dL_isBurst_360 : decode cL_isBurst 360 = .ok (.aload 8, 2) := by decide +kernel
theorem dL_isBurst_362 : decode cL_isBurst 362 = .ok (.iload 13, 2) := by decide +kernel
theorem dL_isBurst_364 : decode cL_isBurst 364 = .ok (.iaload, 1) := by decide +kernel
theorem dL_isBurst_365 : decode cL_isBurst 365 = .ok (.if_icmp .ne 7, 3) := by decide +kernel
theorem dL_isBurst_368 : decode cL_isBurst 368 = .ok (.iconst 1, 1) := by decide +kernel
theorem dL_isBurst_369 : decode cL_isBurst 369 = .ok (.goto 4, 3) := by decide +kernel
theorem dL_isBurst_372 : decode cL_isBurst 372 = .ok (.iconst 0, 1) := by decide +kernel
theorem dL_isBurst_373 : decode cL_isBurst 373 = .ok (.istore 12, 2) := by decide +kernel
theorem dL_isBurst_375 : decode cL_isBurst 375 = .ok (.iinc 13 1, 3) := by decide +kernel
theorem dL_isBurst_378 : decode cL_isBurst 378 = .ok (.goto (-37), 3) := by decide +kernel
theorem dL_isBurst_381 : decode cL_isBurst 381 = .ok (.iload 12, 2) := by decide +kernel
theorem dL_isBurst_383 : decode cL_isBurst 383 = .ok (.ireturn, 1) := by decide +kernel
theorem dL_bits_0 : decode cL_bits 0 = .ok (.iconst 0, 1) := by decide +kernel
theorem dL_bits_1 : decode cL_bits 1 = .ok (.istore_n 1, 1) := by decide +kernel
theorem dL_bits_2 : decode cL_bits 2 = .ok (.iconst 0, 1) := by decide +kernel
theorem dL_bits_3 : decode cL_bits 3 = .ok (.istore_n 2, 1) := by decide +kernel
theorem dL_bits_4 : decode cL_bits 4 = .ok (.iload_n 2, 1) := by decide +kernel
theorem dL_bits_5 : decode cL_bits 5 = .ok (.bipush 8, 2) := by decide +kernel
theorem dL_bits_7 : decode cL_bits 7 = .ok (.if_icmp .ge 17, 3) := by decide +kernel
theorem dL_bits_10 : decode cL_bits 10 = .ok (.iload_n 1, 1) := by decide +kernel
theorem dL_bits_11 : decode cL_bits 11 = .ok (.iload_n 0, 1) := by decide +kernel
theorem dL_bits_12 : decode cL_bits 12 = .ok (.iload_n 2, 1) := by decide +kernel
theorem dL_bits_13 : decode cL_bits 13 = .ok (.ishr, 1) := by decide +kernel
theorem dL_bits_14 : decode cL_bits 14 = .ok (.iconst 1, 1) := by decide +kernel
theorem dL_bits_15 : decode cL_bits 15 = .ok (.iand, 1) := by decide +kernel
theorem dL_bits_16 : decode cL_bits 16 = .ok (.iadd, 1) := by decide +kernel
theorem dL_bits_17 : decode cL_bits 17 = .ok (.istore_n 1, 1) := by decide +kernel
theorem dL_bits_18 : decode cL_bits 18 = .ok (.iinc 2 1, 3) := by decide +kernel
theorem dL_bits_21 : decode cL_bits 21 = .ok (.goto (-17), 3) := by decide +kernel
theorem dL_bits_24 : decode cL_bits 24 = .ok (.iload_n 1, 1) := by decide +kernel
theorem dL_bits_25 : decode cL_bits 25 = .ok (.ireturn, 1) := by decide +kernel
theorem dL_areRegisters_0 : decode cL_areRegisters 0 = .ok (.iconst 0, 1) := by decide +kernel
theorem dL_areRegisters_1 : decode cL_areRegisters 1 = .ok (.istore 6, 2) := by decide +kernel
theorem dL_areRegisters_3 : decode cL_areRegisters 3 = .ok (.iconst 0, 1) := by decide +kernel
theorem dL_areRegisters_4 : decode cL_areRegisters 4 = .ok (.istore 7, 2) := by decide +kernel
theorem dL_areRegisters_6 : decode cL_areRegisters 6 = .ok (.bipush 7, 2) := by decide +kernel
theorem dL_areRegisters_8 : decode cL_areRegisters 8 = .ok (.newarray .int, 2) := by decide +kernel
theorem dL_areRegisters_10 : decode cL_areRegisters 10 = .ok (.astore 8, 2) := by decide +kernel
theorem dL_areRegisters_12 : decode cL_areRegisters 12 = .ok (.iconst 1, 1) := by decide +kernel
theorem dL_areRegisters_13 : decode cL_areRegisters 13 = .ok (.istore 9, 2) := by decide +kernel
theorem dL_areRegisters_15 : decode cL_areRegisters 15 = .ok (.iconst 0, 1) := by decide +kernel
theorem dL_areRegisters_16 : decode cL_areRegisters 16 = .ok (.istore 10, 2) := by decide +kernel
theorem dL_areRegisters_18 : decode cL_areRegisters 18 = .ok (.iload 10, 2) := by decide +kernel
theorem dL_areRegisters_20 : decode cL_areRegisters 20 = .ok (.bipush 7, 2) := by decide +kernel
theorem dL_areRegisters_22 : decode cL_areRegisters 22 = .ok (.if_icmp .ge 229, 3) := by decide +kernel
theorem dL_areRegisters_25 : decode cL_areRegisters 25 = .ok (.iload 9, 2) := by decide +kernel
theorem dL_areRegisters_27 : decode cL_areRegisters 27 = .ok (.ifCond .eq 224, 3) := by decide +kernel
theorem dL_areRegisters_30 : decode cL_areRegisters 30 = .ok (.aload_n 1, 1) := by decide +kernel
theorem dL_areRegisters_31 : decode cL_areRegisters 31 = .ok (.iload 10, 2) := by decide +kernel
theorem dL_areRegisters_33 : decode cL_areRegisters 33 = .ok (.iaload, 1) := by decide +kernel
theorem dL_areRegisters_34 : decode cL_areRegisters 34 = .ok (.iconst 0, 1) := by decide +kernel
theorem dL_areRegisters_35 : decode cL_areRegisters 35 = .ok (.bipush 99, 2) := by decide +kernel
theorem dL_areRegisters_37 : decode cL_areRegisters 37 = .ok (.invokestatic 15, 3) := by decide +kernel
theorem dL_areRegisters_40 : decode cL_areRegisters 40 = .ok (.ifCond .eq 46, 3) := by decide +kernel
theorem dL_areRegisters_43 : decode cL_areRegisters 43 = .ok (.aload_n 1, 1) := by decide +kernel
theorem dL_areRegisters_44 : decode cL_areRegisters 44 = .ok (.iload 10, 2) := by decide +kernel
theorem dL_areRegisters_46 : decode cL_areRegisters 46 = .ok (.iaload, 1) := by decide +kernel
theorem dL_areRegisters_47 : decode cL_areRegisters 47 = .ok (.invokestatic 9, 3) := by decide +kernel
theorem dL_areRegisters_50 : decode cL_areRegisters 50 = .ok (.iload 10, 2) := by decide +kernel
theorem dL_areRegisters_52 : decode cL_areRegisters 52 = .ok (.invokestatic 23, 3) := by decide +kernel
theorem dL_areRegisters_55 : decode cL_areRegisters 55 = .ok (.if_icmp .ge 7, 3) := by decide +kernel
theorem dL_areRegisters_58 : decode cL_areRegisters 58 = .ok (.iconst 2, 1) := by decide +kernel
theorem dL_areRegisters_59 : decode cL_areRegisters 59 = .ok (.goto 28, 3) := by decide +kernel
theorem dL_areRegisters_62 : decode cL_areRegisters 62 = .ok (.aload_n 1, 1) := by decide +kernel
theorem dL_areRegisters_63 : decode cL_areRegisters 63 = .ok (.iload 10, 2) := by decide +kernel
theorem dL_areRegisters_65 : decode cL_areRegisters 65 = .ok (.iaload, 1) := by decide +kernel
theorem dL_areRegisters_66 : decode cL_areRegisters 66 = .ok (.invokestatic 9, 3) := by decide +kernel
theorem dL_areRegisters_69 : decode cL_areRegisters 69 = .ok (.aload_n 1, 1) := by decide +kernel
theorem dL_areRegisters_70 : decode cL_areRegisters 70 = .ok (.iload 10, 2) := by decide +kernel
theorem dL_areRegisters_72 : decode cL_areRegisters 72 = .ok (.invokestatic 26, 3) := by decide +kernel
theorem dL_areRegisters_75 : decode cL_areRegisters 75 = .ok (.if_icmp .le 7, 3) := by decide +kernel
theorem dL_areRegisters_78 : decode cL_areRegisters 78 = .ok (.iconst 3, 1) := by decide +kernel
theorem dL_areRegisters_79 : decode cL_areRegisters 79 = .ok (.goto 8, 3) := by decide +kernel
theorem dL_areRegisters_82 : decode cL_areRegisters 82 = .ok (.iconst 0, 1) := by decide +kernel
theorem dL_areRegisters_83 : decode cL_areRegisters 83 = .ok (.goto 4, 3) := by decide +kernel
theorem dL_areRegisters_86 : decode cL_areRegisters 86 = .ok (.iconst 1, 1) := by decide +kernel
theorem dL_areRegisters_87 : decode cL_areRegisters 87 = .ok (.istore 11, 2) := by decide +kernel
theorem dL_areRegisters_89 : decode cL_areRegisters 89 = .ok (.aload 8, 2) := by decide +kernel
theorem dL_areRegisters_91 : decode cL_areRegisters 91 = .ok (.aload_n 2, 1) := by decide +kernel
theorem dL_areRegisters_92 : decode cL_areRegisters 92 = .ok (.aload_n 3, 1) := by decide +kernel
theorem dL_areRegisters_93 : decode cL_areRegisters 93 = .ok (.iload 10, 2) := by decide +kernel
theorem dL_areRegisters_95 : decode cL_areRegisters 95 = .ok (.aload_n 1, 1) := by decide +kernel
theorem dL_areRegisters_96 : decode cL_areRegisters 96 = .ok (.iload 10, 2) := by decide +kernel
theorem dL_areRegisters_98 : decode cL_areRegisters 98 = .ok (.invokestatic 30, 3) := by decide +kernel
theorem dL_areRegisters_101 : decode cL_areRegisters 101 = .ok (.invokestatic 33, 3) := by decide +kernel
theorem dL_areRegisters_104 : decode cL_areRegisters 104 = .ok (.iload 6, 2) := by decide +kernel
theorem dL_areRegisters_106 : decode cL_areRegisters 106 = .ok (.iload 11, 2) := by decide +kernel
theorem dL_areRegisters_108 : decode cL_areRegisters 108 = .ok (.ifCond .le 10, 3) := by decide +kernel
theorem dL_areRegisters_111 : decode cL_areRegisters 111 = .ok (.iconst 1, 1) := by decide +kernel
theorem dL_areRegisters_112 : decode cL_areRegisters 112 = .ok (.iload 10, 2) := by decide +kernel
theorem dL_areRegisters_114 : decode cL_areRegisters 114 = .ok (.ishl, 1) := by decide +kernel
theorem dL_areRegisters_115 : decode cL_areRegisters 115 = .ok (.goto 4, 3) := by decide +kernel
theorem dL_areRegisters_118 : decode cL_areRegisters 118 = .ok (.iconst 0, 1) := by decide +kernel
theorem dL_areRegisters_119 : decode cL_areRegisters 119 = .ok (.ior, 1) := by decide +kernel
theorem dL_areRegisters_120 : decode cL_areRegisters 120 = .ok (.istore 6, 2) := by decide +kernel
theorem dL_areRegisters_122 : decode cL_areRegisters 122 = .ok (.iload 7, 2) := by decide +kernel
theorem dL_areRegisters_124 : decode cL_areRegisters 124 = .ok (.aload_n 2, 1) := by decide +kernel
theorem dL_areRegisters_125 : decode cL_areRegisters 125 = .ok (.iload 10, 2) := by decide +kernel
theorem dL_areRegisters_127 : decode cL_areRegisters 127 = .ok (.iaload, 1) := by decide +kernel
theorem dL_areRegisters_128 : decode cL_areRegisters 128 = .ok (.invokestatic 63, 3) := by decide +kernel
theorem dL_areRegisters_131 : decode cL_areRegisters 131 = .ok (.iadd, 1) := by decide +kernel
theorem dL_areRegisters_132 : decode cL_areRegisters 132 = .ok (.istore 7, 2) := by decide +kernel
theorem dL_areRegisters_134 : decode cL_areRegisters 134 = .ok (.aload_n 0, 1) := by decide +kernel
theorem dL_areRegisters_135 : decode cL_areRegisters 135 = .ok (.iload 10, 2) := by decide +kernel
theorem dL_areRegisters_137 : decode cL_areRegisters 137 = .ok (.iconst 0, 1) := by decide +kernel
theorem dL_areRegisters_138 : decode cL_areRegisters 138 = .ok (.invokevirtual 66, 3) := by decide +kernel
theorem dL_areRegisters_141 : decode cL_areRegisters 141 = .ok (.aload_n 1, 1) := by decide +kernel
theorem dL_areRegisters_142 : decode cL_areRegisters 142 = .ok (.iload 10, 2) := by decide +kernel
theorem dL_areRegisters_144 : decode cL_areRegisters 144 = .ok (.iaload, 1) := by decide +kernel
theorem dL_areRegisters_145 : decode cL_areRegisters 145 = .ok (.if_icmp .ne 97, 3) := by decide +kernel
theorem dL_areRegisters_148 : decode cL_areRegisters 148 = .ok (.aload_n 0, 1) := by decide +kernel
theorem dL_areRegisters_149 : decode cL_areRegisters 149 = .ok (.iload 10, 2) := by decide +kernel
theorem dL_areRegisters_151 : decode cL_areRegisters 151 = .ok (.iconst 1, 1) := by decide +kernel
theorem dL_areRegisters_152 : decode cL_areRegisters 152 = .ok (.invokevirtual 66, 3) := by decide +kernel
theorem dL_areRegisters_155 : decode cL_areRegisters 155 = .ok (.aload_n 1, 1) := by decide +kernel
theorem dL_areRegisters_156 : decode cL_areRegisters 156 = .ok (.iload 10, 2) := by decide +kernel
theorem dL_areRegisters_158 : decode cL_areRegisters 158 = .ok (.iaload, 1) := by decide +kernel
theorem dL_areRegisters_159 : decode cL_areRegisters 159 = .ok (.invokestatic 9, 3) := by decide +kernel
theorem dL_areRegisters_162 : decode cL_areRegisters 162 = .ok (.if_icmp .ne 80, 3) := by decide +kernel
theorem dL_areRegisters_165 : decode cL_areRegisters 165 = .ok (.aload_n 0, 1) := by decide +kernel
theorem dL_areRegisters_166 : decode cL_areRegisters 166 = .ok (.iload 10, 2) := by decide +kernel
theorem dL_areRegisters_168 : decode cL_areRegisters 168 = .ok (.iconst 2, 1) := by decide +kernel
theorem dL_areRegisters_169 : decode cL_areRegisters 169 = .ok (.invokevirtual 66, 3) := by decide +kernel
theorem dL_areRegisters_172 : decode cL_areRegisters 172 = .ok (.iload 11, 2) := by decide +kernel
theorem dL_areRegisters_174 : decode cL_areRegisters 174 = .ok (.if_icmp .ne 68, 3) := by decide +kernel
theorem dL_areRegisters_177 : decode cL_areRegisters 177 = .ok (.aload_n 0, 1) := by decide +kernel
theorem dL_areRegisters_178 : decode cL_areRegisters 178 = .ok (.iload 10, 2) := by decide +kernel
theorem dL_areRegisters_180 : decode cL_areRegisters 180 = .ok (.iconst 3, 1) := by decide +kernel
theorem dL_areRegisters_181 : decode cL_areRegisters 181 = .ok (.invokevirtual 66, 3) := by decide +kernel
theorem dL_areRegisters_184 : decode cL_areRegisters 184 = .ok (.aload_n 1, 1) := by decide +kernel
theorem dL_areRegisters_185 : decode cL_areRegisters 185 = .ok (.iload 10, 2) := by decide +kernel
theorem dL_areRegisters_187 : decode cL_areRegisters 187 = .ok (.invokestatic 26, 3) := by decide +kernel
theorem dL_areRegisters_190 : decode cL_areRegisters 190 = .ok (.if_icmp .ne 52, 3) := by decide +kernel
theorem dL_areRegisters_193 : decode cL_areRegisters 193 = .ok (.aload_n 0, 1) := by decide +kernel
theorem dL_areRegisters_194 : decode cL_areRegisters 194 = .ok (.iload 10, 2) := by decide +kernel
theorem dL_areRegisters_196 : decode cL_areRegisters 196 = .ok (.iconst 4, 1) := by decide +kernel
theorem dL_areRegisters_197 : decode cL_areRegisters 197 = .ok (.invokevirtual 66, 3) := by decide +kernel
theorem dL_areRegisters_200 : decode cL_areRegisters 200 = .ok (.aload_n 2, 1) := by decide +kernel
theorem dL_areRegisters_201 : decode cL_areRegisters 201 = .ok (.iload 10, 2) := by decide +kernel
theorem dL_areRegisters_203 : decode cL_areRegisters 203 = .ok (.iaload, 1) := by decide +kernel
theorem dL_areRegisters_204 : decode cL_areRegisters 204 = .ok (.if_icmp .ne 38, 3) := by decide +kernel
theorem dL_areRegisters_207 : decode cL_areRegisters 207 = .ok (.aload_n 0, 1) := by decide +kernel
theorem dL_areRegisters_208 : decode cL_areRegisters 208 = .ok (.iload 10, 2) := by decide +kernel
theorem dL_areRegisters_210 : decode cL_areRegisters 210 = .ok (.iconst 5, 1) := by decide +kernel
theorem dL_areRegisters_211 : decode cL_areRegisters 211 = .ok (.invokevirtual 66, 3) := by decide +kernel
theorem dL_areRegisters_214 : decode cL_areRegisters 214 = .ok (.aload 4, 2) := by decide +kernel
theorem dL_areRegisters_216 : decode cL_areRegisters 216 = .ok (.iload 10, 2) := by decide +kernel
theorem dL_areRegisters_218 : decode cL_areRegisters 218 = .ok (.iaload, 1) := by decide +kernel
theorem dL_areRegisters_219 : decode cL_areRegisters 219 = .ok (.if_icmp .ne 23, 3) := by decide +kernel
theorem dL_areRegisters_222 : decode cL_areRegisters 222 = .ok (.aload_n 0, 1) := by decide +kernel
theorem dL_areRegisters_223 : decode cL_areRegisters 223 = .ok (.iload 10, 2) := by decide +kernel
theorem dL_areRegisters_225 : decode cL_areRegisters 225 = .ok (.bipush 6, 2) := by decide +kernel
theorem dL_areRegisters_227 : decode cL_areRegisters 227 = .ok (.invokevirtual 66, 3) := by decide +kernel
theorem dL_areRegisters_230 : decode cL_areRegisters 230 = .ok (.aload 8, 2) := by decide +kernel
theorem dL_areRegisters_232 : decode cL_areRegisters 232 = .ok (.iload 10, 2) := by decide +kernel
theorem dL_areRegisters_234 : decode cL_areRegisters 234 = .ok (.iaload, 1) := by decide +kernel
theorem dL_areRegisters_235 : decode cL_areRegisters 235 = .ok (.if_icmp .ne 7, 3) := by decide +kernel
theorem dL_areRegisters_238 : decode cL_areRegisters 238 = .ok (.iconst 1, 1) := by decide +kernel
theorem dL_areRegisters_239 : decode cL_areRegisters 239 = .ok (.goto 4, 3) := by decide +kernel
theorem dL_areRegisters_242 : decode cL_areRegisters 242 = .ok (.iconst 0, 1) := by decide +kernel
theorem dL_areRegisters_243 : decode cL_areRegisters 243 = .ok (.istore 9, 2) := by decide +kernel
theorem dL_areRegisters_245 : decode cL_areRegisters 245 = .ok (.iinc 10 1, 3) := by decide +kernel
theorem dL_areRegisters_248 : decode cL_areRegisters 248 = .ok (.goto (-230), 3) := by decide +kernel
theorem dL_areRegisters_251 : decode cL_areRegisters 251 = .ok (.iload 9, 2) := by decide +kernel
theorem dL_areRegisters_253 : decode cL_areRegisters 253 = .ok (.ifCond .eq 198, 3) := by decide +kernel
theorem dL_areRegisters_256 : decode cL_areRegisters 256 = .ok (.aload_n 0, 1) := by decide +kernel
theorem dL_areRegisters_257 : decode cL_areRegisters 257 = .ok (.iconst 0, 1) := by decide +kernel
theorem dL_areRegisters_258 : decode cL_areRegisters 258 = .ok (.invokevirtual 69, 3) := by decide +kernel
theorem dL_areRegisters_261 : decode cL_areRegisters 261 = .ok (.aload 5, 2) := by decide +kernel
theorem dL_areRegisters_263 : decode cL_areRegisters 263 = .ok (.iconst 0, 1) := by decide +kernel
theorem dL_areRegisters_264 : decode cL_areRegisters 264 = .ok (.iaload, 1) := by decide +kernel
theorem dL_areRegisters_265 : decode cL_areRegisters 265 = .ok (.if_icmp .ne 186, 3) := by decide +kernel
theorem dL_areRegisters_268 : decode cL_areRegisters 268 = .ok (.aload_n 0, 1) := by decide +kernel
theorem dL_areRegisters_269 : decode cL_areRegisters 269 = .ok (.iconst 1, 1) := by decide +kernel
theorem dL_areRegisters_270 : decode cL_areRegisters 270 = .ok (.invokevirtual 69, 3) := by decide +kernel
theorem dL_areRegisters_273 : decode cL_areRegisters 273 = .ok (.aload 5, 2) := by decide +kernel
theorem dL_areRegisters_275 : decode cL_areRegisters 275 = .ok (.iconst 1, 1) := by decide +kernel
theorem dL_areRegisters_276 : decode cL_areRegisters 276 = .ok (.iaload, 1) := by decide +kernel
theorem dL_areRegisters_277 : decode cL_areRegisters 277 = .ok (.if_icmp .ne 174, 3) := by decide +kernel
theorem dL_areRegisters_280 : decode cL_areRegisters 280 = .ok (.aload_n 0, 1) := by decide +kernel
theorem dL_areRegisters_281 : decode cL_areRegisters 281 = .ok (.iconst 2, 1) := by decide +kernel
theorem dL_areRegisters_282 : decode cL_areRegisters 282 = .ok (.invokevirtual 69, 3) := by decide +kernel
theorem dL_areRegisters_285 : decode cL_areRegisters 285 = .ok (.iload 6, 2) := by decide +kernel
theorem dL_areRegisters_287 : decode cL_areRegisters 287 = .ok (.if_icmp .ne 164, 3) := by decide +kernel
theorem dL_areRegisters_290 : decode cL_areRegisters 290 = .ok (.aload_n 0, 1) := by decide +kernel
theorem dL_areRegisters_291 : decode cL_areRegisters 291 = .ok (.iconst 5, 1) := by decide +kernel
theorem dL_areRegisters_292 : decode cL_areRegisters 292 = .ok (.invokevirtual 69, 3) := by decide +kernel
theorem dL_areRegisters_295 : decode cL_areRegisters 295 = .ok (.iload 7, 2) := by decide +kernel
theorem dL_areRegisters_297 : decode cL_areRegisters 297 = .ok (.if_icmp .ne 154, 3) := by decide +kernel
theorem dL_areRegisters_300 : decode cL_areRegisters 300 = .ok (.aload_n 0, 1) := by decide +kernel
theorem dL_areRegisters_301 : decode cL_areRegisters 301 = .ok (.bipush 6, 2) := by decide +kernel
theorem dL_areRegisters_303 : decode cL_areRegisters 303 = .ok (.invokevirtual 69, 3) := by decide +kernel
theorem dL_areRegisters_306 : decode cL_areRegisters 306 = .ok (.aload 5, 2) := by decide +kernel
theorem dL_areRegisters_308 : decode cL_areRegisters 308 = .ok (.iconst 5, 1) := by decide +kernel
theorem dL_areRegisters_309 : decode cL_areRegisters 309 = .ok (.iaload, 1) := by decide +kernel
theorem dL_areRegisters_310 : decode cL_areRegisters 310 = .ok (.if_icmp .ne 141, 3) := by decide +kernel
theorem dL_areRegisters_313 : decode cL_areRegisters 313 = .ok (.aload_n 0, 1) := by decide +kernel
theorem dL_areRegisters_314 : decode cL_areRegisters 314 = .ok (.bipush 7, 2) := by decide +kernel
theorem dL_areRegisters_316 : decode cL_areRegisters 316 = .ok (.invokevirtual 69, 3) := by decide +kernel
theorem dL_areRegisters_319 : decode cL_areRegisters 319 = .ok (.aload 5, 2) := by decide +kernel
theorem dL_areRegisters_321 : decode cL_areRegisters 321 = .ok (.bipush 6, 2) := by decide +kernel
theorem dL_areRegisters_323 : decode cL_areRegisters 323 = .ok (.iaload, 1) := by decide +kernel
theorem dL_areRegisters_324 : decode cL_areRegisters 324 = .ok (.if_icmp .ne 127, 3) := by decide +kernel
theorem dL_areRegisters_327 : decode cL_areRegisters 327 = .ok (.aload_n 0, 1) := by decide +kernel
theorem dL_areRegisters_328 : decode cL_areRegisters 328 = .ok (.bipush 8, 2) := by decide +kernel
theorem dL_areRegisters_330 : decode cL_areRegisters 330 = .ok (.invokevirtual 69, 3) := by decide +kernel
theorem dL_areRegisters_333 : decode cL_areRegisters 333 = .ok (.aload 5, 2) := by decide +kernel
theorem dL_areRegisters_335 : decode cL_areRegisters 335 = .ok (.iconst 3, 1) := by decide +kernel
theorem dL_areRegisters_336 : decode cL_areRegisters 336 = .ok (.iaload, 1) := by decide +kernel
theorem dL_areRegisters_337 : decode cL_areRegisters 337 = .ok (.if_icmp .ne 114, 3) := by decide +kernel
theorem dL_areRegisters_340 : decode cL_areRegisters 340 = .ok (.aload_n 0, 1) := by decide +kernel
theorem dL_areRegisters_341 : decode cL_areRegisters 341 = .ok (.bipush 9, 2) := by decide +kernel
theorem dL_areRegisters_343 : decode cL_areRegisters 343 = .ok (.invokevirtual 69, 3) := by decide +kernel
theorem dL_areRegisters_346 : decode cL_areRegisters 346 = .ok (.aload 5, 2) := by decide +kernel
theorem dL_areRegisters_348 : decode cL_areRegisters 348 = .ok (.iconst 4, 1) := by decide +kernel
theorem dL_areRegisters_349 : decode cL_areRegisters 349 = .ok (.iaload, 1) := by decide +kernel
theorem dL_areRegisters_350 : decode cL_areRegisters 350 = .ok (.if_icmp .ne 101, 3) := by decide +kernel
theorem dL_areRegisters_353 : decode cL_areRegisters 353 = .ok (.aload_n 0, 1) := by decide +kernel
theorem dL_areRegisters_354 : decode cL_areRegisters 354 = .ok (.bipush 10, 2) := by decide +kernel
theorem dL_areRegisters_356 : decode cL_areRegisters 356 = .ok (.invokevirtual 69, 3) := by decide +kernel
theorem dL_areRegisters_359 : decode cL_areRegisters 359 = .ok (.aload 5, 2) := by decide +kernel
theorem dL_areRegisters_361 : decode cL_areRegisters 361 = .ok (.iconst 2, 1) := by decide +kernel
theorem dL_areRegisters_362 : decode cL_areRegisters 362 = .ok (.iaload, 1) := by decide +kernel
theorem dL_areRegisters_363 : decode cL_areRegisters 363 = .ok (.if_icmp .ne 88, 3) := by decide +kernel
theorem dL_areRegisters_366 : decode cL_areRegisters 366 = .ok (.aload_n 0, 1) := by decide +kernel
theorem dL_areRegisters_367 : decode cL_areRegisters 367 = .ok (.bipush 11, 2) := by decide +kernel
theorem dL_areRegisters_369 : decode cL_areRegisters 369 = .ok (.invokevirtual 69, 3) := by decide +kernel
theorem dL_areRegisters_372 : decode cL_areRegisters 372 = .ok (.aload 5, 2) := by decide +kernel
theorem dL_areRegisters_374 : decode cL_areRegisters 374 = .ok (.iconst 5, 1) := by decide +kernel
theorem dL_areRegisters_375 : decode cL_areRegisters 375 = .ok (.iaload, 1) := by decide +kernel
theorem dL_areRegisters_376 : decode cL_areRegisters 376 = .ok (.bipush 6, 2) := by decide +kernel
theorem dL_areRegisters_378 : decode cL_areRegisters 378 = .ok (.if_icmp .ge 10, 3) := by decide +kernel
theorem dL_areRegisters_381 : decode cL_areRegisters 381 = .ok (.aload 5, 2) := by decide +kernel
theorem dL_areRegisters_383 : decode cL_areRegisters 383 = .ok (.iconst 5, 1) := by decide +kernel
theorem dL_areRegisters_384 : decode cL_areRegisters 384 = .ok (.iaload, 1) := by decide +kernel
theorem dL_areRegisters_385 : decode cL_areRegisters 385 = .ok (.goto 5, 3) := by decide +kernel
theorem dL_areRegisters_388 : decode cL_areRegisters 388 = .ok (.bipush 6, 2) := by decide +kernel
theorem dL_areRegisters_390 : decode cL_areRegisters 390 = .ok (.if_icmp .ne 61, 3) := by decide +kernel
theorem dL_areRegisters_393 : decode cL_areRegisters 393 = .ok (.aload_n 0, 1) := by decide +kernel
theorem dL_areRegisters_394 : decode cL_areRegisters 394 = .ok (.bipush 20, 2) := by decide +kernel
theorem dL_areRegisters_396 : decode cL_areRegisters 396 = .ok (.invokevirtual 69, 3) := by decide +kernel
theorem dL_areRegisters_399 : decode cL_areRegisters 399 = .ok (.aload 5, 2) := by decide +kernel
theorem dL_areRegisters_401 : decode cL_areRegisters 401 = .ok (.bipush 8, 2) := by decide +kernel
theorem dL_areRegisters_403 : decode cL_areRegisters 403 = .ok (.iaload, 1) := by decide +kernel
theorem dL_areRegisters_404 : decode cL_areRegisters 404 = .ok (.if_icmp .ne 47, 3) := by decide +kernel
theorem dL_areRegisters_407 : decode cL_areRegisters 407 = .ok (.aload_n 0, 1) := by decide +kernel
theorem dL_areRegisters_408 : decode cL_areRegisters 408 = .ok (.bipush 21, 2) := by decide +kernel
theorem dL_areRegisters_410 : decode cL_areRegisters 410 = .ok (.invokevirtual 69, 3) := by decide +kernel
theorem dL_areRegisters_413 : decode cL_areRegisters 413 = .ok (.aload 5, 2) := by decide +kernel
theorem dL_areRegisters_415 : decode cL_areRegisters 415 = .ok (.bipush 9, 2) := by decide +kernel
theorem dL_areRegisters_417 : decode cL_areRegisters 417 = .ok (.iaload, 1) := by decide +kernel
theorem dL_areRegisters_418 : decode cL_areRegisters 418 = .ok (.if_icmp .ne 33, 3) := by decide +kernel
theorem dL_areRegisters_421 : decode cL_areRegisters 421 = .ok (.aload_n 0, 1) := by decide +kernel
theorem dL_areRegisters_422 : decode cL_areRegisters 422 = .ok (.bipush 22, 2) := by decide +kernel
theorem dL_areRegisters_424 : decode cL_areRegisters 424 = .ok (.invokevirtual 69, 3) := by decide +kernel
theorem dL_areRegisters_427 : decode cL_areRegisters 427 = .ok (.aload 5, 2) := by decide +kernel
theorem dL_areRegisters_429 : decode cL_areRegisters 429 = .ok (.bipush 10, 2) := by decide +kernel
theorem dL_areRegisters_431 : decode cL_areRegisters 431 = .ok (.iaload, 1) := by decide +kernel
theorem dL_areRegisters_432 : decode cL_areRegisters 432 = .ok (.if_icmp .ne 19, 3) := by decide +kernel
theorem dL_areRegisters_435 : decode cL_areRegisters 435 = .ok (.aload_n 0, 1) := by decide +kernel
theorem dL_areRegisters_436 : decode cL_areRegisters 436 = .ok (.iconst 3, 1) := by decide +kernel
theorem dL_areRegisters_437 : decode cL_areRegisters 437 = .ok (.invokevirtual 72, 3) := by decide +kernel
theorem dL_areRegisters_440 : decode cL_areRegisters 440 = .ok (.aload_n 1, 1) := by decide +kernel
theorem dL_areRegisters_441 : decode cL_areRegisters 441 = .ok (.invokestatic 19, 3) := by decide +kernel
theorem dL_areRegisters_444 : decode cL_areRegisters 444 = .ok (.if_icmp .ne 7, 3) := by decide +kernel
theorem dL_areRegisters_447 : decode cL_areRegisters 447 = .ok (.iconst 1, 1) := by decide +kernel
theorem dL_areRegisters_448 : decode cL_areRegisters 448 = .ok (.goto 4, 3) := by decide +kernel
theorem dL_areRegisters_451 : decode cL_areRegisters 451 = .ok (.iconst 0, 1) := by decide +kernel
theorem dL_areRegisters_452 : decode cL_areRegisters 452 = .ok (.ireturn, 1) := by decide +kernel
theorem dL_areAlarms_0 : decode cL_areAlarms 0 = .ok (.iconst 0, 1) := by decide +kernel
theorem dL_areAlarms_1 : decode cL_areAlarms 1 = .ok (.istore 4, 2) := by decide +kernel
theorem dL_areAlarms_3 : decode cL_areAlarms 3 = .ok (.iconst 1, 1) := by decide +kernel
theorem dL_areAlarms_4 : decode cL_areAlarms 4 = .ok (.istore 5, 2) := by decide +kernel
theorem dL_areAlarms_6 : decode cL_areAlarms 6 = .ok (.iconst 0, 1) := by decide +kernel
theorem dL_areAlarms_7 : decode cL_areAlarms 7 = .ok (.istore 6, 2) := by decide +kernel
theorem dL_areAlarms_9 : decode cL_areAlarms 9 = .ok (.iload 6, 2) := by decide +kernel
theorem dL_areAlarms_11 : decode cL_areAlarms 11 = .ok (.iconst 3, 1) := by decide +kernel
theorem dL_areAlarms_12 : decode cL_areAlarms 12 = .ok (.if_icmp .ge 119, 3) := by decide +kernel
theorem dL_areAlarms_15 : decode cL_areAlarms 15 = .ok (.iload 5, 2) := by decide +kernel
theorem dL_areAlarms_17 : decode cL_areAlarms 17 = .ok (.ifCond .eq 114, 3) := by decide +kernel
theorem dL_areAlarms_20 : decode cL_areAlarms 20 = .ok (.iload 4, 2) := by decide +kernel
theorem dL_areAlarms_22 : decode cL_areAlarms 22 = .ok (.aload_n 3, 1) := by decide +kernel
theorem dL_areAlarms_23 : decode cL_areAlarms 23 = .ok (.bipush 9, 2) := by decide +kernel
theorem dL_areAlarms_25 : decode cL_areAlarms 25 = .ok (.iload 6, 2) := by decide +kernel
theorem dL_areAlarms_27 : decode cL_areAlarms 27 = .ok (.imul, 1) := by decide +kernel
theorem dL_areAlarms_28 : decode cL_areAlarms 28 = .ok (.bipush 7, 2) := by decide +kernel
theorem dL_areAlarms_30 : decode cL_areAlarms 30 = .ok (.iadd, 1) := by decide +kernel
theorem dL_areAlarms_31 : decode cL_areAlarms 31 = .ok (.iaload, 1) := by decide +kernel
theorem dL_areAlarms_32 : decode cL_areAlarms 32 = .ok (.iload 6, 2) := by decide +kernel
theorem dL_areAlarms_34 : decode cL_areAlarms 34 = .ok (.ishl, 1) := by decide +kernel
theorem dL_areAlarms_35 : decode cL_areAlarms 35 = .ok (.ior, 1) := by decide +kernel
theorem dL_areAlarms_36 : decode cL_areAlarms 36 = .ok (.istore 4, 2) := by decide +kernel
theorem dL_areAlarms_38 : decode cL_areAlarms 38 = .ok (.iconst 0, 1) := by decide +kernel
theorem dL_areAlarms_39 : decode cL_areAlarms 39 = .ok (.istore 7, 2) := by decide +kernel
theorem dL_areAlarms_41 : decode cL_areAlarms 41 = .ok (.iload 7, 2) := by decide +kernel
theorem dL_areAlarms_43 : decode cL_areAlarms 43 = .ok (.bipush 9, 2) := by decide +kernel
theorem dL_areAlarms_45 : decode cL_areAlarms 45 = .ok (.if_icmp .ge 42, 3) := by decide +kernel
theorem dL_areAlarms_48 : decode cL_areAlarms 48 = .ok (.iload 5, 2) := by decide +kernel
theorem dL_areAlarms_50 : decode cL_areAlarms 50 = .ok (.ifCond .eq 28, 3) := by decide +kernel
theorem dL_areAlarms_53 : decode cL_areAlarms 53 = .ok (.aload_n 0, 1) := by decide +kernel
theorem dL_areAlarms_54 : decode cL_areAlarms 54 = .ok (.iload 6, 2) := by decide +kernel
theorem dL_areAlarms_56 : decode cL_areAlarms 56 = .ok (.iload 7, 2) := by decide +kernel
theorem dL_areAlarms_58 : decode cL_areAlarms 58 = .ok (.invokevirtual 75, 3) := by decide +kernel
theorem dL_areAlarms_61 : decode cL_areAlarms 61 = .ok (.aload_n 3, 1) := by decide +kernel
theorem dL_areAlarms_62 : decode cL_areAlarms 62 = .ok (.bipush 9, 2) := by decide +kernel
theorem dL_areAlarms_64 : decode cL_areAlarms 64 = .ok (.iload 6, 2) := by decide +kernel
theorem dL_areAlarms_66 : decode cL_areAlarms 66 = .ok (.imul, 1) := by decide +kernel
theorem dL_areAlarms_67 : decode cL_areAlarms 67 = .ok (.iload 7, 2) := by decide +kernel
theorem dL_areAlarms_69 : decode cL_areAlarms 69 = .ok (.iadd, 1) := by decide +kernel
theorem dL_areAlarms_70 : decode cL_areAlarms 70 = .ok (.iaload, 1) := by decide +kernel
theorem dL_areAlarms_71 : decode cL_areAlarms 71 = .ok (.if_icmp .ne 7, 3) := by decide +kernel
theorem dL_areAlarms_74 : decode cL_areAlarms 74 = .ok (.iconst 1, 1) := by decide +kernel
theorem dL_areAlarms_75 : decode cL_areAlarms 75 = .ok (.goto 4, 3) := by decide +kernel
theorem dL_areAlarms_78 : decode cL_areAlarms 78 = .ok (.iconst 0, 1) := by decide +kernel
theorem dL_areAlarms_79 : decode cL_areAlarms 79 = .ok (.istore 5, 2) := by decide +kernel
theorem dL_areAlarms_81 : decode cL_areAlarms 81 = .ok (.iinc 7 1, 3) := by decide +kernel
theorem dL_areAlarms_84 : decode cL_areAlarms 84 = .ok (.goto (-43), 3) := by decide +kernel
theorem dL_areAlarms_87 : decode cL_areAlarms 87 = .ok (.iload 5, 2) := by decide +kernel
theorem dL_areAlarms_89 : decode cL_areAlarms 89 = .ok (.ifCond .eq 33, 3) := by decide +kernel
theorem dL_areAlarms_92 : decode cL_areAlarms 92 = .ok (.aload_n 0, 1) := by decide +kernel
theorem dL_areAlarms_93 : decode cL_areAlarms 93 = .ok (.iload 6, 2) := by decide +kernel
theorem dL_areAlarms_95 : decode cL_areAlarms 95 = .ok (.bipush 9, 2) := by decide +kernel
theorem dL_areAlarms_97 : decode cL_areAlarms 97 = .ok (.invokevirtual 75, 3) := by decide +kernel
theorem dL_areAlarms_100 : decode cL_areAlarms 100 = .ok (.aload_n 1, 1) := by decide +kernel
theorem dL_areAlarms_101 : decode cL_areAlarms 101 = .ok (.aload_n 3, 1) := by decide +kernel
theorem dL_areAlarms_102 : decode cL_areAlarms 102 = .ok (.iload 6, 2) := by decide +kernel
theorem dL_areAlarms_104 : decode cL_areAlarms 104 = .ok (.invokestatic 41, 3) := by decide +kernel
theorem dL_areAlarms_107 : decode cL_areAlarms 107 = .ok (.ifCond .eq 7, 3) := by decide +kernel
theorem dL_areAlarms_110 : decode cL_areAlarms 110 = .ok (.iconst 1, 1) := by decide +kernel
theorem dL_areAlarms_111 : decode cL_areAlarms 111 = .ok (.goto 4, 3) := by decide +kernel
theorem dL_areAlarms_114 : decode cL_areAlarms 114 = .ok (.iconst 0, 1) := by decide +kernel
theorem dL_areAlarms_115 : decode cL_areAlarms 115 = .ok (.if_icmp .ne 7, 3) := by decide +kernel
theorem dL_areAlarms_118 : decode cL_areAlarms 118 = .ok (.iconst 1, 1) := by decide +kernel
theorem dL_areAlarms_119 : decode cL_areAlarms 119 = .ok (.goto 4, 3) := by decide +kernel
theorem dL_areAlarms_122 : decode cL_areAlarms 122 = .ok (.iconst 0, 1) := by decide +kernel
theorem dL_areAlarms_123 : decode cL_areAlarms 123 = .ok (.istore 5, 2) := by decide +kernel
theorem dL_areAlarms_125 : decode cL_areAlarms 125 = .ok (.iinc 6 1, 3) := by decide +kernel
theorem dL_areAlarms_128 : decode cL_areAlarms 128 = .ok (.goto (-119), 3) := by decide +kernel
theorem dL_areAlarms_131 : decode cL_areAlarms 131 = .ok (.iload 5, 2) := by decide +kernel
theorem dL_areAlarms_133 : decode cL_areAlarms 133 = .ok (.ifCond .eq 29, 3) := by decide +kernel
theorem dL_areAlarms_136 : decode cL_areAlarms 136 = .ok (.aload_n 0, 1) := by decide +kernel
theorem dL_areAlarms_137 : decode cL_areAlarms 137 = .ok (.iconst 3, 1) := by decide +kernel
theorem dL_areAlarms_138 : decode cL_areAlarms 138 = .ok (.invokevirtual 69, 3) := by decide +kernel
theorem dL_areAlarms_141 : decode cL_areAlarms 141 = .ok (.iload 4, 2) := by decide +kernel
theorem dL_areAlarms_143 : decode cL_areAlarms 143 = .ok (.if_icmp .ne 19, 3) := by decide +kernel
theorem dL_areAlarms_146 : decode cL_areAlarms 146 = .ok (.aload_n 0, 1) := by decide +kernel
theorem dL_areAlarms_147 : decode cL_areAlarms 147 = .ok (.iconst 4, 1) := by decide +kernel
theorem dL_areAlarms_148 : decode cL_areAlarms 148 = .ok (.invokevirtual 69, 3) := by decide +kernel
theorem dL_areAlarms_151 : decode cL_areAlarms 151 = .ok (.aload_n 2, 1) := by decide +kernel
theorem dL_areAlarms_152 : decode cL_areAlarms 152 = .ok (.bipush 7, 2) := by decide +kernel
theorem dL_areAlarms_154 : decode cL_areAlarms 154 = .ok (.iaload, 1) := by decide +kernel
theorem dL_areAlarms_155 : decode cL_areAlarms 155 = .ok (.if_icmp .ne 7, 3) := by decide +kernel
theorem dL_areAlarms_158 : decode cL_areAlarms 158 = .ok (.iconst 1, 1) := by decide +kernel
theorem dL_areAlarms_159 : decode cL_areAlarms 159 = .ok (.goto 4, 3) := by decide +kernel
theorem dL_areAlarms_162 : decode cL_areAlarms 162 = .ok (.iconst 0, 1) := by decide +kernel
theorem dL_areAlarms_163 : decode cL_areAlarms 163 = .ok (.ireturn, 1) := by decide +kernel
theorem dL_isActed_0 : decode cL_isActed 0 = .ok (.iload 10, 2) := by decide +kernel
theorem dL_isActed_2 : decode cL_isActed 2 = .ok (.bipush 7, 2) := by decide +kernel
theorem dL_isActed_4 : decode cL_isActed 4 = .ok (.irem, 1) := by decide +kernel
theorem dL_isActed_5 : decode cL_isActed 5 = .ok (.istore 11, 2) := by decide +kernel
theorem dL_isActed_7 : decode cL_isActed 7 = .ok (.iload 10, 2) := by decide +kernel
theorem dL_isActed_9 : decode cL_isActed 9 = .ok (.bipush 7, 2) := by decide +kernel
theorem dL_isActed_11 : decode cL_isActed 11 = .ok (.idiv, 1) := by decide +kernel
theorem dL_isActed_12 : decode cL_isActed 12 = .ok (.istore 12, 2) := by decide +kernel
theorem dL_isActed_14 : decode cL_isActed 14 = .ok (.iload 9, 2) := by decide +kernel
theorem dL_isActed_16 : decode cL_isActed 16 = .ok (.bipush 6, 2) := by decide +kernel
theorem dL_isActed_18 : decode cL_isActed 18 = .ok (.if_icmp .ge 114, 3) := by decide +kernel
theorem dL_isActed_21 : decode cL_isActed 21 = .ok (.iload 12, 2) := by decide +kernel
theorem dL_isActed_23 : decode cL_isActed 23 = .ok (.iconst 3, 1) := by decide +kernel
theorem dL_isActed_24 : decode cL_isActed 24 = .ok (.irem, 1) := by decide +kernel
theorem dL_isActed_25 : decode cL_isActed 25 = .ok (.ifCond .ne 14, 3) := by decide +kernel
theorem dL_isActed_28 : decode cL_isActed 28 = .ok (.iload 12, 2) := by decide +kernel
theorem dL_isActed_30 : decode cL_isActed 30 = .ok (.iconst 3, 1) := by decide +kernel
theorem dL_isActed_31 : decode cL_isActed 31 = .ok (.idiv, 1) := by decide +kernel
theorem dL_isActed_32 : decode cL_isActed 32 = .ok (.sipush 256, 3) := by decide +kernel
theorem dL_isActed_35 : decode cL_isActed 35 = .ok (.irem, 1) := by decide +kernel
theorem dL_isActed_36 : decode cL_isActed 36 = .ok (.goto 55, 3) := by decide +kernel
theorem dL_isActed_39 : decode cL_isActed 39 = .ok (.iload 12, 2) := by decide +kernel
theorem dL_isActed_41 : decode cL_isActed 41 = .ok (.iconst 3, 1) := by decide +kernel
theorem dL_isActed_42 : decode cL_isActed 42 = .ok (.irem, 1) := by decide +kernel
theorem dL_isActed_43 : decode cL_isActed 43 = .ok (.iconst 1, 1) := by decide +kernel
theorem dL_isActed_44 : decode cL_isActed 44 = .ok (.if_icmp .ne 28, 3) := by decide +kernel
theorem dL_isActed_47 : decode cL_isActed 47 = .ok (.aload_n 1, 1) := by decide +kernel
theorem dL_isActed_48 : decode cL_isActed 48 = .ok (.iload 11, 2) := by decide +kernel
theorem dL_isActed_50 : decode cL_isActed 50 = .ok (.invokestatic 26, 3) := by decide +kernel
theorem dL_isActed_53 : decode cL_isActed 53 = .ok (.bipush 10, 2) := by decide +kernel
theorem dL_isActed_55 : decode cL_isActed 55 = .ok (.idiv, 1) := by decide +kernel
theorem dL_isActed_56 : decode cL_isActed 56 = .ok (.bipush 16, 2) := by decide +kernel
theorem dL_isActed_58 : decode cL_isActed 58 = .ok (.imul, 1) := by decide +kernel
theorem dL_isActed_59 : decode cL_isActed 59 = .ok (.aload_n 1, 1) := by decide +kernel
theorem dL_isActed_60 : decode cL_isActed 60 = .ok (.iload 11, 2) := by decide +kernel
theorem dL_isActed_62 : decode cL_isActed 62 = .ok (.invokestatic 26, 3) := by decide +kernel
theorem dL_isActed_65 : decode cL_isActed 65 = .ok (.bipush 10, 2) := by decide +kernel
theorem dL_isActed_67 : decode cL_isActed 67 = .ok (.irem, 1) := by decide +kernel
theorem dL_isActed_68 : decode cL_isActed 68 = .ok (.iadd, 1) := by decide +kernel
theorem dL_isActed_69 : decode cL_isActed 69 = .ok (.goto 22, 3) := by decide +kernel
theorem dL_isActed_72 : decode cL_isActed 72 = .ok (.iload 12, 2) := by decide +kernel
theorem dL_isActed_74 : decode cL_isActed 74 = .ok (.iconst 3, 1) := by decide +kernel
theorem dL_isActed_75 : decode cL_isActed 75 = .ok (.idiv, 1) := by decide +kernel
theorem dL_isActed_76 : decode cL_isActed 76 = .ok (.bipush 10, 2) := by decide +kernel
theorem dL_isActed_78 : decode cL_isActed 78 = .ok (.irem, 1) := by decide +kernel
theorem dL_isActed_79 : decode cL_isActed 79 = .ok (.bipush 16, 2) := by decide +kernel
theorem dL_isActed_81 : decode cL_isActed 81 = .ok (.iload 12, 2) := by decide +kernel
theorem dL_isActed_83 : decode cL_isActed 83 = .ok (.bipush 30, 2) := by decide +kernel
theorem dL_isActed_85 : decode cL_isActed 85 = .ok (.idiv, 1) := by decide +kernel
theorem dL_isActed_86 : decode cL_isActed 86 = .ok (.bipush 6, 2) := by decide +kernel
theorem dL_isActed_88 : decode cL_isActed 88 = .ok (.irem, 1) := by decide +kernel
theorem dL_isActed_89 : decode cL_isActed 89 = .ok (.imul, 1) := by decide +kernel
theorem dL_isActed_90 : decode cL_isActed 90 = .ok (.iadd, 1) := by decide +kernel
theorem dL_isActed_91 : decode cL_isActed 91 = .ok (.istore 13, 2) := by decide +kernel
theorem dL_isActed_93 : decode cL_isActed 93 = .ok (.aload_n 1, 1) := by decide +kernel
theorem dL_isActed_94 : decode cL_isActed 94 = .ok (.aload_n 2, 1) := by decide +kernel
theorem dL_isActed_95 : decode cL_isActed 95 = .ok (.aload_n 3, 1) := by decide +kernel
theorem dL_isActed_96 : decode cL_isActed 96 = .ok (.iload 11, 2) := by decide +kernel
theorem dL_isActed_98 : decode cL_isActed 98 = .ok (.iload 13, 2) := by decide +kernel
theorem dL_isActed_100 : decode cL_isActed 100 = .ok (.invokestatic 33, 3) := by decide +kernel
theorem dL_isActed_103 : decode cL_isActed 103 = .ok (.aload 5, 2) := by decide +kernel
theorem dL_isActed_105 : decode cL_isActed 105 = .ok (.iconst 4, 1) := by decide +kernel
theorem dL_isActed_106 : decode cL_isActed 106 = .ok (.dup2, 1) := by decide +kernel
theorem dL_isActed_107 : decode cL_isActed 107 = .ok (.iaload, 1) := by decide +kernel
theorem dL_isActed_108 : decode cL_isActed 108 = .ok (.iconst 1, 1) := by decide +kernel
theorem dL_isActed_109 : decode cL_isActed 109 = .ok (.iadd, 1) := by decide +kernel
theorem dL_isActed_110 : decode cL_isActed 110 = .ok (.iastore, 1) := by decide +kernel
theorem dL_isActed_111 : decode cL_isActed 111 = .ok (.aload_n 0, 1) := by decide +kernel
theorem dL_isActed_112 : decode cL_isActed 112 = .ok (.iload 11, 2) := by decide +kernel
theorem dL_isActed_114 : decode cL_isActed 114 = .ok (.iload 13, 2) := by decide +kernel
theorem dL_isActed_116 : decode cL_isActed 116 = .ok (.invokevirtual 78, 3) := by decide +kernel
theorem dL_isActed_119 : decode cL_isActed 119 = .ok (.aload_n 1, 1) := by decide +kernel
theorem dL_isActed_120 : decode cL_isActed 120 = .ok (.iload 11, 2) := by decide +kernel
theorem dL_isActed_122 : decode cL_isActed 122 = .ok (.iaload, 1) := by decide +kernel
theorem dL_isActed_123 : decode cL_isActed 123 = .ok (.if_icmp .ne 7, 3) := by decide +kernel
theorem dL_isActed_126 : decode cL_isActed 126 = .ok (.iconst 1, 1) := by decide +kernel
theorem dL_isActed_127 : decode cL_isActed 127 = .ok (.goto 4, 3) := by decide +kernel
theorem dL_isActed_130 : decode cL_isActed 130 = .ok (.iconst 0, 1) := by decide +kernel
theorem dL_isActed_131 : decode cL_isActed 131 = .ok (.ireturn, 1) := by decide +kernel
theorem dL_isActed_132 : decode cL_isActed 132 = .ok (.iload 9, 2) := by decide +kernel
theorem dL_isActed_134 : decode cL_isActed 134 = .ok (.bipush 6, 2) := by decide +kernel
theorem dL_isActed_136 : decode cL_isActed 136 = .ok (.if_icmp .ne 80, 3) := by decide +kernel
theorem dL_isActed_139 : decode cL_isActed 139 = .ok (.aload_n 1, 1) := by decide +kernel
theorem dL_isActed_140 : decode cL_isActed 140 = .ok (.iload 11, 2) := by decide +kernel
theorem dL_isActed_142 : decode cL_isActed 142 = .ok (.iaload, 1) := by decide +kernel
theorem dL_isActed_143 : decode cL_isActed 143 = .ok (.istore 13, 2) := by decide +kernel
theorem dL_isActed_145 : decode cL_isActed 145 = .ok (.aload 5, 2) := by decide +kernel
theorem dL_isActed_147 : decode cL_isActed 147 = .ok (.iconst 3, 1) := by decide +kernel
theorem dL_isActed_148 : decode cL_isActed 148 = .ok (.dup2, 1) := by decide +kernel
theorem dL_isActed_149 : decode cL_isActed 149 = .ok (.iaload, 1) := by decide +kernel
theorem dL_isActed_150 : decode cL_isActed 150 = .ok (.iconst 1, 1) := by decide +kernel
theorem dL_isActed_151 : decode cL_isActed 151 = .ok (.iadd, 1) := by decide +kernel
theorem dL_isActed_152 : decode cL_isActed 152 = .ok (.iastore, 1) := by decide +kernel
theorem dL_isActed_153 : decode cL_isActed 153 = .ok (.iconst 0, 1) := by decide +kernel
theorem dL_isActed_154 : decode cL_isActed 154 = .ok (.istore 14, 2) := by decide +kernel
theorem dL_isActed_156 : decode cL_isActed 156 = .ok (.iload 14, 2) := by decide +kernel
theorem dL_isActed_158 : decode cL_isActed 158 = .ok (.aload 5, 2) := by decide +kernel
theorem dL_isActed_160 : decode cL_isActed 160 = .ok (.bipush 8, 2) := by decide +kernel
theorem dL_isActed_162 : decode cL_isActed 162 = .ok (.iaload, 1) := by decide +kernel
theorem dL_isActed_163 : decode cL_isActed 163 = .ok (.if_icmp .ge 36, 3) := by decide +kernel
theorem dL_isActed_166 : decode cL_isActed 166 = .ok (.aload 5, 2) := by decide +kernel
theorem dL_isActed_168 : decode cL_isActed 168 = .ok (.iconst 3, 1) := by decide +kernel
theorem dL_isActed_169 : decode cL_isActed 169 = .ok (.dup2, 1) := by decide +kernel
theorem dL_isActed_170 : decode cL_isActed 170 = .ok (.iaload, 1) := by decide +kernel
theorem dL_isActed_171 : decode cL_isActed 171 = .ok (.aload_n 1, 1) := by decide +kernel
theorem dL_isActed_172 : decode cL_isActed 172 = .ok (.aload_n 2, 1) := by decide +kernel
theorem dL_isActed_173 : decode cL_isActed 173 = .ok (.aload_n 3, 1) := by decide +kernel
theorem dL_isActed_174 : decode cL_isActed 174 = .ok (.aload 4, 2) := by decide +kernel
theorem dL_isActed_176 : decode cL_isActed 176 = .ok (.aload 5, 2) := by decide +kernel
theorem dL_isActed_178 : decode cL_isActed 178 = .ok (.aload 6, 2) := by decide +kernel
theorem dL_isActed_180 : decode cL_isActed 180 = .ok (.invokestatic 45, 3) := by decide +kernel
theorem dL_isActed_183 : decode cL_isActed 183 = .ok (.ifCond .eq 7, 3) := by decide +kernel
theorem dL_isActed_186 : decode cL_isActed 186 = .ok (.iconst 0, 1) := by decide +kernel
theorem dL_isActed_187 : decode cL_isActed 187 = .ok (.goto 4, 3) := by decide +kernel
theorem dL_isActed_190 : decode cL_isActed 190 = .ok (.iconst 0, 1) := by decide +kernel
theorem dL_isActed_191 : decode cL_isActed 191 = .ok (.iadd, 1) := by decide +kernel
theorem dL_isActed_192 : decode cL_isActed 192 = .ok (.iastore, 1) := by decide +kernel
theorem dL_isActed_193 : decode cL_isActed 193 = .ok (.iinc 14 1, 3) := by decide +kernel
theorem dL_isActed_196 : decode cL_isActed 196 = .ok (.goto (-40), 3) := by decide +kernel
theorem dL_isActed_199 : decode cL_isActed 199 = .ok (.aload_n 0, 1) := by decide +kernel
theorem dL_isActed_200 : decode cL_isActed 200 = .ok (.iload 11, 2) := by decide +kernel
theorem dL_isActed_202 : decode cL_isActed 202 = .ok (.invokevirtual 81, 3) := by decide +kernel
theorem dL_isActed_205 : decode cL_isActed 205 = .ok (.iload 13, 2) := by decide +kernel
theorem dL_isActed_207 : decode cL_isActed 207 = .ok (.if_icmp .ne 7, 3) := by decide +kernel
theorem dL_isActed_210 : decode cL_isActed 210 = .ok (.iconst 1, 1) := by decide +kernel
theorem dL_isActed_211 : decode cL_isActed 211 = .ok (.goto 4, 3) := by decide +kernel
theorem dL_isActed_214 : decode cL_isActed 214 = .ok (.iconst 0, 1) := by decide +kernel
theorem dL_isActed_215 : decode cL_isActed 215 = .ok (.ireturn, 1) := by decide +kernel
theorem dL_isActed_216 : decode cL_isActed 216 = .ok (.iload 9, 2) := by decide +kernel
theorem dL_isActed_218 : decode cL_isActed 218 = .ok (.bipush 11, 2) := by decide +kernel
theorem dL_isActed_220 : decode cL_isActed 220 = .ok (.if_icmp .ge 25, 3) := by decide +kernel
theorem dL_isActed_223 : decode cL_isActed 223 = .ok (.aload_n 0, 1) := by decide +kernel
theorem dL_isActed_224 : decode cL_isActed 224 = .ok (.aload_n 1, 1) := by decide +kernel
theorem dL_isActed_225 : decode cL_isActed 225 = .ok (.aload_n 2, 1) := by decide +kernel
theorem dL_isActed_226 : decode cL_isActed 226 = .ok (.aload_n 3, 1) := by decide +kernel
theorem dL_isActed_227 : decode cL_isActed 227 = .ok (.aload 4, 2) := by decide +kernel
theorem dL_isActed_229 : decode cL_isActed 229 = .ok (.aload 5, 2) := by decide +kernel
theorem dL_isActed_231 : decode cL_isActed 231 = .ok (.aload 6, 2) := by decide +kernel
theorem dL_isActed_233 : decode cL_isActed 233 = .ok (.aload 7, 2) := by decide +kernel
theorem dL_isActed_235 : decode cL_isActed 235 = .ok (.aload 8, 2) := by decide +kernel
theorem dL_isActed_237 : decode cL_isActed 237 = .ok (.iload 10, 2) := by decide +kernel
theorem dL_isActed_239 : decode cL_isActed 239 = .ok (.iconst 3, 1) := by decide +kernel
theorem dL_isActed_240 : decode cL_isActed 240 = .ok (.irem, 1) := by decide +kernel
theorem dL_isActed_241 : decode cL_isActed 241 = .ok (.invokestatic 84, 3) := by decide +kernel
theorem dL_isActed_244 : decode cL_isActed 244 = .ok (.ireturn, 1) := by decide +kernel
theorem dL_isActed_245 : decode cL_isActed 245 = .ok (.iload 9, 2) := by decide +kernel
theorem dL_isActed_247 : decode cL_isActed 247 = .ok (.bipush 15, 2) := by decide +kernel
theorem dL_isActed_249 : decode cL_isActed 249 = .ok (.if_icmp .ge 86, 3) := by decide +kernel
theorem dL_isActed_252 : decode cL_isActed 252 = .ok (.iconst 1, 1) := by decide +kernel
theorem dL_isActed_253 : decode cL_isActed 253 = .ok (.iload 10, 2) := by decide +kernel
theorem dL_isActed_255 : decode cL_isActed 255 = .ok (.iload 9, 2) := by decide +kernel
theorem dL_isActed_257 : decode cL_isActed 257 = .ok (.bipush 14, 2) := by decide +kernel
theorem dL_isActed_259 : decode cL_isActed 259 = .ok (.if_icmp .ne 9, 3) := by decide +kernel
theorem dL_isActed_262 : decode cL_isActed 262 = .ok (.sipush 400, 3) := by decide +kernel
theorem dL_isActed_265 : decode cL_isActed 265 = .ok (.goto 5, 3) := by decide +kernel
theorem dL_isActed_268 : decode cL_isActed 268 = .ok (.bipush 40, 2) := by decide +kernel
theorem dL_isActed_270 : decode cL_isActed 270 = .ok (.irem, 1) := by decide +kernel
theorem dL_isActed_271 : decode cL_isActed 271 = .ok (.iadd, 1) := by decide +kernel
theorem dL_isActed_272 : decode cL_isActed 272 = .ok (.istore 13, 2) := by decide +kernel
theorem dL_isActed_274 : decode cL_isActed 274 = .ok (.iconst 0, 1) := by decide +kernel
theorem dL_isActed_275 : decode cL_isActed 275 = .ok (.istore 14, 2) := by decide +kernel
theorem dL_isActed_277 : decode cL_isActed 277 = .ok (.iconst 0, 1) := by decide +kernel
theorem dL_isActed_278 : decode cL_isActed 278 = .ok (.istore 15, 2) := by decide +kernel
theorem dL_isActed_280 : decode cL_isActed 280 = .ok (.iload 15, 2) := by decide +kernel
theorem dL_isActed_282 : decode cL_isActed 282 = .ok (.iload 13, 2) := by decide +kernel
theorem dL_isActed_284 : decode cL_isActed 284 = .ok (.if_icmp .ge 34, 3) := by decide +kernel
theorem dL_isActed_287 : decode cL_isActed 287 = .ok (.iload 14, 2) := by decide +kernel
theorem dL_isActed_289 : decode cL_isActed 289 = .ok (.aload_n 1, 1) := by decide +kernel
theorem dL_isActed_290 : decode cL_isActed 290 = .ok (.aload_n 2, 1) := by decide +kernel
theorem dL_isActed_291 : decode cL_isActed 291 = .ok (.aload_n 3, 1) := by decide +kernel
theorem dL_isActed_292 : decode cL_isActed 292 = .ok (.aload 4, 2) := by decide +kernel
theorem dL_isActed_294 : decode cL_isActed 294 = .ok (.aload 5, 2) := by decide +kernel
theorem dL_isActed_296 : decode cL_isActed 296 = .ok (.aload 6, 2) := by decide +kernel
theorem dL_isActed_298 : decode cL_isActed 298 = .ok (.invokestatic 45, 3) := by decide +kernel
theorem dL_isActed_301 : decode cL_isActed 301 = .ok (.ifCond .eq 7, 3) := by decide +kernel
theorem dL_isActed_304 : decode cL_isActed 304 = .ok (.iconst 1, 1) := by decide +kernel
theorem dL_isActed_305 : decode cL_isActed 305 = .ok (.goto 4, 3) := by decide +kernel
theorem dL_isActed_308 : decode cL_isActed 308 = .ok (.iconst 0, 1) := by decide +kernel
theorem dL_isActed_309 : decode cL_isActed 309 = .ok (.iadd, 1) := by decide +kernel
theorem dL_isActed_310 : decode cL_isActed 310 = .ok (.istore 14, 2) := by decide +kernel
theorem dL_isActed_312 : decode cL_isActed 312 = .ok (.iinc 15 1, 3) := by decide +kernel
theorem dL_isActed_315 : decode cL_isActed 315 = .ok (.goto (-35), 3) := by decide +kernel
theorem dL_isActed_318 : decode cL_isActed 318 = .ok (.aload_n 0, 1) := by decide +kernel
theorem dL_isActed_319 : decode cL_isActed 319 = .ok (.iload 13, 2) := by decide +kernel
theorem dL_isActed_321 : decode cL_isActed 321 = .ok (.invokevirtual 88, 3) := by decide +kernel
theorem dL_isActed_324 : decode cL_isActed 324 = .ok (.iload 14, 2) := by decide +kernel
theorem dL_isActed_326 : decode cL_isActed 326 = .ok (.if_icmp .ne 7, 3) := by decide +kernel
theorem dL_isActed_329 : decode cL_isActed 329 = .ok (.iconst 1, 1) := by decide +kernel
theorem dL_isActed_330 : decode cL_isActed 330 = .ok (.goto 4, 3) := by decide +kernel
theorem dL_isActed_333 : decode cL_isActed 333 = .ok (.iconst 0, 1) := by decide +kernel
theorem dL_isActed_334 : decode cL_isActed 334 = .ok (.ireturn, 1) := by decide +kernel
theorem dL_isActed_335 : decode cL_isActed 335 = .ok (.iload 9, 2) := by decide +kernel
theorem dL_isActed_337 : decode cL_isActed 337 = .ok (.bipush 15, 2) := by decide +kernel
theorem dL_isActed_339 : decode cL_isActed 339 = .ok (.if_icmp .ne 91, 3) := by decide +kernel
theorem dL_isActed_342 : decode cL_isActed 342 = .ok (.iload 10, 2) := by decide +kernel
theorem dL_isActed_344 : decode cL_isActed 344 = .ok (.iconst 3, 1) := by decide +kernel
theorem dL_isActed_345 : decode cL_isActed 345 = .ok (.irem, 1) := by decide +kernel
theorem dL_isActed_346 : decode cL_isActed 346 = .ok (.istore 13, 2) := by decide +kernel
theorem dL_isActed_348 : decode cL_isActed 348 = .ok (.iload 12, 2) := by decide +kernel
theorem dL_isActed_350 : decode cL_isActed 350 = .ok (.iconst 5, 1) := by decide +kernel
theorem dL_isActed_351 : decode cL_isActed 351 = .ok (.irem, 1) := by decide +kernel
theorem dL_isActed_352 : decode cL_isActed 352 = .ok (.istore 14, 2) := by decide +kernel
theorem dL_isActed_354 : decode cL_isActed 354 = .ok (.aload 6, 2) := by decide +kernel
theorem dL_isActed_356 : decode cL_isActed 356 = .ok (.bipush 9, 2) := by decide +kernel
theorem dL_isActed_358 : decode cL_isActed 358 = .ok (.iload 13, 2) := by decide +kernel
theorem dL_isActed_360 : decode cL_isActed 360 = .ok (.imul, 1) := by decide +kernel
theorem dL_isActed_361 : decode cL_isActed 361 = .ok (.iload 14, 2) := by decide +kernel
theorem dL_isActed_363 : decode cL_isActed 363 = .ok (.iadd, 1) := by decide +kernel
theorem dL_isActed_364 : decode cL_isActed 364 = .ok (.iaload, 1) := by decide +kernel
theorem dL_isActed_365 : decode cL_isActed 365 = .ok (.istore 15, 2) := by decide +kernel
theorem dL_isActed_367 : decode cL_isActed 367 = .ok (.aload 6, 2) := by decide +kernel
theorem dL_isActed_369 : decode cL_isActed 369 = .ok (.bipush 9, 2) := by decide +kernel
theorem dL_isActed_371 : decode cL_isActed 371 = .ok (.iload 13, 2) := by decide +kernel
theorem dL_isActed_373 : decode cL_isActed 373 = .ok (.imul, 1) := by decide +kernel
theorem dL_isActed_374 : decode cL_isActed 374 = .ok (.iload 14, 2) := by decide +kernel
theorem dL_isActed_376 : decode cL_isActed 376 = .ok (.iadd, 1) := by decide +kernel
theorem dL_isActed_377 : decode cL_isActed 377 = .ok (.iload 12, 2) := by decide +kernel
theorem dL_isActed_379 : decode cL_isActed 379 = .ok (.iconst 2, 1) := by decide +kernel
theorem dL_isActed_380 : decode cL_isActed 380 = .ok (.irem, 1) := by decide +kernel
theorem dL_isActed_381 : decode cL_isActed 381 = .ok (.ifCond .ne 10, 3) := by decide +kernel
theorem dL_isActed_384 : decode cL_isActed 384 = .ok (.aload_n 1, 1) := by decide +kernel
theorem dL_isActed_385 : decode cL_isActed 385 = .ok (.iload 14, 2) := by decide +kernel
theorem dL_isActed_387 : decode cL_isActed 387 = .ok (.iaload, 1) := by decide +kernel
theorem dL_isActed_388 : decode cL_isActed 388 = .ok (.goto 11, 3) := by decide +kernel
theorem dL_isActed_391 : decode cL_isActed 391 = .ok (.iload 12, 2) := by decide +kernel
theorem dL_isActed_393 : decode cL_isActed 393 = .ok (.iconst 2, 1) := by decide +kernel
theorem dL_isActed_394 : decode cL_isActed 394 = .ok (.idiv, 1) := by decide +kernel
theorem dL_isActed_395 : decode cL_isActed 395 = .ok (.sipush 256, 3) := by decide +kernel
theorem dL_isActed_398 : decode cL_isActed 398 = .ok (.irem, 1) := by decide +kernel
theorem dL_isActed_399 : decode cL_isActed 399 = .ok (.iastore, 1) := by decide +kernel
theorem dL_isActed_400 : decode cL_isActed 400 = .ok (.aload_n 0, 1) := by decide +kernel
theorem dL_isActed_401 : decode cL_isActed 401 = .ok (.iload 13, 2) := by decide +kernel
theorem dL_isActed_403 : decode cL_isActed 403 = .ok (.iload 14, 2) := by decide +kernel
theorem dL_isActed_405 : decode cL_isActed 405 = .ok (.aload 6, 2) := by decide +kernel
theorem dL_isActed_407 : decode cL_isActed 407 = .ok (.bipush 9, 2) := by decide +kernel
theorem dL_isActed_409 : decode cL_isActed 409 = .ok (.iload 13, 2) := by decide +kernel
theorem dL_isActed_411 : decode cL_isActed 411 = .ok (.imul, 1) := by decide +kernel
theorem dL_isActed_412 : decode cL_isActed 412 = .ok (.iload 14, 2) := by decide +kernel
theorem dL_isActed_414 : decode cL_isActed 414 = .ok (.iadd, 1) := by decide +kernel
theorem dL_isActed_415 : decode cL_isActed 415 = .ok (.iaload, 1) := by decide +kernel
theorem dL_isActed_416 : decode cL_isActed 416 = .ok (.invokevirtual 91, 3) := by decide +kernel
theorem dL_isActed_419 : decode cL_isActed 419 = .ok (.iload 15, 2) := by decide +kernel
theorem dL_isActed_421 : decode cL_isActed 421 = .ok (.if_icmp .ne 7, 3) := by decide +kernel
theorem dL_isActed_424 : decode cL_isActed 424 = .ok (.iconst 1, 1) := by decide +kernel
theorem dL_isActed_425 : decode cL_isActed 425 = .ok (.goto 4, 3) := by decide +kernel
theorem dL_isActed_428 : decode cL_isActed 428 = .ok (.iconst 0, 1) := by decide +kernel
theorem dL_isActed_429 : decode cL_isActed 429 = .ok (.ireturn, 1) := by decide +kernel
theorem dL_isActed_430 : decode cL_isActed 430 = .ok (.iload 9, 2) := by decide +kernel
theorem dL_isActed_432 : decode cL_isActed 432 = .ok (.bipush 16, 2) := by decide +kernel
theorem dL_isActed_434 : decode cL_isActed 434 = .ok (.if_icmp .ne 101, 3) := by decide +kernel
theorem dL_isActed_437 : decode cL_isActed 437 = .ok (.iload 10, 2) := by decide +kernel
theorem dL_isActed_439 : decode cL_isActed 439 = .ok (.iconst 3, 1) := by decide +kernel
theorem dL_isActed_440 : decode cL_isActed 440 = .ok (.irem, 1) := by decide +kernel
theorem dL_isActed_441 : decode cL_isActed 441 = .ok (.istore 13, 2) := by decide +kernel
theorem dL_isActed_443 : decode cL_isActed 443 = .ok (.iload 12, 2) := by decide +kernel
theorem dL_isActed_445 : decode cL_isActed 445 = .ok (.bipush 33, 2) := by decide +kernel
theorem dL_isActed_447 : decode cL_isActed 447 = .ok (.irem, 1) := by decide +kernel
theorem dL_isActed_448 : decode cL_isActed 448 = .ok (.iconst 1, 1) := by decide +kernel
theorem dL_isActed_449 : decode cL_isActed 449 = .ok (.isub, 1) := by decide +kernel
theorem dL_isActed_450 : decode cL_isActed 450 = .ok (.istore 14, 2) := by decide +kernel
theorem dL_isActed_452 : decode cL_isActed 452 = .ok (.aload 6, 2) := by decide +kernel
theorem dL_isActed_454 : decode cL_isActed 454 = .ok (.bipush 9, 2) := by decide +kernel
theorem dL_isActed_456 : decode cL_isActed 456 = .ok (.iload 13, 2) := by decide +kernel
theorem dL_isActed_458 : decode cL_isActed 458 = .ok (.imul, 1) := by decide +kernel
theorem dL_isActed_459 : decode cL_isActed 459 = .ok (.bipush 6, 2) := by decide +kernel
theorem dL_isActed_461 : decode cL_isActed 461 = .ok (.iadd, 1) := by decide +kernel
theorem dL_isActed_462 : decode cL_isActed 462 = .ok (.iaload, 1) := by decide +kernel
theorem dL_isActed_463 : decode cL_isActed 463 = .ok (.istore 15, 2) := by decide +kernel
theorem dL_isActed_465 : decode cL_isActed 465 = .ok (.aload 6, 2) := by decide +kernel
theorem dL_isActed_467 : decode cL_isActed 467 = .ok (.bipush 9, 2) := by decide +kernel
theorem dL_isActed_469 : decode cL_isActed 469 = .ok (.iload 13, 2) := by decide +kernel
theorem dL_isActed_471 : decode cL_isActed 471 = .ok (.imul, 1) := by decide +kernel
theorem dL_isActed_472 : decode cL_isActed 472 = .ok (.bipush 6, 2) := by decide +kernel
theorem dL_isActed_474 : decode cL_isActed 474 = .ok (.iadd, 1) := by decide +kernel
theorem dL_isActed_475 : decode cL_isActed 475 = .ok (.iload 14, 2) := by decide +kernel
theorem dL_isActed_477 : decode cL_isActed 477 = .ok (.ifCond .ge 7, 3) := by decide +kernel
theorem dL_isActed_480 : decode cL_isActed 480 = .ok (.iconst 0, 1) := by decide +kernel
theorem dL_isActed_481 : decode cL_isActed 481 = .ok (.goto 4, 3) := by decide +kernel
theorem dL_isActed_484 : decode cL_isActed 484 = .ok (.iconst 1, 1) := by decide +kernel
theorem dL_isActed_485 : decode cL_isActed 485 = .ok (.iastore, 1) := by decide +kernel
theorem dL_isActed_486 : decode cL_isActed 486 = .ok (.aload 6, 2) := by decide +kernel
theorem dL_isActed_488 : decode cL_isActed 488 = .ok (.bipush 9, 2) := by decide +kernel
theorem dL_isActed_490 : decode cL_isActed 490 = .ok (.iload 13, 2) := by decide +kernel
theorem dL_isActed_492 : decode cL_isActed 492 = .ok (.imul, 1) := by decide +kernel
theorem dL_isActed_493 : decode cL_isActed 493 = .ok (.iconst 5, 1) := by decide +kernel
theorem dL_isActed_494 : decode cL_isActed 494 = .ok (.iadd, 1) := by decide +kernel
theorem dL_isActed_495 : decode cL_isActed 495 = .ok (.iload 14, 2) := by decide +kernel
theorem dL_isActed_497 : decode cL_isActed 497 = .ok (.ifCond .ge 16, 3) := by decide +kernel
theorem dL_isActed_500 : decode cL_isActed 500 = .ok (.aload 6, 2) := by decide +kernel
theorem dL_isActed_502 : decode cL_isActed 502 = .ok (.bipush 9, 2) := by decide +kernel
theorem dL_isActed_504 : decode cL_isActed 504 = .ok (.iload 13, 2) := by decide +kernel
theorem dL_isActed_506 : decode cL_isActed 506 = .ok (.imul, 1) := by decide +kernel
theorem dL_isActed_507 : decode cL_isActed 507 = .ok (.iconst 5, 1) := by decide +kernel
theorem dL_isActed_508 : decode cL_isActed 508 = .ok (.iadd, 1) := by decide +kernel
theorem dL_isActed_509 : decode cL_isActed 509 = .ok (.iaload, 1) := by decide +kernel
theorem dL_isActed_510 : decode cL_isActed 510 = .ok (.goto 5, 3) := by decide +kernel
theorem dL_isActed_513 : decode cL_isActed 513 = .ok (.iload 14, 2) := by decide +kernel
theorem dL_isActed_515 : decode cL_isActed 515 = .ok (.iastore, 1) := by decide +kernel
theorem dL_isActed_516 : decode cL_isActed 516 = .ok (.aload_n 0, 1) := by decide +kernel
theorem dL_isActed_517 : decode cL_isActed 517 = .ok (.iload 13, 2) := by decide +kernel
theorem dL_isActed_519 : decode cL_isActed 519 = .ok (.iload 14, 2) := by decide +kernel
theorem dL_isActed_521 : decode cL_isActed 521 = .ok (.invokevirtual 95, 3) := by decide +kernel
theorem dL_isActed_524 : decode cL_isActed 524 = .ok (.iload 15, 2) := by decide +kernel
theorem dL_isActed_526 : decode cL_isActed 526 = .ok (.if_icmp .ne 7, 3) := by decide +kernel
theorem dL_isActed_529 : decode cL_isActed 529 = .ok (.iconst 1, 1) := by decide +kernel
theorem dL_isActed_530 : decode cL_isActed 530 = .ok (.goto 4, 3) := by decide +kernel
theorem dL_isActed_533 : decode cL_isActed 533 = .ok (.iconst 0, 1) := by decide +kernel
theorem dL_isActed_534 : decode cL_isActed 534 = .ok (.ireturn, 1) := by decide +kernel
theorem dL_isActed_535 : decode cL_isActed 535 = .ok (.iload 9, 2) := by decide +kernel
theorem dL_isActed_537 : decode cL_isActed 537 = .ok (.bipush 17, 2) := by decide +kernel
theorem dL_isActed_539 : decode cL_isActed 539 = .ok (.if_icmp .ne 59, 3) := by decide +kernel
theorem dL_isActed_542 : decode cL_isActed 542 = .ok (.aload 6, 2) := by decide +kernel
theorem dL_isActed_544 : decode cL_isActed 544 = .ok (.bipush 7, 2) := by decide +kernel
theorem dL_isActed_546 : decode cL_isActed 546 = .ok (.iaload, 1) := by decide +kernel
theorem dL_isActed_547 : decode cL_isActed 547 = .ok (.iconst 2, 1) := by decide +kernel
theorem dL_isActed_548 : decode cL_isActed 548 = .ok (.aload 6, 2) := by decide +kernel
theorem dL_isActed_550 : decode cL_isActed 550 = .ok (.bipush 16, 2) := by decide +kernel
theorem dL_isActed_552 : decode cL_isActed 552 = .ok (.iaload, 1) := by decide +kernel
theorem dL_isActed_553 : decode cL_isActed 553 = .ok (.imul, 1) := by decide +kernel
theorem dL_isActed_554 : decode cL_isActed 554 = .ok (.iadd, 1) := by decide +kernel
theorem dL_isActed_555 : decode cL_isActed 555 = .ok (.iconst 4, 1) := by decide +kernel
theorem dL_isActed_556 : decode cL_isActed 556 = .ok (.aload 6, 2) := by decide +kernel
theorem dL_isActed_558 : decode cL_isActed 558 = .ok (.bipush 25, 2) := by decide +kernel
theorem dL_isActed_560 : decode cL_isActed 560 = .ok (.iaload, 1) := by decide +kernel
theorem dL_isActed_561 : decode cL_isActed 561 = .ok (.imul, 1) := by decide +kernel
theorem dL_isActed_562 : decode cL_isActed 562 = .ok (.iadd, 1) := by decide +kernel
theorem dL_isActed_563 : decode cL_isActed 563 = .ok (.istore 13, 2) := by decide +kernel
theorem dL_isActed_565 : decode cL_isActed 565 = .ok (.aload 6, 2) := by decide +kernel
theorem dL_isActed_567 : decode cL_isActed 567 = .ok (.bipush 7, 2) := by decide +kernel
theorem dL_isActed_569 : decode cL_isActed 569 = .ok (.iconst 0, 1) := by decide +kernel
theorem dL_isActed_570 : decode cL_isActed 570 = .ok (.iastore, 1) := by decide +kernel
theorem dL_isActed_571 : decode cL_isActed 571 = .ok (.aload 6, 2) := by decide +kernel
theorem dL_isActed_573 : decode cL_isActed 573 = .ok (.bipush 16, 2) := by decide +kernel
theorem dL_isActed_575 : decode cL_isActed 575 = .ok (.iconst 0, 1) := by decide +kernel
theorem dL_isActed_576 : decode cL_isActed 576 = .ok (.iastore, 1) := by decide +kernel
theorem dL_isActed_577 : decode cL_isActed 577 = .ok (.aload 6, 2) := by decide +kernel
theorem dL_isActed_579 : decode cL_isActed 579 = .ok (.bipush 25, 2) := by decide +kernel
theorem dL_isActed_581 : decode cL_isActed 581 = .ok (.iconst 0, 1) := by decide +kernel
theorem dL_isActed_582 : decode cL_isActed 582 = .ok (.iastore, 1) := by decide +kernel
theorem dL_isActed_583 : decode cL_isActed 583 = .ok (.aload_n 0, 1) := by decide +kernel
theorem dL_isActed_584 : decode cL_isActed 584 = .ok (.invokevirtual 98, 3) := by decide +kernel
theorem dL_isActed_587 : decode cL_isActed 587 = .ok (.iload 13, 2) := by decide +kernel
theorem dL_isActed_589 : decode cL_isActed 589 = .ok (.if_icmp .ne 7, 3) := by decide +kernel
theorem dL_isActed_592 : decode cL_isActed 592 = .ok (.iconst 1, 1) := by decide +kernel
theorem dL_isActed_593 : decode cL_isActed 593 = .ok (.goto 4, 3) := by decide +kernel
theorem dL_isActed_596 : decode cL_isActed 596 = .ok (.iconst 0, 1) := by decide +kernel
theorem dL_isActed_597 : decode cL_isActed 597 = .ok (.ireturn, 1) := by decide +kernel
theorem dL_isActed_598 : decode cL_isActed 598 = .ok (.iload 9, 2) := by decide +kernel
theorem dL_isActed_600 : decode cL_isActed 600 = .ok (.bipush 18, 2) := by decide +kernel
theorem dL_isActed_602 : decode cL_isActed 602 = .ok (.if_icmp .ne 40, 3) := by decide +kernel
theorem dL_isActed_605 : decode cL_isActed 605 = .ok (.aload_n 0, 1) := by decide +kernel
theorem dL_isActed_606 : decode cL_isActed 606 = .ok (.aload_n 1, 1) := by decide +kernel
theorem dL_isActed_607 : decode cL_isActed 607 = .ok (.aload_n 2, 1) := by decide +kernel
theorem dL_isActed_608 : decode cL_isActed 608 = .ok (.aload_n 3, 1) := by decide +kernel
theorem dL_isActed_609 : decode cL_isActed 609 = .ok (.iload 11, 2) := by decide +kernel
theorem dL_isActed_611 : decode cL_isActed 611 = .ok (.iload 12, 2) := by decide +kernel
theorem dL_isActed_613 : decode cL_isActed 613 = .ok (.bipush 8, 2) := by decide +kernel
theorem dL_isActed_615 : decode cL_isActed 615 = .ok (.irem, 1) := by decide +kernel
theorem dL_isActed_616 : decode cL_isActed 616 = .ok (.iload 12, 2) := by decide +kernel
theorem dL_isActed_618 : decode cL_isActed 618 = .ok (.bipush 8, 2) := by decide +kernel
theorem dL_isActed_620 : decode cL_isActed 620 = .ok (.idiv, 1) := by decide +kernel
theorem dL_isActed_621 : decode cL_isActed 621 = .ok (.iconst 2, 1) := by decide +kernel
theorem dL_isActed_622 : decode cL_isActed 622 = .ok (.irem, 1) := by decide +kernel
theorem dL_isActed_623 : decode cL_isActed 623 = .ok (.iload 12, 2) := by decide +kernel
theorem dL_isActed_625 : decode cL_isActed 625 = .ok (.bipush 16, 2) := by decide +kernel
theorem dL_isActed_627 : decode cL_isActed 627 = .ok (.idiv, 1) := by decide +kernel
theorem dL_isActed_628 : decode cL_isActed 628 = .ok (.iconst 2, 1) := by decide +kernel
theorem dL_isActed_629 : decode cL_isActed 629 = .ok (.irem, 1) := by decide +kernel
theorem dL_isActed_630 : decode cL_isActed 630 = .ok (.ifCond .ne 7, 3) := by decide +kernel
theorem dL_isActed_633 : decode cL_isActed 633 = .ok (.iconst 1, 1) := by decide +kernel
theorem dL_isActed_634 : decode cL_isActed 634 = .ok (.goto 4, 3) := by decide +kernel
theorem dL_isActed_637 : decode cL_isActed 637 = .ok (.iconst 0, 1) := by decide +kernel
theorem dL_isActed_638 : decode cL_isActed 638 = .ok (.invokestatic 102, 3) := by decide +kernel
theorem dL_isActed_641 : decode cL_isActed 641 = .ok (.ireturn, 1) := by decide +kernel
theorem dL_isActed_642 : decode cL_isActed 642 = .ok (.iload 10, 2) := by decide +kernel
theorem dL_isActed_644 : decode cL_isActed 644 = .ok (.iconst 3, 1) := by decide +kernel
theorem dL_isActed_645 : decode cL_isActed 645 = .ok (.irem, 1) := by decide +kernel
theorem dL_isActed_646 : decode cL_isActed 646 = .ok (.istore 13, 2) := by decide +kernel
theorem dL_isActed_648 : decode cL_isActed 648 = .ok (.iload 13, 2) := by decide +kernel
theorem dL_isActed_650 : decode cL_isActed 650 = .ok (.ifCond .ne 11, 3) := by decide +kernel
theorem dL_isActed_653 : decode cL_isActed 653 = .ok (.iload 12, 2) := by decide +kernel
theorem dL_isActed_655 : decode cL_isActed 655 = .ok (.bipush 9, 2) := by decide +kernel
theorem dL_isActed_657 : decode cL_isActed 657 = .ok (.irem, 1) := by decide +kernel
theorem dL_isActed_658 : decode cL_isActed 658 = .ok (.goto 23, 3) := by decide +kernel
theorem dL_isActed_661 : decode cL_isActed 661 = .ok (.iload 13, 2) := by decide +kernel
theorem dL_isActed_663 : decode cL_isActed 663 = .ok (.iconst 1, 1) := by decide +kernel
theorem dL_isActed_664 : decode cL_isActed 664 = .ok (.if_icmp .ne 10, 3) := by decide +kernel
theorem dL_isActed_667 : decode cL_isActed 667 = .ok (.iload 12, 2) := by decide +kernel
theorem dL_isActed_669 : decode cL_isActed 669 = .ok (.iconst 2, 1) := by decide +kernel
theorem dL_isActed_670 : decode cL_isActed 670 = .ok (.irem, 1) := by decide +kernel
theorem dL_isActed_671 : decode cL_isActed 671 = .ok (.goto 10, 3) := by decide +kernel
theorem dL_isActed_674 : decode cL_isActed 674 = .ok (.iconst 4, 1) := by decide +kernel
theorem dL_isActed_675 : decode cL_isActed 675 = .ok (.iload 12, 2) := by decide +kernel
theorem dL_isActed_677 : decode cL_isActed 677 = .ok (.bipush 57, 2) := by decide +kernel
theorem dL_isActed_679 : decode cL_isActed 679 = .ok (.irem, 1) := by decide +kernel
theorem dL_isActed_680 : decode cL_isActed 680 = .ok (.iadd, 1) := by decide +kernel
theorem dL_isActed_681 : decode cL_isActed 681 = .ok (.istore 14, 2) := by decide +kernel
theorem dL_isActed_683 : decode cL_isActed 683 = .ok (.aload 5, 2) := by decide +kernel
theorem dL_isActed_685 : decode cL_isActed 685 = .ok (.bipush 8, 2) := by decide +kernel
theorem dL_isActed_687 : decode cL_isActed 687 = .ok (.iload 13, 2) := by decide +kernel
theorem dL_isActed_689 : decode cL_isActed 689 = .ok (.iadd, 1) := by decide +kernel
theorem dL_isActed_690 : decode cL_isActed 690 = .ok (.iaload, 1) := by decide +kernel
theorem dL_isActed_691 : decode cL_isActed 691 = .ok (.istore 15, 2) := by decide +kernel
theorem dL_isActed_693 : decode cL_isActed 693 = .ok (.aload 5, 2) := by decide +kernel
theorem dL_isActed_695 : decode cL_isActed 695 = .ok (.bipush 8, 2) := by decide +kernel
theorem dL_isActed_697 : decode cL_isActed 697 = .ok (.iload 13, 2) := by decide +kernel
theorem dL_isActed_699 : decode cL_isActed 699 = .ok (.iadd, 1) := by decide +kernel
theorem dL_isActed_700 : decode cL_isActed 700 = .ok (.iload 14, 2) := by decide +kernel
theorem dL_isActed_702 : decode cL_isActed 702 = .ok (.iastore, 1) := by decide +kernel
theorem dL_isActed_703 : decode cL_isActed 703 = .ok (.aload 5, 2) := by decide +kernel
theorem dL_isActed_705 : decode cL_isActed 705 = .ok (.iconst 0, 1) := by decide +kernel
theorem dL_isActed_706 : decode cL_isActed 706 = .ok (.aload 5, 2) := by decide +kernel
theorem dL_isActed_708 : decode cL_isActed 708 = .ok (.iconst 0, 1) := by decide +kernel
theorem dL_isActed_709 : decode cL_isActed 709 = .ok (.iaload, 1) := by decide +kernel
theorem dL_isActed_710 : decode cL_isActed 710 = .ok (.aload 5, 2) := by decide +kernel
theorem dL_isActed_712 : decode cL_isActed 712 = .ok (.bipush 10, 2) := by decide +kernel
theorem dL_isActed_714 : decode cL_isActed 714 = .ok (.iaload, 1) := by decide +kernel
theorem dL_isActed_715 : decode cL_isActed 715 = .ok (.if_icmp .ge 10, 3) := by decide +kernel
theorem dL_isActed_718 : decode cL_isActed 718 = .ok (.aload 5, 2) := by decide +kernel
theorem dL_isActed_720 : decode cL_isActed 720 = .ok (.iconst 0, 1) := by decide +kernel
theorem dL_isActed_721 : decode cL_isActed 721 = .ok (.iaload, 1) := by decide +kernel
theorem dL_isActed_722 : decode cL_isActed 722 = .ok (.goto 10, 3) := by decide +kernel
theorem dL_isActed_725 : decode cL_isActed 725 = .ok (.aload 5, 2) := by decide +kernel
theorem dL_isActed_727 : decode cL_isActed 727 = .ok (.bipush 10, 2) := by decide +kernel
theorem dL_isActed_729 : decode cL_isActed 729 = .ok (.iaload, 1) := by decide +kernel
theorem dL_isActed_730 : decode cL_isActed 730 = .ok (.iconst 1, 1) := by decide +kernel
theorem dL_isActed_731 : decode cL_isActed 731 = .ok (.isub, 1) := by decide +kernel
theorem dL_isActed_732 : decode cL_isActed 732 = .ok (.iastore, 1) := by decide +kernel
theorem dL_isActed_733 : decode cL_isActed 733 = .ok (.aload_n 0, 1) := by decide +kernel
theorem dL_isActed_734 : decode cL_isActed 734 = .ok (.iload 13, 2) := by decide +kernel
theorem dL_isActed_736 : decode cL_isActed 736 = .ok (.iload 14, 2) := by decide +kernel
theorem dL_isActed_738 : decode cL_isActed 738 = .ok (.invokevirtual 106, 3) := by decide +kernel
theorem dL_isActed_741 : decode cL_isActed 741 = .ok (.iload 15, 2) := by decide +kernel
theorem dL_isActed_743 : decode cL_isActed 743 = .ok (.if_icmp .ne 7, 3) := by decide +kernel
theorem dL_isActed_746 : decode cL_isActed 746 = .ok (.iconst 1, 1) := by decide +kernel
theorem dL_isActed_747 : decode cL_isActed 747 = .ok (.goto 4, 3) := by decide +kernel
theorem dL_isActed_750 : decode cL_isActed 750 = .ok (.iconst 0, 1) := by decide +kernel
theorem dL_isActed_751 : decode cL_isActed 751 = .ok (.ireturn, 1) := by decide +kernel
theorem dL_isCell_0 : decode cL_isCell 0 = .ok (.aload_n 2, 1) := by decide +kernel
theorem dL_isCell_1 : decode cL_isCell 1 = .ok (.iload 4, 2) := by decide +kernel
theorem dL_isCell_3 : decode cL_isCell 3 = .ok (.iaload, 1) := by decide +kernel
theorem dL_isCell_4 : decode cL_isCell 4 = .ok (.iload 5, 2) := by decide +kernel
theorem dL_isCell_6 : decode cL_isCell 6 = .ok (.ishr, 1) := by decide +kernel
theorem dL_isCell_7 : decode cL_isCell 7 = .ok (.iconst 1, 1) := by decide +kernel
theorem dL_isCell_8 : decode cL_isCell 8 = .ok (.iand, 1) := by decide +kernel
theorem dL_isCell_9 : decode cL_isCell 9 = .ok (.iconst 1, 1) := by decide +kernel
theorem dL_isCell_10 : decode cL_isCell 10 = .ok (.if_icmp .ne 7, 3) := by decide +kernel
theorem dL_isCell_13 : decode cL_isCell 13 = .ok (.iconst 1, 1) := by decide +kernel
theorem dL_isCell_14 : decode cL_isCell 14 = .ok (.goto 4, 3) := by decide +kernel
theorem dL_isCell_17 : decode cL_isCell 17 = .ok (.iconst 0, 1) := by decide +kernel
theorem dL_isCell_18 : decode cL_isCell 18 = .ok (.istore 8, 2) := by decide +kernel
theorem dL_isCell_20 : decode cL_isCell 20 = .ok (.iload 7, 2) := by decide +kernel
theorem dL_isCell_22 : decode cL_isCell 22 = .ok (.ifCond .eq 88, 3) := by decide +kernel
theorem dL_isCell_25 : decode cL_isCell 25 = .ok (.iload 8, 2) := by decide +kernel
theorem dL_isCell_27 : decode cL_isCell 27 = .ok (.ifCond .ne 50, 3) := by decide +kernel
theorem dL_isCell_30 : decode cL_isCell 30 = .ok (.aload_n 2, 1) := by decide +kernel
theorem dL_isCell_31 : decode cL_isCell 31 = .ok (.iload 4, 2) := by decide +kernel
theorem dL_isCell_33 : decode cL_isCell 33 = .ok (.dup2, 1) := by decide +kernel
theorem dL_isCell_34 : decode cL_isCell 34 = .ok (.iaload, 1) := by decide +kernel
theorem dL_isCell_35 : decode cL_isCell 35 = .ok (.iconst 1, 1) := by decide +kernel
theorem dL_isCell_36 : decode cL_isCell 36 = .ok (.iload 5, 2) := by decide +kernel
theorem dL_isCell_38 : decode cL_isCell 38 = .ok (.ishl, 1) := by decide +kernel
theorem dL_isCell_39 : decode cL_isCell 39 = .ok (.iadd, 1) := by decide +kernel
theorem dL_isCell_40 : decode cL_isCell 40 = .ok (.iastore, 1) := by decide +kernel
theorem dL_isCell_41 : decode cL_isCell 41 = .ok (.aload_n 3, 1) := by decide +kernel
theorem dL_isCell_42 : decode cL_isCell 42 = .ok (.iload 4, 2) := by decide +kernel
theorem dL_isCell_44 : decode cL_isCell 44 = .ok (.dup2, 1) := by decide +kernel
theorem dL_isCell_45 : decode cL_isCell 45 = .ok (.iaload, 1) := by decide +kernel
theorem dL_isCell_46 : decode cL_isCell 46 = .ok (.iload 6, 2) := by decide +kernel
theorem dL_isCell_48 : decode cL_isCell 48 = .ok (.aload_n 3, 1) := by decide +kernel
theorem dL_isCell_49 : decode cL_isCell 49 = .ok (.iload 4, 2) := by decide +kernel
theorem dL_isCell_51 : decode cL_isCell 51 = .ok (.iaload, 1) := by decide +kernel
theorem dL_isCell_52 : decode cL_isCell 52 = .ok (.iload 5, 2) := by decide +kernel
theorem dL_isCell_54 : decode cL_isCell 54 = .ok (.ishr, 1) := by decide +kernel
theorem dL_isCell_55 : decode cL_isCell 55 = .ok (.iconst 1, 1) := by decide +kernel
theorem dL_isCell_56 : decode cL_isCell 56 = .ok (.iand, 1) := by decide +kernel
theorem dL_isCell_57 : decode cL_isCell 57 = .ok (.isub, 1) := by decide +kernel
theorem dL_isCell_58 : decode cL_isCell 58 = .ok (.iconst 1, 1) := by decide +kernel
theorem dL_isCell_59 : decode cL_isCell 59 = .ok (.iload 5, 2) := by decide +kernel
theorem dL_isCell_61 : decode cL_isCell 61 = .ok (.ishl, 1) := by decide +kernel
theorem dL_isCell_62 : decode cL_isCell 62 = .ok (.imul, 1) := by decide +kernel
theorem dL_isCell_63 : decode cL_isCell 63 = .ok (.iadd, 1) := by decide +kernel
theorem dL_isCell_64 : decode cL_isCell 64 = .ok (.iastore, 1) := by decide +kernel
theorem dL_isCell_65 : decode cL_isCell 65 = .ok (.aload_n 1, 1) := by decide +kernel
theorem dL_isCell_66 : decode cL_isCell 66 = .ok (.aload_n 2, 1) := by decide +kernel
theorem dL_isCell_67 : decode cL_isCell 67 = .ok (.aload_n 3, 1) := by decide +kernel
theorem dL_isCell_68 : decode cL_isCell 68 = .ok (.iload 4, 2) := by decide +kernel
theorem dL_isCell_70 : decode cL_isCell 70 = .ok (.aload_n 1, 1) := by decide +kernel
theorem dL_isCell_71 : decode cL_isCell 71 = .ok (.iload 4, 2) := by decide +kernel
theorem dL_isCell_73 : decode cL_isCell 73 = .ok (.iaload, 1) := by decide +kernel
theorem dL_isCell_74 : decode cL_isCell 74 = .ok (.invokestatic 33, 3) := by decide +kernel
theorem dL_isCell_77 : decode cL_isCell 77 = .ok (.aload_n 0, 1) := by decide +kernel
theorem dL_isCell_78 : decode cL_isCell 78 = .ok (.iload 4, 2) := by decide +kernel
theorem dL_isCell_80 : decode cL_isCell 80 = .ok (.iload 5, 2) := by decide +kernel
theorem dL_isCell_82 : decode cL_isCell 82 = .ok (.iload 6, 2) := by decide +kernel
theorem dL_isCell_84 : decode cL_isCell 84 = .ok (.invokevirtual 109, 3) := by decide +kernel
theorem dL_isCell_87 : decode cL_isCell 87 = .ok (.iload 8, 2) := by decide +kernel
theorem dL_isCell_89 : decode cL_isCell 89 = .ok (.ifCond .eq 8, 3) := by decide +kernel
theorem dL_isCell_92 : decode cL_isCell 92 = .ok (.ldc 112, 2) := by decide +kernel
theorem dL_isCell_94 : decode cL_isCell 94 = .ok (.goto 7, 3) := by decide +kernel
theorem dL_isCell_97 : decode cL_isCell 97 = .ok (.aload_n 1, 1) := by decide +kernel
theorem dL_isCell_98 : decode cL_isCell 98 = .ok (.iload 4, 2) := by decide +kernel
theorem dL_isCell_100 : decode cL_isCell 100 = .ok (.iaload, 1) := by decide +kernel
theorem dL_isCell_101 : decode cL_isCell 101 = .ok (.if_icmp .ne 7, 3) := by decide +kernel
theorem dL_isCell_104 : decode cL_isCell 104 = .ok (.iconst 1, 1) := by decide +kernel
theorem dL_isCell_105 : decode cL_isCell 105 = .ok (.goto 4, 3) := by decide +kernel
theorem dL_isCell_108 : decode cL_isCell 108 = .ok (.iconst 0, 1) := by decide +kernel
theorem dL_isCell_109 : decode cL_isCell 109 = .ok (.ireturn, 1) := by decide +kernel
theorem dL_isCell_110 : decode cL_isCell 110 = .ok (.aload_n 2, 1) := by decide +kernel
theorem dL_isCell_111 : decode cL_isCell 111 = .ok (.iload 4, 2) := by decide +kernel
theorem dL_isCell_113 : decode cL_isCell 113 = .ok (.dup2, 1) := by decide +kernel
theorem dL_isCell_114 : decode cL_isCell 114 = .ok (.iaload, 1) := by decide +kernel
theorem dL_isCell_115 : decode cL_isCell 115 = .ok (.iload 8, 2) := by decide +kernel
theorem dL_isCell_117 : decode cL_isCell 117 = .ok (.ifCond .eq 10, 3) := by decide +kernel
theorem dL_isCell_120 : decode cL_isCell 120 = .ok (.iconst 1, 1) := by decide +kernel
theorem dL_isCell_121 : decode cL_isCell 121 = .ok (.iload 5, 2) := by decide +kernel
theorem dL_isCell_123 : decode cL_isCell 123 = .ok (.ishl, 1) := by decide +kernel
theorem dL_isCell_124 : decode cL_isCell 124 = .ok (.goto 4, 3) := by decide +kernel
theorem dL_isCell_127 : decode cL_isCell 127 = .ok (.iconst 0, 1) := by decide +kernel
theorem dL_isCell_128 : decode cL_isCell 128 = .ok (.isub, 1) := by decide +kernel
theorem dL_isCell_129 : decode cL_isCell 129 = .ok (.iastore, 1) := by decide +kernel
theorem dL_isCell_130 : decode cL_isCell 130 = .ok (.iconst 0, 1) := by decide +kernel
theorem dL_isCell_131 : decode cL_isCell 131 = .ok (.istore 9, 2) := by decide +kernel
theorem dL_isCell_133 : decode cL_isCell 133 = .ok (.iconst 0, 1) := by decide +kernel
theorem dL_isCell_134 : decode cL_isCell 134 = .ok (.istore 10, 2) := by decide +kernel
theorem dL_isCell_136 : decode cL_isCell 136 = .ok (.iload 10, 2) := by decide +kernel
theorem dL_isCell_138 : decode cL_isCell 138 = .ok (.bipush 7, 2) := by decide +kernel
theorem dL_isCell_140 : decode cL_isCell 140 = .ok (.if_icmp .ge 21, 3) := by decide +kernel
theorem dL_isCell_143 : decode cL_isCell 143 = .ok (.iload 9, 2) := by decide +kernel
theorem dL_isCell_145 : decode cL_isCell 145 = .ok (.aload_n 2, 1) := by decide +kernel
theorem dL_isCell_146 : decode cL_isCell 146 = .ok (.iload 10, 2) := by decide +kernel
theorem dL_isCell_148 : decode cL_isCell 148 = .ok (.iaload, 1) := by decide +kernel
theorem dL_isCell_149 : decode cL_isCell 149 = .ok (.invokestatic 63, 3) := by decide +kernel
theorem dL_isCell_152 : decode cL_isCell 152 = .ok (.iadd, 1) := by decide +kernel
theorem dL_isCell_153 : decode cL_isCell 153 = .ok (.istore 9, 2) := by decide +kernel
theorem dL_isCell_155 : decode cL_isCell 155 = .ok (.iinc 10 1, 3) := by decide +kernel
theorem dL_isCell_158 : decode cL_isCell 158 = .ok (.goto (-22), 3) := by decide +kernel
theorem dL_isCell_161 : decode cL_isCell 161 = .ok (.aload_n 0, 1) := by decide +kernel
theorem dL_isCell_162 : decode cL_isCell 162 = .ok (.iload 4, 2) := by decide +kernel
theorem dL_isCell_164 : decode cL_isCell 164 = .ok (.iload 5, 2) := by decide +kernel
theorem dL_isCell_166 : decode cL_isCell 166 = .ok (.invokevirtual 113, 3) := by decide +kernel
theorem dL_isCell_169 : decode cL_isCell 169 = .ok (.iload 8, 2) := by decide +kernel
theorem dL_isCell_171 : decode cL_isCell 171 = .ok (.ifCond .eq 8, 3) := by decide +kernel
theorem dL_isCell_174 : decode cL_isCell 174 = .ok (.iload 9, 2) := by decide +kernel
theorem dL_isCell_176 : decode cL_isCell 176 = .ok (.goto 5, 3) := by decide +kernel
theorem dL_isCell_179 : decode cL_isCell 179 = .ok (.ldc 112, 2) := by decide +kernel
theorem dL_isCell_181 : decode cL_isCell 181 = .ok (.if_icmp .ne 7, 3) := by decide +kernel
theorem dL_isCell_184 : decode cL_isCell 184 = .ok (.iconst 1, 1) := by decide +kernel
theorem dL_isCell_185 : decode cL_isCell 185 = .ok (.goto 4, 3) := by decide +kernel
theorem dL_isCell_188 : decode cL_isCell 188 = .ok (.iconst 0, 1) := by decide +kernel
theorem dL_isCell_189 : decode cL_isCell 189 = .ok (.ireturn, 1) := by decide +kernel
theorem dL_law_0 : decode cL_law 0 = .ok (.new 54, 3) := by decide +kernel
theorem dL_law_3 : decode cL_law 3 = .ok (.dup, 1) := by decide +kernel
theorem dL_law_4 : decode cL_law 4 = .ok (.invokespecial 116, 3) := by decide +kernel
theorem dL_law_7 : decode cL_law 7 = .ok (.astore_n 1, 1) := by decide +kernel
theorem dL_law_8 : decode cL_law 8 = .ok (.bipush 7, 2) := by decide +kernel
theorem dL_law_10 : decode cL_law 10 = .ok (.newarray .int, 2) := by decide +kernel
theorem dL_law_12 : decode cL_law 12 = .ok (.astore_n 2, 1) := by decide +kernel
theorem dL_law_13 : decode cL_law 13 = .ok (.bipush 7, 2) := by decide +kernel
theorem dL_law_15 : decode cL_law 15 = .ok (.newarray .int, 2) := by decide +kernel
theorem dL_law_17 : decode cL_law 17 = .ok (.astore_n 3, 1) := by decide +kernel
theorem dL_law_18 : decode cL_law 18 = .ok (.bipush 7, 2) := by decide +kernel
theorem dL_law_20 : decode cL_law 20 = .ok (.newarray .int, 2) := by decide +kernel
theorem dL_law_22 : decode cL_law 22 = .ok (.astore 4, 2) := by decide +kernel
theorem dL_law_24 : decode cL_law 24 = .ok (.bipush 7, 2) := by decide +kernel
theorem dL_law_26 : decode cL_law 26 = .ok (.newarray .int, 2) := by decide +kernel
theorem dL_law_28 : decode cL_law 28 = .ok (.astore 5, 2) := by decide +kernel
theorem dL_law_30 : decode cL_law 30 = .ok (.bipush 11, 2) := by decide +kernel
theorem dL_law_32 : decode cL_law 32 = .ok (.newarray .int, 2) := by decide +kernel
theorem dL_law_34 : decode cL_law 34 = .ok (.astore 6, 2) := by decide +kernel
theorem dL_law_36 : decode cL_law 36 = .ok (.bipush 27, 2) := by decide +kernel
theorem dL_law_38 : decode cL_law 38 = .ok (.newarray .int, 2) := by decide +kernel
theorem dL_law_40 : decode cL_law 40 = .ok (.astore 7, 2) := by decide +kernel
theorem dL_law_42 : decode cL_law 42 = .ok (.bipush 64, 2) := by decide +kernel
theorem dL_law_44 : decode cL_law 44 = .ok (.newarray .int, 2) := by decide +kernel
theorem dL_law_46 : decode cL_law 46 = .ok (.astore 8, 2) := by decide +kernel
theorem dL_law_48 : decode cL_law 48 = .ok (.bipush 14, 2) := by decide +kernel
theorem dL_law_50 : decode cL_law 50 = .ok (.newarray .int, 2) := by decide +kernel
theorem dL_law_52 : decode cL_law 52 = .ok (.astore 9, 2) := by decide +kernel
theorem dL_law_54 : decode cL_law 54 = .ok (.aload_n 2, 1) := by decide +kernel
theorem dL_law_55 : decode cL_law 55 = .ok (.iconst 3, 1) := by decide +kernel
theorem dL_law_56 : decode cL_law 56 = .ok (.bipush 6, 2) := by decide +kernel
theorem dL_law_58 : decode cL_law 58 = .ok (.iastore, 1) := by decide +kernel
theorem dL_law_59 : decode cL_law 59 = .ok (.aload_n 2, 1) := by decide +kernel
theorem dL_law_60 : decode cL_law 60 = .ok (.iconst 4, 1) := by decide +kernel
theorem dL_law_61 : decode cL_law 61 = .ok (.iconst 1, 1) := by decide +kernel
theorem dL_law_62 : decode cL_law 62 = .ok (.iastore, 1) := by decide +kernel
theorem dL_law_63 : decode cL_law 63 = .ok (.aload_n 2, 1) := by decide +kernel
theorem dL_law_64 : decode cL_law 64 = .ok (.iconst 5, 1) := by decide +kernel
theorem dL_law_65 : decode cL_law 65 = .ok (.iconst 1, 1) := by decide +kernel
theorem dL_law_66 : decode cL_law 66 = .ok (.iastore, 1) := by decide +kernel
theorem dL_law_67 : decode cL_law 67 = .ok (.aload 6, 2) := by decide +kernel
theorem dL_law_69 : decode cL_law 69 = .ok (.bipush 8, 2) := by decide +kernel
theorem dL_law_71 : decode cL_law 71 = .ok (.iconst 2, 1) := by decide +kernel
theorem dL_law_72 : decode cL_law 72 = .ok (.iastore, 1) := by decide +kernel
theorem dL_law_73 : decode cL_law 73 = .ok (.aload 6, 2) := by decide +kernel
theorem dL_law_75 : decode cL_law 75 = .ok (.bipush 10, 2) := by decide +kernel
theorem dL_law_77 : decode cL_law 77 = .ok (.bipush 16, 2) := by decide +kernel
theorem dL_law_79 : decode cL_law 79 = .ok (.iastore, 1) := by decide +kernel
theorem dL_law_80 : decode cL_law 80 = .ok (.iconst 0, 1) := by decide +kernel
theorem dL_law_81 : decode cL_law 81 = .ok (.istore 10, 2) := by decide +kernel
theorem dL_law_83 : decode cL_law 83 = .ok (.iload 10, 2) := by decide +kernel
theorem dL_law_85 : decode cL_law 85 = .ok (.bipush 56, 2) := by decide +kernel
theorem dL_law_87 : decode cL_law 87 = .ok (.if_icmp .ge 121, 3) := by decide +kernel
theorem dL_law_90 : decode cL_law 90 = .ok (.aload_n 0, 1) := by decide +kernel
theorem dL_law_91 : decode cL_law 91 = .ok (.iload 10, 2) := by decide +kernel
theorem dL_law_93 : decode cL_law 93 = .ok (.invokestatic 117, 3) := by decide +kernel
theorem dL_law_96 : decode cL_law 96 = .ok (.ldc 8, 2) := by decide +kernel
theorem dL_law_98 : decode cL_law 98 = .ok (.iand, 1) := by decide +kernel
theorem dL_law_99 : decode cL_law 99 = .ok (.istore 11, 2) := by decide +kernel
theorem dL_law_101 : decode cL_law 101 = .ok (.iload 11, 2) := by decide +kernel
theorem dL_law_103 : decode cL_law 103 = .ok (.bipush 20, 2) := by decide +kernel
theorem dL_law_105 : decode cL_law 105 = .ok (.irem, 1) := by decide +kernel
theorem dL_law_106 : decode cL_law 106 = .ok (.istore 12, 2) := by decide +kernel
theorem dL_law_108 : decode cL_law 108 = .ok (.iload 12, 2) := by decide +kernel
theorem dL_law_110 : decode cL_law 110 = .ok (.bipush 6, 2) := by decide +kernel
theorem dL_law_112 : decode cL_law 112 = .ok (.if_icmp .le 33, 3) := by decide +kernel
theorem dL_law_115 : decode cL_law 115 = .ok (.iload 12, 2) := by decide +kernel
theorem dL_law_117 : decode cL_law 117 = .ok (.bipush 11, 2) := by decide +kernel
theorem dL_law_119 : decode cL_law 119 = .ok (.if_icmp .ge 26, 3) := by decide +kernel
theorem dL_law_122 : decode cL_law 122 = .ok (.bipush 6, 2) := by decide +kernel
theorem dL_law_124 : decode cL_law 124 = .ok (.aload 6, 2) := by decide +kernel
theorem dL_law_126 : decode cL_law 126 = .ok (.bipush 8, 2) := by decide +kernel
theorem dL_law_128 : decode cL_law 128 = .ok (.iaload, 1) := by decide +kernel
theorem dL_law_129 : decode cL_law 129 = .ok (.imul, 1) := by decide +kernel
theorem dL_law_130 : decode cL_law 130 = .ok (.aload 6, 2) := by decide +kernel
theorem dL_law_132 : decode cL_law 132 = .ok (.bipush 10, 2) := by decide +kernel
theorem dL_law_134 : decode cL_law 134 = .ok (.iaload, 1) := by decide +kernel
theorem dL_law_135 : decode cL_law 135 = .ok (.idiv, 1) := by decide +kernel
theorem dL_law_136 : decode cL_law 136 = .ok (.bipush 7, 2) := by decide +kernel
theorem dL_law_138 : decode cL_law 138 = .ok (.if_icmp .le 7, 3) := by decide +kernel
theorem dL_law_141 : decode cL_law 141 = .ok (.bipush 11, 2) := by decide +kernel
theorem dL_law_143 : decode cL_law 143 = .ok (.istore 12, 2) := by decide +kernel
theorem dL_law_145 : decode cL_law 145 = .ok (.aload_n 1, 1) := by decide +kernel
theorem dL_law_146 : decode cL_law 146 = .ok (.aload_n 2, 1) := by decide +kernel
theorem dL_law_147 : decode cL_law 147 = .ok (.aload_n 3, 1) := by decide +kernel
theorem dL_law_148 : decode cL_law 148 = .ok (.aload 4, 2) := by decide +kernel
theorem dL_law_150 : decode cL_law 150 = .ok (.aload 5, 2) := by decide +kernel
theorem dL_law_152 : decode cL_law 152 = .ok (.aload 6, 2) := by decide +kernel
theorem dL_law_154 : decode cL_law 154 = .ok (.aload 7, 2) := by decide +kernel
theorem dL_law_156 : decode cL_law 156 = .ok (.aload 8, 2) := by decide +kernel
theorem dL_law_158 : decode cL_law 158 = .ok (.aload 9, 2) := by decide +kernel
theorem dL_law_160 : decode cL_law 160 = .ok (.iload 12, 2) := by decide +kernel
theorem dL_law_162 : decode cL_law 162 = .ok (.iload 11, 2) := by decide +kernel
theorem dL_law_164 : decode cL_law 164 = .ok (.bipush 20, 2) := by decide +kernel
theorem dL_law_166 : decode cL_law 166 = .ok (.idiv, 1) := by decide +kernel
theorem dL_law_167 : decode cL_law 167 = .ok (.invokestatic 120, 3) := by decide +kernel
theorem dL_law_170 : decode cL_law 170 = .ok (.ifCond .eq 30, 3) := by decide +kernel
theorem dL_law_173 : decode cL_law 173 = .ok (.aload_n 1, 1) := by decide +kernel
theorem dL_law_174 : decode cL_law 174 = .ok (.aload_n 2, 1) := by decide +kernel
theorem dL_law_175 : decode cL_law 175 = .ok (.aload_n 3, 1) := by decide +kernel
theorem dL_law_176 : decode cL_law 176 = .ok (.aload 4, 2) := by decide +kernel
theorem dL_law_178 : decode cL_law 178 = .ok (.aload 5, 2) := by decide +kernel
theorem dL_law_180 : decode cL_law 180 = .ok (.aload 6, 2) := by decide +kernel
theorem dL_law_182 : decode cL_law 182 = .ok (.invokestatic 124, 3) := by decide +kernel
theorem dL_law_185 : decode cL_law 185 = .ok (.ifCond .eq 15, 3) := by decide +kernel
theorem dL_law_188 : decode cL_law 188 = .ok (.aload_n 1, 1) := by decide +kernel
theorem dL_law_189 : decode cL_law 189 = .ok (.aload_n 2, 1) := by decide +kernel
theorem dL_law_190 : decode cL_law 190 = .ok (.aload 6, 2) := by decide +kernel
theorem dL_law_192 : decode cL_law 192 = .ok (.aload 7, 2) := by decide +kernel
theorem dL_law_194 : decode cL_law 194 = .ok (.invokestatic 128, 3) := by decide +kernel
theorem dL_law_197 : decode cL_law 197 = .ok (.ifCond .ne 5, 3) := by decide +kernel
theorem dL_law_200 : decode cL_law 200 = .ok (.iconst 0, 1) := by decide +kernel
theorem dL_law_201 : decode cL_law 201 = .ok (.ireturn, 1) := by decide +kernel
theorem dL_law_202 : decode cL_law 202 = .ok (.iinc 10 1, 3) := by decide +kernel
theorem dL_law_205 : decode cL_law 205 = .ok (.goto (-122), 3) := by decide +kernel
theorem dL_law_208 : decode cL_law 208 = .ok (.iconst 1, 1) := by decide +kernel
theorem dL_law_209 : decode cL_law 209 = .ok (.ireturn, 1) := by decide +kernel
abbrev vwCl : List vw_C := [(RX0, TX0, 5), (RX1, TX1, 4), (RX2, TX2, 3), (RX3, TX3, 11), (RX4, TX4, 4), (RX5, TX5, 4), (RX6, TX6, 8)]
