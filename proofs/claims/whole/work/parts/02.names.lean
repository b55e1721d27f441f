/-! ===== BEGIN words of one list among another's, by their places ===== -/
theorem goodIn_r {big : List Cond} (ws : List Cond) (ps : List Nat) (hp : ws = ps.filterMap (fun i => big[i]?)) (h : ws.all goodWord = true) : GoodIn big ws := by
  intro w hw
  have h1 := List.all_eq_true.mp h w hw
  rw [hp] at hw
  obtain ⟨i, -, hi⟩ := List.mem_filterMap.mp hw
  have hm : w ∈ big := by first | exact List.mem_of_getElem? hi | exact List.getElem?_mem hi
  exact ⟨hm, good_of_word h1⟩
theorem goodIn_app {big a b : List Cond} (ha : GoodIn big a) (hb : GoodIn big b) : GoodIn big (a ++ b) := fun w h => (List.mem_append.mp h).elim (ha w) (hb w)
theorem goodIn_ca {big a b : List Cond} {c : Cond} (ha : GoodIn big (c :: a)) (hb : GoodIn big b) : GoodIn big (c :: (a ++ b)) := fun w h => (List.mem_cons.mp h).elim (fun e => ha w (List.mem_cons.mpr (Or.inl e))) (fun h => (List.mem_append.mp h).elim (fun h => ha w (List.mem_cons.mpr (Or.inr h))) (hb w))
theorem goodIn_sub {big ws : List Cond} (hm : ∀ w ∈ ws, w ∈ big) (h : ws.all goodWord = true) : GoodIn big ws := fun w hw => ⟨hm w hw, good_of_word (List.all_eq_true.mp h w hw)⟩
/-! ===== END ===== -/

/-! ===== BEGIN printed: names, fields, word lists, decode rows ===== -/
def RX0 : String := "BarrelProcessor$HardwareThread"
def TX0 : u_T := fun k => match k with
  | 0 => ("BarrelProcessor$HardwareThread", "registers", "[I", true)
  | 1 => ("BarrelProcessor$HardwareThread", "state", "I", false)
  | 2 => ("BarrelProcessor$HardwareThread", "programCounter", "I", false)
  | 3 => ("BarrelProcessor$HardwareThread", "loadRegister", "I", false)
  | 4 => ("BarrelProcessor$HardwareThread", "loadWord", "I", false)
  | 5 => ("BarrelProcessor$HardwareThread", "loadDue", "I", false)
  | 6 => ("BarrelProcessor$HardwareThread", "lastIssue", "I", false)
  | 7 => ("BarrelProcessor$HardwareThread", "executed", "I", false)
  | 8 => ("BarrelProcessor$HardwareThread", "lent", "I", false)
  | 9 => ("BarrelProcessor$HardwareThread", "starvedNow", "I", false)
  | _ => ("BarrelProcessor$HardwareThread", "longestStarved", "I", false)
def tyX0 : Nat → FieldType := fun k => match k with
  | 0 => .array .int
  | 1 => .int
  | 2 => .int
  | 3 => .int
  | 4 => .int
  | 5 => .int
  | 6 => .int
  | 7 => .int
  | 8 => .int
  | 9 => .int
  | _ => .int
abbrev wsX00 : List Cond := u_ws RX0 TX0 11
theorem nmX0 : ∀ a, a < 11 → ∀ b, b < 11 → a ≠ b → (TX0 a).2.1 ≠ (TX0 b).2.1 := by decide +kernel
theorem tyX0_ok : ∀ k, k < 11 → parseFieldDescriptor (TX0 k).2.2.1 = some (tyX0 k) := by decide +kernel
abbrev cX0_init : ByteArray := prog_2_method_1_code
def yX0_init : MethodName := ⟨RX0, "<init>", "()V"⟩
abbrev cX0_startAt : ByteArray := prog_2_method_2_code
def yX0_startAt : MethodName := ⟨RX0, "startAt", "(I)V"⟩
abbrev cX0_haltNow : ByteArray := prog_2_method_3_code
def yX0_haltNow : MethodName := ⟨RX0, "haltNow", "()V"⟩
abbrev cX0_beginLoad : ByteArray := prog_2_method_4_code
def yX0_beginLoad : MethodName := ⟨RX0, "beginLoad", "(III)V"⟩
abbrev cX0_hasLoadDue : ByteArray := prog_2_method_5_code
def yX0_hasLoadDue : MethodName := ⟨RX0, "hasLoadDue", "(I)Z"⟩
abbrev cX0_countCycle : ByteArray := prog_2_method_6_code
def yX0_countCycle : MethodName := ⟨RX0, "countCycle", "(Z)V"⟩
abbrev cX0_copyFrom : ByteArray := prog_2_method_7_code
def yX0_copyFrom : MethodName := ⟨RX0, "copyFrom", "(LBarrelProcessor$HardwareThread;)V"⟩
def RX1 : String := "BarrelProcessor$History"
def TX1 : u_T := fun k => match k with
  | 0 => ("BarrelProcessor$History", "states", "[LBarrelProcessor$Machine;", true)
  | 1 => ("BarrelProcessor$History", "next", "I", false)
  | _ => ("BarrelProcessor$History", "count", "I", false)
def tyX1 : Nat → FieldType := fun k => match k with
  | 0 => .array (.object "BarrelProcessor$Machine")
  | 1 => .int
  | _ => .int
abbrev wsX10 : List Cond := u_ws RX1 TX1 3
theorem nmX1 : ∀ a, a < 3 → ∀ b, b < 3 → a ≠ b → (TX1 a).2.1 ≠ (TX1 b).2.1 := by decide +kernel
theorem tyX1_ok : ∀ k, k < 3 → parseFieldDescriptor (TX1 k).2.2.1 = some (tyX1 k) := by decide +kernel
abbrev cX1_init : ByteArray := prog_3_method_1_code
def yX1_init : MethodName := ⟨RX1, "<init>", "()V"⟩
abbrev cX1_remember : ByteArray := prog_3_method_2_code
def yX1_remember : MethodName := ⟨RX1, "remember", "(LBarrelProcessor$Machine;)V"⟩
abbrev cX1_restore : ByteArray := prog_3_method_3_code
def yX1_restore : MethodName := ⟨RX1, "restore", "(LBarrelProcessor$Machine;)I"⟩
def RX2 : String := "BarrelProcessor$Instructions"
def TX2 : u_T := fun k => match k with
  | 0 => ("BarrelProcessor$Instructions", "operations", "[I", true)
  | _ => ("BarrelProcessor$Instructions", "operands", "[I", true)
def tyX2 : Nat → FieldType := fun k => match k with
  | 0 => .array .int
  | _ => .array .int
abbrev wsX20 : List Cond := u_ws RX2 TX2 2
theorem nmX2 : ∀ a, a < 2 → ∀ b, b < 2 → a ≠ b → (TX2 a).2.1 ≠ (TX2 b).2.1 := by decide +kernel
theorem tyX2_ok : ∀ k, k < 2 → parseFieldDescriptor (TX2 k).2.2.1 = some (tyX2 k) := by decide +kernel
abbrev cX2_init : ByteArray := prog_4_method_1_code
def yX2_init : MethodName := ⟨RX2, "<init>", "()V"⟩
abbrev cX2_copyRows : ByteArray := prog_4_method_2_code
def yX2_copyRows : MethodName := ⟨RX2, "copyRows", "(LBarrelProcessor$Instructions;II)V"⟩
def RX3 : String := "BarrelProcessor$Machine"
def TX3 : u_T := fun k => match k with
  | 0 => ("BarrelProcessor$Machine", "threads", "[LBarrelProcessor$HardwareThread;", true)
  | 1 => ("BarrelProcessor$Machine", "program", "LBarrelProcessor$Instructions;", true)
  | 2 => ("BarrelProcessor$Machine", "breakpoints", "[I", true)
  | 3 => ("BarrelProcessor$Machine", "words", "[I", true)
  | 4 => ("BarrelProcessor$Machine", "slots", "[I", true)
  | 5 => ("BarrelProcessor$Machine", "settings", "[I", true)
  | 6 => ("BarrelProcessor$Machine", "trace", "LBarrelProcessor$Trace;", true)
  | 7 => ("BarrelProcessor$Machine", "cycle", "I", false)
  | _ => ("BarrelProcessor$Machine", "idle", "I", false)
def tyX3 : Nat → FieldType := fun k => match k with
  | 0 => .array (.object "BarrelProcessor$HardwareThread")
  | 1 => .object "BarrelProcessor$Instructions"
  | 2 => .array .int
  | 3 => .array .int
  | 4 => .array .int
  | 5 => .array .int
  | 6 => .object "BarrelProcessor$Trace"
  | 7 => .int
  | _ => .int
abbrev wsX30 : List Cond := u_ws RX3 TX3 9
theorem nmX3 : ∀ a, a < 9 → ∀ b, b < 9 → a ≠ b → (TX3 a).2.1 ≠ (TX3 b).2.1 := by decide +kernel
theorem tyX3_ok : ∀ k, k < 9 → parseFieldDescriptor (TX3 k).2.2.1 = some (tyX3 k) := by decide +kernel
abbrev cX3_init : ByteArray := prog_5_method_1_code
def yX3_init : MethodName := ⟨RX3, "<init>", "()V"⟩
abbrev cX3_copyFrom : ByteArray := prog_5_method_2_code
def yX3_copyFrom : MethodName := ⟨RX3, "copyFrom", "(LBarrelProcessor$Machine;)V"⟩
abbrev cX3_countBreakpoints : ByteArray := prog_5_method_3_code
def yX3_countBreakpoints : MethodName := ⟨RX3, "countBreakpoints", "()I"⟩
abbrev cX3_runToBreakpoint : ByteArray := prog_5_method_4_code
def yX3_runToBreakpoint : MethodName := ⟨RX3, "runToBreakpoint", "(I)I"⟩
abbrev cX3_runToEnd : ByteArray := prog_5_method_5_code
def yX3_runToEnd : MethodName := ⟨RX3, "runToEnd", "()I"⟩
abbrev cX3_findIssuer : ByteArray := prog_5_method_6_code
def yX3_findIssuer : MethodName := ⟨RX3, "findIssuer", "()I"⟩
abbrev cX3_slotOwner : ByteArray := prog_5_method_7_code
def yX3_slotOwner : MethodName := ⟨RX3, "slotOwner", "()I"⟩
abbrev cX3_findReady : ByteArray := prog_5_method_8_code
def yX3_findReady : MethodName := ⟨RX3, "findReady", "()I"⟩
abbrev cX3_isIn : ByteArray := prog_5_method_9_code
def yX3_isIn : MethodName := ⟨RX3, "isIn", "(II)Z"⟩
abbrev cX3_findNextAfter : ByteArray := prog_5_method_10_code
def yX3_findNextAfter : MethodName := ⟨RX3, "findNextAfter", "(II)I"⟩
abbrev cX3_findLongestWaiting : ByteArray := prog_5_method_11_code
def yX3_findLongestWaiting : MethodName := ⟨RX3, "findLongestWaiting", "(I)I"⟩
abbrev cX3_areAllHalted : ByteArray := prog_5_method_12_code
def yX3_areAllHalted : MethodName := ⟨RX3, "areAllHalted", "()Z"⟩
abbrev cX3_isAtBreakpoint : ByteArray := prog_5_method_13_code
def yX3_isAtBreakpoint : MethodName := ⟨RX3, "isAtBreakpoint", "()Z"⟩
abbrev cX3_runCycle : ByteArray := prog_5_method_14_code
def yX3_runCycle : MethodName := ⟨RX3, "runCycle", "()V"⟩
abbrev cX3_finishLoads : ByteArray := prog_5_method_15_code
def yX3_finishLoads : MethodName := ⟨RX3, "finishLoads", "()V"⟩
abbrev cX3_doesBarrierOpen : ByteArray := prog_5_method_16_code
def yX3_doesBarrierOpen : MethodName := ⟨RX3, "doesBarrierOpen", "()Z"⟩
abbrev cX3_openBarrier : ByteArray := prog_5_method_17_code
def yX3_openBarrier : MethodName := ⟨RX3, "openBarrier", "()V"⟩
abbrev cX3_countStarving : ByteArray := prog_5_method_18_code
def yX3_countStarving : MethodName := ⟨RX3, "countStarving", "(I)V"⟩
abbrev cX3_noteIssue : ByteArray := prog_5_method_19_code
def yX3_noteIssue : MethodName := ⟨RX3, "noteIssue", "(I)V"⟩
abbrev cX3_executeNext : ByteArray := prog_5_method_20_code
def yX3_executeNext : MethodName := ⟨RX3, "executeNext", "(LBarrelProcessor$HardwareThread;)V"⟩
abbrev cX3_calculate : ByteArray := prog_5_method_21_code
def yX3_calculate : MethodName := ⟨RX3, "calculate", "([IIII)V"⟩
abbrev cX3_reachMemory : ByteArray := prog_5_method_22_code
def yX3_reachMemory : MethodName := ⟨RX3, "reachMemory", "(LBarrelProcessor$HardwareThread;III)V"⟩
abbrev cX3_steer : ByteArray := prog_5_method_23_code
def yX3_steer : MethodName := ⟨RX3, "steer", "(LBarrelProcessor$HardwareThread;III)V"⟩
def RX4 : String := "BarrelProcessor$Text"
def TX4 : u_T := fun k => match k with
  | 0 => ("BarrelProcessor$Text", "characters", "[C", true)
  | 1 => ("BarrelProcessor$Text", "length", "I", false)
  | 2 => ("BarrelProcessor$Text", "position", "I", false)
  | 3 => ("BarrelProcessor$Text", "instructions", "LBarrelProcessor$Instructions;", true)
  | 4 => ("BarrelProcessor$Text", "instructionCount", "I", false)
  | _ => ("BarrelProcessor$Text", "operandCount", "I", false)
def tyX4 : Nat → FieldType := fun k => match k with
  | 0 => .array .char
  | 1 => .int
  | 2 => .int
  | 3 => .object "BarrelProcessor$Instructions"
  | 4 => .int
  | _ => .int
abbrev wsX40 : List Cond := u_ws RX4 TX4 6
theorem nmX4 : ∀ a, a < 6 → ∀ b, b < 6 → a ≠ b → (TX4 a).2.1 ≠ (TX4 b).2.1 := by decide +kernel
theorem tyX4_ok : ∀ k, k < 6 → parseFieldDescriptor (TX4 k).2.2.1 = some (tyX4 k) := by decide +kernel
abbrev cX4_init : ByteArray := prog_6_method_1_code
def yX4_init : MethodName := ⟨RX4, "<init>", "()V"⟩
abbrev cX4_add : ByteArray := prog_6_method_2_code
def yX4_add : MethodName := ⟨RX4, "add", "(C)V"⟩
abbrev cX4_findFault : ByteArray := prog_6_method_3_code
def yX4_findFault : MethodName := ⟨RX4, "findFault", "()I"⟩
abbrev cX4_readInstruction : ByteArray := prog_6_method_4_code
def yX4_readInstruction : MethodName := ⟨RX4, "readInstruction", "()Z"⟩
abbrev cX4_beginRow : ByteArray := prog_6_method_5_code
def yX4_beginRow : MethodName := ⟨RX4, "beginRow", "(I)V"⟩
abbrev cX4_readOperands : ByteArray := prog_6_method_6_code
def yX4_readOperands : MethodName := ⟨RX4, "readOperands", "(I)Z"⟩
abbrev cX4_readSign : ByteArray := prog_6_method_7_code
def yX4_readSign : MethodName := ⟨RX4, "readSign", "(C)Z"⟩
abbrev cX4_isDigit : ByteArray := prog_6_method_8_code
def yX4_isDigit : MethodName := ⟨RX4, "isDigit", "(II)Z"⟩
abbrev cX4_takeDigit : ByteArray := prog_6_method_9_code
def yX4_takeDigit : MethodName := ⟨RX4, "takeDigit", "()I"⟩
abbrev cX4_readRegister : ByteArray := prog_6_method_10_code
def yX4_readRegister : MethodName := ⟨RX4, "readRegister", "()Z"⟩
abbrev cX4_readNumber : ByteArray := prog_6_method_11_code
def yX4_readNumber : MethodName := ⟨RX4, "readNumber", "()Z"⟩
abbrev cX4_readPlace : ByteArray := prog_6_method_12_code
def yX4_readPlace : MethodName := ⟨RX4, "readPlace", "()Z"⟩
abbrev cX4_keepOperand : ByteArray := prog_6_method_13_code
def yX4_keepOperand : MethodName := ⟨RX4, "keepOperand", "(I)V"⟩
def RX5 : String := "BarrelProcessor$Trace"
def TX5 : u_T := fun k => match k with
  | 0 => ("BarrelProcessor$Trace", "parts", "[I", true)
  | 1 => ("BarrelProcessor$Trace", "next", "I", false)
  | _ => ("BarrelProcessor$Trace", "count", "I", false)
def tyX5 : Nat → FieldType := fun k => match k with
  | 0 => .array .int
  | 1 => .int
  | _ => .int
abbrev wsX50 : List Cond := u_ws RX5 TX5 3
theorem nmX5 : ∀ a, a < 3 → ∀ b, b < 3 → a ≠ b → (TX5 a).2.1 ≠ (TX5 b).2.1 := by decide +kernel
theorem tyX5_ok : ∀ k, k < 3 → parseFieldDescriptor (TX5 k).2.2.1 = some (tyX5 k) := by decide +kernel
abbrev cX5_init : ByteArray := prog_7_method_1_code
def yX5_init : MethodName := ⟨RX5, "<init>", "()V"⟩
abbrev cX5_note : ByteArray := prog_7_method_2_code
def yX5_note : MethodName := ⟨RX5, "note", "(III)V"⟩
abbrev cX5_lookUp : ByteArray := prog_7_method_3_code
def yX5_lookUp : MethodName := ⟨RX5, "lookUp", "(II)I"⟩
abbrev cX5_copyFrom : ByteArray := prog_7_method_4_code
def yX5_copyFrom : MethodName := ⟨RX5, "copyFrom", "(LBarrelProcessor$Trace;)V"⟩
def RX6 : String := "BarrelProcessor"
def TX6 : u_T := fun k => match k with
  | 0 => ("BarrelProcessor", "machine", "LBarrelProcessor$Machine;", true)
  | 1 => ("BarrelProcessor", "trial", "LBarrelProcessor$Machine;", true)
  | 2 => ("BarrelProcessor", "history", "LBarrelProcessor$History;", true)
  | _ => ("BarrelProcessor", "text", "LBarrelProcessor$Text;", true)
def tyX6 : Nat → FieldType := fun k => match k with
  | 0 => .object "BarrelProcessor$Machine"
  | 1 => .object "BarrelProcessor$Machine"
  | 2 => .object "BarrelProcessor$History"
  | _ => .object "BarrelProcessor$Text"
abbrev wsX60 : List Cond := u_ws RX6 TX6 4
theorem nmX6 : ∀ a, a < 4 → ∀ b, b < 4 → a ≠ b → (TX6 a).2.1 ≠ (TX6 b).2.1 := by decide +kernel
theorem tyX6_ok : ∀ k, k < 4 → parseFieldDescriptor (TX6 k).2.2.1 = some (tyX6 k) := by decide +kernel
abbrev cX6_init : ByteArray := prog_1_method_1_code
def yX6_init : MethodName := ⟨RX6, "<init>", "()V"⟩
abbrev cX6_assemble : ByteArray := prog_1_method_2_code
def yX6_assemble : MethodName := ⟨RX6, "assemble", "(I)I"⟩
abbrev cX6_start : ByteArray := prog_1_method_3_code
def yX6_start : MethodName := ⟨RX6, "start", "(II)I"⟩
abbrev cX6_halt : ByteArray := prog_1_method_4_code
def yX6_halt : MethodName := ⟨RX6, "halt", "(I)I"⟩
abbrev cX6_setRegister : ByteArray := prog_1_method_5_code
def yX6_setRegister : MethodName := ⟨RX6, "setRegister", "(III)I"⟩
abbrev cX6_setWord : ByteArray := prog_1_method_6_code
def yX6_setWord : MethodName := ⟨RX6, "setWord", "(II)I"⟩
abbrev cX6_setSlot : ByteArray := prog_1_method_7_code
def yX6_setSlot : MethodName := ⟨RX6, "setSlot", "(II)I"⟩
abbrev cX6_set : ByteArray := prog_1_method_8_code
def yX6_set : MethodName := ⟨RX6, "set", "(II)I"⟩
abbrev cX6_setBreakpoint : ByteArray := prog_1_method_9_code
def yX6_setBreakpoint : MethodName := ⟨RX6, "setBreakpoint", "(IZ)I"⟩
abbrev cX6_run : ByteArray := prog_1_method_10_code
def yX6_run : MethodName := ⟨RX6, "run", "(I)I"⟩
abbrev cX6_append : ByteArray := prog_1_method_11_code
def yX6_append : MethodName := ⟨RX6, "append", "(I)I"⟩
abbrev cX6_clearText : ByteArray := prog_1_method_12_code
def yX6_clearText : MethodName := ⟨RX6, "clearText", "()I"⟩
abbrev cX6_fault : ByteArray := prog_1_method_13_code
def yX6_fault : MethodName := ⟨RX6, "fault", "()I"⟩
abbrev cX6_undo : ByteArray := prog_1_method_14_code
def yX6_undo : MethodName := ⟨RX6, "undo", "()I"⟩
abbrev cX6_state : ByteArray := prog_1_method_15_code
def yX6_state : MethodName := ⟨RX6, "state", "(I)I"⟩
abbrev cX6_programCounter : ByteArray := prog_1_method_16_code
def yX6_programCounter : MethodName := ⟨RX6, "programCounter", "(I)I"⟩
abbrev cX6_register : ByteArray := prog_1_method_17_code
def yX6_register : MethodName := ⟨RX6, "register", "(II)I"⟩
abbrev cX6_word : ByteArray := prog_1_method_18_code
def yX6_word : MethodName := ⟨RX6, "word", "(I)I"⟩
abbrev cX6_operation : ByteArray := prog_1_method_19_code
def yX6_operation : MethodName := ⟨RX6, "operation", "(I)I"⟩
abbrev cX6_operand : ByteArray := prog_1_method_20_code
def yX6_operand : MethodName := ⟨RX6, "operand", "(II)I"⟩
abbrev cX6_slot : ByteArray := prog_1_method_21_code
def yX6_slot : MethodName := ⟨RX6, "slot", "(I)I"⟩
abbrev cX6_setting : ByteArray := prog_1_method_22_code
def yX6_setting : MethodName := ⟨RX6, "setting", "(I)I"⟩
abbrev cX6_breakpoint : ByteArray := prog_1_method_23_code
def yX6_breakpoint : MethodName := ⟨RX6, "breakpoint", "(I)I"⟩
abbrev cX6_cycle : ByteArray := prog_1_method_24_code
def yX6_cycle : MethodName := ⟨RX6, "cycle", "()I"⟩
abbrev cX6_idle : ByteArray := prog_1_method_25_code
def yX6_idle : MethodName := ⟨RX6, "idle", "()I"⟩
abbrev cX6_executed : ByteArray := prog_1_method_26_code
def yX6_executed : MethodName := ⟨RX6, "executed", "(I)I"⟩
abbrev cX6_lent : ByteArray := prog_1_method_27_code
def yX6_lent : MethodName := ⟨RX6, "lent", "(I)I"⟩
abbrev cX6_starved : ByteArray := prog_1_method_28_code
def yX6_starved : MethodName := ⟨RX6, "starved", "(I)I"⟩
abbrev cX6_trace : ByteArray := prog_1_method_29_code
def yX6_trace : MethodName := ⟨RX6, "trace", "(II)I"⟩
abbrev cX6_use : ByteArray := prog_1_method_30_code
def yX6_use : MethodName := ⟨RX6, "use", "()F"⟩
abbrev cX6_nextThread : ByteArray := prog_1_method_31_code
def yX6_nextThread : MethodName := ⟨RX6, "nextThread", "()I"⟩
abbrev cX6_cyclesLeft : ByteArray := prog_1_method_32_code
def yX6_cyclesLeft : MethodName := ⟨RX6, "cyclesLeft", "()I"⟩
abbrev cX6_cyclesIf : ByteArray := prog_1_method_33_code
def yX6_cyclesIf : MethodName := ⟨RX6, "cyclesIf", "(II)I"⟩
abbrev cX6_bestLend : ByteArray := prog_1_method_34_code
def yX6_bestLend : MethodName := ⟨RX6, "bestLend", "()I"⟩
abbrev cX6_finalWord : ByteArray := prog_1_method_35_code
def yX6_finalWord : MethodName := ⟨RX6, "finalWord", "(I)I"⟩
abbrev cX6_tryOut : ByteArray := prog_1_method_36_code
def yX6_tryOut : MethodName := ⟨RX6, "tryOut", "(II)I"⟩
abbrev cX6_replace : ByteArray := prog_1_method_37_code
def yX6_replace : MethodName := ⟨RX6, "replace", "([III)I"⟩
abbrev cX6_isWithin : ByteArray := prog_1_method_38_code
def yX6_isWithin : MethodName := ⟨RX6, "isWithin", "(III)Z"⟩
abbrev cX6_isThread : ByteArray := prog_1_method_39_code
def yX6_isThread : MethodName := ⟨RX6, "isThread", "(I)Z"⟩
abbrev cX6_isRegister : ByteArray := prog_1_method_40_code
def yX6_isRegister : MethodName := ⟨RX6, "isRegister", "(I)Z"⟩
abbrev cX6_isPlace : ByteArray := prog_1_method_41_code
def yX6_isPlace : MethodName := ⟨RX6, "isPlace", "(I)Z"⟩
abbrev cX6_isWord : ByteArray := prog_1_method_42_code
def yX6_isWord : MethodName := ⟨RX6, "isWord", "(I)Z"⟩
abbrev cX6_isSlot : ByteArray := prog_1_method_43_code
def yX6_isSlot : MethodName := ⟨RX6, "isSlot", "(I)Z"⟩
abbrev cX6_isSetting : ByteArray := prog_1_method_44_code
def yX6_isSetting : MethodName := ⟨RX6, "isSetting", "(I)Z"⟩
abbrev cX6_isValue : ByteArray := prog_1_method_45_code
def yX6_isValue : MethodName := ⟨RX6, "isValue", "(I)Z"⟩
def RX7 : String := "BarrelProcessorModel"
def TX7 : u_T := fun k => match k with
  | 0 => ("BarrelProcessorModel", "s", "[I", true)
  | 1 => ("BarrelProcessorModel", "aside", "[I", true)
  | 2 => ("BarrelProcessorModel", "past", "[I", true)
  | 3 => ("BarrelProcessorModel", "pasts", "I", false)
  | 4 => ("BarrelProcessorModel", "text", "[I", true)
  | 5 => ("BarrelProcessorModel", "length", "I", false)
  | 6 => ("BarrelProcessorModel", "spot", "I", false)
  | 7 => ("BarrelProcessorModel", "isWrong", "Z", false)
  | 8 => ("BarrelProcessorModel", "operation", "I", false)
  | 9 => ("BarrelProcessorModel", "first", "I", false)
  | _ => ("BarrelProcessorModel", "second", "I", false)
def tyX7 : Nat → FieldType := fun k => match k with
  | 0 => .array .int
  | 1 => .array .int
  | 2 => .array .int
  | 3 => .int
  | 4 => .array .int
  | 5 => .int
  | 6 => .int
  | 7 => .boolean
  | 8 => .int
  | 9 => .int
  | _ => .int
abbrev wsX70 : List Cond := u_ws RX7 TX7 11
theorem nmX7 : ∀ a, a < 11 → ∀ b, b < 11 → a ≠ b → (TX7 a).2.1 ≠ (TX7 b).2.1 := by decide +kernel
theorem tyX7_ok : ∀ k, k < 11 → parseFieldDescriptor (TX7 k).2.2.1 = some (tyX7 k) := by decide +kernel
abbrev cX7_init : ByteArray := prog_9_method_1_code
def yX7_init : MethodName := ⟨RX7, "<init>", "()V"⟩
abbrev cX7_in : ByteArray := prog_9_method_3_code
def yX7_in : MethodName := ⟨RX7, "in", "(III)Z"⟩
abbrev cX7_at : ByteArray := prog_9_method_4_code
def yX7_at : MethodName := ⟨RX7, "at", "(II)I"⟩
abbrev cX7_isThread : ByteArray := prog_9_method_5_code
def yX7_isThread : MethodName := ⟨RX7, "isThread", "(I)Z"⟩
abbrev cX7_isPlace : ByteArray := prog_9_method_6_code
def yX7_isPlace : MethodName := ⟨RX7, "isPlace", "(I)Z"⟩
abbrev cX7_isShort : ByteArray := prog_9_method_7_code
def yX7_isShort : MethodName := ⟨RX7, "isShort", "(I)Z"⟩
abbrev cX7_putAside : ByteArray := prog_9_method_8_code
def yX7_putAside : MethodName := ⟨RX7, "putAside", "()V"⟩
abbrev cX7_putBack : ByteArray := prog_9_method_9_code
def yX7_putBack : MethodName := ⟨RX7, "putBack", "()V"⟩
abbrev cX7_records : ByteArray := prog_9_method_10_code
def yX7_records : MethodName := ⟨RX7, "records", "()V"⟩
abbrev cX7_register0 : ByteArray := prog_9_method_11_code
def yX7_register0 : MethodName := ⟨RX7, "register0", "(II)I"⟩
abbrev cX7_puts : ByteArray := prog_9_method_12_code
def yX7_puts : MethodName := ⟨RX7, "puts", "(III)V"⟩
abbrev cX7_jumps : ByteArray := prog_9_method_13_code
def yX7_jumps : MethodName := ⟨RX7, "jumps", "(IIZ)V"⟩
abbrev cX7_does : ByteArray := prog_9_method_14_code
def yX7_does : MethodName := ⟨RX7, "does", "(IIII)V"⟩
abbrev cX7_traces : ByteArray := prog_9_method_15_code
def yX7_traces : MethodName := ⟨RX7, "traces", "(II)V"⟩
abbrev cX7_executes : ByteArray := prog_9_method_16_code
def yX7_executes : MethodName := ⟨RX7, "executes", "(I)V"⟩
abbrev cX7_many : ByteArray := prog_9_method_17_code
def yX7_many : MethodName := ⟨RX7, "many", "(I)I"⟩
abbrev cX7_prepares : ByteArray := prog_9_method_18_code
def yX7_prepares : MethodName := ⟨RX7, "prepares", "()V"⟩
abbrev cX7_isReady : ByteArray := prog_9_method_19_code
def yX7_isReady : MethodName := ⟨RX7, "isReady", "(I)Z"⟩
abbrev cX7_issuing : ByteArray := prog_9_method_20_code
def yX7_issuing : MethodName := ⟨RX7, "issuing", "()I"⟩
abbrev cX7_cycles : ByteArray := prog_9_method_21_code
def yX7_cycles : MethodName := ⟨RX7, "cycles", "()V"⟩
abbrev cX7_isOver : ByteArray := prog_9_method_22_code
def yX7_isOver : MethodName := ⟨RX7, "isOver", "()Z"⟩
abbrev cX7_assemble : ByteArray := prog_9_method_23_code
def yX7_assemble : MethodName := ⟨RX7, "assemble", "(I)I"⟩
abbrev cX7_start : ByteArray := prog_9_method_24_code
def yX7_start : MethodName := ⟨RX7, "start", "(II)I"⟩
abbrev cX7_halt : ByteArray := prog_9_method_25_code
def yX7_halt : MethodName := ⟨RX7, "halt", "(I)I"⟩
abbrev cX7_setRegister : ByteArray := prog_9_method_26_code
def yX7_setRegister : MethodName := ⟨RX7, "setRegister", "(III)I"⟩
abbrev cX7_setWord : ByteArray := prog_9_method_27_code
def yX7_setWord : MethodName := ⟨RX7, "setWord", "(II)I"⟩
abbrev cX7_setSlot : ByteArray := prog_9_method_28_code
def yX7_setSlot : MethodName := ⟨RX7, "setSlot", "(II)I"⟩
abbrev cX7_set : ByteArray := prog_9_method_29_code
def yX7_set : MethodName := ⟨RX7, "set", "(II)I"⟩
abbrev cX7_setBreakpoint : ByteArray := prog_9_method_30_code
def yX7_setBreakpoint : MethodName := ⟨RX7, "setBreakpoint", "(IZ)I"⟩
abbrev cX7_isStopped : ByteArray := prog_9_method_31_code
def yX7_isStopped : MethodName := ⟨RX7, "isStopped", "()Z"⟩
abbrev cX7_run : ByteArray := prog_9_method_32_code
def yX7_run : MethodName := ⟨RX7, "run", "(I)I"⟩
abbrev cX7_append : ByteArray := prog_9_method_33_code
def yX7_append : MethodName := ⟨RX7, "append", "(I)I"⟩
abbrev cX7_clearText : ByteArray := prog_9_method_34_code
def yX7_clearText : MethodName := ⟨RX7, "clearText", "()I"⟩
abbrev cX7_next : ByteArray := prog_9_method_35_code
def yX7_next : MethodName := ⟨RX7, "next", "()I"⟩
abbrev cX7_sign : ByteArray := prog_9_method_36_code
def yX7_sign : MethodName := ⟨RX7, "sign", "(I)V"⟩
abbrev cX7_digit : ByteArray := prog_9_method_37_code
def yX7_digit : MethodName := ⟨RX7, "digit", "(II)I"⟩
abbrev cX7_upTo : ByteArray := prog_9_method_38_code
def yX7_upTo : MethodName := ⟨RX7, "upTo", "(II)I"⟩
abbrev cX7_number : ByteArray := prog_9_method_39_code
def yX7_number : MethodName := ⟨RX7, "number", "()I"⟩
abbrev cX7_operationOf : ByteArray := prog_9_method_40_code
def yX7_operationOf : MethodName := ⟨RX7, "operationOf", "(I)I"⟩
abbrev cX7_instruction : ByteArray := prog_9_method_41_code
def yX7_instruction : MethodName := ⟨RX7, "instruction", "()V"⟩
abbrev cX7_isFaulty : ByteArray := prog_9_method_42_code
def yX7_isFaulty : MethodName := ⟨RX7, "isFaulty", "()Z"⟩
abbrev cX7_fault : ByteArray := prog_9_method_43_code
def yX7_fault : MethodName := ⟨RX7, "fault", "()I"⟩
abbrev cX7_undo : ByteArray := prog_9_method_44_code
def yX7_undo : MethodName := ⟨RX7, "undo", "()I"⟩
abbrev cX7_ofThread : ByteArray := prog_9_method_45_code
def yX7_ofThread : MethodName := ⟨RX7, "ofThread", "(II)I"⟩
abbrev cX7_state : ByteArray := prog_9_method_46_code
def yX7_state : MethodName := ⟨RX7, "state", "(I)I"⟩
abbrev cX7_programCounter : ByteArray := prog_9_method_47_code
def yX7_programCounter : MethodName := ⟨RX7, "programCounter", "(I)I"⟩
abbrev cX7_register : ByteArray := prog_9_method_48_code
def yX7_register : MethodName := ⟨RX7, "register", "(II)I"⟩
abbrev cX7_word : ByteArray := prog_9_method_49_code
def yX7_word : MethodName := ⟨RX7, "word", "(I)I"⟩
abbrev cX7_operation : ByteArray := prog_9_method_50_code
def yX7_operation : MethodName := ⟨RX7, "operation", "(I)I"⟩
abbrev cX7_operand : ByteArray := prog_9_method_51_code
def yX7_operand : MethodName := ⟨RX7, "operand", "(II)I"⟩
abbrev cX7_slot : ByteArray := prog_9_method_52_code
def yX7_slot : MethodName := ⟨RX7, "slot", "(I)I"⟩
abbrev cX7_setting : ByteArray := prog_9_method_53_code
def yX7_setting : MethodName := ⟨RX7, "setting", "(I)I"⟩
abbrev cX7_breakpoint : ByteArray := prog_9_method_54_code
def yX7_breakpoint : MethodName := ⟨RX7, "breakpoint", "(I)I"⟩
abbrev cX7_cycle : ByteArray := prog_9_method_55_code
def yX7_cycle : MethodName := ⟨RX7, "cycle", "()I"⟩
abbrev cX7_idle : ByteArray := prog_9_method_56_code
def yX7_idle : MethodName := ⟨RX7, "idle", "()I"⟩
abbrev cX7_executed : ByteArray := prog_9_method_57_code
def yX7_executed : MethodName := ⟨RX7, "executed", "(I)I"⟩
abbrev cX7_lent : ByteArray := prog_9_method_58_code
def yX7_lent : MethodName := ⟨RX7, "lent", "(I)I"⟩
abbrev cX7_starved : ByteArray := prog_9_method_59_code
def yX7_starved : MethodName := ⟨RX7, "starved", "(I)I"⟩
abbrev cX7_trace : ByteArray := prog_9_method_60_code
def yX7_trace : MethodName := ⟨RX7, "trace", "(II)I"⟩
abbrev cX7_use : ByteArray := prog_9_method_61_code
def yX7_use : MethodName := ⟨RX7, "use", "()F"⟩
abbrev cX7_nextThread : ByteArray := prog_9_method_62_code
def yX7_nextThread : MethodName := ⟨RX7, "nextThread", "()I"⟩
abbrev cX7_runsOut : ByteArray := prog_9_method_63_code
def yX7_runsOut : MethodName := ⟨RX7, "runsOut", "()I"⟩
abbrev cX7_leftIf : ByteArray := prog_9_method_64_code
def yX7_leftIf : MethodName := ⟨RX7, "leftIf", "(II)I"⟩
abbrev cX7_cyclesLeft : ByteArray := prog_9_method_65_code
def yX7_cyclesLeft : MethodName := ⟨RX7, "cyclesLeft", "()I"⟩
abbrev cX7_cyclesIf : ByteArray := prog_9_method_66_code
def yX7_cyclesIf : MethodName := ⟨RX7, "cyclesIf", "(II)I"⟩
abbrev cX7_bestLend : ByteArray := prog_9_method_67_code
def yX7_bestLend : MethodName := ⟨RX7, "bestLend", "()I"⟩
abbrev cX7_finalWord : ByteArray := prog_9_method_68_code
def yX7_finalWord : MethodName := ⟨RX7, "finalWord", "(I)I"⟩
def RJx145de : String := "java/io/Serializable"
def TJx145de : u_T := fun k => match k with
  | _ => ("", "", "", false)
def tyJx145de : Nat → FieldType := fun k => match k with
  | _ => .int
abbrev wsJx145de0 : List Cond := u_ws RJx145de TJx145de 0
theorem nmJx145de : ∀ a, a < 0 → ∀ b, b < 0 → a ≠ b → (TJx145de a).2.1 ≠ (TJx145de b).2.1 := by decide +kernel
theorem tyJx145de_ok : ∀ k, k < 0 → parseFieldDescriptor (TJx145de k).2.2.1 = some (tyJx145de k) := by decide +kernel
def RJx9f9b0 : String := "java/lang/CharSequence"
def TJx9f9b0 : u_T := fun k => match k with
  | _ => ("", "", "", false)
def tyJx9f9b0 : Nat → FieldType := fun k => match k with
  | _ => .int
abbrev wsJx9f9b00 : List Cond := u_ws RJx9f9b0 TJx9f9b0 0
theorem nmJx9f9b0 : ∀ a, a < 0 → ∀ b, b < 0 → a ≠ b → (TJx9f9b0 a).2.1 ≠ (TJx9f9b0 b).2.1 := by decide +kernel
theorem tyJx9f9b0_ok : ∀ k, k < 0 → parseFieldDescriptor (TJx9f9b0 k).2.2.1 = some (tyJx9f9b0 k) := by decide +kernel
def RJ11 : String := "java/lang/Character"
def TJ11 : u_T := fun k => match k with
  | _ => ("", "", "", false)
def tyJ11 : Nat → FieldType := fun k => match k with
  | _ => .int
abbrev wsJ110 : List Cond := u_ws RJ11 TJ11 0
theorem nmJ11 : ∀ a, a < 0 → ∀ b, b < 0 → a ≠ b → (TJ11 a).2.1 ≠ (TJ11 b).2.1 := by decide +kernel
theorem tyJ11_ok : ∀ k, k < 0 → parseFieldDescriptor (TJ11 k).2.2.1 = some (tyJ11 k) := by decide +kernel
abbrev cJ11_isValidCodePoint_9a6ad : ByteArray := prog_10_method_11_code
def yJ11_isValidCodePoint_9a6ad : MethodName := ⟨RJ11, "isValidCodePoint", "(I)Z"⟩
abbrev cJ11_highSurrogate_5068e : ByteArray := prog_10_method_28_code
def yJ11_highSurrogate_5068e : MethodName := ⟨RJ11, "highSurrogate", "(I)C"⟩
abbrev cJ11_lowSurrogate_5068e : ByteArray := prog_10_method_29_code
def yJ11_lowSurrogate_5068e : MethodName := ⟨RJ11, "lowSurrogate", "(I)C"⟩
def RJxb160c : String := "java/lang/Comparable"
def TJxb160c : u_T := fun k => match k with
  | _ => ("", "", "", false)
def tyJxb160c : Nat → FieldType := fun k => match k with
  | _ => .int
abbrev wsJxb160c0 : List Cond := u_ws RJxb160c TJxb160c 0
theorem nmJxb160c : ∀ a, a < 0 → ∀ b, b < 0 → a ≠ b → (TJxb160c a).2.1 ≠ (TJxb160c b).2.1 := by decide +kernel
theorem tyJxb160c_ok : ∀ k, k < 0 → parseFieldDescriptor (TJxb160c k).2.2.1 = some (tyJxb160c k) := by decide +kernel
def RJ9 : String := "java/lang/Math"
def TJ9 : u_T := fun k => match k with
  | _ => ("", "", "", false)
def tyJ9 : Nat → FieldType := fun k => match k with
  | _ => .int
abbrev wsJ90 : List Cond := u_ws RJ9 TJ9 0
theorem nmJ9 : ∀ a, a < 0 → ∀ b, b < 0 → a ≠ b → (TJ9 a).2.1 ≠ (TJ9 b).2.1 := by decide +kernel
theorem tyJ9_ok : ∀ k, k < 0 → parseFieldDescriptor (TJ9 k).2.2.1 = some (tyJ9 k) := by decide +kernel
abbrev cJ9_max_7cf53 : ByteArray := prog_11_method_65_code
def yJ9_max_7cf53 : MethodName := ⟨RJ9, "max", "(II)I"⟩
abbrev cJ9_min_7cf53 : ByteArray := prog_11_method_69_code
def yJ9_min_7cf53 : MethodName := ⟨RJ9, "min", "(II)I"⟩
def RJ0 : String := "java/lang/String"
def TJ0 : u_T := fun k => match k with
  | _ => ("", "", "", false)
def tyJ0 : Nat → FieldType := fun k => match k with
  | _ => .int
abbrev wsJ00 : List Cond := u_ws RJ0 TJ0 0
theorem nmJ0 : ∀ a, a < 0 → ∀ b, b < 0 → a ≠ b → (TJ0 a).2.1 ≠ (TJ0 b).2.1 := by decide +kernel
theorem tyJ0_ok : ∀ k, k < 0 → parseFieldDescriptor (TJ0 k).2.2.1 = some (tyJ0 k) := by decide +kernel
abbrev cJ0_length_8abf5 : ByteArray := prog_12_method_54_code
def yJ0_length_8abf5 : MethodName := ⟨RJ0, "length", "()I"⟩
abbrev cJ0_indexOf_0f7a4 : ByteArray := prog_12_method_79_code
def yJ0_indexOf_0f7a4 : MethodName := ⟨RJ0, "indexOf", "(I)I"⟩
abbrev cJ0_indexOf_7cf53 : ByteArray := prog_12_method_80_code
def yJ0_indexOf_7cf53 : MethodName := ⟨RJ0, "indexOf", "(II)I"⟩
abbrev cJ0_coder_7d493 : ByteArray := prog_12_method_152_code
def yJ0_coder_7d493 : MethodName := ⟨RJ0, "coder", "()B"⟩
abbrev cJ0_isLatin1_aae02 : ByteArray := prog_12_method_154_code
def yJ0_isLatin1_aae02 : MethodName := ⟨RJ0, "isLatin1", "()Z"⟩
abbrev cJ0_checkBoundsBeginEnd_23922 : ByteArray := prog_12_method_158_code
def yJ0_checkBoundsBeginEnd_23922 : MethodName := ⟨RJ0, "checkBoundsBeginEnd", "(III)V"⟩
def RJ1 : String := "java/lang/StringLatin1"
def TJ1 : u_T := fun k => match k with
  | _ => ("", "", "", false)
def tyJ1 : Nat → FieldType := fun k => match k with
  | _ => .int
abbrev wsJ10 : List Cond := u_ws RJ1 TJ1 0
theorem nmJ1 : ∀ a, a < 0 → ∀ b, b < 0 → a ≠ b → (TJ1 a).2.1 ≠ (TJ1 b).2.1 := by decide +kernel
theorem tyJ1_ok : ∀ k, k < 0 → parseFieldDescriptor (TJ1 k).2.2.1 = some (tyJ1 k) := by decide +kernel
abbrev cJ1_canEncode_9a6ad : ByteArray := prog_13_method_4_code
def yJ1_canEncode_9a6ad : MethodName := ⟨RJ1, "canEncode", "(I)Z"⟩
abbrev cJ1_indexOf_4cfef : ByteArray := prog_13_method_22_code
def yJ1_indexOf_4cfef : MethodName := ⟨RJ1, "indexOf", "([BIII)I"⟩
abbrev cJ1_indexOfChar_4cfef : ByteArray := prog_13_method_23_code
def yJ1_indexOfChar_4cfef : MethodName := ⟨RJ1, "indexOfChar", "([BIII)I"⟩
def RJ2 : String := "java/lang/StringUTF16"
def TJ2 : u_T := fun k => match k with
  | _ => ("", "", "", false)
def tyJ2 : Nat → FieldType := fun k => match k with
  | _ => .int
abbrev wsJ20 : List Cond := u_ws RJ2 TJ2 0
theorem nmJ2 : ∀ a, a < 0 → ∀ b, b < 0 → a ≠ b → (TJ2 a).2.1 ≠ (TJ2 b).2.1 := by decide +kernel
theorem tyJ2_ok : ∀ k, k < 0 → parseFieldDescriptor (TJ2 k).2.2.1 = some (tyJ2 k) := by decide +kernel
abbrev cJ2_getChar_3b067 : ByteArray := prog_14_method_5_code
def yJ2_getChar_3b067 : MethodName := ⟨RJ2, "getChar", "([BI)C"⟩
abbrev cJ2_length_9d52b : ByteArray := prog_14_method_6_code
def yJ2_length_9d52b : MethodName := ⟨RJ2, "length", "([B)I"⟩
abbrev cJ2_indexOf_4cfef : ByteArray := prog_14_method_40_code
def yJ2_indexOf_4cfef : MethodName := ⟨RJ2, "indexOf", "([BIII)I"⟩
abbrev cJ2_indexOfChar_4cfef : ByteArray := prog_14_method_47_code
def yJ2_indexOfChar_4cfef : MethodName := ⟨RJ2, "indexOfChar", "([BIII)I"⟩
abbrev cJ2_indexOfCharUnsafe_4cfef : ByteArray := prog_14_method_48_code
def yJ2_indexOfCharUnsafe_4cfef : MethodName := ⟨RJ2, "indexOfCharUnsafe", "([BIII)I"⟩
abbrev cJ2_indexOfSupplementary_4cfef : ByteArray := prog_14_method_49_code
def yJ2_indexOfSupplementary_4cfef : MethodName := ⟨RJ2, "indexOfSupplementary", "([BIII)I"⟩
abbrev cJ2_checkBoundsBeginEnd_d044e : ByteArray := prog_14_method_93_code
def yJ2_checkBoundsBeginEnd_d044e : MethodName := ⟨RJ2, "checkBoundsBeginEnd", "(II[B)V"⟩
def RJ10 : String := "java/lang/System"
def TJ10 : u_T := fun k => match k with
  | _ => ("", "", "", false)
def tyJ10 : Nat → FieldType := fun k => match k with
  | _ => .int
abbrev wsJ100 : List Cond := u_ws RJ10 TJ10 0
theorem nmJ10 : ∀ a, a < 0 → ∀ b, b < 0 → a ≠ b → (TJ10 a).2.1 ≠ (TJ10 b).2.1 := by decide +kernel
theorem tyJ10_ok : ∀ k, k < 0 → parseFieldDescriptor (TJ10 k).2.2.1 = some (tyJ10 k) := by decide +kernel
def RJxfd54e : String := "java/lang/constant/Constable"
def TJxfd54e : u_T := fun k => match k with
  | _ => ("", "", "", false)
def tyJxfd54e : Nat → FieldType := fun k => match k with
  | _ => .int
abbrev wsJxfd54e0 : List Cond := u_ws RJxfd54e TJxfd54e 0
theorem nmJxfd54e : ∀ a, a < 0 → ∀ b, b < 0 → a ≠ b → (TJxfd54e a).2.1 ≠ (TJxfd54e b).2.1 := by decide +kernel
theorem tyJxfd54e_ok : ∀ k, k < 0 → parseFieldDescriptor (TJxfd54e k).2.2.1 = some (tyJxfd54e k) := by decide +kernel
def RJx3cf43 : String := "java/lang/constant/ConstantDesc"
def TJx3cf43 : u_T := fun k => match k with
  | _ => ("", "", "", false)
def tyJx3cf43 : Nat → FieldType := fun k => match k with
  | _ => .int
abbrev wsJx3cf430 : List Cond := u_ws RJx3cf43 TJx3cf43 0
theorem nmJx3cf43 : ∀ a, a < 0 → ∀ b, b < 0 → a ≠ b → (TJx3cf43 a).2.1 ≠ (TJx3cf43 b).2.1 := by decide +kernel
theorem tyJx3cf43_ok : ∀ k, k < 0 → parseFieldDescriptor (TJx3cf43 k).2.2.1 = some (tyJx3cf43 k) := by decide +kernel
def RJ7 : String := "java/util/Arrays"
def TJ7 : u_T := fun k => match k with
  | _ => ("", "", "", false)
def tyJ7 : Nat → FieldType := fun k => match k with
  | _ => .int
abbrev wsJ70 : List Cond := u_ws RJ7 TJ7 0
theorem nmJ7 : ∀ a, a < 0 → ∀ b, b < 0 → a ≠ b → (TJ7 a).2.1 ≠ (TJ7 b).2.1 := by decide +kernel
theorem tyJ7_ok : ∀ k, k < 0 → parseFieldDescriptor (TJ7 k).2.2.1 = some (tyJ7 k) := by decide +kernel
abbrev cJ7_fill_53178 : ByteArray := prog_16_method_103_code
def yJ7_fill_53178 : MethodName := ⟨RJ7, "fill", "([II)V"⟩
def RJ3 : String := "jdk/internal/util/Preconditions"
def TJ3 : u_T := fun k => match k with
  | _ => ("", "", "", false)
def tyJ3 : Nat → FieldType := fun k => match k with
  | _ => .int
abbrev wsJ30 : List Cond := u_ws RJ3 TJ3 0
theorem nmJ3 : ∀ a, a < 0 → ∀ b, b < 0 → a ≠ b → (TJ3 a).2.1 ≠ (TJ3 b).2.1 := by decide +kernel
theorem tyJ3_ok : ∀ k, k < 0 → parseFieldDescriptor (TJ3 k).2.2.1 = some (tyJ3 k) := by decide +kernel
abbrev cJ3_checkFromToIndex_8c36e : ByteArray := prog_17_method_12_code
def yJ3_checkFromToIndex_8c36e : MethodName := ⟨RJ3, "checkFromToIndex", "(IIILjava/util/function/BiFunction;)I"⟩
def RL : String := "BarrelProcessorLaw"
abbrev cL_law : ByteArray := code
def yL_law : MethodName := ⟨RL, "law", "([I)Z"⟩
def wsX0_init : List Cond := .code yX0_init cX0_init 1 none :: ([.methodLink RX0 3 objectInit, .instanceMethod objectInit, .code objectInit ⟨#[0xb1]⟩ 1 none, .arrayClass .int, .fieldLink RX0 9 "BarrelProcessor$HardwareThread" "registers" "[I", .fieldLink RX0 15 "BarrelProcessor$HardwareThread" "state" "I", .fieldLink RX0 19 "BarrelProcessor$HardwareThread" "lastIssue" "I"] ++ wsX00)
def wsJ7_fill_53178 : List Cond := .code yJ7_fill_53178 cJ7_fill_53178 4 none :: ([])
def wsX0_startAt : List Cond := .code yX0_startAt cX0_startAt 2 none :: ([.fieldLink RX0 9 "BarrelProcessor$HardwareThread" "registers" "[I", .fieldLink RX0 15 "BarrelProcessor$HardwareThread" "state" "I", .fieldLink RX0 28 "BarrelProcessor$HardwareThread" "programCounter" "I", .fieldLink RX0 19 "BarrelProcessor$HardwareThread" "lastIssue" "I", .fieldLink RX0 31 "BarrelProcessor$HardwareThread" "starvedNow" "I", .methodLink RX0 22 yJ7_fill_53178, .static yJ7_fill_53178, .initialized RJ7, .code yJ7_fill_53178 cJ7_fill_53178 4 none] ++ wsX00)
def wsX0_haltNow : List Cond := .code yX0_haltNow cX0_haltNow 1 none :: ([.fieldLink RX0 15 "BarrelProcessor$HardwareThread" "state" "I", .fieldLink RX0 31 "BarrelProcessor$HardwareThread" "starvedNow" "I"] ++ wsX00)
def wsX0_beginLoad : List Cond := .code yX0_beginLoad cX0_beginLoad 4 none :: ([.fieldLink RX0 15 "BarrelProcessor$HardwareThread" "state" "I", .fieldLink RX0 34 "BarrelProcessor$HardwareThread" "loadRegister" "I", .fieldLink RX0 37 "BarrelProcessor$HardwareThread" "loadWord" "I", .fieldLink RX0 40 "BarrelProcessor$HardwareThread" "loadDue" "I"] ++ wsX00)
def wsX0_hasLoadDue : List Cond := .code yX0_hasLoadDue cX0_hasLoadDue 2 (some .boolean) :: ([.fieldLink RX0 15 "BarrelProcessor$HardwareThread" "state" "I", .fieldLink RX0 40 "BarrelProcessor$HardwareThread" "loadDue" "I"] ++ wsX00)
def wsX0_countCycle : List Cond := .code yX0_countCycle cX0_countCycle 2 none :: ([.fieldLink RX0 31 "BarrelProcessor$HardwareThread" "starvedNow" "I", .fieldLink RX0 43 "BarrelProcessor$HardwareThread" "longestStarved" "I", .methodLink RX0 46 Lib.Math.max.name, .static Lib.Math.max.name, .initialized "java/lang/Math", .code Lib.Math.max.name Lib.Math.max.code 2 (some .int)] ++ wsX00)
def wsX0_copyFrom : List Cond := .code yX0_copyFrom cX0_copyFrom 2 none :: ([.fieldLink RX0 9 "BarrelProcessor$HardwareThread" "registers" "[I", .methodLink RX0 52 arraycopyName, .native arraycopyName, .static arraycopyName, .initialized "java/lang/System", .fieldLink RX0 15 "BarrelProcessor$HardwareThread" "state" "I", .fieldLink RX0 28 "BarrelProcessor$HardwareThread" "programCounter" "I", .fieldLink RX0 34 "BarrelProcessor$HardwareThread" "loadRegister" "I", .fieldLink RX0 37 "BarrelProcessor$HardwareThread" "loadWord" "I", .fieldLink RX0 40 "BarrelProcessor$HardwareThread" "loadDue" "I", .fieldLink RX0 19 "BarrelProcessor$HardwareThread" "lastIssue" "I", .fieldLink RX0 58 "BarrelProcessor$HardwareThread" "executed" "I", .fieldLink RX0 61 "BarrelProcessor$HardwareThread" "lent" "I", .fieldLink RX0 31 "BarrelProcessor$HardwareThread" "starvedNow" "I", .fieldLink RX0 43 "BarrelProcessor$HardwareThread" "longestStarved" "I"] ++ wsX00)
def wsX2_init : List Cond := .code yX2_init cX2_init 1 none :: ([.methodLink RX2 3 objectInit, .instanceMethod objectInit, .code objectInit ⟨#[0xb1]⟩ 1 none, .arrayClass .int, .fieldLink RX2 11 "BarrelProcessor$Instructions" "operations" "[I", .fieldLink RX2 15 "BarrelProcessor$Instructions" "operands" "[I", .constant RX2 24 (-100005), .methodLink RX2 18 yJ7_fill_53178, .static yJ7_fill_53178, .initialized RJ7, .code yJ7_fill_53178 cJ7_fill_53178 4 none] ++ wsX20)
def wsX5_init : List Cond := .code yX5_init cX5_init 1 none :: ([.methodLink RX5 3 objectInit, .instanceMethod objectInit, .code objectInit ⟨#[0xb1]⟩ 1 none, .arrayClass .int, .fieldLink RX5 11 "BarrelProcessor$Trace" "parts" "[I"] ++ wsX50)
def wsX3_init_r1 : List Cond := [Cond.methodLink RX3 3 objectInit, Cond.instanceMethod objectInit, Cond.code objectInit ⟨#[0xb1]⟩ 1 none, Cond.classLink RX3 9 RX0, Cond.fieldLink RX3 11 "BarrelProcessor$Machine" "threads" "[LBarrelProcessor$HardwareThread;", Cond.classLink RX3 17 RX2, Cond.instantiable RX2 2, Cond.initialized RX2, Cond.fieldLink RX3 20 "BarrelProcessor$Machine" "program" "LBarrelProcessor$Instructions;", Cond.arrayClass .int, Cond.fieldLink RX3 24 "BarrelProcessor$Machine" "breakpoints" "[I", Cond.fieldLink RX3 28 "BarrelProcessor$Machine" "words" "[I", Cond.fieldLink RX3 31 "BarrelProcessor$Machine" "slots" "[I", Cond.fieldLink RX3 34 "BarrelProcessor$Machine" "settings" "[I", Cond.classLink RX3 37 RX5, Cond.instantiable RX5 3, Cond.initialized RX5, Cond.fieldLink RX3 40 "BarrelProcessor$Machine" "trace" "LBarrelProcessor$Trace;", Cond.instantiable RX0 11, Cond.initialized RX0, Cond.methodLink RX3 19 yX2_init, Cond.instanceMethod yX2_init, Cond.code yX2_init cX2_init 1 none, Cond.methodLink RX2 3 objectInit]
def wsX3_init_r2 : List Cond := [Cond.fieldLink RX2 11 "BarrelProcessor$Instructions" "operations" "[I", Cond.fieldLink RX2 15 "BarrelProcessor$Instructions" "operands" "[I", Cond.constant RX2 24 (-100005), Cond.methodLink RX2 18 yJ7_fill_53178, Cond.static yJ7_fill_53178, Cond.initialized RJ7, Cond.code yJ7_fill_53178 cJ7_fill_53178 4 none, Cond.instanceMethod yX5_init, Cond.code yX5_init cX5_init 1 none, Cond.methodLink RX5 3 objectInit, Cond.fieldLink RX5 11 "BarrelProcessor$Trace" "parts" "[I", Cond.instanceMethod yX0_init, Cond.code yX0_init cX0_init 1 none, Cond.methodLink RX0 3 objectInit, Cond.fieldLink RX0 9 "BarrelProcessor$HardwareThread" "registers" "[I", Cond.fieldLink RX0 15 "BarrelProcessor$HardwareThread" "state" "I", Cond.fieldLink RX0 19 "BarrelProcessor$HardwareThread" "lastIssue" "I"]
def wsX3_init : List Cond := .code yX3_init cX3_init 2 none :: ((wsX3_init_r1 ++ wsX3_init_r2) ++ wsX30 ++ wsX20 ++ wsX50 ++ wsX00)
def wsX1_init_r1 : List Cond := [Cond.methodLink RX1 3 objectInit, Cond.instanceMethod objectInit, Cond.code objectInit ⟨#[0xb1]⟩ 1 none, Cond.classLink RX1 11 RX3, Cond.fieldLink RX1 13 "BarrelProcessor$History" "states" "[LBarrelProcessor$Machine;", Cond.instantiable RX3 9, Cond.initialized RX3, Cond.methodLink RX1 17 yX3_init, Cond.instanceMethod yX3_init, Cond.code yX3_init cX3_init 2 none, Cond.methodLink RX3 3 objectInit, Cond.classLink RX3 9 RX0, Cond.fieldLink RX3 11 "BarrelProcessor$Machine" "threads" "[LBarrelProcessor$HardwareThread;", Cond.classLink RX3 17 RX2, Cond.instantiable RX2 2, Cond.initialized RX2, Cond.fieldLink RX3 20 "BarrelProcessor$Machine" "program" "LBarrelProcessor$Instructions;", Cond.arrayClass .int, Cond.fieldLink RX3 24 "BarrelProcessor$Machine" "breakpoints" "[I", Cond.fieldLink RX3 28 "BarrelProcessor$Machine" "words" "[I", Cond.fieldLink RX3 31 "BarrelProcessor$Machine" "slots" "[I", Cond.fieldLink RX3 34 "BarrelProcessor$Machine" "settings" "[I", Cond.classLink RX3 37 RX5, Cond.instantiable RX5 3]
def wsX1_init_r2 : List Cond := [Cond.initialized RX5, Cond.fieldLink RX3 40 "BarrelProcessor$Machine" "trace" "LBarrelProcessor$Trace;", Cond.instantiable RX0 11, Cond.initialized RX0, Cond.methodLink RX3 19 yX2_init, Cond.instanceMethod yX2_init, Cond.code yX2_init cX2_init 1 none, Cond.methodLink RX2 3 objectInit, Cond.fieldLink RX2 11 "BarrelProcessor$Instructions" "operations" "[I", Cond.fieldLink RX2 15 "BarrelProcessor$Instructions" "operands" "[I", Cond.constant RX2 24 (-100005), Cond.methodLink RX2 18 yJ7_fill_53178, Cond.static yJ7_fill_53178, Cond.initialized RJ7, Cond.code yJ7_fill_53178 cJ7_fill_53178 4 none, Cond.instanceMethod yX5_init, Cond.code yX5_init cX5_init 1 none, Cond.methodLink RX5 3 objectInit, Cond.fieldLink RX5 11 "BarrelProcessor$Trace" "parts" "[I", Cond.instanceMethod yX0_init, Cond.code yX0_init cX0_init 1 none, Cond.methodLink RX0 3 objectInit, Cond.fieldLink RX0 9 "BarrelProcessor$HardwareThread" "registers" "[I", Cond.fieldLink RX0 15 "BarrelProcessor$HardwareThread" "state" "I"]
def wsX1_init_r3 : List Cond := [Cond.fieldLink RX0 19 "BarrelProcessor$HardwareThread" "lastIssue" "I"]
def wsX1_init : List Cond := .code yX1_init cX1_init 2 none :: ((wsX1_init_r1 ++ (wsX1_init_r2 ++ wsX1_init_r3)) ++ wsX10 ++ wsX30 ++ wsX20 ++ wsX50 ++ wsX00)
def wsX2_copyRows : List Cond := .code yX2_copyRows cX2_copyRows 4 none :: ([.fieldLink RX2 11 "BarrelProcessor$Instructions" "operations" "[I", .methodLink RX2 25 arraycopyName, .native arraycopyName, .static arraycopyName, .initialized "java/lang/System", .fieldLink RX2 15 "BarrelProcessor$Instructions" "operands" "[I"] ++ wsX20)
def wsX5_copyFrom : List Cond := .code yX5_copyFrom cX5_copyFrom 2 none :: ([.fieldLink RX5 11 "BarrelProcessor$Trace" "parts" "[I", .methodLink RX5 29 arraycopyName, .native arraycopyName, .static arraycopyName, .initialized "java/lang/System", .fieldLink RX5 15 "BarrelProcessor$Trace" "next" "I", .fieldLink RX5 19 "BarrelProcessor$Trace" "count" "I"] ++ wsX50)
def wsX3_copyFrom_r1 : List Cond := [Cond.fieldLink RX3 11 "BarrelProcessor$Machine" "threads" "[LBarrelProcessor$HardwareThread;", Cond.fieldLink RX3 20 "BarrelProcessor$Machine" "program" "LBarrelProcessor$Instructions;", Cond.fieldLink RX3 24 "BarrelProcessor$Machine" "breakpoints" "[I", Cond.methodLink RX3 53 arraycopyName, Cond.native arraycopyName, Cond.static arraycopyName, Cond.initialized "java/lang/System", Cond.fieldLink RX3 28 "BarrelProcessor$Machine" "words" "[I", Cond.fieldLink RX3 31 "BarrelProcessor$Machine" "slots" "[I", Cond.fieldLink RX3 34 "BarrelProcessor$Machine" "settings" "[I", Cond.fieldLink RX3 40 "BarrelProcessor$Machine" "trace" "LBarrelProcessor$Trace;", Cond.fieldLink RX3 62 "BarrelProcessor$Machine" "cycle" "I", Cond.fieldLink RX3 66 "BarrelProcessor$Machine" "idle" "I", Cond.methodLink RX3 45 yX0_copyFrom, Cond.instanceMethod yX0_copyFrom, Cond.selects RX0 yX0_copyFrom yX0_copyFrom, Cond.initialized RX0, Cond.code yX0_copyFrom cX0_copyFrom 2 none, Cond.fieldLink RX0 9 "BarrelProcessor$HardwareThread" "registers" "[I", Cond.methodLink RX0 52 arraycopyName, Cond.fieldLink RX0 15 "BarrelProcessor$HardwareThread" "state" "I", Cond.fieldLink RX0 28 "BarrelProcessor$HardwareThread" "programCounter" "I", Cond.fieldLink RX0 34 "BarrelProcessor$HardwareThread" "loadRegister" "I", Cond.fieldLink RX0 37 "BarrelProcessor$HardwareThread" "loadWord" "I"]
def wsX3_copyFrom_r2 : List Cond := [Cond.fieldLink RX0 40 "BarrelProcessor$HardwareThread" "loadDue" "I", Cond.fieldLink RX0 19 "BarrelProcessor$HardwareThread" "lastIssue" "I", Cond.fieldLink RX0 58 "BarrelProcessor$HardwareThread" "executed" "I", Cond.fieldLink RX0 61 "BarrelProcessor$HardwareThread" "lent" "I", Cond.fieldLink RX0 31 "BarrelProcessor$HardwareThread" "starvedNow" "I", Cond.fieldLink RX0 43 "BarrelProcessor$HardwareThread" "longestStarved" "I", Cond.methodLink RX3 49 yX2_copyRows, Cond.instanceMethod yX2_copyRows, Cond.selects RX2 yX2_copyRows yX2_copyRows, Cond.initialized RX2, Cond.code yX2_copyRows cX2_copyRows 4 none, Cond.fieldLink RX2 11 "BarrelProcessor$Instructions" "operations" "[I", Cond.methodLink RX2 25 arraycopyName, Cond.fieldLink RX2 15 "BarrelProcessor$Instructions" "operands" "[I", Cond.methodLink RX3 59 yX5_copyFrom, Cond.instanceMethod yX5_copyFrom, Cond.selects RX5 yX5_copyFrom yX5_copyFrom, Cond.initialized RX5, Cond.code yX5_copyFrom cX5_copyFrom 2 none, Cond.fieldLink RX5 11 "BarrelProcessor$Trace" "parts" "[I", Cond.methodLink RX5 29 arraycopyName, Cond.fieldLink RX5 15 "BarrelProcessor$Trace" "next" "I", Cond.fieldLink RX5 19 "BarrelProcessor$Trace" "count" "I"]
def wsX3_copyFrom : List Cond := .code yX3_copyFrom cX3_copyFrom 3 none :: ((wsX3_copyFrom_r1 ++ wsX3_copyFrom_r2) ++ wsX30 ++ wsX00 ++ wsX20 ++ wsX50)
def wsX1_remember_r1 : List Cond := [Cond.fieldLink RX1 13 "BarrelProcessor$History" "states" "[LBarrelProcessor$Machine;", Cond.fieldLink RX1 18 "BarrelProcessor$History" "next" "I", Cond.fieldLink RX1 26 "BarrelProcessor$History" "count" "I", Cond.methodLink RX1 29 Lib.Math.min.name, Cond.static Lib.Math.min.name, Cond.initialized "java/lang/Math", Cond.code Lib.Math.min.name Lib.Math.min.code 2 (some .int), Cond.methodLink RX1 22 yX3_copyFrom, Cond.instanceMethod yX3_copyFrom, Cond.selects RX3 yX3_copyFrom yX3_copyFrom, Cond.initialized RX3, Cond.code yX3_copyFrom cX3_copyFrom 3 none, Cond.fieldLink RX3 11 "BarrelProcessor$Machine" "threads" "[LBarrelProcessor$HardwareThread;", Cond.fieldLink RX3 20 "BarrelProcessor$Machine" "program" "LBarrelProcessor$Instructions;", Cond.fieldLink RX3 24 "BarrelProcessor$Machine" "breakpoints" "[I", Cond.methodLink RX3 53 arraycopyName, Cond.native arraycopyName, Cond.static arraycopyName, Cond.initialized "java/lang/System", Cond.fieldLink RX3 28 "BarrelProcessor$Machine" "words" "[I", Cond.fieldLink RX3 31 "BarrelProcessor$Machine" "slots" "[I", Cond.fieldLink RX3 34 "BarrelProcessor$Machine" "settings" "[I", Cond.fieldLink RX3 40 "BarrelProcessor$Machine" "trace" "LBarrelProcessor$Trace;", Cond.fieldLink RX3 62 "BarrelProcessor$Machine" "cycle" "I"]
def wsX1_remember_r2 : List Cond := [Cond.fieldLink RX3 66 "BarrelProcessor$Machine" "idle" "I", Cond.methodLink RX3 45 yX0_copyFrom, Cond.instanceMethod yX0_copyFrom, Cond.selects RX0 yX0_copyFrom yX0_copyFrom, Cond.initialized RX0, Cond.code yX0_copyFrom cX0_copyFrom 2 none, Cond.fieldLink RX0 9 "BarrelProcessor$HardwareThread" "registers" "[I", Cond.methodLink RX0 52 arraycopyName, Cond.fieldLink RX0 15 "BarrelProcessor$HardwareThread" "state" "I", Cond.fieldLink RX0 28 "BarrelProcessor$HardwareThread" "programCounter" "I", Cond.fieldLink RX0 34 "BarrelProcessor$HardwareThread" "loadRegister" "I", Cond.fieldLink RX0 37 "BarrelProcessor$HardwareThread" "loadWord" "I", Cond.fieldLink RX0 40 "BarrelProcessor$HardwareThread" "loadDue" "I", Cond.fieldLink RX0 19 "BarrelProcessor$HardwareThread" "lastIssue" "I", Cond.fieldLink RX0 58 "BarrelProcessor$HardwareThread" "executed" "I", Cond.fieldLink RX0 61 "BarrelProcessor$HardwareThread" "lent" "I", Cond.fieldLink RX0 31 "BarrelProcessor$HardwareThread" "starvedNow" "I", Cond.fieldLink RX0 43 "BarrelProcessor$HardwareThread" "longestStarved" "I", Cond.methodLink RX3 49 yX2_copyRows, Cond.instanceMethod yX2_copyRows, Cond.selects RX2 yX2_copyRows yX2_copyRows, Cond.initialized RX2, Cond.code yX2_copyRows cX2_copyRows 4 none, Cond.fieldLink RX2 11 "BarrelProcessor$Instructions" "operations" "[I"]
def wsX1_remember_r3 : List Cond := [Cond.methodLink RX2 25 arraycopyName, Cond.fieldLink RX2 15 "BarrelProcessor$Instructions" "operands" "[I", Cond.methodLink RX3 59 yX5_copyFrom, Cond.instanceMethod yX5_copyFrom, Cond.selects RX5 yX5_copyFrom yX5_copyFrom, Cond.initialized RX5, Cond.code yX5_copyFrom cX5_copyFrom 2 none, Cond.fieldLink RX5 11 "BarrelProcessor$Trace" "parts" "[I", Cond.methodLink RX5 29 arraycopyName, Cond.fieldLink RX5 15 "BarrelProcessor$Trace" "next" "I", Cond.fieldLink RX5 19 "BarrelProcessor$Trace" "count" "I"]
def wsX1_remember : List Cond := .code yX1_remember cX1_remember 2 none :: ((wsX1_remember_r1 ++ (wsX1_remember_r2 ++ wsX1_remember_r3)) ++ wsX10 ++ wsX30 ++ wsX00 ++ wsX20 ++ wsX50)
def wsX1_restore_r1 : List Cond := [Cond.fieldLink RX1 26 "BarrelProcessor$History" "count" "I", Cond.constant RX1 35 (-100005), Cond.fieldLink RX1 18 "BarrelProcessor$History" "next" "I", Cond.fieldLink RX1 13 "BarrelProcessor$History" "states" "[LBarrelProcessor$Machine;", Cond.methodLink RX1 22 yX3_copyFrom, Cond.instanceMethod yX3_copyFrom, Cond.selects RX3 yX3_copyFrom yX3_copyFrom, Cond.initialized RX3, Cond.code yX3_copyFrom cX3_copyFrom 3 none, Cond.fieldLink RX3 11 "BarrelProcessor$Machine" "threads" "[LBarrelProcessor$HardwareThread;", Cond.fieldLink RX3 20 "BarrelProcessor$Machine" "program" "LBarrelProcessor$Instructions;", Cond.fieldLink RX3 24 "BarrelProcessor$Machine" "breakpoints" "[I", Cond.methodLink RX3 53 arraycopyName, Cond.native arraycopyName, Cond.static arraycopyName, Cond.initialized "java/lang/System", Cond.fieldLink RX3 28 "BarrelProcessor$Machine" "words" "[I", Cond.fieldLink RX3 31 "BarrelProcessor$Machine" "slots" "[I", Cond.fieldLink RX3 34 "BarrelProcessor$Machine" "settings" "[I", Cond.fieldLink RX3 40 "BarrelProcessor$Machine" "trace" "LBarrelProcessor$Trace;", Cond.fieldLink RX3 62 "BarrelProcessor$Machine" "cycle" "I", Cond.fieldLink RX3 66 "BarrelProcessor$Machine" "idle" "I", Cond.methodLink RX3 45 yX0_copyFrom, Cond.instanceMethod yX0_copyFrom]
def wsX1_restore_r2 : List Cond := [Cond.selects RX0 yX0_copyFrom yX0_copyFrom, Cond.initialized RX0, Cond.code yX0_copyFrom cX0_copyFrom 2 none, Cond.fieldLink RX0 9 "BarrelProcessor$HardwareThread" "registers" "[I", Cond.methodLink RX0 52 arraycopyName, Cond.fieldLink RX0 15 "BarrelProcessor$HardwareThread" "state" "I", Cond.fieldLink RX0 28 "BarrelProcessor$HardwareThread" "programCounter" "I", Cond.fieldLink RX0 34 "BarrelProcessor$HardwareThread" "loadRegister" "I", Cond.fieldLink RX0 37 "BarrelProcessor$HardwareThread" "loadWord" "I", Cond.fieldLink RX0 40 "BarrelProcessor$HardwareThread" "loadDue" "I", Cond.fieldLink RX0 19 "BarrelProcessor$HardwareThread" "lastIssue" "I", Cond.fieldLink RX0 58 "BarrelProcessor$HardwareThread" "executed" "I", Cond.fieldLink RX0 61 "BarrelProcessor$HardwareThread" "lent" "I", Cond.fieldLink RX0 31 "BarrelProcessor$HardwareThread" "starvedNow" "I", Cond.fieldLink RX0 43 "BarrelProcessor$HardwareThread" "longestStarved" "I", Cond.methodLink RX3 49 yX2_copyRows, Cond.instanceMethod yX2_copyRows, Cond.selects RX2 yX2_copyRows yX2_copyRows, Cond.initialized RX2, Cond.code yX2_copyRows cX2_copyRows 4 none, Cond.fieldLink RX2 11 "BarrelProcessor$Instructions" "operations" "[I", Cond.methodLink RX2 25 arraycopyName, Cond.fieldLink RX2 15 "BarrelProcessor$Instructions" "operands" "[I", Cond.methodLink RX3 59 yX5_copyFrom]
def wsX1_restore_r3 : List Cond := [Cond.instanceMethod yX5_copyFrom, Cond.selects RX5 yX5_copyFrom yX5_copyFrom, Cond.initialized RX5, Cond.code yX5_copyFrom cX5_copyFrom 2 none, Cond.fieldLink RX5 11 "BarrelProcessor$Trace" "parts" "[I", Cond.methodLink RX5 29 arraycopyName, Cond.fieldLink RX5 15 "BarrelProcessor$Trace" "next" "I", Cond.fieldLink RX5 19 "BarrelProcessor$Trace" "count" "I"]
def wsX1_restore : List Cond := .code yX1_restore cX1_restore 2 (some .int) :: ((wsX1_restore_r1 ++ (wsX1_restore_r2 ++ wsX1_restore_r3)) ++ wsX10 ++ wsX30 ++ wsX00 ++ wsX20 ++ wsX50)
def wsX3_countBreakpoints : List Cond := .code yX3_countBreakpoints cX3_countBreakpoints 3 (some .int) :: ([.fieldLink RX3 24 "BarrelProcessor$Machine" "breakpoints" "[I"] ++ wsX30)
def wsX3_areAllHalted : List Cond := .code yX3_areAllHalted cX3_areAllHalted 2 (some .boolean) :: ([.fieldLink RX3 11 "BarrelProcessor$Machine" "threads" "[LBarrelProcessor$HardwareThread;"] ++ wsX30 ++ wsX00)
def wsX3_doesBarrierOpen : List Cond := .code yX3_doesBarrierOpen cX3_doesBarrierOpen 4 (some .boolean) :: ([.fieldLink RX3 11 "BarrelProcessor$Machine" "threads" "[LBarrelProcessor$HardwareThread;"] ++ wsX30 ++ wsX00)
def wsX3_findReady : List Cond := .code yX3_findReady cX3_findReady 5 (some .int) :: ([.fieldLink RX3 11 "BarrelProcessor$Machine" "threads" "[LBarrelProcessor$HardwareThread;", .fieldLink RX3 62 "BarrelProcessor$Machine" "cycle" "I", .methodLink RX3 99 yX3_doesBarrierOpen, .instanceMethod yX3_doesBarrierOpen, .selects RX3 yX3_doesBarrierOpen yX3_doesBarrierOpen, .initialized RX3, .code yX3_doesBarrierOpen cX3_doesBarrierOpen 4 (some .boolean), .methodLink RX3 105 yX0_hasLoadDue, .instanceMethod yX0_hasLoadDue, .selects RX0 yX0_hasLoadDue yX0_hasLoadDue, .initialized RX0, .code yX0_hasLoadDue cX0_hasLoadDue 2 (some .boolean), .fieldLink RX0 15 "BarrelProcessor$HardwareThread" "state" "I", .fieldLink RX0 40 "BarrelProcessor$HardwareThread" "loadDue" "I"] ++ wsX30 ++ wsX00)
def wsX3_slotOwner : List Cond := .code yX3_slotOwner cX3_slotOwner 1 (some .int) :: ([.fieldLink RX3 31 "BarrelProcessor$Machine" "slots" "[I", .fieldLink RX3 62 "BarrelProcessor$Machine" "cycle" "I"] ++ wsX30)
def wsX3_isIn : List Cond := .code yX3_isIn cX3_isIn 2 (some .boolean) :: ([])
def wsX3_findNextAfter : List Cond := .code yX3_findNextAfter cX3_findNextAfter 4 (some .int) :: ([.constant RX3 79 (-100005), .methodLink RX3 87 yX3_isIn, .static yX3_isIn, .initialized RX3, .code yX3_isIn cX3_isIn 2 (some .boolean)])
def wsX3_findLongestWaiting : List Cond := .code yX3_findLongestWaiting cX3_findLongestWaiting 6 (some .int) :: ([.constant RX3 79 (-100005), .fieldLink RX3 11 "BarrelProcessor$Machine" "threads" "[LBarrelProcessor$HardwareThread;", .methodLink RX3 87 yX3_isIn, .static yX3_isIn, .initialized RX3, .code yX3_isIn cX3_isIn 2 (some .boolean)] ++ wsX30 ++ wsX00)
def wsX3_findIssuer_r1 : List Cond := [Cond.fieldLink RX3 34 "BarrelProcessor$Machine" "settings" "[I", Cond.constant RX3 79 (-100005), Cond.methodLink RX3 80 yX3_findReady, Cond.instanceMethod yX3_findReady, Cond.selects RX3 yX3_findReady yX3_findReady, Cond.initialized RX3, Cond.code yX3_findReady cX3_findReady 5 (some .int), Cond.fieldLink RX3 11 "BarrelProcessor$Machine" "threads" "[LBarrelProcessor$HardwareThread;", Cond.fieldLink RX3 62 "BarrelProcessor$Machine" "cycle" "I", Cond.methodLink RX3 99 yX3_doesBarrierOpen, Cond.instanceMethod yX3_doesBarrierOpen, Cond.selects RX3 yX3_doesBarrierOpen yX3_doesBarrierOpen, Cond.code yX3_doesBarrierOpen cX3_doesBarrierOpen 4 (some .boolean), Cond.methodLink RX3 105 yX0_hasLoadDue, Cond.instanceMethod yX0_hasLoadDue, Cond.selects RX0 yX0_hasLoadDue yX0_hasLoadDue, Cond.initialized RX0, Cond.code yX0_hasLoadDue cX0_hasLoadDue 2 (some .boolean), Cond.fieldLink RX0 15 "BarrelProcessor$HardwareThread" "state" "I", Cond.fieldLink RX0 40 "BarrelProcessor$HardwareThread" "loadDue" "I", Cond.methodLink RX3 84 yX3_slotOwner, Cond.instanceMethod yX3_slotOwner, Cond.selects RX3 yX3_slotOwner yX3_slotOwner, Cond.code yX3_slotOwner cX3_slotOwner 1 (some .int)]
def wsX3_findIssuer_r2 : List Cond := [Cond.fieldLink RX3 31 "BarrelProcessor$Machine" "slots" "[I", Cond.methodLink RX3 87 yX3_isIn, Cond.static yX3_isIn, Cond.code yX3_isIn cX3_isIn 2 (some .boolean), Cond.methodLink RX3 91 yX3_findNextAfter, Cond.static yX3_findNextAfter, Cond.code yX3_findNextAfter cX3_findNextAfter 4 (some .int), Cond.methodLink RX3 95 yX3_findLongestWaiting, Cond.instanceMethod yX3_findLongestWaiting, Cond.selects RX3 yX3_findLongestWaiting yX3_findLongestWaiting, Cond.code yX3_findLongestWaiting cX3_findLongestWaiting 6 (some .int)]
def wsX3_findIssuer : List Cond := .code yX3_findIssuer cX3_findIssuer 3 (some .int) :: ((wsX3_findIssuer_r1 ++ wsX3_findIssuer_r2) ++ wsX30 ++ wsX00)
def wsX6_isWithin : List Cond := .code yX6_isWithin cX6_isWithin 3 (some .boolean) :: ([])
def wsX6_isThread : List Cond := .code yX6_isThread cX6_isThread 1 (some .boolean) :: ([.methodLink RX6 115 yX6_isWithin, .static yX6_isWithin, .initialized RX6, .code yX6_isWithin cX6_isWithin 3 (some .boolean)])
def wsX6_isPlace : List Cond := .code yX6_isPlace cX6_isPlace 1 (some .boolean) :: ([.methodLink RX6 115 yX6_isWithin, .static yX6_isWithin, .initialized RX6, .code yX6_isWithin cX6_isWithin 3 (some .boolean)])
def wsX3_isAtBreakpoint_r1 : List Cond := [Cond.fieldLink RX3 11 "BarrelProcessor$Machine" "threads" "[LBarrelProcessor$HardwareThread;", Cond.fieldLink RX3 24 "BarrelProcessor$Machine" "breakpoints" "[I", Cond.methodLink RX3 112 yX3_findIssuer, Cond.instanceMethod yX3_findIssuer, Cond.selects RX3 yX3_findIssuer yX3_findIssuer, Cond.initialized RX3, Cond.code yX3_findIssuer cX3_findIssuer 3 (some .int), Cond.fieldLink RX3 34 "BarrelProcessor$Machine" "settings" "[I", Cond.constant RX3 79 (-100005), Cond.methodLink RX3 80 yX3_findReady, Cond.instanceMethod yX3_findReady, Cond.selects RX3 yX3_findReady yX3_findReady, Cond.code yX3_findReady cX3_findReady 5 (some .int), Cond.fieldLink RX3 62 "BarrelProcessor$Machine" "cycle" "I", Cond.methodLink RX3 99 yX3_doesBarrierOpen, Cond.instanceMethod yX3_doesBarrierOpen, Cond.selects RX3 yX3_doesBarrierOpen yX3_doesBarrierOpen, Cond.code yX3_doesBarrierOpen cX3_doesBarrierOpen 4 (some .boolean), Cond.methodLink RX3 105 yX0_hasLoadDue, Cond.instanceMethod yX0_hasLoadDue, Cond.selects RX0 yX0_hasLoadDue yX0_hasLoadDue, Cond.initialized RX0, Cond.code yX0_hasLoadDue cX0_hasLoadDue 2 (some .boolean), Cond.fieldLink RX0 15 "BarrelProcessor$HardwareThread" "state" "I"]
def wsX3_isAtBreakpoint_r2 : List Cond := [Cond.fieldLink RX0 40 "BarrelProcessor$HardwareThread" "loadDue" "I", Cond.methodLink RX3 84 yX3_slotOwner, Cond.instanceMethod yX3_slotOwner, Cond.selects RX3 yX3_slotOwner yX3_slotOwner, Cond.code yX3_slotOwner cX3_slotOwner 1 (some .int), Cond.fieldLink RX3 31 "BarrelProcessor$Machine" "slots" "[I", Cond.methodLink RX3 87 yX3_isIn, Cond.static yX3_isIn, Cond.code yX3_isIn cX3_isIn 2 (some .boolean), Cond.methodLink RX3 91 yX3_findNextAfter, Cond.static yX3_findNextAfter, Cond.code yX3_findNextAfter cX3_findNextAfter 4 (some .int), Cond.methodLink RX3 95 yX3_findLongestWaiting, Cond.instanceMethod yX3_findLongestWaiting, Cond.selects RX3 yX3_findLongestWaiting yX3_findLongestWaiting, Cond.code yX3_findLongestWaiting cX3_findLongestWaiting 6 (some .int), Cond.static yX6_isThread, Cond.initialized RX6, Cond.code yX6_isThread cX6_isThread 1 (some .boolean), Cond.methodLink RX6 115 yX6_isWithin, Cond.static yX6_isWithin, Cond.code yX6_isWithin cX6_isWithin 3 (some .boolean), Cond.static yX6_isPlace, Cond.code yX6_isPlace cX6_isPlace 1 (some .boolean)]
def wsX3_isAtBreakpoint : List Cond := .code yX3_isAtBreakpoint cX3_isAtBreakpoint 3 (some .boolean) :: ((wsX3_isAtBreakpoint_r1 ++ wsX3_isAtBreakpoint_r2) ++ wsX30 ++ wsX00)
def wsX3_finishLoads : List Cond := .code yX3_finishLoads cX3_finishLoads 3 none :: ([.fieldLink RX3 11 "BarrelProcessor$Machine" "threads" "[LBarrelProcessor$HardwareThread;", .fieldLink RX3 62 "BarrelProcessor$Machine" "cycle" "I", .fieldLink RX3 28 "BarrelProcessor$Machine" "words" "[I", .methodLink RX3 105 yX0_hasLoadDue, .instanceMethod yX0_hasLoadDue, .selects RX0 yX0_hasLoadDue yX0_hasLoadDue, .initialized RX0, .code yX0_hasLoadDue cX0_hasLoadDue 2 (some .boolean), .fieldLink RX0 15 "BarrelProcessor$HardwareThread" "state" "I", .fieldLink RX0 40 "BarrelProcessor$HardwareThread" "loadDue" "I"] ++ wsX30 ++ wsX00)
def wsX3_openBarrier : List Cond := .code yX3_openBarrier cX3_openBarrier 2 none :: ([.fieldLink RX3 11 "BarrelProcessor$Machine" "threads" "[LBarrelProcessor$HardwareThread;", .methodLink RX3 99 yX3_doesBarrierOpen, .instanceMethod yX3_doesBarrierOpen, .selects RX3 yX3_doesBarrierOpen yX3_doesBarrierOpen, .initialized RX3, .code yX3_doesBarrierOpen cX3_doesBarrierOpen 4 (some .boolean)] ++ wsX30 ++ wsX00)
def wsX3_countStarving : List Cond := .code yX3_countStarving cX3_countStarving 4 none :: ([.fieldLink RX3 11 "BarrelProcessor$Machine" "threads" "[LBarrelProcessor$HardwareThread;", .methodLink RX3 149 yX0_countCycle, .instanceMethod yX0_countCycle, .selects RX0 yX0_countCycle yX0_countCycle, .initialized RX0, .code yX0_countCycle cX0_countCycle 2 none, .fieldLink RX0 31 "BarrelProcessor$HardwareThread" "starvedNow" "I", .fieldLink RX0 43 "BarrelProcessor$HardwareThread" "longestStarved" "I", .methodLink RX0 46 Lib.Math.max.name, .static Lib.Math.max.name, .initialized "java/lang/Math", .code Lib.Math.max.name Lib.Math.max.code 2 (some .int)] ++ wsX30 ++ wsX00)
def wsX5_note : List Cond := .code yX5_note cX5_note 5 none :: ([.fieldLink RX5 15 "BarrelProcessor$Trace" "next" "I", .fieldLink RX5 11 "BarrelProcessor$Trace" "parts" "[I", .fieldLink RX5 19 "BarrelProcessor$Trace" "count" "I", .methodLink RX5 22 Lib.Math.min.name, .static Lib.Math.min.name, .initialized "java/lang/Math", .code Lib.Math.min.name Lib.Math.min.code 2 (some .int)] ++ wsX50)
def wsX3_noteIssue : List Cond := .code yX3_noteIssue cX3_noteIssue 3 none :: ([.fieldLink RX3 11 "BarrelProcessor$Machine" "threads" "[LBarrelProcessor$HardwareThread;", .fieldLink RX3 62 "BarrelProcessor$Machine" "cycle" "I", .fieldLink RX3 40 "BarrelProcessor$Machine" "trace" "LBarrelProcessor$Trace;", .methodLink RX3 84 yX3_slotOwner, .instanceMethod yX3_slotOwner, .selects RX3 yX3_slotOwner yX3_slotOwner, .initialized RX3, .code yX3_slotOwner cX3_slotOwner 1 (some .int), .fieldLink RX3 31 "BarrelProcessor$Machine" "slots" "[I", .methodLink RX3 159 yX5_note, .instanceMethod yX5_note, .selects RX5 yX5_note yX5_note, .initialized RX5, .code yX5_note cX5_note 5 none, .fieldLink RX5 15 "BarrelProcessor$Trace" "next" "I", .fieldLink RX5 11 "BarrelProcessor$Trace" "parts" "[I", .fieldLink RX5 19 "BarrelProcessor$Trace" "count" "I", .methodLink RX5 22 Lib.Math.min.name, .static Lib.Math.min.name, .initialized "java/lang/Math", .code Lib.Math.min.name Lib.Math.min.code 2 (some .int)] ++ wsX30 ++ wsX00 ++ wsX50)
def wsX3_calculate : List Cond := .code yX3_calculate cX3_calculate 6 none :: ([])
def wsX3_reachMemory : List Cond := .code yX3_reachMemory cX3_reachMemory 8 none :: ([.fieldLink RX3 62 "BarrelProcessor$Machine" "cycle" "I", .fieldLink RX3 34 "BarrelProcessor$Machine" "settings" "[I", .fieldLink RX3 28 "BarrelProcessor$Machine" "words" "[I", .methodLink RX3 180 yX0_beginLoad, .instanceMethod yX0_beginLoad, .selects RX0 yX0_beginLoad yX0_beginLoad, .initialized RX0, .code yX0_beginLoad cX0_beginLoad 4 none, .fieldLink RX0 15 "BarrelProcessor$HardwareThread" "state" "I", .fieldLink RX0 34 "BarrelProcessor$HardwareThread" "loadRegister" "I", .fieldLink RX0 37 "BarrelProcessor$HardwareThread" "loadWord" "I", .fieldLink RX0 40 "BarrelProcessor$HardwareThread" "loadDue" "I"] ++ wsX00 ++ wsX30)
def wsX3_steer : List Cond := .code yX3_steer cX3_steer 5 none :: ([] ++ wsX00)
def wsX3_executeNext_r1 : List Cond := [Cond.fieldLink RX3 20 "BarrelProcessor$Machine" "program" "LBarrelProcessor$Instructions;", Cond.static yX6_isPlace, Cond.initialized RX6, Cond.code yX6_isPlace cX6_isPlace 1 (some .boolean), Cond.methodLink RX6 115 yX6_isWithin, Cond.static yX6_isWithin, Cond.code yX6_isWithin cX6_isWithin 3 (some .boolean), Cond.methodLink RX3 169 yX3_calculate, Cond.static yX3_calculate, Cond.initialized RX3, Cond.code yX3_calculate cX3_calculate 6 none, Cond.methodLink RX3 173 yX3_reachMemory, Cond.instanceMethod yX3_reachMemory, Cond.selects RX3 yX3_reachMemory yX3_reachMemory, Cond.code yX3_reachMemory cX3_reachMemory 8 none, Cond.fieldLink RX3 62 "BarrelProcessor$Machine" "cycle" "I", Cond.fieldLink RX3 34 "BarrelProcessor$Machine" "settings" "[I", Cond.fieldLink RX3 28 "BarrelProcessor$Machine" "words" "[I", Cond.methodLink RX3 180 yX0_beginLoad, Cond.instanceMethod yX0_beginLoad, Cond.selects RX0 yX0_beginLoad yX0_beginLoad, Cond.initialized RX0, Cond.code yX0_beginLoad cX0_beginLoad 4 none, Cond.fieldLink RX0 15 "BarrelProcessor$HardwareThread" "state" "I"]
def wsX3_executeNext_r2 : List Cond := [Cond.fieldLink RX0 34 "BarrelProcessor$HardwareThread" "loadRegister" "I", Cond.fieldLink RX0 37 "BarrelProcessor$HardwareThread" "loadWord" "I", Cond.fieldLink RX0 40 "BarrelProcessor$HardwareThread" "loadDue" "I", Cond.methodLink RX3 177 yX3_steer, Cond.static yX3_steer, Cond.code yX3_steer cX3_steer 5 none]
def wsX3_executeNext : List Cond := .code yX3_executeNext cX3_executeNext 6 none :: ((wsX3_executeNext_r1 ++ wsX3_executeNext_r2) ++ wsX00 ++ wsX30 ++ wsX20)
def wsX3_runCycle_r1 : List Cond := [Cond.fieldLink RX3 11 "BarrelProcessor$Machine" "threads" "[LBarrelProcessor$HardwareThread;", Cond.fieldLink RX3 66 "BarrelProcessor$Machine" "idle" "I", Cond.fieldLink RX3 62 "BarrelProcessor$Machine" "cycle" "I", Cond.methodLink RX3 124 yX3_finishLoads, Cond.instanceMethod yX3_finishLoads, Cond.selects RX3 yX3_finishLoads yX3_finishLoads, Cond.initialized RX3, Cond.code yX3_finishLoads cX3_finishLoads 3 none, Cond.fieldLink RX3 28 "BarrelProcessor$Machine" "words" "[I", Cond.methodLink RX3 105 yX0_hasLoadDue, Cond.instanceMethod yX0_hasLoadDue, Cond.selects RX0 yX0_hasLoadDue yX0_hasLoadDue, Cond.initialized RX0, Cond.code yX0_hasLoadDue cX0_hasLoadDue 2 (some .boolean), Cond.fieldLink RX0 15 "BarrelProcessor$HardwareThread" "state" "I", Cond.fieldLink RX0 40 "BarrelProcessor$HardwareThread" "loadDue" "I", Cond.methodLink RX3 127 yX3_openBarrier, Cond.instanceMethod yX3_openBarrier, Cond.selects RX3 yX3_openBarrier yX3_openBarrier, Cond.code yX3_openBarrier cX3_openBarrier 2 none, Cond.methodLink RX3 99 yX3_doesBarrierOpen, Cond.instanceMethod yX3_doesBarrierOpen, Cond.selects RX3 yX3_doesBarrierOpen yX3_doesBarrierOpen, Cond.code yX3_doesBarrierOpen cX3_doesBarrierOpen 4 (some .boolean)]
def wsX3_runCycle_r2 : List Cond := [Cond.methodLink RX3 112 yX3_findIssuer, Cond.instanceMethod yX3_findIssuer, Cond.selects RX3 yX3_findIssuer yX3_findIssuer, Cond.code yX3_findIssuer cX3_findIssuer 3 (some .int), Cond.fieldLink RX3 34 "BarrelProcessor$Machine" "settings" "[I", Cond.constant RX3 79 (-100005), Cond.methodLink RX3 80 yX3_findReady, Cond.instanceMethod yX3_findReady, Cond.selects RX3 yX3_findReady yX3_findReady, Cond.code yX3_findReady cX3_findReady 5 (some .int), Cond.methodLink RX3 84 yX3_slotOwner, Cond.instanceMethod yX3_slotOwner, Cond.selects RX3 yX3_slotOwner yX3_slotOwner, Cond.code yX3_slotOwner cX3_slotOwner 1 (some .int), Cond.fieldLink RX3 31 "BarrelProcessor$Machine" "slots" "[I", Cond.methodLink RX3 87 yX3_isIn, Cond.static yX3_isIn, Cond.code yX3_isIn cX3_isIn 2 (some .boolean), Cond.methodLink RX3 91 yX3_findNextAfter, Cond.static yX3_findNextAfter, Cond.code yX3_findNextAfter cX3_findNextAfter 4 (some .int), Cond.methodLink RX3 95 yX3_findLongestWaiting, Cond.instanceMethod yX3_findLongestWaiting, Cond.selects RX3 yX3_findLongestWaiting yX3_findLongestWaiting]
def wsX3_runCycle_r3 : List Cond := [Cond.code yX3_findLongestWaiting cX3_findLongestWaiting 6 (some .int), Cond.methodLink RX3 130 yX3_countStarving, Cond.instanceMethod yX3_countStarving, Cond.selects RX3 yX3_countStarving yX3_countStarving, Cond.code yX3_countStarving cX3_countStarving 4 none, Cond.methodLink RX3 149 yX0_countCycle, Cond.instanceMethod yX0_countCycle, Cond.selects RX0 yX0_countCycle yX0_countCycle, Cond.code yX0_countCycle cX0_countCycle 2 none, Cond.fieldLink RX0 31 "BarrelProcessor$HardwareThread" "starvedNow" "I", Cond.fieldLink RX0 43 "BarrelProcessor$HardwareThread" "longestStarved" "I", Cond.methodLink RX0 46 Lib.Math.max.name, Cond.static Lib.Math.max.name, Cond.initialized "java/lang/Math", Cond.code Lib.Math.max.name Lib.Math.max.code 2 (some .int), Cond.static yX6_isThread, Cond.initialized RX6, Cond.code yX6_isThread cX6_isThread 1 (some .boolean), Cond.methodLink RX6 115 yX6_isWithin, Cond.static yX6_isWithin, Cond.code yX6_isWithin cX6_isWithin 3 (some .boolean), Cond.methodLink RX3 134 yX3_noteIssue, Cond.instanceMethod yX3_noteIssue, Cond.selects RX3 yX3_noteIssue yX3_noteIssue]
def wsX3_runCycle_r4 : List Cond := [Cond.code yX3_noteIssue cX3_noteIssue 3 none, Cond.fieldLink RX3 40 "BarrelProcessor$Machine" "trace" "LBarrelProcessor$Trace;", Cond.methodLink RX3 159 yX5_note, Cond.instanceMethod yX5_note, Cond.selects RX5 yX5_note yX5_note, Cond.initialized RX5, Cond.code yX5_note cX5_note 5 none, Cond.fieldLink RX5 15 "BarrelProcessor$Trace" "next" "I", Cond.fieldLink RX5 11 "BarrelProcessor$Trace" "parts" "[I", Cond.fieldLink RX5 19 "BarrelProcessor$Trace" "count" "I", Cond.methodLink RX5 22 Lib.Math.min.name, Cond.static Lib.Math.min.name, Cond.code Lib.Math.min.name Lib.Math.min.code 2 (some .int), Cond.methodLink RX3 137 yX3_executeNext, Cond.instanceMethod yX3_executeNext, Cond.selects RX3 yX3_executeNext yX3_executeNext, Cond.code yX3_executeNext cX3_executeNext 6 none, Cond.fieldLink RX3 20 "BarrelProcessor$Machine" "program" "LBarrelProcessor$Instructions;", Cond.static yX6_isPlace, Cond.code yX6_isPlace cX6_isPlace 1 (some .boolean), Cond.methodLink RX3 169 yX3_calculate, Cond.static yX3_calculate, Cond.code yX3_calculate cX3_calculate 6 none, Cond.methodLink RX3 173 yX3_reachMemory]
def wsX3_runCycle_r5 : List Cond := [Cond.instanceMethod yX3_reachMemory, Cond.selects RX3 yX3_reachMemory yX3_reachMemory, Cond.code yX3_reachMemory cX3_reachMemory 8 none, Cond.methodLink RX3 180 yX0_beginLoad, Cond.instanceMethod yX0_beginLoad, Cond.selects RX0 yX0_beginLoad yX0_beginLoad, Cond.code yX0_beginLoad cX0_beginLoad 4 none, Cond.fieldLink RX0 34 "BarrelProcessor$HardwareThread" "loadRegister" "I", Cond.fieldLink RX0 37 "BarrelProcessor$HardwareThread" "loadWord" "I", Cond.methodLink RX3 177 yX3_steer, Cond.static yX3_steer, Cond.code yX3_steer cX3_steer 5 none]
def wsX3_runCycle : List Cond := .code yX3_runCycle cX3_runCycle 2 none :: ((wsX3_runCycle_r1 ++ (wsX3_runCycle_r2 ++ (wsX3_runCycle_r3 ++ (wsX3_runCycle_r4 ++ wsX3_runCycle_r5)))) ++ wsX30 ++ wsX00 ++ wsX50 ++ wsX20)
def wsX3_runToBreakpoint_r1 : List Cond := [Cond.methodLink RX3 69 yX3_areAllHalted, Cond.instanceMethod yX3_areAllHalted, Cond.selects RX3 yX3_areAllHalted yX3_areAllHalted, Cond.initialized RX3, Cond.code yX3_areAllHalted cX3_areAllHalted 2 (some .boolean), Cond.fieldLink RX3 11 "BarrelProcessor$Machine" "threads" "[LBarrelProcessor$HardwareThread;", Cond.methodLink RX3 73 yX3_isAtBreakpoint, Cond.instanceMethod yX3_isAtBreakpoint, Cond.selects RX3 yX3_isAtBreakpoint yX3_isAtBreakpoint, Cond.code yX3_isAtBreakpoint cX3_isAtBreakpoint 3 (some .boolean), Cond.fieldLink RX3 24 "BarrelProcessor$Machine" "breakpoints" "[I", Cond.methodLink RX3 112 yX3_findIssuer, Cond.instanceMethod yX3_findIssuer, Cond.selects RX3 yX3_findIssuer yX3_findIssuer, Cond.code yX3_findIssuer cX3_findIssuer 3 (some .int), Cond.fieldLink RX3 34 "BarrelProcessor$Machine" "settings" "[I", Cond.constant RX3 79 (-100005), Cond.methodLink RX3 80 yX3_findReady, Cond.instanceMethod yX3_findReady, Cond.selects RX3 yX3_findReady yX3_findReady, Cond.code yX3_findReady cX3_findReady 5 (some .int), Cond.fieldLink RX3 62 "BarrelProcessor$Machine" "cycle" "I", Cond.methodLink RX3 99 yX3_doesBarrierOpen, Cond.instanceMethod yX3_doesBarrierOpen]
def wsX3_runToBreakpoint_r2 : List Cond := [Cond.selects RX3 yX3_doesBarrierOpen yX3_doesBarrierOpen, Cond.code yX3_doesBarrierOpen cX3_doesBarrierOpen 4 (some .boolean), Cond.methodLink RX3 105 yX0_hasLoadDue, Cond.instanceMethod yX0_hasLoadDue, Cond.selects RX0 yX0_hasLoadDue yX0_hasLoadDue, Cond.initialized RX0, Cond.code yX0_hasLoadDue cX0_hasLoadDue 2 (some .boolean), Cond.fieldLink RX0 15 "BarrelProcessor$HardwareThread" "state" "I", Cond.fieldLink RX0 40 "BarrelProcessor$HardwareThread" "loadDue" "I", Cond.methodLink RX3 84 yX3_slotOwner, Cond.instanceMethod yX3_slotOwner, Cond.selects RX3 yX3_slotOwner yX3_slotOwner, Cond.code yX3_slotOwner cX3_slotOwner 1 (some .int), Cond.fieldLink RX3 31 "BarrelProcessor$Machine" "slots" "[I", Cond.methodLink RX3 87 yX3_isIn, Cond.static yX3_isIn, Cond.code yX3_isIn cX3_isIn 2 (some .boolean), Cond.methodLink RX3 91 yX3_findNextAfter, Cond.static yX3_findNextAfter, Cond.code yX3_findNextAfter cX3_findNextAfter 4 (some .int), Cond.methodLink RX3 95 yX3_findLongestWaiting, Cond.instanceMethod yX3_findLongestWaiting, Cond.selects RX3 yX3_findLongestWaiting yX3_findLongestWaiting, Cond.code yX3_findLongestWaiting cX3_findLongestWaiting 6 (some .int)]
def wsX3_runToBreakpoint_r3 : List Cond := [Cond.static yX6_isThread, Cond.initialized RX6, Cond.code yX6_isThread cX6_isThread 1 (some .boolean), Cond.methodLink RX6 115 yX6_isWithin, Cond.static yX6_isWithin, Cond.code yX6_isWithin cX6_isWithin 3 (some .boolean), Cond.static yX6_isPlace, Cond.code yX6_isPlace cX6_isPlace 1 (some .boolean), Cond.methodLink RX3 76 yX3_runCycle, Cond.instanceMethod yX3_runCycle, Cond.selects RX3 yX3_runCycle yX3_runCycle, Cond.code yX3_runCycle cX3_runCycle 2 none, Cond.fieldLink RX3 66 "BarrelProcessor$Machine" "idle" "I", Cond.methodLink RX3 124 yX3_finishLoads, Cond.instanceMethod yX3_finishLoads, Cond.selects RX3 yX3_finishLoads yX3_finishLoads, Cond.code yX3_finishLoads cX3_finishLoads 3 none, Cond.fieldLink RX3 28 "BarrelProcessor$Machine" "words" "[I", Cond.methodLink RX3 127 yX3_openBarrier, Cond.instanceMethod yX3_openBarrier, Cond.selects RX3 yX3_openBarrier yX3_openBarrier, Cond.code yX3_openBarrier cX3_openBarrier 2 none, Cond.methodLink RX3 130 yX3_countStarving, Cond.instanceMethod yX3_countStarving]
def wsX3_runToBreakpoint_r4 : List Cond := [Cond.selects RX3 yX3_countStarving yX3_countStarving, Cond.code yX3_countStarving cX3_countStarving 4 none, Cond.methodLink RX3 149 yX0_countCycle, Cond.instanceMethod yX0_countCycle, Cond.selects RX0 yX0_countCycle yX0_countCycle, Cond.code yX0_countCycle cX0_countCycle 2 none, Cond.fieldLink RX0 31 "BarrelProcessor$HardwareThread" "starvedNow" "I", Cond.fieldLink RX0 43 "BarrelProcessor$HardwareThread" "longestStarved" "I", Cond.methodLink RX0 46 Lib.Math.max.name, Cond.static Lib.Math.max.name, Cond.initialized "java/lang/Math", Cond.code Lib.Math.max.name Lib.Math.max.code 2 (some .int), Cond.methodLink RX3 134 yX3_noteIssue, Cond.instanceMethod yX3_noteIssue, Cond.selects RX3 yX3_noteIssue yX3_noteIssue, Cond.code yX3_noteIssue cX3_noteIssue 3 none, Cond.fieldLink RX3 40 "BarrelProcessor$Machine" "trace" "LBarrelProcessor$Trace;", Cond.methodLink RX3 159 yX5_note, Cond.instanceMethod yX5_note, Cond.selects RX5 yX5_note yX5_note, Cond.initialized RX5, Cond.code yX5_note cX5_note 5 none, Cond.fieldLink RX5 15 "BarrelProcessor$Trace" "next" "I", Cond.fieldLink RX5 11 "BarrelProcessor$Trace" "parts" "[I"]
def wsX3_runToBreakpoint_r5 : List Cond := [Cond.fieldLink RX5 19 "BarrelProcessor$Trace" "count" "I", Cond.methodLink RX5 22 Lib.Math.min.name, Cond.static Lib.Math.min.name, Cond.code Lib.Math.min.name Lib.Math.min.code 2 (some .int), Cond.methodLink RX3 137 yX3_executeNext, Cond.instanceMethod yX3_executeNext, Cond.selects RX3 yX3_executeNext yX3_executeNext, Cond.code yX3_executeNext cX3_executeNext 6 none, Cond.fieldLink RX3 20 "BarrelProcessor$Machine" "program" "LBarrelProcessor$Instructions;", Cond.methodLink RX3 169 yX3_calculate, Cond.static yX3_calculate, Cond.code yX3_calculate cX3_calculate 6 none, Cond.methodLink RX3 173 yX3_reachMemory, Cond.instanceMethod yX3_reachMemory, Cond.selects RX3 yX3_reachMemory yX3_reachMemory, Cond.code yX3_reachMemory cX3_reachMemory 8 none, Cond.methodLink RX3 180 yX0_beginLoad, Cond.instanceMethod yX0_beginLoad, Cond.selects RX0 yX0_beginLoad yX0_beginLoad, Cond.code yX0_beginLoad cX0_beginLoad 4 none, Cond.fieldLink RX0 34 "BarrelProcessor$HardwareThread" "loadRegister" "I", Cond.fieldLink RX0 37 "BarrelProcessor$HardwareThread" "loadWord" "I", Cond.methodLink RX3 177 yX3_steer, Cond.static yX3_steer]
def wsX3_runToBreakpoint_r6 : List Cond := [Cond.code yX3_steer cX3_steer 5 none]
def wsX3_runToBreakpoint : List Cond := .code yX3_runToBreakpoint cX3_runToBreakpoint 3 (some .int) :: ((wsX3_runToBreakpoint_r1 ++ (wsX3_runToBreakpoint_r2 ++ (wsX3_runToBreakpoint_r3 ++ (wsX3_runToBreakpoint_r4 ++ (wsX3_runToBreakpoint_r5 ++ wsX3_runToBreakpoint_r6))))) ++ wsX30 ++ wsX00 ++ wsX50 ++ wsX20)
def wsX3_runToEnd_r1 : List Cond := [Cond.constant RX3 79 (-100005), Cond.methodLink RX3 69 yX3_areAllHalted, Cond.instanceMethod yX3_areAllHalted, Cond.selects RX3 yX3_areAllHalted yX3_areAllHalted, Cond.initialized RX3, Cond.code yX3_areAllHalted cX3_areAllHalted 2 (some .boolean), Cond.fieldLink RX3 11 "BarrelProcessor$Machine" "threads" "[LBarrelProcessor$HardwareThread;", Cond.methodLink RX3 76 yX3_runCycle, Cond.instanceMethod yX3_runCycle, Cond.selects RX3 yX3_runCycle yX3_runCycle, Cond.code yX3_runCycle cX3_runCycle 2 none, Cond.fieldLink RX3 66 "BarrelProcessor$Machine" "idle" "I", Cond.fieldLink RX3 62 "BarrelProcessor$Machine" "cycle" "I", Cond.methodLink RX3 124 yX3_finishLoads, Cond.instanceMethod yX3_finishLoads, Cond.selects RX3 yX3_finishLoads yX3_finishLoads, Cond.code yX3_finishLoads cX3_finishLoads 3 none, Cond.fieldLink RX3 28 "BarrelProcessor$Machine" "words" "[I", Cond.methodLink RX3 105 yX0_hasLoadDue, Cond.instanceMethod yX0_hasLoadDue, Cond.selects RX0 yX0_hasLoadDue yX0_hasLoadDue, Cond.initialized RX0, Cond.code yX0_hasLoadDue cX0_hasLoadDue 2 (some .boolean), Cond.fieldLink RX0 15 "BarrelProcessor$HardwareThread" "state" "I"]
def wsX3_runToEnd_r2 : List Cond := [Cond.fieldLink RX0 40 "BarrelProcessor$HardwareThread" "loadDue" "I", Cond.methodLink RX3 127 yX3_openBarrier, Cond.instanceMethod yX3_openBarrier, Cond.selects RX3 yX3_openBarrier yX3_openBarrier, Cond.code yX3_openBarrier cX3_openBarrier 2 none, Cond.methodLink RX3 99 yX3_doesBarrierOpen, Cond.instanceMethod yX3_doesBarrierOpen, Cond.selects RX3 yX3_doesBarrierOpen yX3_doesBarrierOpen, Cond.code yX3_doesBarrierOpen cX3_doesBarrierOpen 4 (some .boolean), Cond.methodLink RX3 112 yX3_findIssuer, Cond.instanceMethod yX3_findIssuer, Cond.selects RX3 yX3_findIssuer yX3_findIssuer, Cond.code yX3_findIssuer cX3_findIssuer 3 (some .int), Cond.fieldLink RX3 34 "BarrelProcessor$Machine" "settings" "[I", Cond.methodLink RX3 80 yX3_findReady, Cond.instanceMethod yX3_findReady, Cond.selects RX3 yX3_findReady yX3_findReady, Cond.code yX3_findReady cX3_findReady 5 (some .int), Cond.methodLink RX3 84 yX3_slotOwner, Cond.instanceMethod yX3_slotOwner, Cond.selects RX3 yX3_slotOwner yX3_slotOwner, Cond.code yX3_slotOwner cX3_slotOwner 1 (some .int), Cond.fieldLink RX3 31 "BarrelProcessor$Machine" "slots" "[I", Cond.methodLink RX3 87 yX3_isIn]
def wsX3_runToEnd_r3 : List Cond := [Cond.static yX3_isIn, Cond.code yX3_isIn cX3_isIn 2 (some .boolean), Cond.methodLink RX3 91 yX3_findNextAfter, Cond.static yX3_findNextAfter, Cond.code yX3_findNextAfter cX3_findNextAfter 4 (some .int), Cond.methodLink RX3 95 yX3_findLongestWaiting, Cond.instanceMethod yX3_findLongestWaiting, Cond.selects RX3 yX3_findLongestWaiting yX3_findLongestWaiting, Cond.code yX3_findLongestWaiting cX3_findLongestWaiting 6 (some .int), Cond.methodLink RX3 130 yX3_countStarving, Cond.instanceMethod yX3_countStarving, Cond.selects RX3 yX3_countStarving yX3_countStarving, Cond.code yX3_countStarving cX3_countStarving 4 none, Cond.methodLink RX3 149 yX0_countCycle, Cond.instanceMethod yX0_countCycle, Cond.selects RX0 yX0_countCycle yX0_countCycle, Cond.code yX0_countCycle cX0_countCycle 2 none, Cond.fieldLink RX0 31 "BarrelProcessor$HardwareThread" "starvedNow" "I", Cond.fieldLink RX0 43 "BarrelProcessor$HardwareThread" "longestStarved" "I", Cond.methodLink RX0 46 Lib.Math.max.name, Cond.static Lib.Math.max.name, Cond.initialized "java/lang/Math", Cond.code Lib.Math.max.name Lib.Math.max.code 2 (some .int), Cond.static yX6_isThread]
def wsX3_runToEnd_r4 : List Cond := [Cond.initialized RX6, Cond.code yX6_isThread cX6_isThread 1 (some .boolean), Cond.methodLink RX6 115 yX6_isWithin, Cond.static yX6_isWithin, Cond.code yX6_isWithin cX6_isWithin 3 (some .boolean), Cond.methodLink RX3 134 yX3_noteIssue, Cond.instanceMethod yX3_noteIssue, Cond.selects RX3 yX3_noteIssue yX3_noteIssue, Cond.code yX3_noteIssue cX3_noteIssue 3 none, Cond.fieldLink RX3 40 "BarrelProcessor$Machine" "trace" "LBarrelProcessor$Trace;", Cond.methodLink RX3 159 yX5_note, Cond.instanceMethod yX5_note, Cond.selects RX5 yX5_note yX5_note, Cond.initialized RX5, Cond.code yX5_note cX5_note 5 none, Cond.fieldLink RX5 15 "BarrelProcessor$Trace" "next" "I", Cond.fieldLink RX5 11 "BarrelProcessor$Trace" "parts" "[I", Cond.fieldLink RX5 19 "BarrelProcessor$Trace" "count" "I", Cond.methodLink RX5 22 Lib.Math.min.name, Cond.static Lib.Math.min.name, Cond.code Lib.Math.min.name Lib.Math.min.code 2 (some .int), Cond.methodLink RX3 137 yX3_executeNext, Cond.instanceMethod yX3_executeNext, Cond.selects RX3 yX3_executeNext yX3_executeNext]
def wsX3_runToEnd_r5 : List Cond := [Cond.code yX3_executeNext cX3_executeNext 6 none, Cond.fieldLink RX3 20 "BarrelProcessor$Machine" "program" "LBarrelProcessor$Instructions;", Cond.static yX6_isPlace, Cond.code yX6_isPlace cX6_isPlace 1 (some .boolean), Cond.methodLink RX3 169 yX3_calculate, Cond.static yX3_calculate, Cond.code yX3_calculate cX3_calculate 6 none, Cond.methodLink RX3 173 yX3_reachMemory, Cond.instanceMethod yX3_reachMemory, Cond.selects RX3 yX3_reachMemory yX3_reachMemory, Cond.code yX3_reachMemory cX3_reachMemory 8 none, Cond.methodLink RX3 180 yX0_beginLoad, Cond.instanceMethod yX0_beginLoad, Cond.selects RX0 yX0_beginLoad yX0_beginLoad, Cond.code yX0_beginLoad cX0_beginLoad 4 none, Cond.fieldLink RX0 34 "BarrelProcessor$HardwareThread" "loadRegister" "I", Cond.fieldLink RX0 37 "BarrelProcessor$HardwareThread" "loadWord" "I", Cond.methodLink RX3 177 yX3_steer, Cond.static yX3_steer, Cond.code yX3_steer cX3_steer 5 none]
def wsX3_runToEnd : List Cond := .code yX3_runToEnd cX3_runToEnd 2 (some .int) :: ((wsX3_runToEnd_r1 ++ (wsX3_runToEnd_r2 ++ (wsX3_runToEnd_r3 ++ (wsX3_runToEnd_r4 ++ wsX3_runToEnd_r5)))) ++ wsX30 ++ wsX00 ++ wsX50 ++ wsX20)
def wsX4_init : List Cond := .code yX4_init cX4_init 1 none :: ([.methodLink RX4 3 objectInit, .instanceMethod objectInit, .code objectInit ⟨#[0xb1]⟩ 1 none, .arrayClass .char, .fieldLink RX4 11 "BarrelProcessor$Text" "characters" "[C", .classLink RX4 15 RX2, .instantiable RX2 2, .initialized RX2, .fieldLink RX4 18 "BarrelProcessor$Text" "instructions" "LBarrelProcessor$Instructions;", .methodLink RX4 17 yX2_init, .instanceMethod yX2_init, .code yX2_init cX2_init 1 none, .methodLink RX2 3 objectInit, .arrayClass .int, .fieldLink RX2 11 "BarrelProcessor$Instructions" "operations" "[I", .fieldLink RX2 15 "BarrelProcessor$Instructions" "operands" "[I", .constant RX2 24 (-100005), .methodLink RX2 18 yJ7_fill_53178, .static yJ7_fill_53178, .initialized RJ7, .code yJ7_fill_53178 cJ7_fill_53178 4 none] ++ wsX40 ++ wsX20)
def wsX4_add : List Cond := .code yX4_add cX4_add 2 none :: ([.fieldLink RX4 22 "BarrelProcessor$Text" "length" "I", .fieldLink RX4 11 "BarrelProcessor$Text" "characters" "[C"] ++ wsX40)
def wsJ0_isLatin1_aae02 : List Cond := .code yJ0_isLatin1_aae02 cJ0_isLatin1_aae02 1 (some .boolean) :: ([.fieldLink RJ0 38 "java/lang/String" "COMPACT_STRINGS" "Z", .fieldLink RJ0 15 "java/lang/String" "coder" "B"])
def wsJ0_coder_7d493 : List Cond := .code yJ0_coder_7d493 cJ0_coder_7d493 1 (some .byte) :: ([.fieldLink RJ0 38 "java/lang/String" "COMPACT_STRINGS" "Z", .fieldLink RJ0 15 "java/lang/String" "coder" "B"])
def wsJ0_length_8abf5 : List Cond := .code yJ0_length_8abf5 cJ0_length_8abf5 1 (some .int) :: ([.fieldLink RJ0 9 "java/lang/String" "value" "[B", .methodLink RJ0 335 yJ0_coder_7d493, .instanceMethod yJ0_coder_7d493, .selects RJ0 yJ0_coder_7d493 yJ0_coder_7d493, .initialized RJ0, .code yJ0_coder_7d493 cJ0_coder_7d493 1 (some .byte), .fieldLink RJ0 38 "java/lang/String" "COMPACT_STRINGS" "Z", .fieldLink RJ0 15 "java/lang/String" "coder" "B"])
def wsJ1_canEncode_9a6ad : List Cond := .code yJ1_canEncode_9a6ad cJ1_canEncode_9a6ad 1 (some .boolean) :: ([])
def wsJ1_indexOfChar_4cfef : List Cond := .code yJ1_indexOfChar_4cfef cJ1_indexOfChar_4cfef 6 (some .int) :: ([])
def wsJ1_indexOf_4cfef : List Cond := .code yJ1_indexOf_4cfef cJ1_indexOf_4cfef 4 (some .int) :: ([.methodLink RJ1 92 Lib.Math.max.name, .static Lib.Math.max.name, .initialized "java/lang/Math", .code Lib.Math.max.name Lib.Math.max.code 2 (some .int), .methodLink RJ1 38 Lib.Math.min.name, .static Lib.Math.min.name, .code Lib.Math.min.name Lib.Math.min.code 2 (some .int), .methodLink RJ1 88 yJ1_canEncode_9a6ad, .static yJ1_canEncode_9a6ad, .initialized RJ1, .code yJ1_canEncode_9a6ad cJ1_canEncode_9a6ad 1 (some .boolean), .methodLink RJ1 95 yJ1_indexOfChar_4cfef, .static yJ1_indexOfChar_4cfef, .code yJ1_indexOfChar_4cfef cJ1_indexOfChar_4cfef 6 (some .int)])
def wsJ2_length_9d52b : List Cond := .code yJ2_length_9d52b cJ2_length_9d52b 1 (some .int) :: ([])
def wsJ3_checkFromToIndex_8c36e : List Cond := .code yJ3_checkFromToIndex_8c36e cJ3_checkFromToIndex_8c36e 4 (some .int) :: ([])
def wsJ0_checkBoundsBeginEnd_23922 : List Cond := .code yJ0_checkBoundsBeginEnd_23922 cJ0_checkBoundsBeginEnd_23922 3 none :: ([.fieldLink RJ0 1053 "jdk/internal/util/Preconditions" "SIOOBE_FORMATTER" "Ljava/util/function/BiFunction;", .methodLink RJ0 1062 yJ3_checkFromToIndex_8c36e, .static yJ3_checkFromToIndex_8c36e, .initialized RJ3, .code yJ3_checkFromToIndex_8c36e cJ3_checkFromToIndex_8c36e 4 (some .int)])
def wsJ2_checkBoundsBeginEnd_d044e : List Cond := .code yJ2_checkBoundsBeginEnd_d044e cJ2_checkBoundsBeginEnd_d044e 3 none :: ([.methodLink RJ2 48 yJ2_length_9d52b, .static yJ2_length_9d52b, .initialized RJ2, .code yJ2_length_9d52b cJ2_length_9d52b 1 (some .int), .methodLink RJ2 241 yJ0_checkBoundsBeginEnd_23922, .static yJ0_checkBoundsBeginEnd_23922, .initialized RJ0, .code yJ0_checkBoundsBeginEnd_23922 cJ0_checkBoundsBeginEnd_23922 3 none, .fieldLink RJ0 1053 "jdk/internal/util/Preconditions" "SIOOBE_FORMATTER" "Ljava/util/function/BiFunction;", .methodLink RJ0 1062 yJ3_checkFromToIndex_8c36e, .static yJ3_checkFromToIndex_8c36e, .initialized RJ3, .code yJ3_checkFromToIndex_8c36e cJ3_checkFromToIndex_8c36e 4 (some .int)])
def wsJ2_getChar_3b067 : List Cond := .code yJ2_getChar_3b067 cJ2_getChar_3b067 2 (some .char) :: ([.fieldLink RJ2 44 "java/lang/StringUTF16" "$assertionsDisabled" "Z", .fieldLink RJ2 59 "java/lang/StringUTF16" "HI_BYTE_SHIFT" "I", .fieldLink RJ2 63 "java/lang/StringUTF16" "LO_BYTE_SHIFT" "I", .methodLink RJ2 48 yJ2_length_9d52b, .static yJ2_length_9d52b, .initialized RJ2, .code yJ2_length_9d52b cJ2_length_9d52b 1 (some .int)])
def wsJ2_indexOfCharUnsafe_4cfef : List Cond := .code yJ2_indexOfCharUnsafe_4cfef cJ2_indexOfCharUnsafe_4cfef 5 (some .int) :: ([.methodLink RJ2 71 yJ2_getChar_3b067, .static yJ2_getChar_3b067, .initialized RJ2, .code yJ2_getChar_3b067 cJ2_getChar_3b067 2 (some .char), .fieldLink RJ2 44 "java/lang/StringUTF16" "$assertionsDisabled" "Z", .fieldLink RJ2 59 "java/lang/StringUTF16" "HI_BYTE_SHIFT" "I", .fieldLink RJ2 63 "java/lang/StringUTF16" "LO_BYTE_SHIFT" "I", .methodLink RJ2 48 yJ2_length_9d52b, .static yJ2_length_9d52b, .code yJ2_length_9d52b cJ2_length_9d52b 1 (some .int)])
def wsJ2_indexOfChar_4cfef_r1 : List Cond := [Cond.methodLink RJ2 96 yJ2_checkBoundsBeginEnd_d044e, Cond.static yJ2_checkBoundsBeginEnd_d044e, Cond.initialized RJ2, Cond.code yJ2_checkBoundsBeginEnd_d044e cJ2_checkBoundsBeginEnd_d044e 3 none, Cond.methodLink RJ2 48 yJ2_length_9d52b, Cond.static yJ2_length_9d52b, Cond.code yJ2_length_9d52b cJ2_length_9d52b 1 (some .int), Cond.methodLink RJ2 241 yJ0_checkBoundsBeginEnd_23922, Cond.static yJ0_checkBoundsBeginEnd_23922, Cond.initialized RJ0, Cond.code yJ0_checkBoundsBeginEnd_23922 cJ0_checkBoundsBeginEnd_23922 3 none, Cond.fieldLink RJ0 1053 "jdk/internal/util/Preconditions" "SIOOBE_FORMATTER" "Ljava/util/function/BiFunction;", Cond.methodLink RJ0 1062 yJ3_checkFromToIndex_8c36e, Cond.static yJ3_checkFromToIndex_8c36e, Cond.initialized RJ3, Cond.code yJ3_checkFromToIndex_8c36e cJ3_checkFromToIndex_8c36e 4 (some .int), Cond.methodLink RJ2 244 yJ2_indexOfCharUnsafe_4cfef, Cond.static yJ2_indexOfCharUnsafe_4cfef, Cond.code yJ2_indexOfCharUnsafe_4cfef cJ2_indexOfCharUnsafe_4cfef 5 (some .int), Cond.methodLink RJ2 71 yJ2_getChar_3b067, Cond.static yJ2_getChar_3b067, Cond.code yJ2_getChar_3b067 cJ2_getChar_3b067 2 (some .char), Cond.fieldLink RJ2 44 "java/lang/StringUTF16" "$assertionsDisabled" "Z", Cond.fieldLink RJ2 59 "java/lang/StringUTF16" "HI_BYTE_SHIFT" "I"]
def wsJ2_indexOfChar_4cfef_r2 : List Cond := [Cond.fieldLink RJ2 63 "java/lang/StringUTF16" "LO_BYTE_SHIFT" "I"]
def wsJ2_indexOfChar_4cfef : List Cond := .code yJ2_indexOfChar_4cfef cJ2_indexOfChar_4cfef 4 (some .int) :: ((wsJ2_indexOfChar_4cfef_r1 ++ wsJ2_indexOfChar_4cfef_r2))
def wsJ11_isValidCodePoint_9a6ad : List Cond := .code yJ11_isValidCodePoint_9a6ad cJ11_isValidCodePoint_9a6ad 2 (some .boolean) :: ([])
def wsJ11_highSurrogate_5068e : List Cond := .code yJ11_highSurrogate_5068e cJ11_highSurrogate_5068e 1 (some .char) :: ([.constant RJ11 110 (55232)])
def wsJ11_lowSurrogate_5068e : List Cond := .code yJ11_lowSurrogate_5068e cJ11_lowSurrogate_5068e 1 (some .char) :: ([.constant RJ11 76 (56320)])
def wsJ2_indexOfSupplementary_4cfef_r1 : List Cond := [Cond.methodLink RJ2 164 yJ11_isValidCodePoint_9a6ad, Cond.static yJ11_isValidCodePoint_9a6ad, Cond.initialized RJ11, Cond.code yJ11_isValidCodePoint_9a6ad cJ11_isValidCodePoint_9a6ad 2 (some .boolean), Cond.methodLink RJ2 157 yJ11_highSurrogate_5068e, Cond.static yJ11_highSurrogate_5068e, Cond.code yJ11_highSurrogate_5068e cJ11_highSurrogate_5068e 1 (some .char), Cond.constant RJ11 110 (55232), Cond.methodLink RJ2 161 yJ11_lowSurrogate_5068e, Cond.static yJ11_lowSurrogate_5068e, Cond.code yJ11_lowSurrogate_5068e cJ11_lowSurrogate_5068e 1 (some .char), Cond.constant RJ11 76 (56320), Cond.methodLink RJ2 96 yJ2_checkBoundsBeginEnd_d044e, Cond.static yJ2_checkBoundsBeginEnd_d044e, Cond.initialized RJ2, Cond.code yJ2_checkBoundsBeginEnd_d044e cJ2_checkBoundsBeginEnd_d044e 3 none, Cond.methodLink RJ2 48 yJ2_length_9d52b, Cond.static yJ2_length_9d52b, Cond.code yJ2_length_9d52b cJ2_length_9d52b 1 (some .int), Cond.methodLink RJ2 241 yJ0_checkBoundsBeginEnd_23922, Cond.static yJ0_checkBoundsBeginEnd_23922, Cond.initialized RJ0, Cond.code yJ0_checkBoundsBeginEnd_23922 cJ0_checkBoundsBeginEnd_23922 3 none, Cond.fieldLink RJ0 1053 "jdk/internal/util/Preconditions" "SIOOBE_FORMATTER" "Ljava/util/function/BiFunction;"]
def wsJ2_indexOfSupplementary_4cfef_r2 : List Cond := [Cond.methodLink RJ0 1062 yJ3_checkFromToIndex_8c36e, Cond.static yJ3_checkFromToIndex_8c36e, Cond.initialized RJ3, Cond.code yJ3_checkFromToIndex_8c36e cJ3_checkFromToIndex_8c36e 4 (some .int), Cond.methodLink RJ2 71 yJ2_getChar_3b067, Cond.static yJ2_getChar_3b067, Cond.code yJ2_getChar_3b067 cJ2_getChar_3b067 2 (some .char), Cond.fieldLink RJ2 44 "java/lang/StringUTF16" "$assertionsDisabled" "Z", Cond.fieldLink RJ2 59 "java/lang/StringUTF16" "HI_BYTE_SHIFT" "I", Cond.fieldLink RJ2 63 "java/lang/StringUTF16" "LO_BYTE_SHIFT" "I"]
def wsJ2_indexOfSupplementary_4cfef : List Cond := .code yJ2_indexOfSupplementary_4cfef cJ2_indexOfSupplementary_4cfef 7 (some .int) :: ((wsJ2_indexOfSupplementary_4cfef_r1 ++ wsJ2_indexOfSupplementary_4cfef_r2))
def wsJ2_indexOf_4cfef_r1 : List Cond := [Cond.methodLink RJ2 224 Lib.Math.max.name, Cond.static Lib.Math.max.name, Cond.initialized "java/lang/Math", Cond.code Lib.Math.max.name Lib.Math.max.code 2 (some .int), Cond.methodLink RJ2 183 Lib.Math.min.name, Cond.static Lib.Math.min.name, Cond.code Lib.Math.min.name Lib.Math.min.code 2 (some .int), Cond.constant RJ2 227 (65536), Cond.methodLink RJ2 228 yJ2_indexOfChar_4cfef, Cond.static yJ2_indexOfChar_4cfef, Cond.initialized RJ2, Cond.code yJ2_indexOfChar_4cfef cJ2_indexOfChar_4cfef 4 (some .int), Cond.methodLink RJ2 96 yJ2_checkBoundsBeginEnd_d044e, Cond.static yJ2_checkBoundsBeginEnd_d044e, Cond.code yJ2_checkBoundsBeginEnd_d044e cJ2_checkBoundsBeginEnd_d044e 3 none, Cond.methodLink RJ2 48 yJ2_length_9d52b, Cond.static yJ2_length_9d52b, Cond.code yJ2_length_9d52b cJ2_length_9d52b 1 (some .int), Cond.methodLink RJ2 241 yJ0_checkBoundsBeginEnd_23922, Cond.static yJ0_checkBoundsBeginEnd_23922, Cond.initialized RJ0, Cond.code yJ0_checkBoundsBeginEnd_23922 cJ0_checkBoundsBeginEnd_23922 3 none, Cond.fieldLink RJ0 1053 "jdk/internal/util/Preconditions" "SIOOBE_FORMATTER" "Ljava/util/function/BiFunction;", Cond.methodLink RJ0 1062 yJ3_checkFromToIndex_8c36e]
def wsJ2_indexOf_4cfef_r2 : List Cond := [Cond.static yJ3_checkFromToIndex_8c36e, Cond.initialized RJ3, Cond.code yJ3_checkFromToIndex_8c36e cJ3_checkFromToIndex_8c36e 4 (some .int), Cond.methodLink RJ2 244 yJ2_indexOfCharUnsafe_4cfef, Cond.static yJ2_indexOfCharUnsafe_4cfef, Cond.code yJ2_indexOfCharUnsafe_4cfef cJ2_indexOfCharUnsafe_4cfef 5 (some .int), Cond.methodLink RJ2 71 yJ2_getChar_3b067, Cond.static yJ2_getChar_3b067, Cond.code yJ2_getChar_3b067 cJ2_getChar_3b067 2 (some .char), Cond.fieldLink RJ2 44 "java/lang/StringUTF16" "$assertionsDisabled" "Z", Cond.fieldLink RJ2 59 "java/lang/StringUTF16" "HI_BYTE_SHIFT" "I", Cond.fieldLink RJ2 63 "java/lang/StringUTF16" "LO_BYTE_SHIFT" "I", Cond.methodLink RJ2 232 yJ2_indexOfSupplementary_4cfef, Cond.static yJ2_indexOfSupplementary_4cfef, Cond.code yJ2_indexOfSupplementary_4cfef cJ2_indexOfSupplementary_4cfef 7 (some .int), Cond.methodLink RJ2 164 yJ11_isValidCodePoint_9a6ad, Cond.static yJ11_isValidCodePoint_9a6ad, Cond.initialized RJ11, Cond.code yJ11_isValidCodePoint_9a6ad cJ11_isValidCodePoint_9a6ad 2 (some .boolean), Cond.methodLink RJ2 157 yJ11_highSurrogate_5068e, Cond.static yJ11_highSurrogate_5068e, Cond.code yJ11_highSurrogate_5068e cJ11_highSurrogate_5068e 1 (some .char), Cond.constant RJ11 110 (55232), Cond.methodLink RJ2 161 yJ11_lowSurrogate_5068e]
def wsJ2_indexOf_4cfef_r3 : List Cond := [Cond.static yJ11_lowSurrogate_5068e, Cond.code yJ11_lowSurrogate_5068e cJ11_lowSurrogate_5068e 1 (some .char), Cond.constant RJ11 76 (56320)]
def wsJ2_indexOf_4cfef : List Cond := .code yJ2_indexOf_4cfef cJ2_indexOf_4cfef 4 (some .int) :: ((wsJ2_indexOf_4cfef_r1 ++ (wsJ2_indexOf_4cfef_r2 ++ wsJ2_indexOf_4cfef_r3)))
def wsJ0_indexOf_7cf53_r1 : List Cond := [Cond.fieldLink RJ0 9 "java/lang/String" "value" "[B", Cond.methodLink RJ0 492 yJ0_isLatin1_aae02, Cond.instanceMethod yJ0_isLatin1_aae02, Cond.selects RJ0 yJ0_isLatin1_aae02 yJ0_isLatin1_aae02, Cond.initialized RJ0, Cond.code yJ0_isLatin1_aae02 cJ0_isLatin1_aae02 1 (some .boolean), Cond.fieldLink RJ0 38 "java/lang/String" "COMPACT_STRINGS" "Z", Cond.fieldLink RJ0 15 "java/lang/String" "coder" "B", Cond.methodLink RJ0 505 yJ0_length_8abf5, Cond.instanceMethod yJ0_length_8abf5, Cond.selects RJ0 yJ0_length_8abf5 yJ0_length_8abf5, Cond.code yJ0_length_8abf5 cJ0_length_8abf5 1 (some .int), Cond.methodLink RJ0 335 yJ0_coder_7d493, Cond.instanceMethod yJ0_coder_7d493, Cond.selects RJ0 yJ0_coder_7d493 yJ0_coder_7d493, Cond.code yJ0_coder_7d493 cJ0_coder_7d493 1 (some .byte), Cond.methodLink RJ0 637 yJ1_indexOf_4cfef, Cond.static yJ1_indexOf_4cfef, Cond.initialized RJ1, Cond.code yJ1_indexOf_4cfef cJ1_indexOf_4cfef 4 (some .int), Cond.methodLink RJ1 92 Lib.Math.max.name, Cond.static Lib.Math.max.name, Cond.initialized "java/lang/Math", Cond.code Lib.Math.max.name Lib.Math.max.code 2 (some .int)]
def wsJ0_indexOf_7cf53_r2 : List Cond := [Cond.methodLink RJ1 38 Lib.Math.min.name, Cond.static Lib.Math.min.name, Cond.code Lib.Math.min.name Lib.Math.min.code 2 (some .int), Cond.methodLink RJ1 88 yJ1_canEncode_9a6ad, Cond.static yJ1_canEncode_9a6ad, Cond.code yJ1_canEncode_9a6ad cJ1_canEncode_9a6ad 1 (some .boolean), Cond.methodLink RJ1 95 yJ1_indexOfChar_4cfef, Cond.static yJ1_indexOfChar_4cfef, Cond.code yJ1_indexOfChar_4cfef cJ1_indexOfChar_4cfef 6 (some .int), Cond.methodLink RJ0 640 yJ2_indexOf_4cfef, Cond.static yJ2_indexOf_4cfef, Cond.initialized RJ2, Cond.code yJ2_indexOf_4cfef cJ2_indexOf_4cfef 4 (some .int), Cond.methodLink RJ2 224 Lib.Math.max.name, Cond.methodLink RJ2 183 Lib.Math.min.name, Cond.constant RJ2 227 (65536), Cond.methodLink RJ2 228 yJ2_indexOfChar_4cfef, Cond.static yJ2_indexOfChar_4cfef, Cond.code yJ2_indexOfChar_4cfef cJ2_indexOfChar_4cfef 4 (some .int), Cond.methodLink RJ2 96 yJ2_checkBoundsBeginEnd_d044e, Cond.static yJ2_checkBoundsBeginEnd_d044e, Cond.code yJ2_checkBoundsBeginEnd_d044e cJ2_checkBoundsBeginEnd_d044e 3 none, Cond.methodLink RJ2 48 yJ2_length_9d52b, Cond.static yJ2_length_9d52b]
def wsJ0_indexOf_7cf53_r3 : List Cond := [Cond.code yJ2_length_9d52b cJ2_length_9d52b 1 (some .int), Cond.methodLink RJ2 241 yJ0_checkBoundsBeginEnd_23922, Cond.static yJ0_checkBoundsBeginEnd_23922, Cond.code yJ0_checkBoundsBeginEnd_23922 cJ0_checkBoundsBeginEnd_23922 3 none, Cond.fieldLink RJ0 1053 "jdk/internal/util/Preconditions" "SIOOBE_FORMATTER" "Ljava/util/function/BiFunction;", Cond.methodLink RJ0 1062 yJ3_checkFromToIndex_8c36e, Cond.static yJ3_checkFromToIndex_8c36e, Cond.initialized RJ3, Cond.code yJ3_checkFromToIndex_8c36e cJ3_checkFromToIndex_8c36e 4 (some .int), Cond.methodLink RJ2 244 yJ2_indexOfCharUnsafe_4cfef, Cond.static yJ2_indexOfCharUnsafe_4cfef, Cond.code yJ2_indexOfCharUnsafe_4cfef cJ2_indexOfCharUnsafe_4cfef 5 (some .int), Cond.methodLink RJ2 71 yJ2_getChar_3b067, Cond.static yJ2_getChar_3b067, Cond.code yJ2_getChar_3b067 cJ2_getChar_3b067 2 (some .char), Cond.fieldLink RJ2 44 "java/lang/StringUTF16" "$assertionsDisabled" "Z", Cond.fieldLink RJ2 59 "java/lang/StringUTF16" "HI_BYTE_SHIFT" "I", Cond.fieldLink RJ2 63 "java/lang/StringUTF16" "LO_BYTE_SHIFT" "I", Cond.methodLink RJ2 232 yJ2_indexOfSupplementary_4cfef, Cond.static yJ2_indexOfSupplementary_4cfef, Cond.code yJ2_indexOfSupplementary_4cfef cJ2_indexOfSupplementary_4cfef 7 (some .int), Cond.methodLink RJ2 164 yJ11_isValidCodePoint_9a6ad, Cond.static yJ11_isValidCodePoint_9a6ad, Cond.initialized RJ11]
def wsJ0_indexOf_7cf53_r4 : List Cond := [Cond.code yJ11_isValidCodePoint_9a6ad cJ11_isValidCodePoint_9a6ad 2 (some .boolean), Cond.methodLink RJ2 157 yJ11_highSurrogate_5068e, Cond.static yJ11_highSurrogate_5068e, Cond.code yJ11_highSurrogate_5068e cJ11_highSurrogate_5068e 1 (some .char), Cond.constant RJ11 110 (55232), Cond.methodLink RJ2 161 yJ11_lowSurrogate_5068e, Cond.static yJ11_lowSurrogate_5068e, Cond.code yJ11_lowSurrogate_5068e cJ11_lowSurrogate_5068e 1 (some .char), Cond.constant RJ11 76 (56320)]
def wsJ0_indexOf_7cf53 : List Cond := .code yJ0_indexOf_7cf53 cJ0_indexOf_7cf53 3 (some .int) :: ((wsJ0_indexOf_7cf53_r1 ++ (wsJ0_indexOf_7cf53_r2 ++ (wsJ0_indexOf_7cf53_r3 ++ wsJ0_indexOf_7cf53_r4))))
def wsJ0_indexOf_0f7a4_r1 : List Cond := [Cond.methodLink RJ0 633 yJ0_indexOf_7cf53, Cond.instanceMethod yJ0_indexOf_7cf53, Cond.selects RJ0 yJ0_indexOf_7cf53 yJ0_indexOf_7cf53, Cond.initialized RJ0, Cond.code yJ0_indexOf_7cf53 cJ0_indexOf_7cf53 3 (some .int), Cond.fieldLink RJ0 9 "java/lang/String" "value" "[B", Cond.methodLink RJ0 492 yJ0_isLatin1_aae02, Cond.instanceMethod yJ0_isLatin1_aae02, Cond.selects RJ0 yJ0_isLatin1_aae02 yJ0_isLatin1_aae02, Cond.code yJ0_isLatin1_aae02 cJ0_isLatin1_aae02 1 (some .boolean), Cond.fieldLink RJ0 38 "java/lang/String" "COMPACT_STRINGS" "Z", Cond.fieldLink RJ0 15 "java/lang/String" "coder" "B", Cond.methodLink RJ0 505 yJ0_length_8abf5, Cond.instanceMethod yJ0_length_8abf5, Cond.selects RJ0 yJ0_length_8abf5 yJ0_length_8abf5, Cond.code yJ0_length_8abf5 cJ0_length_8abf5 1 (some .int), Cond.methodLink RJ0 335 yJ0_coder_7d493, Cond.instanceMethod yJ0_coder_7d493, Cond.selects RJ0 yJ0_coder_7d493 yJ0_coder_7d493, Cond.code yJ0_coder_7d493 cJ0_coder_7d493 1 (some .byte), Cond.methodLink RJ0 637 yJ1_indexOf_4cfef, Cond.static yJ1_indexOf_4cfef, Cond.initialized RJ1, Cond.code yJ1_indexOf_4cfef cJ1_indexOf_4cfef 4 (some .int)]
def wsJ0_indexOf_0f7a4_r2 : List Cond := [Cond.methodLink RJ1 92 Lib.Math.max.name, Cond.static Lib.Math.max.name, Cond.initialized "java/lang/Math", Cond.code Lib.Math.max.name Lib.Math.max.code 2 (some .int), Cond.methodLink RJ1 38 Lib.Math.min.name, Cond.static Lib.Math.min.name, Cond.code Lib.Math.min.name Lib.Math.min.code 2 (some .int), Cond.methodLink RJ1 88 yJ1_canEncode_9a6ad, Cond.static yJ1_canEncode_9a6ad, Cond.code yJ1_canEncode_9a6ad cJ1_canEncode_9a6ad 1 (some .boolean), Cond.methodLink RJ1 95 yJ1_indexOfChar_4cfef, Cond.static yJ1_indexOfChar_4cfef, Cond.code yJ1_indexOfChar_4cfef cJ1_indexOfChar_4cfef 6 (some .int), Cond.methodLink RJ0 640 yJ2_indexOf_4cfef, Cond.static yJ2_indexOf_4cfef, Cond.initialized RJ2, Cond.code yJ2_indexOf_4cfef cJ2_indexOf_4cfef 4 (some .int), Cond.methodLink RJ2 224 Lib.Math.max.name, Cond.methodLink RJ2 183 Lib.Math.min.name, Cond.constant RJ2 227 (65536), Cond.methodLink RJ2 228 yJ2_indexOfChar_4cfef, Cond.static yJ2_indexOfChar_4cfef, Cond.code yJ2_indexOfChar_4cfef cJ2_indexOfChar_4cfef 4 (some .int), Cond.methodLink RJ2 96 yJ2_checkBoundsBeginEnd_d044e]
def wsJ0_indexOf_0f7a4_r3 : List Cond := [Cond.static yJ2_checkBoundsBeginEnd_d044e, Cond.code yJ2_checkBoundsBeginEnd_d044e cJ2_checkBoundsBeginEnd_d044e 3 none, Cond.methodLink RJ2 48 yJ2_length_9d52b, Cond.static yJ2_length_9d52b, Cond.code yJ2_length_9d52b cJ2_length_9d52b 1 (some .int), Cond.methodLink RJ2 241 yJ0_checkBoundsBeginEnd_23922, Cond.static yJ0_checkBoundsBeginEnd_23922, Cond.code yJ0_checkBoundsBeginEnd_23922 cJ0_checkBoundsBeginEnd_23922 3 none, Cond.fieldLink RJ0 1053 "jdk/internal/util/Preconditions" "SIOOBE_FORMATTER" "Ljava/util/function/BiFunction;", Cond.methodLink RJ0 1062 yJ3_checkFromToIndex_8c36e, Cond.static yJ3_checkFromToIndex_8c36e, Cond.initialized RJ3, Cond.code yJ3_checkFromToIndex_8c36e cJ3_checkFromToIndex_8c36e 4 (some .int), Cond.methodLink RJ2 244 yJ2_indexOfCharUnsafe_4cfef, Cond.static yJ2_indexOfCharUnsafe_4cfef, Cond.code yJ2_indexOfCharUnsafe_4cfef cJ2_indexOfCharUnsafe_4cfef 5 (some .int), Cond.methodLink RJ2 71 yJ2_getChar_3b067, Cond.static yJ2_getChar_3b067, Cond.code yJ2_getChar_3b067 cJ2_getChar_3b067 2 (some .char), Cond.fieldLink RJ2 44 "java/lang/StringUTF16" "$assertionsDisabled" "Z", Cond.fieldLink RJ2 59 "java/lang/StringUTF16" "HI_BYTE_SHIFT" "I", Cond.fieldLink RJ2 63 "java/lang/StringUTF16" "LO_BYTE_SHIFT" "I", Cond.methodLink RJ2 232 yJ2_indexOfSupplementary_4cfef, Cond.static yJ2_indexOfSupplementary_4cfef]
def wsJ0_indexOf_0f7a4_r4 : List Cond := [Cond.code yJ2_indexOfSupplementary_4cfef cJ2_indexOfSupplementary_4cfef 7 (some .int), Cond.methodLink RJ2 164 yJ11_isValidCodePoint_9a6ad, Cond.static yJ11_isValidCodePoint_9a6ad, Cond.initialized RJ11, Cond.code yJ11_isValidCodePoint_9a6ad cJ11_isValidCodePoint_9a6ad 2 (some .boolean), Cond.methodLink RJ2 157 yJ11_highSurrogate_5068e, Cond.static yJ11_highSurrogate_5068e, Cond.code yJ11_highSurrogate_5068e cJ11_highSurrogate_5068e 1 (some .char), Cond.constant RJ11 110 (55232), Cond.methodLink RJ2 161 yJ11_lowSurrogate_5068e, Cond.static yJ11_lowSurrogate_5068e, Cond.code yJ11_lowSurrogate_5068e cJ11_lowSurrogate_5068e 1 (some .char), Cond.constant RJ11 76 (56320)]
def wsJ0_indexOf_0f7a4 : List Cond := .code yJ0_indexOf_0f7a4 cJ0_indexOf_0f7a4 2 (some .int) :: ((wsJ0_indexOf_0f7a4_r1 ++ (wsJ0_indexOf_0f7a4_r2 ++ (wsJ0_indexOf_0f7a4_r3 ++ wsJ0_indexOf_0f7a4_r4))))
def wsX4_beginRow : List Cond := .code yX4_beginRow cX4_beginRow 2 none :: ([.fieldLink RX4 18 "BarrelProcessor$Text" "instructions" "LBarrelProcessor$Instructions;", .fieldLink RX4 29 "BarrelProcessor$Text" "instructionCount" "I", .constant RX4 40 (-100005), .fieldLink RX4 64 "BarrelProcessor$Text" "operandCount" "I"] ++ wsX40 ++ wsX20)
def wsX4_isDigit : List Cond := .code yX4_isDigit cX4_isDigit 3 (some .boolean) :: ([.fieldLink RX4 26 "BarrelProcessor$Text" "position" "I", .fieldLink RX4 22 "BarrelProcessor$Text" "length" "I", .fieldLink RX4 11 "BarrelProcessor$Text" "characters" "[C", .static yX6_isWithin, .initialized RX6, .code yX6_isWithin cX6_isWithin 3 (some .boolean)] ++ wsX40)
def wsX4_takeDigit : List Cond := .code yX4_takeDigit cX4_takeDigit 2 (some .int) :: ([.fieldLink RX4 26 "BarrelProcessor$Text" "position" "I", .fieldLink RX4 22 "BarrelProcessor$Text" "length" "I", .fieldLink RX4 11 "BarrelProcessor$Text" "characters" "[C"] ++ wsX40)
def wsX4_keepOperand : List Cond := .code yX4_keepOperand cX4_keepOperand 2 none :: ([.fieldLink RX4 64 "BarrelProcessor$Text" "operandCount" "I", .fieldLink RX4 18 "BarrelProcessor$Text" "instructions" "LBarrelProcessor$Instructions;", .fieldLink RX4 29 "BarrelProcessor$Text" "instructionCount" "I"] ++ wsX40 ++ wsX20)
def wsX4_readRegister : List Cond := .code yX4_readRegister cX4_readRegister 1 (some .boolean) :: ([.methodLink RX4 80 yX4_isDigit, .instanceMethod yX4_isDigit, .selects RX4 yX4_isDigit yX4_isDigit, .initialized RX4, .code yX4_isDigit cX4_isDigit 3 (some .boolean), .fieldLink RX4 26 "BarrelProcessor$Text" "position" "I", .fieldLink RX4 22 "BarrelProcessor$Text" "length" "I", .fieldLink RX4 11 "BarrelProcessor$Text" "characters" "[C", .static yX6_isWithin, .initialized RX6, .code yX6_isWithin cX6_isWithin 3 (some .boolean), .methodLink RX4 84 yX4_takeDigit, .instanceMethod yX4_takeDigit, .selects RX4 yX4_takeDigit yX4_takeDigit, .code yX4_takeDigit cX4_takeDigit 2 (some .int), .methodLink RX4 88 yX4_keepOperand, .instanceMethod yX4_keepOperand, .selects RX4 yX4_keepOperand yX4_keepOperand, .code yX4_keepOperand cX4_keepOperand 2 none, .fieldLink RX4 64 "BarrelProcessor$Text" "operandCount" "I", .fieldLink RX4 18 "BarrelProcessor$Text" "instructions" "LBarrelProcessor$Instructions;", .fieldLink RX4 29 "BarrelProcessor$Text" "instructionCount" "I"] ++ wsX40 ++ wsX20)
def wsX4_readSign : List Cond := .code yX4_readSign cX4_readSign 2 (some .boolean) :: ([.fieldLink RX4 26 "BarrelProcessor$Text" "position" "I", .fieldLink RX4 22 "BarrelProcessor$Text" "length" "I", .fieldLink RX4 11 "BarrelProcessor$Text" "characters" "[C"] ++ wsX40)
def wsX4_readNumber_r1 : List Cond := [Cond.methodLink RX4 36 yX4_readSign, Cond.instanceMethod yX4_readSign, Cond.selects RX4 yX4_readSign yX4_readSign, Cond.initialized RX4, Cond.code yX4_readSign cX4_readSign 2 (some .boolean), Cond.fieldLink RX4 26 "BarrelProcessor$Text" "position" "I", Cond.fieldLink RX4 22 "BarrelProcessor$Text" "length" "I", Cond.fieldLink RX4 11 "BarrelProcessor$Text" "characters" "[C", Cond.methodLink RX4 80 yX4_isDigit, Cond.instanceMethod yX4_isDigit, Cond.selects RX4 yX4_isDigit yX4_isDigit, Cond.code yX4_isDigit cX4_isDigit 3 (some .boolean), Cond.static yX6_isWithin, Cond.initialized RX6, Cond.code yX6_isWithin cX6_isWithin 3 (some .boolean), Cond.methodLink RX4 84 yX4_takeDigit, Cond.instanceMethod yX4_takeDigit, Cond.selects RX4 yX4_takeDigit yX4_takeDigit, Cond.code yX4_takeDigit cX4_takeDigit 2 (some .int), Cond.methodLink RX4 88 yX4_keepOperand, Cond.instanceMethod yX4_keepOperand, Cond.selects RX4 yX4_keepOperand yX4_keepOperand, Cond.code yX4_keepOperand cX4_keepOperand 2 none, Cond.fieldLink RX4 64 "BarrelProcessor$Text" "operandCount" "I"]
def wsX4_readNumber_r2 : List Cond := [Cond.fieldLink RX4 18 "BarrelProcessor$Text" "instructions" "LBarrelProcessor$Instructions;", Cond.fieldLink RX4 29 "BarrelProcessor$Text" "instructionCount" "I"]
def wsX4_readNumber : List Cond := .code yX4_readNumber cX4_readNumber 3 (some .boolean) :: ((wsX4_readNumber_r1 ++ wsX4_readNumber_r2) ++ wsX40 ++ wsX20)
def wsX4_readPlace_r1 : List Cond := [Cond.methodLink RX4 91 Lib.Math.min.name, Cond.static Lib.Math.min.name, Cond.initialized "java/lang/Math", Cond.code Lib.Math.min.name Lib.Math.min.code 2 (some .int), Cond.methodLink RX4 80 yX4_isDigit, Cond.instanceMethod yX4_isDigit, Cond.selects RX4 yX4_isDigit yX4_isDigit, Cond.initialized RX4, Cond.code yX4_isDigit cX4_isDigit 3 (some .boolean), Cond.fieldLink RX4 26 "BarrelProcessor$Text" "position" "I", Cond.fieldLink RX4 22 "BarrelProcessor$Text" "length" "I", Cond.fieldLink RX4 11 "BarrelProcessor$Text" "characters" "[C", Cond.static yX6_isWithin, Cond.initialized RX6, Cond.code yX6_isWithin cX6_isWithin 3 (some .boolean), Cond.methodLink RX4 84 yX4_takeDigit, Cond.instanceMethod yX4_takeDigit, Cond.selects RX4 yX4_takeDigit yX4_takeDigit, Cond.code yX4_takeDigit cX4_takeDigit 2 (some .int), Cond.methodLink RX4 88 yX4_keepOperand, Cond.instanceMethod yX4_keepOperand, Cond.selects RX4 yX4_keepOperand yX4_keepOperand, Cond.code yX4_keepOperand cX4_keepOperand 2 none, Cond.fieldLink RX4 64 "BarrelProcessor$Text" "operandCount" "I"]
def wsX4_readPlace_r2 : List Cond := [Cond.fieldLink RX4 18 "BarrelProcessor$Text" "instructions" "LBarrelProcessor$Instructions;", Cond.fieldLink RX4 29 "BarrelProcessor$Text" "instructionCount" "I"]
def wsX4_readPlace : List Cond := .code yX4_readPlace cX4_readPlace 3 (some .boolean) :: ((wsX4_readPlace_r1 ++ wsX4_readPlace_r2) ++ wsX40 ++ wsX20)
def wsX4_readOperands_r1 : List Cond := [Cond.methodLink RX4 67 yX4_readRegister, Cond.instanceMethod yX4_readRegister, Cond.selects RX4 yX4_readRegister yX4_readRegister, Cond.initialized RX4, Cond.code yX4_readRegister cX4_readRegister 1 (some .boolean), Cond.methodLink RX4 80 yX4_isDigit, Cond.instanceMethod yX4_isDigit, Cond.selects RX4 yX4_isDigit yX4_isDigit, Cond.code yX4_isDigit cX4_isDigit 3 (some .boolean), Cond.fieldLink RX4 26 "BarrelProcessor$Text" "position" "I", Cond.fieldLink RX4 22 "BarrelProcessor$Text" "length" "I", Cond.fieldLink RX4 11 "BarrelProcessor$Text" "characters" "[C", Cond.static yX6_isWithin, Cond.initialized RX6, Cond.code yX6_isWithin cX6_isWithin 3 (some .boolean), Cond.methodLink RX4 84 yX4_takeDigit, Cond.instanceMethod yX4_takeDigit, Cond.selects RX4 yX4_takeDigit yX4_takeDigit, Cond.code yX4_takeDigit cX4_takeDigit 2 (some .int), Cond.methodLink RX4 88 yX4_keepOperand, Cond.instanceMethod yX4_keepOperand, Cond.selects RX4 yX4_keepOperand yX4_keepOperand, Cond.code yX4_keepOperand cX4_keepOperand 2 none, Cond.fieldLink RX4 64 "BarrelProcessor$Text" "operandCount" "I"]
def wsX4_readOperands_r2 : List Cond := [Cond.fieldLink RX4 18 "BarrelProcessor$Text" "instructions" "LBarrelProcessor$Instructions;", Cond.fieldLink RX4 29 "BarrelProcessor$Text" "instructionCount" "I", Cond.methodLink RX4 36 yX4_readSign, Cond.instanceMethod yX4_readSign, Cond.selects RX4 yX4_readSign yX4_readSign, Cond.code yX4_readSign cX4_readSign 2 (some .boolean), Cond.methodLink RX4 70 yX4_readNumber, Cond.instanceMethod yX4_readNumber, Cond.selects RX4 yX4_readNumber yX4_readNumber, Cond.code yX4_readNumber cX4_readNumber 3 (some .boolean), Cond.methodLink RX4 73 yX4_readPlace, Cond.instanceMethod yX4_readPlace, Cond.selects RX4 yX4_readPlace yX4_readPlace, Cond.code yX4_readPlace cX4_readPlace 3 (some .boolean), Cond.methodLink RX4 91 Lib.Math.min.name, Cond.static Lib.Math.min.name, Cond.initialized "java/lang/Math", Cond.code Lib.Math.min.name Lib.Math.min.code 2 (some .int)]
def wsX4_readOperands : List Cond := .code yX4_readOperands cX4_readOperands 2 (some .boolean) :: ((wsX4_readOperands_r1 ++ wsX4_readOperands_r2) ++ wsX40 ++ wsX20)
def wsX4_readInstruction_r1 : List Cond := [Cond.fieldLink RX4 26 "BarrelProcessor$Text" "position" "I", Cond.fieldLink RX4 22 "BarrelProcessor$Text" "length" "I", Cond.fieldLink RX4 29 "BarrelProcessor$Text" "instructionCount" "I", Cond.fieldLink RX4 11 "BarrelProcessor$Text" "characters" "[C", Cond.methodLink RX4 43 yJ0_indexOf_0f7a4, Cond.instanceMethod yJ0_indexOf_0f7a4, Cond.selects RJ0 yJ0_indexOf_0f7a4 yJ0_indexOf_0f7a4, Cond.initialized RJ0, Cond.code yJ0_indexOf_0f7a4 cJ0_indexOf_0f7a4 2 (some .int), Cond.methodLink RJ0 633 yJ0_indexOf_7cf53, Cond.instanceMethod yJ0_indexOf_7cf53, Cond.selects RJ0 yJ0_indexOf_7cf53 yJ0_indexOf_7cf53, Cond.code yJ0_indexOf_7cf53 cJ0_indexOf_7cf53 3 (some .int), Cond.fieldLink RJ0 9 "java/lang/String" "value" "[B", Cond.methodLink RJ0 492 yJ0_isLatin1_aae02, Cond.instanceMethod yJ0_isLatin1_aae02, Cond.selects RJ0 yJ0_isLatin1_aae02 yJ0_isLatin1_aae02, Cond.code yJ0_isLatin1_aae02 cJ0_isLatin1_aae02 1 (some .boolean), Cond.fieldLink RJ0 38 "java/lang/String" "COMPACT_STRINGS" "Z", Cond.fieldLink RJ0 15 "java/lang/String" "coder" "B", Cond.methodLink RJ0 505 yJ0_length_8abf5, Cond.instanceMethod yJ0_length_8abf5, Cond.selects RJ0 yJ0_length_8abf5 yJ0_length_8abf5, Cond.code yJ0_length_8abf5 cJ0_length_8abf5 1 (some .int)]
def wsX4_readInstruction_r2 : List Cond := [Cond.methodLink RJ0 335 yJ0_coder_7d493, Cond.instanceMethod yJ0_coder_7d493, Cond.selects RJ0 yJ0_coder_7d493 yJ0_coder_7d493, Cond.code yJ0_coder_7d493 cJ0_coder_7d493 1 (some .byte), Cond.methodLink RJ0 637 yJ1_indexOf_4cfef, Cond.static yJ1_indexOf_4cfef, Cond.initialized RJ1, Cond.code yJ1_indexOf_4cfef cJ1_indexOf_4cfef 4 (some .int), Cond.methodLink RJ1 92 Lib.Math.max.name, Cond.static Lib.Math.max.name, Cond.initialized "java/lang/Math", Cond.code Lib.Math.max.name Lib.Math.max.code 2 (some .int), Cond.methodLink RJ1 38 Lib.Math.min.name, Cond.static Lib.Math.min.name, Cond.code Lib.Math.min.name Lib.Math.min.code 2 (some .int), Cond.methodLink RJ1 88 yJ1_canEncode_9a6ad, Cond.static yJ1_canEncode_9a6ad, Cond.code yJ1_canEncode_9a6ad cJ1_canEncode_9a6ad 1 (some .boolean), Cond.methodLink RJ1 95 yJ1_indexOfChar_4cfef, Cond.static yJ1_indexOfChar_4cfef, Cond.code yJ1_indexOfChar_4cfef cJ1_indexOfChar_4cfef 6 (some .int), Cond.methodLink RJ0 640 yJ2_indexOf_4cfef, Cond.static yJ2_indexOf_4cfef, Cond.initialized RJ2]
def wsX4_readInstruction_r3 : List Cond := [Cond.code yJ2_indexOf_4cfef cJ2_indexOf_4cfef 4 (some .int), Cond.methodLink RJ2 224 Lib.Math.max.name, Cond.methodLink RJ2 183 Lib.Math.min.name, Cond.constant RJ2 227 (65536), Cond.methodLink RJ2 228 yJ2_indexOfChar_4cfef, Cond.static yJ2_indexOfChar_4cfef, Cond.code yJ2_indexOfChar_4cfef cJ2_indexOfChar_4cfef 4 (some .int), Cond.methodLink RJ2 96 yJ2_checkBoundsBeginEnd_d044e, Cond.static yJ2_checkBoundsBeginEnd_d044e, Cond.code yJ2_checkBoundsBeginEnd_d044e cJ2_checkBoundsBeginEnd_d044e 3 none, Cond.methodLink RJ2 48 yJ2_length_9d52b, Cond.static yJ2_length_9d52b, Cond.code yJ2_length_9d52b cJ2_length_9d52b 1 (some .int), Cond.methodLink RJ2 241 yJ0_checkBoundsBeginEnd_23922, Cond.static yJ0_checkBoundsBeginEnd_23922, Cond.code yJ0_checkBoundsBeginEnd_23922 cJ0_checkBoundsBeginEnd_23922 3 none, Cond.fieldLink RJ0 1053 "jdk/internal/util/Preconditions" "SIOOBE_FORMATTER" "Ljava/util/function/BiFunction;", Cond.methodLink RJ0 1062 yJ3_checkFromToIndex_8c36e, Cond.static yJ3_checkFromToIndex_8c36e, Cond.initialized RJ3, Cond.code yJ3_checkFromToIndex_8c36e cJ3_checkFromToIndex_8c36e 4 (some .int), Cond.methodLink RJ2 244 yJ2_indexOfCharUnsafe_4cfef, Cond.static yJ2_indexOfCharUnsafe_4cfef, Cond.code yJ2_indexOfCharUnsafe_4cfef cJ2_indexOfCharUnsafe_4cfef 5 (some .int)]
def wsX4_readInstruction_r4 : List Cond := [Cond.methodLink RJ2 71 yJ2_getChar_3b067, Cond.static yJ2_getChar_3b067, Cond.code yJ2_getChar_3b067 cJ2_getChar_3b067 2 (some .char), Cond.fieldLink RJ2 44 "java/lang/StringUTF16" "$assertionsDisabled" "Z", Cond.fieldLink RJ2 59 "java/lang/StringUTF16" "HI_BYTE_SHIFT" "I", Cond.fieldLink RJ2 63 "java/lang/StringUTF16" "LO_BYTE_SHIFT" "I", Cond.methodLink RJ2 232 yJ2_indexOfSupplementary_4cfef, Cond.static yJ2_indexOfSupplementary_4cfef, Cond.code yJ2_indexOfSupplementary_4cfef cJ2_indexOfSupplementary_4cfef 7 (some .int), Cond.methodLink RJ2 164 yJ11_isValidCodePoint_9a6ad, Cond.static yJ11_isValidCodePoint_9a6ad, Cond.initialized RJ11, Cond.code yJ11_isValidCodePoint_9a6ad cJ11_isValidCodePoint_9a6ad 2 (some .boolean), Cond.methodLink RJ2 157 yJ11_highSurrogate_5068e, Cond.static yJ11_highSurrogate_5068e, Cond.code yJ11_highSurrogate_5068e cJ11_highSurrogate_5068e 1 (some .char), Cond.constant RJ11 110 (55232), Cond.methodLink RJ2 161 yJ11_lowSurrogate_5068e, Cond.static yJ11_lowSurrogate_5068e, Cond.code yJ11_lowSurrogate_5068e cJ11_lowSurrogate_5068e 1 (some .char), Cond.constant RJ11 76 (56320), Cond.methodLink RX4 49 yX4_beginRow, Cond.instanceMethod yX4_beginRow, Cond.selects RX4 yX4_beginRow yX4_beginRow]
def wsX4_readInstruction_r5 : List Cond := [Cond.initialized RX4, Cond.code yX4_beginRow cX4_beginRow 2 none, Cond.fieldLink RX4 18 "BarrelProcessor$Text" "instructions" "LBarrelProcessor$Instructions;", Cond.constant RX4 40 (-100005), Cond.fieldLink RX4 64 "BarrelProcessor$Text" "operandCount" "I", Cond.methodLink RX4 53 yX4_readOperands, Cond.instanceMethod yX4_readOperands, Cond.selects RX4 yX4_readOperands yX4_readOperands, Cond.code yX4_readOperands cX4_readOperands 2 (some .boolean), Cond.methodLink RX4 67 yX4_readRegister, Cond.instanceMethod yX4_readRegister, Cond.selects RX4 yX4_readRegister yX4_readRegister, Cond.code yX4_readRegister cX4_readRegister 1 (some .boolean), Cond.methodLink RX4 80 yX4_isDigit, Cond.instanceMethod yX4_isDigit, Cond.selects RX4 yX4_isDigit yX4_isDigit, Cond.code yX4_isDigit cX4_isDigit 3 (some .boolean), Cond.static yX6_isWithin, Cond.initialized RX6, Cond.code yX6_isWithin cX6_isWithin 3 (some .boolean), Cond.methodLink RX4 84 yX4_takeDigit, Cond.instanceMethod yX4_takeDigit, Cond.selects RX4 yX4_takeDigit yX4_takeDigit, Cond.code yX4_takeDigit cX4_takeDigit 2 (some .int)]
def wsX4_readInstruction_r6 : List Cond := [Cond.methodLink RX4 88 yX4_keepOperand, Cond.instanceMethod yX4_keepOperand, Cond.selects RX4 yX4_keepOperand yX4_keepOperand, Cond.code yX4_keepOperand cX4_keepOperand 2 none, Cond.methodLink RX4 36 yX4_readSign, Cond.instanceMethod yX4_readSign, Cond.selects RX4 yX4_readSign yX4_readSign, Cond.code yX4_readSign cX4_readSign 2 (some .boolean), Cond.methodLink RX4 70 yX4_readNumber, Cond.instanceMethod yX4_readNumber, Cond.selects RX4 yX4_readNumber yX4_readNumber, Cond.code yX4_readNumber cX4_readNumber 3 (some .boolean), Cond.methodLink RX4 73 yX4_readPlace, Cond.instanceMethod yX4_readPlace, Cond.selects RX4 yX4_readPlace yX4_readPlace, Cond.code yX4_readPlace cX4_readPlace 3 (some .boolean), Cond.methodLink RX4 91 Lib.Math.min.name]
def wsX4_readInstruction : List Cond := .code yX4_readInstruction cX4_readInstruction 2 (some .boolean) :: ((wsX4_readInstruction_r1 ++ (wsX4_readInstruction_r2 ++ (wsX4_readInstruction_r3 ++ (wsX4_readInstruction_r4 ++ (wsX4_readInstruction_r5 ++ wsX4_readInstruction_r6))))) ++ wsX40 ++ wsX20)
def wsX4_findFault_r1 : List Cond := [Cond.fieldLink RX4 26 "BarrelProcessor$Text" "position" "I", Cond.fieldLink RX4 29 "BarrelProcessor$Text" "instructionCount" "I", Cond.fieldLink RX4 22 "BarrelProcessor$Text" "length" "I", Cond.constant RX4 40 (-100005), Cond.methodLink RX4 32 yX4_readInstruction, Cond.instanceMethod yX4_readInstruction, Cond.selects RX4 yX4_readInstruction yX4_readInstruction, Cond.initialized RX4, Cond.code yX4_readInstruction cX4_readInstruction 2 (some .boolean), Cond.fieldLink RX4 11 "BarrelProcessor$Text" "characters" "[C", Cond.methodLink RX4 43 yJ0_indexOf_0f7a4, Cond.instanceMethod yJ0_indexOf_0f7a4, Cond.selects RJ0 yJ0_indexOf_0f7a4 yJ0_indexOf_0f7a4, Cond.initialized RJ0, Cond.code yJ0_indexOf_0f7a4 cJ0_indexOf_0f7a4 2 (some .int), Cond.methodLink RJ0 633 yJ0_indexOf_7cf53, Cond.instanceMethod yJ0_indexOf_7cf53, Cond.selects RJ0 yJ0_indexOf_7cf53 yJ0_indexOf_7cf53, Cond.code yJ0_indexOf_7cf53 cJ0_indexOf_7cf53 3 (some .int), Cond.fieldLink RJ0 9 "java/lang/String" "value" "[B", Cond.methodLink RJ0 492 yJ0_isLatin1_aae02, Cond.instanceMethod yJ0_isLatin1_aae02, Cond.selects RJ0 yJ0_isLatin1_aae02 yJ0_isLatin1_aae02, Cond.code yJ0_isLatin1_aae02 cJ0_isLatin1_aae02 1 (some .boolean)]
def wsX4_findFault_r2 : List Cond := [Cond.fieldLink RJ0 38 "java/lang/String" "COMPACT_STRINGS" "Z", Cond.fieldLink RJ0 15 "java/lang/String" "coder" "B", Cond.methodLink RJ0 505 yJ0_length_8abf5, Cond.instanceMethod yJ0_length_8abf5, Cond.selects RJ0 yJ0_length_8abf5 yJ0_length_8abf5, Cond.code yJ0_length_8abf5 cJ0_length_8abf5 1 (some .int), Cond.methodLink RJ0 335 yJ0_coder_7d493, Cond.instanceMethod yJ0_coder_7d493, Cond.selects RJ0 yJ0_coder_7d493 yJ0_coder_7d493, Cond.code yJ0_coder_7d493 cJ0_coder_7d493 1 (some .byte), Cond.methodLink RJ0 637 yJ1_indexOf_4cfef, Cond.static yJ1_indexOf_4cfef, Cond.initialized RJ1, Cond.code yJ1_indexOf_4cfef cJ1_indexOf_4cfef 4 (some .int), Cond.methodLink RJ1 92 Lib.Math.max.name, Cond.static Lib.Math.max.name, Cond.initialized "java/lang/Math", Cond.code Lib.Math.max.name Lib.Math.max.code 2 (some .int), Cond.methodLink RJ1 38 Lib.Math.min.name, Cond.static Lib.Math.min.name, Cond.code Lib.Math.min.name Lib.Math.min.code 2 (some .int), Cond.methodLink RJ1 88 yJ1_canEncode_9a6ad, Cond.static yJ1_canEncode_9a6ad, Cond.code yJ1_canEncode_9a6ad cJ1_canEncode_9a6ad 1 (some .boolean)]
def wsX4_findFault_r3 : List Cond := [Cond.methodLink RJ1 95 yJ1_indexOfChar_4cfef, Cond.static yJ1_indexOfChar_4cfef, Cond.code yJ1_indexOfChar_4cfef cJ1_indexOfChar_4cfef 6 (some .int), Cond.methodLink RJ0 640 yJ2_indexOf_4cfef, Cond.static yJ2_indexOf_4cfef, Cond.initialized RJ2, Cond.code yJ2_indexOf_4cfef cJ2_indexOf_4cfef 4 (some .int), Cond.methodLink RJ2 224 Lib.Math.max.name, Cond.methodLink RJ2 183 Lib.Math.min.name, Cond.constant RJ2 227 (65536), Cond.methodLink RJ2 228 yJ2_indexOfChar_4cfef, Cond.static yJ2_indexOfChar_4cfef, Cond.code yJ2_indexOfChar_4cfef cJ2_indexOfChar_4cfef 4 (some .int), Cond.methodLink RJ2 96 yJ2_checkBoundsBeginEnd_d044e, Cond.static yJ2_checkBoundsBeginEnd_d044e, Cond.code yJ2_checkBoundsBeginEnd_d044e cJ2_checkBoundsBeginEnd_d044e 3 none, Cond.methodLink RJ2 48 yJ2_length_9d52b, Cond.static yJ2_length_9d52b, Cond.code yJ2_length_9d52b cJ2_length_9d52b 1 (some .int), Cond.methodLink RJ2 241 yJ0_checkBoundsBeginEnd_23922, Cond.static yJ0_checkBoundsBeginEnd_23922, Cond.code yJ0_checkBoundsBeginEnd_23922 cJ0_checkBoundsBeginEnd_23922 3 none, Cond.fieldLink RJ0 1053 "jdk/internal/util/Preconditions" "SIOOBE_FORMATTER" "Ljava/util/function/BiFunction;", Cond.methodLink RJ0 1062 yJ3_checkFromToIndex_8c36e]
def wsX4_findFault_r4 : List Cond := [Cond.static yJ3_checkFromToIndex_8c36e, Cond.initialized RJ3, Cond.code yJ3_checkFromToIndex_8c36e cJ3_checkFromToIndex_8c36e 4 (some .int), Cond.methodLink RJ2 244 yJ2_indexOfCharUnsafe_4cfef, Cond.static yJ2_indexOfCharUnsafe_4cfef, Cond.code yJ2_indexOfCharUnsafe_4cfef cJ2_indexOfCharUnsafe_4cfef 5 (some .int), Cond.methodLink RJ2 71 yJ2_getChar_3b067, Cond.static yJ2_getChar_3b067, Cond.code yJ2_getChar_3b067 cJ2_getChar_3b067 2 (some .char), Cond.fieldLink RJ2 44 "java/lang/StringUTF16" "$assertionsDisabled" "Z", Cond.fieldLink RJ2 59 "java/lang/StringUTF16" "HI_BYTE_SHIFT" "I", Cond.fieldLink RJ2 63 "java/lang/StringUTF16" "LO_BYTE_SHIFT" "I", Cond.methodLink RJ2 232 yJ2_indexOfSupplementary_4cfef, Cond.static yJ2_indexOfSupplementary_4cfef, Cond.code yJ2_indexOfSupplementary_4cfef cJ2_indexOfSupplementary_4cfef 7 (some .int), Cond.methodLink RJ2 164 yJ11_isValidCodePoint_9a6ad, Cond.static yJ11_isValidCodePoint_9a6ad, Cond.initialized RJ11, Cond.code yJ11_isValidCodePoint_9a6ad cJ11_isValidCodePoint_9a6ad 2 (some .boolean), Cond.methodLink RJ2 157 yJ11_highSurrogate_5068e, Cond.static yJ11_highSurrogate_5068e, Cond.code yJ11_highSurrogate_5068e cJ11_highSurrogate_5068e 1 (some .char), Cond.constant RJ11 110 (55232), Cond.methodLink RJ2 161 yJ11_lowSurrogate_5068e]
def wsX4_findFault_r5 : List Cond := [Cond.static yJ11_lowSurrogate_5068e, Cond.code yJ11_lowSurrogate_5068e cJ11_lowSurrogate_5068e 1 (some .char), Cond.constant RJ11 76 (56320), Cond.methodLink RX4 49 yX4_beginRow, Cond.instanceMethod yX4_beginRow, Cond.selects RX4 yX4_beginRow yX4_beginRow, Cond.code yX4_beginRow cX4_beginRow 2 none, Cond.fieldLink RX4 18 "BarrelProcessor$Text" "instructions" "LBarrelProcessor$Instructions;", Cond.fieldLink RX4 64 "BarrelProcessor$Text" "operandCount" "I", Cond.methodLink RX4 53 yX4_readOperands, Cond.instanceMethod yX4_readOperands, Cond.selects RX4 yX4_readOperands yX4_readOperands, Cond.code yX4_readOperands cX4_readOperands 2 (some .boolean), Cond.methodLink RX4 67 yX4_readRegister, Cond.instanceMethod yX4_readRegister, Cond.selects RX4 yX4_readRegister yX4_readRegister, Cond.code yX4_readRegister cX4_readRegister 1 (some .boolean), Cond.methodLink RX4 80 yX4_isDigit, Cond.instanceMethod yX4_isDigit, Cond.selects RX4 yX4_isDigit yX4_isDigit, Cond.code yX4_isDigit cX4_isDigit 3 (some .boolean), Cond.static yX6_isWithin, Cond.initialized RX6, Cond.code yX6_isWithin cX6_isWithin 3 (some .boolean)]
def wsX4_findFault_r6 : List Cond := [Cond.methodLink RX4 84 yX4_takeDigit, Cond.instanceMethod yX4_takeDigit, Cond.selects RX4 yX4_takeDigit yX4_takeDigit, Cond.code yX4_takeDigit cX4_takeDigit 2 (some .int), Cond.methodLink RX4 88 yX4_keepOperand, Cond.instanceMethod yX4_keepOperand, Cond.selects RX4 yX4_keepOperand yX4_keepOperand, Cond.code yX4_keepOperand cX4_keepOperand 2 none, Cond.methodLink RX4 36 yX4_readSign, Cond.instanceMethod yX4_readSign, Cond.selects RX4 yX4_readSign yX4_readSign, Cond.code yX4_readSign cX4_readSign 2 (some .boolean), Cond.methodLink RX4 70 yX4_readNumber, Cond.instanceMethod yX4_readNumber, Cond.selects RX4 yX4_readNumber yX4_readNumber, Cond.code yX4_readNumber cX4_readNumber 3 (some .boolean), Cond.methodLink RX4 73 yX4_readPlace, Cond.instanceMethod yX4_readPlace, Cond.selects RX4 yX4_readPlace yX4_readPlace, Cond.code yX4_readPlace cX4_readPlace 3 (some .boolean), Cond.methodLink RX4 91 Lib.Math.min.name]
def wsX4_findFault : List Cond := .code yX4_findFault cX4_findFault 3 (some .int) :: ((wsX4_findFault_r1 ++ (wsX4_findFault_r2 ++ (wsX4_findFault_r3 ++ (wsX4_findFault_r4 ++ (wsX4_findFault_r5 ++ wsX4_findFault_r6))))) ++ wsX40 ++ wsX20)
def wsX5_lookUp : List Cond := .code yX5_lookUp cX5_lookUp 4 (some .int) :: ([.fieldLink RX5 19 "BarrelProcessor$Trace" "count" "I", .constant RX5 28 (-100005), .fieldLink RX5 15 "BarrelProcessor$Trace" "next" "I", .fieldLink RX5 11 "BarrelProcessor$Trace" "parts" "[I"] ++ wsX50)
def wsX6_init_r1 : List Cond := [Cond.methodLink RX6 1 objectInit, Cond.instanceMethod objectInit, Cond.code objectInit ⟨#[0xb1]⟩ 1 none, Cond.classLink RX6 7 RX3, Cond.instantiable RX3 9, Cond.initialized RX3, Cond.fieldLink RX6 10 "BarrelProcessor" "machine" "LBarrelProcessor$Machine;", Cond.fieldLink RX6 16 "BarrelProcessor" "trial" "LBarrelProcessor$Machine;", Cond.classLink RX6 19 RX1, Cond.instantiable RX1 3, Cond.initialized RX1, Cond.fieldLink RX6 22 "BarrelProcessor" "history" "LBarrelProcessor$History;", Cond.classLink RX6 26 RX4, Cond.instantiable RX4 6, Cond.initialized RX4, Cond.fieldLink RX6 29 "BarrelProcessor" "text" "LBarrelProcessor$Text;", Cond.methodLink RX6 9 yX3_init, Cond.instanceMethod yX3_init, Cond.code yX3_init cX3_init 2 none, Cond.methodLink RX3 3 objectInit, Cond.classLink RX3 9 RX0, Cond.fieldLink RX3 11 "BarrelProcessor$Machine" "threads" "[LBarrelProcessor$HardwareThread;", Cond.classLink RX3 17 RX2, Cond.instantiable RX2 2]
def wsX6_init_r2 : List Cond := [Cond.initialized RX2, Cond.fieldLink RX3 20 "BarrelProcessor$Machine" "program" "LBarrelProcessor$Instructions;", Cond.arrayClass .int, Cond.fieldLink RX3 24 "BarrelProcessor$Machine" "breakpoints" "[I", Cond.fieldLink RX3 28 "BarrelProcessor$Machine" "words" "[I", Cond.fieldLink RX3 31 "BarrelProcessor$Machine" "slots" "[I", Cond.fieldLink RX3 34 "BarrelProcessor$Machine" "settings" "[I", Cond.classLink RX3 37 RX5, Cond.instantiable RX5 3, Cond.initialized RX5, Cond.fieldLink RX3 40 "BarrelProcessor$Machine" "trace" "LBarrelProcessor$Trace;", Cond.instantiable RX0 11, Cond.initialized RX0, Cond.methodLink RX3 19 yX2_init, Cond.instanceMethod yX2_init, Cond.code yX2_init cX2_init 1 none, Cond.methodLink RX2 3 objectInit, Cond.fieldLink RX2 11 "BarrelProcessor$Instructions" "operations" "[I", Cond.fieldLink RX2 15 "BarrelProcessor$Instructions" "operands" "[I", Cond.constant RX2 24 (-100005), Cond.methodLink RX2 18 yJ7_fill_53178, Cond.static yJ7_fill_53178, Cond.initialized RJ7, Cond.code yJ7_fill_53178 cJ7_fill_53178 4 none]
def wsX6_init_r3 : List Cond := [Cond.instanceMethod yX5_init, Cond.code yX5_init cX5_init 1 none, Cond.methodLink RX5 3 objectInit, Cond.fieldLink RX5 11 "BarrelProcessor$Trace" "parts" "[I", Cond.instanceMethod yX0_init, Cond.code yX0_init cX0_init 1 none, Cond.methodLink RX0 3 objectInit, Cond.fieldLink RX0 9 "BarrelProcessor$HardwareThread" "registers" "[I", Cond.fieldLink RX0 15 "BarrelProcessor$HardwareThread" "state" "I", Cond.fieldLink RX0 19 "BarrelProcessor$HardwareThread" "lastIssue" "I", Cond.methodLink RX6 21 yX1_init, Cond.instanceMethod yX1_init, Cond.code yX1_init cX1_init 2 none, Cond.methodLink RX1 3 objectInit, Cond.classLink RX1 11 RX3, Cond.fieldLink RX1 13 "BarrelProcessor$History" "states" "[LBarrelProcessor$Machine;", Cond.methodLink RX1 17 yX3_init, Cond.instanceMethod yX4_init, Cond.code yX4_init cX4_init 1 none, Cond.methodLink RX4 3 objectInit, Cond.arrayClass .char, Cond.fieldLink RX4 11 "BarrelProcessor$Text" "characters" "[C", Cond.classLink RX4 15 RX2, Cond.fieldLink RX4 18 "BarrelProcessor$Text" "instructions" "LBarrelProcessor$Instructions;"]
def wsX6_init_r4 : List Cond := [Cond.methodLink RX4 17 yX2_init]
def wsX6_init : List Cond := .code yX6_init cX6_init 1 none :: ((wsX6_init_r1 ++ (wsX6_init_r2 ++ (wsX6_init_r3 ++ wsX6_init_r4))) ++ wsX30 ++ wsX60 ++ wsX10 ++ wsX40 ++ wsX20 ++ wsX50 ++ wsX00)
def wsX6_assemble_r1 : List Cond := [Cond.constant RX6 37 (-100001), Cond.fieldLink RX6 29 "BarrelProcessor" "text" "LBarrelProcessor$Text;", Cond.constant RX6 42 (-100005), Cond.constant RX6 43 (-100003), Cond.constant RX6 48 (-100004), Cond.fieldLink RX6 22 "BarrelProcessor" "history" "LBarrelProcessor$History;", Cond.fieldLink RX6 10 "BarrelProcessor" "machine" "LBarrelProcessor$Machine;", Cond.methodLink RX6 33 yX6_isPlace, Cond.static yX6_isPlace, Cond.initialized RX6, Cond.code yX6_isPlace cX6_isPlace 1 (some .boolean), Cond.methodLink RX6 115 yX6_isWithin, Cond.static yX6_isWithin, Cond.code yX6_isWithin cX6_isWithin 3 (some .boolean), Cond.methodLink RX6 38 yX4_findFault, Cond.instanceMethod yX4_findFault, Cond.selects RX4 yX4_findFault yX4_findFault, Cond.initialized RX4, Cond.code yX4_findFault cX4_findFault 3 (some .int), Cond.fieldLink RX4 26 "BarrelProcessor$Text" "position" "I", Cond.fieldLink RX4 29 "BarrelProcessor$Text" "instructionCount" "I", Cond.fieldLink RX4 22 "BarrelProcessor$Text" "length" "I", Cond.constant RX4 40 (-100005), Cond.methodLink RX4 32 yX4_readInstruction]
def wsX6_assemble_r2 : List Cond := [Cond.instanceMethod yX4_readInstruction, Cond.selects RX4 yX4_readInstruction yX4_readInstruction, Cond.code yX4_readInstruction cX4_readInstruction 2 (some .boolean), Cond.fieldLink RX4 11 "BarrelProcessor$Text" "characters" "[C", Cond.methodLink RX4 43 yJ0_indexOf_0f7a4, Cond.instanceMethod yJ0_indexOf_0f7a4, Cond.selects RJ0 yJ0_indexOf_0f7a4 yJ0_indexOf_0f7a4, Cond.initialized RJ0, Cond.code yJ0_indexOf_0f7a4 cJ0_indexOf_0f7a4 2 (some .int), Cond.methodLink RJ0 633 yJ0_indexOf_7cf53, Cond.instanceMethod yJ0_indexOf_7cf53, Cond.selects RJ0 yJ0_indexOf_7cf53 yJ0_indexOf_7cf53, Cond.code yJ0_indexOf_7cf53 cJ0_indexOf_7cf53 3 (some .int), Cond.fieldLink RJ0 9 "java/lang/String" "value" "[B", Cond.methodLink RJ0 492 yJ0_isLatin1_aae02, Cond.instanceMethod yJ0_isLatin1_aae02, Cond.selects RJ0 yJ0_isLatin1_aae02 yJ0_isLatin1_aae02, Cond.code yJ0_isLatin1_aae02 cJ0_isLatin1_aae02 1 (some .boolean), Cond.fieldLink RJ0 38 "java/lang/String" "COMPACT_STRINGS" "Z", Cond.fieldLink RJ0 15 "java/lang/String" "coder" "B", Cond.methodLink RJ0 505 yJ0_length_8abf5, Cond.instanceMethod yJ0_length_8abf5, Cond.selects RJ0 yJ0_length_8abf5 yJ0_length_8abf5, Cond.code yJ0_length_8abf5 cJ0_length_8abf5 1 (some .int)]
def wsX6_assemble_r3 : List Cond := [Cond.methodLink RJ0 335 yJ0_coder_7d493, Cond.instanceMethod yJ0_coder_7d493, Cond.selects RJ0 yJ0_coder_7d493 yJ0_coder_7d493, Cond.code yJ0_coder_7d493 cJ0_coder_7d493 1 (some .byte), Cond.methodLink RJ0 637 yJ1_indexOf_4cfef, Cond.static yJ1_indexOf_4cfef, Cond.initialized RJ1, Cond.code yJ1_indexOf_4cfef cJ1_indexOf_4cfef 4 (some .int), Cond.methodLink RJ1 92 Lib.Math.max.name, Cond.static Lib.Math.max.name, Cond.initialized "java/lang/Math", Cond.code Lib.Math.max.name Lib.Math.max.code 2 (some .int), Cond.methodLink RJ1 38 Lib.Math.min.name, Cond.static Lib.Math.min.name, Cond.code Lib.Math.min.name Lib.Math.min.code 2 (some .int), Cond.methodLink RJ1 88 yJ1_canEncode_9a6ad, Cond.static yJ1_canEncode_9a6ad, Cond.code yJ1_canEncode_9a6ad cJ1_canEncode_9a6ad 1 (some .boolean), Cond.methodLink RJ1 95 yJ1_indexOfChar_4cfef, Cond.static yJ1_indexOfChar_4cfef, Cond.code yJ1_indexOfChar_4cfef cJ1_indexOfChar_4cfef 6 (some .int), Cond.methodLink RJ0 640 yJ2_indexOf_4cfef, Cond.static yJ2_indexOf_4cfef, Cond.initialized RJ2]
def wsX6_assemble_r4 : List Cond := [Cond.code yJ2_indexOf_4cfef cJ2_indexOf_4cfef 4 (some .int), Cond.methodLink RJ2 224 Lib.Math.max.name, Cond.methodLink RJ2 183 Lib.Math.min.name, Cond.constant RJ2 227 (65536), Cond.methodLink RJ2 228 yJ2_indexOfChar_4cfef, Cond.static yJ2_indexOfChar_4cfef, Cond.code yJ2_indexOfChar_4cfef cJ2_indexOfChar_4cfef 4 (some .int), Cond.methodLink RJ2 96 yJ2_checkBoundsBeginEnd_d044e, Cond.static yJ2_checkBoundsBeginEnd_d044e, Cond.code yJ2_checkBoundsBeginEnd_d044e cJ2_checkBoundsBeginEnd_d044e 3 none, Cond.methodLink RJ2 48 yJ2_length_9d52b, Cond.static yJ2_length_9d52b, Cond.code yJ2_length_9d52b cJ2_length_9d52b 1 (some .int), Cond.methodLink RJ2 241 yJ0_checkBoundsBeginEnd_23922, Cond.static yJ0_checkBoundsBeginEnd_23922, Cond.code yJ0_checkBoundsBeginEnd_23922 cJ0_checkBoundsBeginEnd_23922 3 none, Cond.fieldLink RJ0 1053 "jdk/internal/util/Preconditions" "SIOOBE_FORMATTER" "Ljava/util/function/BiFunction;", Cond.methodLink RJ0 1062 yJ3_checkFromToIndex_8c36e, Cond.static yJ3_checkFromToIndex_8c36e, Cond.initialized RJ3, Cond.code yJ3_checkFromToIndex_8c36e cJ3_checkFromToIndex_8c36e 4 (some .int), Cond.methodLink RJ2 244 yJ2_indexOfCharUnsafe_4cfef, Cond.static yJ2_indexOfCharUnsafe_4cfef, Cond.code yJ2_indexOfCharUnsafe_4cfef cJ2_indexOfCharUnsafe_4cfef 5 (some .int)]
def wsX6_assemble_r5 : List Cond := [Cond.methodLink RJ2 71 yJ2_getChar_3b067, Cond.static yJ2_getChar_3b067, Cond.code yJ2_getChar_3b067 cJ2_getChar_3b067 2 (some .char), Cond.fieldLink RJ2 44 "java/lang/StringUTF16" "$assertionsDisabled" "Z", Cond.fieldLink RJ2 59 "java/lang/StringUTF16" "HI_BYTE_SHIFT" "I", Cond.fieldLink RJ2 63 "java/lang/StringUTF16" "LO_BYTE_SHIFT" "I", Cond.methodLink RJ2 232 yJ2_indexOfSupplementary_4cfef, Cond.static yJ2_indexOfSupplementary_4cfef, Cond.code yJ2_indexOfSupplementary_4cfef cJ2_indexOfSupplementary_4cfef 7 (some .int), Cond.methodLink RJ2 164 yJ11_isValidCodePoint_9a6ad, Cond.static yJ11_isValidCodePoint_9a6ad, Cond.initialized RJ11, Cond.code yJ11_isValidCodePoint_9a6ad cJ11_isValidCodePoint_9a6ad 2 (some .boolean), Cond.methodLink RJ2 157 yJ11_highSurrogate_5068e, Cond.static yJ11_highSurrogate_5068e, Cond.code yJ11_highSurrogate_5068e cJ11_highSurrogate_5068e 1 (some .char), Cond.constant RJ11 110 (55232), Cond.methodLink RJ2 161 yJ11_lowSurrogate_5068e, Cond.static yJ11_lowSurrogate_5068e, Cond.code yJ11_lowSurrogate_5068e cJ11_lowSurrogate_5068e 1 (some .char), Cond.constant RJ11 76 (56320), Cond.methodLink RX4 49 yX4_beginRow, Cond.instanceMethod yX4_beginRow, Cond.selects RX4 yX4_beginRow yX4_beginRow]
def wsX6_assemble_r6 : List Cond := [Cond.code yX4_beginRow cX4_beginRow 2 none, Cond.fieldLink RX4 18 "BarrelProcessor$Text" "instructions" "LBarrelProcessor$Instructions;", Cond.fieldLink RX4 64 "BarrelProcessor$Text" "operandCount" "I", Cond.methodLink RX4 53 yX4_readOperands, Cond.instanceMethod yX4_readOperands, Cond.selects RX4 yX4_readOperands yX4_readOperands, Cond.code yX4_readOperands cX4_readOperands 2 (some .boolean), Cond.methodLink RX4 67 yX4_readRegister, Cond.instanceMethod yX4_readRegister, Cond.selects RX4 yX4_readRegister yX4_readRegister, Cond.code yX4_readRegister cX4_readRegister 1 (some .boolean), Cond.methodLink RX4 80 yX4_isDigit, Cond.instanceMethod yX4_isDigit, Cond.selects RX4 yX4_isDigit yX4_isDigit, Cond.code yX4_isDigit cX4_isDigit 3 (some .boolean), Cond.methodLink RX4 84 yX4_takeDigit, Cond.instanceMethod yX4_takeDigit, Cond.selects RX4 yX4_takeDigit yX4_takeDigit, Cond.code yX4_takeDigit cX4_takeDigit 2 (some .int), Cond.methodLink RX4 88 yX4_keepOperand, Cond.instanceMethod yX4_keepOperand, Cond.selects RX4 yX4_keepOperand yX4_keepOperand, Cond.code yX4_keepOperand cX4_keepOperand 2 none, Cond.methodLink RX4 36 yX4_readSign]
def wsX6_assemble_r7 : List Cond := [Cond.instanceMethod yX4_readSign, Cond.selects RX4 yX4_readSign yX4_readSign, Cond.code yX4_readSign cX4_readSign 2 (some .boolean), Cond.methodLink RX4 70 yX4_readNumber, Cond.instanceMethod yX4_readNumber, Cond.selects RX4 yX4_readNumber yX4_readNumber, Cond.code yX4_readNumber cX4_readNumber 3 (some .boolean), Cond.methodLink RX4 73 yX4_readPlace, Cond.instanceMethod yX4_readPlace, Cond.selects RX4 yX4_readPlace yX4_readPlace, Cond.code yX4_readPlace cX4_readPlace 3 (some .boolean), Cond.methodLink RX4 91 Lib.Math.min.name, Cond.methodLink RX6 49 yX1_remember, Cond.instanceMethod yX1_remember, Cond.selects RX1 yX1_remember yX1_remember, Cond.initialized RX1, Cond.code yX1_remember cX1_remember 2 none, Cond.fieldLink RX1 13 "BarrelProcessor$History" "states" "[LBarrelProcessor$Machine;", Cond.fieldLink RX1 18 "BarrelProcessor$History" "next" "I", Cond.fieldLink RX1 26 "BarrelProcessor$History" "count" "I", Cond.methodLink RX1 29 Lib.Math.min.name, Cond.methodLink RX1 22 yX3_copyFrom, Cond.instanceMethod yX3_copyFrom, Cond.selects RX3 yX3_copyFrom yX3_copyFrom]
def wsX6_assemble_r8 : List Cond := [Cond.initialized RX3, Cond.code yX3_copyFrom cX3_copyFrom 3 none, Cond.fieldLink RX3 11 "BarrelProcessor$Machine" "threads" "[LBarrelProcessor$HardwareThread;", Cond.fieldLink RX3 20 "BarrelProcessor$Machine" "program" "LBarrelProcessor$Instructions;", Cond.fieldLink RX3 24 "BarrelProcessor$Machine" "breakpoints" "[I", Cond.methodLink RX3 53 arraycopyName, Cond.native arraycopyName, Cond.static arraycopyName, Cond.initialized "java/lang/System", Cond.fieldLink RX3 28 "BarrelProcessor$Machine" "words" "[I", Cond.fieldLink RX3 31 "BarrelProcessor$Machine" "slots" "[I", Cond.fieldLink RX3 34 "BarrelProcessor$Machine" "settings" "[I", Cond.fieldLink RX3 40 "BarrelProcessor$Machine" "trace" "LBarrelProcessor$Trace;", Cond.fieldLink RX3 62 "BarrelProcessor$Machine" "cycle" "I", Cond.fieldLink RX3 66 "BarrelProcessor$Machine" "idle" "I", Cond.methodLink RX3 45 yX0_copyFrom, Cond.instanceMethod yX0_copyFrom, Cond.selects RX0 yX0_copyFrom yX0_copyFrom, Cond.initialized RX0, Cond.code yX0_copyFrom cX0_copyFrom 2 none, Cond.fieldLink RX0 9 "BarrelProcessor$HardwareThread" "registers" "[I", Cond.methodLink RX0 52 arraycopyName, Cond.fieldLink RX0 15 "BarrelProcessor$HardwareThread" "state" "I", Cond.fieldLink RX0 28 "BarrelProcessor$HardwareThread" "programCounter" "I"]
def wsX6_assemble_r9 : List Cond := [Cond.fieldLink RX0 34 "BarrelProcessor$HardwareThread" "loadRegister" "I", Cond.fieldLink RX0 37 "BarrelProcessor$HardwareThread" "loadWord" "I", Cond.fieldLink RX0 40 "BarrelProcessor$HardwareThread" "loadDue" "I", Cond.fieldLink RX0 19 "BarrelProcessor$HardwareThread" "lastIssue" "I", Cond.fieldLink RX0 58 "BarrelProcessor$HardwareThread" "executed" "I", Cond.fieldLink RX0 61 "BarrelProcessor$HardwareThread" "lent" "I", Cond.fieldLink RX0 31 "BarrelProcessor$HardwareThread" "starvedNow" "I", Cond.fieldLink RX0 43 "BarrelProcessor$HardwareThread" "longestStarved" "I", Cond.methodLink RX3 49 yX2_copyRows, Cond.instanceMethod yX2_copyRows, Cond.selects RX2 yX2_copyRows yX2_copyRows, Cond.initialized RX2, Cond.code yX2_copyRows cX2_copyRows 4 none, Cond.fieldLink RX2 11 "BarrelProcessor$Instructions" "operations" "[I", Cond.methodLink RX2 25 arraycopyName, Cond.fieldLink RX2 15 "BarrelProcessor$Instructions" "operands" "[I", Cond.methodLink RX3 59 yX5_copyFrom, Cond.instanceMethod yX5_copyFrom, Cond.selects RX5 yX5_copyFrom yX5_copyFrom, Cond.initialized RX5, Cond.code yX5_copyFrom cX5_copyFrom 2 none, Cond.fieldLink RX5 11 "BarrelProcessor$Trace" "parts" "[I", Cond.methodLink RX5 29 arraycopyName, Cond.fieldLink RX5 15 "BarrelProcessor$Trace" "next" "I"]
def wsX6_assemble_r10 : List Cond := [Cond.fieldLink RX5 19 "BarrelProcessor$Trace" "count" "I", Cond.methodLink RX6 60 yX2_copyRows]
def wsX6_assemble : List Cond := .code yX6_assemble cX6_assemble 3 (some .int) :: ((wsX6_assemble_r1 ++ (wsX6_assemble_r2 ++ (wsX6_assemble_r3 ++ (wsX6_assemble_r4 ++ (wsX6_assemble_r5 ++ (wsX6_assemble_r6 ++ (wsX6_assemble_r7 ++ (wsX6_assemble_r8 ++ (wsX6_assemble_r9 ++ wsX6_assemble_r10))))))))) ++ wsX60 ++ wsX40 ++ wsX30 ++ wsX20 ++ wsX10 ++ wsX00 ++ wsX50)
def wsX6_start_r1 : List Cond := [Cond.constant RX6 37 (-100001), Cond.fieldLink RX6 22 "BarrelProcessor" "history" "LBarrelProcessor$History;", Cond.fieldLink RX6 10 "BarrelProcessor" "machine" "LBarrelProcessor$Machine;", Cond.methodLink RX6 66 yX6_isThread, Cond.static yX6_isThread, Cond.initialized RX6, Cond.code yX6_isThread cX6_isThread 1 (some .boolean), Cond.methodLink RX6 115 yX6_isWithin, Cond.static yX6_isWithin, Cond.code yX6_isWithin cX6_isWithin 3 (some .boolean), Cond.methodLink RX6 33 yX6_isPlace, Cond.static yX6_isPlace, Cond.code yX6_isPlace cX6_isPlace 1 (some .boolean), Cond.methodLink RX6 49 yX1_remember, Cond.instanceMethod yX1_remember, Cond.selects RX1 yX1_remember yX1_remember, Cond.initialized RX1, Cond.code yX1_remember cX1_remember 2 none, Cond.fieldLink RX1 13 "BarrelProcessor$History" "states" "[LBarrelProcessor$Machine;", Cond.fieldLink RX1 18 "BarrelProcessor$History" "next" "I", Cond.fieldLink RX1 26 "BarrelProcessor$History" "count" "I", Cond.methodLink RX1 29 Lib.Math.min.name, Cond.static Lib.Math.min.name, Cond.initialized "java/lang/Math"]
def wsX6_start_r2 : List Cond := [Cond.code Lib.Math.min.name Lib.Math.min.code 2 (some .int), Cond.methodLink RX1 22 yX3_copyFrom, Cond.instanceMethod yX3_copyFrom, Cond.selects RX3 yX3_copyFrom yX3_copyFrom, Cond.initialized RX3, Cond.code yX3_copyFrom cX3_copyFrom 3 none, Cond.fieldLink RX3 11 "BarrelProcessor$Machine" "threads" "[LBarrelProcessor$HardwareThread;", Cond.fieldLink RX3 20 "BarrelProcessor$Machine" "program" "LBarrelProcessor$Instructions;", Cond.fieldLink RX3 24 "BarrelProcessor$Machine" "breakpoints" "[I", Cond.methodLink RX3 53 arraycopyName, Cond.native arraycopyName, Cond.static arraycopyName, Cond.initialized "java/lang/System", Cond.fieldLink RX3 28 "BarrelProcessor$Machine" "words" "[I", Cond.fieldLink RX3 31 "BarrelProcessor$Machine" "slots" "[I", Cond.fieldLink RX3 34 "BarrelProcessor$Machine" "settings" "[I", Cond.fieldLink RX3 40 "BarrelProcessor$Machine" "trace" "LBarrelProcessor$Trace;", Cond.fieldLink RX3 62 "BarrelProcessor$Machine" "cycle" "I", Cond.fieldLink RX3 66 "BarrelProcessor$Machine" "idle" "I", Cond.methodLink RX3 45 yX0_copyFrom, Cond.instanceMethod yX0_copyFrom, Cond.selects RX0 yX0_copyFrom yX0_copyFrom, Cond.initialized RX0, Cond.code yX0_copyFrom cX0_copyFrom 2 none]
def wsX6_start_r3 : List Cond := [Cond.fieldLink RX0 9 "BarrelProcessor$HardwareThread" "registers" "[I", Cond.methodLink RX0 52 arraycopyName, Cond.fieldLink RX0 15 "BarrelProcessor$HardwareThread" "state" "I", Cond.fieldLink RX0 28 "BarrelProcessor$HardwareThread" "programCounter" "I", Cond.fieldLink RX0 34 "BarrelProcessor$HardwareThread" "loadRegister" "I", Cond.fieldLink RX0 37 "BarrelProcessor$HardwareThread" "loadWord" "I", Cond.fieldLink RX0 40 "BarrelProcessor$HardwareThread" "loadDue" "I", Cond.fieldLink RX0 19 "BarrelProcessor$HardwareThread" "lastIssue" "I", Cond.fieldLink RX0 58 "BarrelProcessor$HardwareThread" "executed" "I", Cond.fieldLink RX0 61 "BarrelProcessor$HardwareThread" "lent" "I", Cond.fieldLink RX0 31 "BarrelProcessor$HardwareThread" "starvedNow" "I", Cond.fieldLink RX0 43 "BarrelProcessor$HardwareThread" "longestStarved" "I", Cond.methodLink RX3 49 yX2_copyRows, Cond.instanceMethod yX2_copyRows, Cond.selects RX2 yX2_copyRows yX2_copyRows, Cond.initialized RX2, Cond.code yX2_copyRows cX2_copyRows 4 none, Cond.fieldLink RX2 11 "BarrelProcessor$Instructions" "operations" "[I", Cond.methodLink RX2 25 arraycopyName, Cond.fieldLink RX2 15 "BarrelProcessor$Instructions" "operands" "[I", Cond.methodLink RX3 59 yX5_copyFrom, Cond.instanceMethod yX5_copyFrom, Cond.selects RX5 yX5_copyFrom yX5_copyFrom, Cond.initialized RX5]
def wsX6_start_r4 : List Cond := [Cond.code yX5_copyFrom cX5_copyFrom 2 none, Cond.fieldLink RX5 11 "BarrelProcessor$Trace" "parts" "[I", Cond.methodLink RX5 29 arraycopyName, Cond.fieldLink RX5 15 "BarrelProcessor$Trace" "next" "I", Cond.fieldLink RX5 19 "BarrelProcessor$Trace" "count" "I", Cond.methodLink RX6 78 yX0_startAt, Cond.instanceMethod yX0_startAt, Cond.selects RX0 yX0_startAt yX0_startAt, Cond.code yX0_startAt cX0_startAt 2 none, Cond.methodLink RX0 22 yJ7_fill_53178, Cond.static yJ7_fill_53178, Cond.initialized RJ7, Cond.code yJ7_fill_53178 cJ7_fill_53178 4 none]
def wsX6_start : List Cond := .code yX6_start cX6_start 4 (some .int) :: ((wsX6_start_r1 ++ (wsX6_start_r2 ++ (wsX6_start_r3 ++ wsX6_start_r4))) ++ wsX60 ++ wsX30 ++ wsX00 ++ wsX10 ++ wsX20 ++ wsX50)
def wsX6_halt_r1 : List Cond := [Cond.constant RX6 37 (-100001), Cond.fieldLink RX6 22 "BarrelProcessor" "history" "LBarrelProcessor$History;", Cond.fieldLink RX6 10 "BarrelProcessor" "machine" "LBarrelProcessor$Machine;", Cond.methodLink RX6 66 yX6_isThread, Cond.static yX6_isThread, Cond.initialized RX6, Cond.code yX6_isThread cX6_isThread 1 (some .boolean), Cond.methodLink RX6 115 yX6_isWithin, Cond.static yX6_isWithin, Cond.code yX6_isWithin cX6_isWithin 3 (some .boolean), Cond.methodLink RX6 49 yX1_remember, Cond.instanceMethod yX1_remember, Cond.selects RX1 yX1_remember yX1_remember, Cond.initialized RX1, Cond.code yX1_remember cX1_remember 2 none, Cond.fieldLink RX1 13 "BarrelProcessor$History" "states" "[LBarrelProcessor$Machine;", Cond.fieldLink RX1 18 "BarrelProcessor$History" "next" "I", Cond.fieldLink RX1 26 "BarrelProcessor$History" "count" "I", Cond.methodLink RX1 29 Lib.Math.min.name, Cond.static Lib.Math.min.name, Cond.initialized "java/lang/Math", Cond.code Lib.Math.min.name Lib.Math.min.code 2 (some .int), Cond.methodLink RX1 22 yX3_copyFrom, Cond.instanceMethod yX3_copyFrom]
def wsX6_halt_r2 : List Cond := [Cond.selects RX3 yX3_copyFrom yX3_copyFrom, Cond.initialized RX3, Cond.code yX3_copyFrom cX3_copyFrom 3 none, Cond.fieldLink RX3 11 "BarrelProcessor$Machine" "threads" "[LBarrelProcessor$HardwareThread;", Cond.fieldLink RX3 20 "BarrelProcessor$Machine" "program" "LBarrelProcessor$Instructions;", Cond.fieldLink RX3 24 "BarrelProcessor$Machine" "breakpoints" "[I", Cond.methodLink RX3 53 arraycopyName, Cond.native arraycopyName, Cond.static arraycopyName, Cond.initialized "java/lang/System", Cond.fieldLink RX3 28 "BarrelProcessor$Machine" "words" "[I", Cond.fieldLink RX3 31 "BarrelProcessor$Machine" "slots" "[I", Cond.fieldLink RX3 34 "BarrelProcessor$Machine" "settings" "[I", Cond.fieldLink RX3 40 "BarrelProcessor$Machine" "trace" "LBarrelProcessor$Trace;", Cond.fieldLink RX3 62 "BarrelProcessor$Machine" "cycle" "I", Cond.fieldLink RX3 66 "BarrelProcessor$Machine" "idle" "I", Cond.methodLink RX3 45 yX0_copyFrom, Cond.instanceMethod yX0_copyFrom, Cond.selects RX0 yX0_copyFrom yX0_copyFrom, Cond.initialized RX0, Cond.code yX0_copyFrom cX0_copyFrom 2 none, Cond.fieldLink RX0 9 "BarrelProcessor$HardwareThread" "registers" "[I", Cond.methodLink RX0 52 arraycopyName, Cond.fieldLink RX0 15 "BarrelProcessor$HardwareThread" "state" "I"]
def wsX6_halt_r3 : List Cond := [Cond.fieldLink RX0 28 "BarrelProcessor$HardwareThread" "programCounter" "I", Cond.fieldLink RX0 34 "BarrelProcessor$HardwareThread" "loadRegister" "I", Cond.fieldLink RX0 37 "BarrelProcessor$HardwareThread" "loadWord" "I", Cond.fieldLink RX0 40 "BarrelProcessor$HardwareThread" "loadDue" "I", Cond.fieldLink RX0 19 "BarrelProcessor$HardwareThread" "lastIssue" "I", Cond.fieldLink RX0 58 "BarrelProcessor$HardwareThread" "executed" "I", Cond.fieldLink RX0 61 "BarrelProcessor$HardwareThread" "lent" "I", Cond.fieldLink RX0 31 "BarrelProcessor$HardwareThread" "starvedNow" "I", Cond.fieldLink RX0 43 "BarrelProcessor$HardwareThread" "longestStarved" "I", Cond.methodLink RX3 49 yX2_copyRows, Cond.instanceMethod yX2_copyRows, Cond.selects RX2 yX2_copyRows yX2_copyRows, Cond.initialized RX2, Cond.code yX2_copyRows cX2_copyRows 4 none, Cond.fieldLink RX2 11 "BarrelProcessor$Instructions" "operations" "[I", Cond.methodLink RX2 25 arraycopyName, Cond.fieldLink RX2 15 "BarrelProcessor$Instructions" "operands" "[I", Cond.methodLink RX3 59 yX5_copyFrom, Cond.instanceMethod yX5_copyFrom, Cond.selects RX5 yX5_copyFrom yX5_copyFrom, Cond.initialized RX5, Cond.code yX5_copyFrom cX5_copyFrom 2 none, Cond.fieldLink RX5 11 "BarrelProcessor$Trace" "parts" "[I", Cond.methodLink RX5 29 arraycopyName]
def wsX6_halt_r4 : List Cond := [Cond.fieldLink RX5 15 "BarrelProcessor$Trace" "next" "I", Cond.fieldLink RX5 19 "BarrelProcessor$Trace" "count" "I", Cond.methodLink RX6 82 yX0_haltNow, Cond.instanceMethod yX0_haltNow, Cond.selects RX0 yX0_haltNow yX0_haltNow, Cond.code yX0_haltNow cX0_haltNow 1 none]
def wsX6_halt : List Cond := .code yX6_halt cX6_halt 3 (some .int) :: ((wsX6_halt_r1 ++ (wsX6_halt_r2 ++ (wsX6_halt_r3 ++ wsX6_halt_r4))) ++ wsX60 ++ wsX30 ++ wsX00 ++ wsX10 ++ wsX20 ++ wsX50)
def wsX6_isRegister : List Cond := .code yX6_isRegister cX6_isRegister 1 (some .boolean) :: ([.methodLink RX6 115 yX6_isWithin, .static yX6_isWithin, .initialized RX6, .code yX6_isWithin cX6_isWithin 3 (some .boolean)])
def wsX6_isValue : List Cond := .code yX6_isValue cX6_isValue 1 (some .boolean) :: ([.methodLink RX6 115 yX6_isWithin, .static yX6_isWithin, .initialized RX6, .code yX6_isWithin cX6_isWithin 3 (some .boolean)])
def wsX6_replace : List Cond := .code yX6_replace cX6_replace 4 (some .int) :: ([])
def wsX6_setRegister_r1 : List Cond := [Cond.constant RX6 37 (-100001), Cond.constant RX6 91 (-100002), Cond.fieldLink RX6 22 "BarrelProcessor" "history" "LBarrelProcessor$History;", Cond.fieldLink RX6 10 "BarrelProcessor" "machine" "LBarrelProcessor$Machine;", Cond.methodLink RX6 66 yX6_isThread, Cond.static yX6_isThread, Cond.initialized RX6, Cond.code yX6_isThread cX6_isThread 1 (some .boolean), Cond.methodLink RX6 115 yX6_isWithin, Cond.static yX6_isWithin, Cond.code yX6_isWithin cX6_isWithin 3 (some .boolean), Cond.methodLink RX6 85 yX6_isRegister, Cond.static yX6_isRegister, Cond.code yX6_isRegister cX6_isRegister 1 (some .boolean), Cond.methodLink RX6 88 yX6_isValue, Cond.static yX6_isValue, Cond.code yX6_isValue cX6_isValue 1 (some .boolean), Cond.methodLink RX6 49 yX1_remember, Cond.instanceMethod yX1_remember, Cond.selects RX1 yX1_remember yX1_remember, Cond.initialized RX1, Cond.code yX1_remember cX1_remember 2 none, Cond.fieldLink RX1 13 "BarrelProcessor$History" "states" "[LBarrelProcessor$Machine;", Cond.fieldLink RX1 18 "BarrelProcessor$History" "next" "I"]
def wsX6_setRegister_r2 : List Cond := [Cond.fieldLink RX1 26 "BarrelProcessor$History" "count" "I", Cond.methodLink RX1 29 Lib.Math.min.name, Cond.static Lib.Math.min.name, Cond.initialized "java/lang/Math", Cond.code Lib.Math.min.name Lib.Math.min.code 2 (some .int), Cond.methodLink RX1 22 yX3_copyFrom, Cond.instanceMethod yX3_copyFrom, Cond.selects RX3 yX3_copyFrom yX3_copyFrom, Cond.initialized RX3, Cond.code yX3_copyFrom cX3_copyFrom 3 none, Cond.fieldLink RX3 11 "BarrelProcessor$Machine" "threads" "[LBarrelProcessor$HardwareThread;", Cond.fieldLink RX3 20 "BarrelProcessor$Machine" "program" "LBarrelProcessor$Instructions;", Cond.fieldLink RX3 24 "BarrelProcessor$Machine" "breakpoints" "[I", Cond.methodLink RX3 53 arraycopyName, Cond.native arraycopyName, Cond.static arraycopyName, Cond.initialized "java/lang/System", Cond.fieldLink RX3 28 "BarrelProcessor$Machine" "words" "[I", Cond.fieldLink RX3 31 "BarrelProcessor$Machine" "slots" "[I", Cond.fieldLink RX3 34 "BarrelProcessor$Machine" "settings" "[I", Cond.fieldLink RX3 40 "BarrelProcessor$Machine" "trace" "LBarrelProcessor$Trace;", Cond.fieldLink RX3 62 "BarrelProcessor$Machine" "cycle" "I", Cond.fieldLink RX3 66 "BarrelProcessor$Machine" "idle" "I", Cond.methodLink RX3 45 yX0_copyFrom]
def wsX6_setRegister_r3 : List Cond := [Cond.instanceMethod yX0_copyFrom, Cond.selects RX0 yX0_copyFrom yX0_copyFrom, Cond.initialized RX0, Cond.code yX0_copyFrom cX0_copyFrom 2 none, Cond.fieldLink RX0 9 "BarrelProcessor$HardwareThread" "registers" "[I", Cond.methodLink RX0 52 arraycopyName, Cond.fieldLink RX0 15 "BarrelProcessor$HardwareThread" "state" "I", Cond.fieldLink RX0 28 "BarrelProcessor$HardwareThread" "programCounter" "I", Cond.fieldLink RX0 34 "BarrelProcessor$HardwareThread" "loadRegister" "I", Cond.fieldLink RX0 37 "BarrelProcessor$HardwareThread" "loadWord" "I", Cond.fieldLink RX0 40 "BarrelProcessor$HardwareThread" "loadDue" "I", Cond.fieldLink RX0 19 "BarrelProcessor$HardwareThread" "lastIssue" "I", Cond.fieldLink RX0 58 "BarrelProcessor$HardwareThread" "executed" "I", Cond.fieldLink RX0 61 "BarrelProcessor$HardwareThread" "lent" "I", Cond.fieldLink RX0 31 "BarrelProcessor$HardwareThread" "starvedNow" "I", Cond.fieldLink RX0 43 "BarrelProcessor$HardwareThread" "longestStarved" "I", Cond.methodLink RX3 49 yX2_copyRows, Cond.instanceMethod yX2_copyRows, Cond.selects RX2 yX2_copyRows yX2_copyRows, Cond.initialized RX2, Cond.code yX2_copyRows cX2_copyRows 4 none, Cond.fieldLink RX2 11 "BarrelProcessor$Instructions" "operations" "[I", Cond.methodLink RX2 25 arraycopyName, Cond.fieldLink RX2 15 "BarrelProcessor$Instructions" "operands" "[I"]
def wsX6_setRegister_r4 : List Cond := [Cond.methodLink RX3 59 yX5_copyFrom, Cond.instanceMethod yX5_copyFrom, Cond.selects RX5 yX5_copyFrom yX5_copyFrom, Cond.initialized RX5, Cond.code yX5_copyFrom cX5_copyFrom 2 none, Cond.fieldLink RX5 11 "BarrelProcessor$Trace" "parts" "[I", Cond.methodLink RX5 29 arraycopyName, Cond.fieldLink RX5 15 "BarrelProcessor$Trace" "next" "I", Cond.fieldLink RX5 19 "BarrelProcessor$Trace" "count" "I", Cond.methodLink RX6 96 yX6_replace, Cond.static yX6_replace, Cond.code yX6_replace cX6_replace 4 (some .int)]
def wsX6_setRegister : List Cond := .code yX6_setRegister cX6_setRegister 4 (some .int) :: ((wsX6_setRegister_r1 ++ (wsX6_setRegister_r2 ++ (wsX6_setRegister_r3 ++ wsX6_setRegister_r4))) ++ wsX60 ++ wsX30 ++ wsX00 ++ wsX10 ++ wsX20 ++ wsX50)
def wsX6_isWord : List Cond := .code yX6_isWord cX6_isWord 1 (some .boolean) :: ([.methodLink RX6 115 yX6_isWithin, .static yX6_isWithin, .initialized RX6, .code yX6_isWithin cX6_isWithin 3 (some .boolean)])
def wsX6_setWord_r1 : List Cond := [Cond.constant RX6 37 (-100001), Cond.constant RX6 91 (-100002), Cond.fieldLink RX6 22 "BarrelProcessor" "history" "LBarrelProcessor$History;", Cond.fieldLink RX6 10 "BarrelProcessor" "machine" "LBarrelProcessor$Machine;", Cond.methodLink RX6 100 yX6_isWord, Cond.static yX6_isWord, Cond.initialized RX6, Cond.code yX6_isWord cX6_isWord 1 (some .boolean), Cond.methodLink RX6 115 yX6_isWithin, Cond.static yX6_isWithin, Cond.code yX6_isWithin cX6_isWithin 3 (some .boolean), Cond.methodLink RX6 88 yX6_isValue, Cond.static yX6_isValue, Cond.code yX6_isValue cX6_isValue 1 (some .boolean), Cond.methodLink RX6 49 yX1_remember, Cond.instanceMethod yX1_remember, Cond.selects RX1 yX1_remember yX1_remember, Cond.initialized RX1, Cond.code yX1_remember cX1_remember 2 none, Cond.fieldLink RX1 13 "BarrelProcessor$History" "states" "[LBarrelProcessor$Machine;", Cond.fieldLink RX1 18 "BarrelProcessor$History" "next" "I", Cond.fieldLink RX1 26 "BarrelProcessor$History" "count" "I", Cond.methodLink RX1 29 Lib.Math.min.name, Cond.static Lib.Math.min.name]
def wsX6_setWord_r2 : List Cond := [Cond.initialized "java/lang/Math", Cond.code Lib.Math.min.name Lib.Math.min.code 2 (some .int), Cond.methodLink RX1 22 yX3_copyFrom, Cond.instanceMethod yX3_copyFrom, Cond.selects RX3 yX3_copyFrom yX3_copyFrom, Cond.initialized RX3, Cond.code yX3_copyFrom cX3_copyFrom 3 none, Cond.fieldLink RX3 11 "BarrelProcessor$Machine" "threads" "[LBarrelProcessor$HardwareThread;", Cond.fieldLink RX3 20 "BarrelProcessor$Machine" "program" "LBarrelProcessor$Instructions;", Cond.fieldLink RX3 24 "BarrelProcessor$Machine" "breakpoints" "[I", Cond.methodLink RX3 53 arraycopyName, Cond.native arraycopyName, Cond.static arraycopyName, Cond.initialized "java/lang/System", Cond.fieldLink RX3 28 "BarrelProcessor$Machine" "words" "[I", Cond.fieldLink RX3 31 "BarrelProcessor$Machine" "slots" "[I", Cond.fieldLink RX3 34 "BarrelProcessor$Machine" "settings" "[I", Cond.fieldLink RX3 40 "BarrelProcessor$Machine" "trace" "LBarrelProcessor$Trace;", Cond.fieldLink RX3 62 "BarrelProcessor$Machine" "cycle" "I", Cond.fieldLink RX3 66 "BarrelProcessor$Machine" "idle" "I", Cond.methodLink RX3 45 yX0_copyFrom, Cond.instanceMethod yX0_copyFrom, Cond.selects RX0 yX0_copyFrom yX0_copyFrom, Cond.initialized RX0]
def wsX6_setWord_r3 : List Cond := [Cond.code yX0_copyFrom cX0_copyFrom 2 none, Cond.fieldLink RX0 9 "BarrelProcessor$HardwareThread" "registers" "[I", Cond.methodLink RX0 52 arraycopyName, Cond.fieldLink RX0 15 "BarrelProcessor$HardwareThread" "state" "I", Cond.fieldLink RX0 28 "BarrelProcessor$HardwareThread" "programCounter" "I", Cond.fieldLink RX0 34 "BarrelProcessor$HardwareThread" "loadRegister" "I", Cond.fieldLink RX0 37 "BarrelProcessor$HardwareThread" "loadWord" "I", Cond.fieldLink RX0 40 "BarrelProcessor$HardwareThread" "loadDue" "I", Cond.fieldLink RX0 19 "BarrelProcessor$HardwareThread" "lastIssue" "I", Cond.fieldLink RX0 58 "BarrelProcessor$HardwareThread" "executed" "I", Cond.fieldLink RX0 61 "BarrelProcessor$HardwareThread" "lent" "I", Cond.fieldLink RX0 31 "BarrelProcessor$HardwareThread" "starvedNow" "I", Cond.fieldLink RX0 43 "BarrelProcessor$HardwareThread" "longestStarved" "I", Cond.methodLink RX3 49 yX2_copyRows, Cond.instanceMethod yX2_copyRows, Cond.selects RX2 yX2_copyRows yX2_copyRows, Cond.initialized RX2, Cond.code yX2_copyRows cX2_copyRows 4 none, Cond.fieldLink RX2 11 "BarrelProcessor$Instructions" "operations" "[I", Cond.methodLink RX2 25 arraycopyName, Cond.fieldLink RX2 15 "BarrelProcessor$Instructions" "operands" "[I", Cond.methodLink RX3 59 yX5_copyFrom, Cond.instanceMethod yX5_copyFrom, Cond.selects RX5 yX5_copyFrom yX5_copyFrom]
def wsX6_setWord_r4 : List Cond := [Cond.initialized RX5, Cond.code yX5_copyFrom cX5_copyFrom 2 none, Cond.fieldLink RX5 11 "BarrelProcessor$Trace" "parts" "[I", Cond.methodLink RX5 29 arraycopyName, Cond.fieldLink RX5 15 "BarrelProcessor$Trace" "next" "I", Cond.fieldLink RX5 19 "BarrelProcessor$Trace" "count" "I", Cond.methodLink RX6 96 yX6_replace, Cond.static yX6_replace, Cond.code yX6_replace cX6_replace 4 (some .int)]
def wsX6_setWord : List Cond := .code yX6_setWord cX6_setWord 3 (some .int) :: ((wsX6_setWord_r1 ++ (wsX6_setWord_r2 ++ (wsX6_setWord_r3 ++ wsX6_setWord_r4))) ++ wsX60 ++ wsX30 ++ wsX10 ++ wsX00 ++ wsX20 ++ wsX50)
def wsX6_isSlot : List Cond := .code yX6_isSlot cX6_isSlot 1 (some .boolean) :: ([.methodLink RX6 115 yX6_isWithin, .static yX6_isWithin, .initialized RX6, .code yX6_isWithin cX6_isWithin 3 (some .boolean)])
def wsX6_setSlot_r1 : List Cond := [Cond.constant RX6 37 (-100001), Cond.fieldLink RX6 22 "BarrelProcessor" "history" "LBarrelProcessor$History;", Cond.fieldLink RX6 10 "BarrelProcessor" "machine" "LBarrelProcessor$Machine;", Cond.methodLink RX6 106 yX6_isSlot, Cond.static yX6_isSlot, Cond.initialized RX6, Cond.code yX6_isSlot cX6_isSlot 1 (some .boolean), Cond.methodLink RX6 115 yX6_isWithin, Cond.static yX6_isWithin, Cond.code yX6_isWithin cX6_isWithin 3 (some .boolean), Cond.methodLink RX6 66 yX6_isThread, Cond.static yX6_isThread, Cond.code yX6_isThread cX6_isThread 1 (some .boolean), Cond.methodLink RX6 49 yX1_remember, Cond.instanceMethod yX1_remember, Cond.selects RX1 yX1_remember yX1_remember, Cond.initialized RX1, Cond.code yX1_remember cX1_remember 2 none, Cond.fieldLink RX1 13 "BarrelProcessor$History" "states" "[LBarrelProcessor$Machine;", Cond.fieldLink RX1 18 "BarrelProcessor$History" "next" "I", Cond.fieldLink RX1 26 "BarrelProcessor$History" "count" "I", Cond.methodLink RX1 29 Lib.Math.min.name, Cond.static Lib.Math.min.name, Cond.initialized "java/lang/Math"]
def wsX6_setSlot_r2 : List Cond := [Cond.code Lib.Math.min.name Lib.Math.min.code 2 (some .int), Cond.methodLink RX1 22 yX3_copyFrom, Cond.instanceMethod yX3_copyFrom, Cond.selects RX3 yX3_copyFrom yX3_copyFrom, Cond.initialized RX3, Cond.code yX3_copyFrom cX3_copyFrom 3 none, Cond.fieldLink RX3 11 "BarrelProcessor$Machine" "threads" "[LBarrelProcessor$HardwareThread;", Cond.fieldLink RX3 20 "BarrelProcessor$Machine" "program" "LBarrelProcessor$Instructions;", Cond.fieldLink RX3 24 "BarrelProcessor$Machine" "breakpoints" "[I", Cond.methodLink RX3 53 arraycopyName, Cond.native arraycopyName, Cond.static arraycopyName, Cond.initialized "java/lang/System", Cond.fieldLink RX3 28 "BarrelProcessor$Machine" "words" "[I", Cond.fieldLink RX3 31 "BarrelProcessor$Machine" "slots" "[I", Cond.fieldLink RX3 34 "BarrelProcessor$Machine" "settings" "[I", Cond.fieldLink RX3 40 "BarrelProcessor$Machine" "trace" "LBarrelProcessor$Trace;", Cond.fieldLink RX3 62 "BarrelProcessor$Machine" "cycle" "I", Cond.fieldLink RX3 66 "BarrelProcessor$Machine" "idle" "I", Cond.methodLink RX3 45 yX0_copyFrom, Cond.instanceMethod yX0_copyFrom, Cond.selects RX0 yX0_copyFrom yX0_copyFrom, Cond.initialized RX0, Cond.code yX0_copyFrom cX0_copyFrom 2 none]
def wsX6_setSlot_r3 : List Cond := [Cond.fieldLink RX0 9 "BarrelProcessor$HardwareThread" "registers" "[I", Cond.methodLink RX0 52 arraycopyName, Cond.fieldLink RX0 15 "BarrelProcessor$HardwareThread" "state" "I", Cond.fieldLink RX0 28 "BarrelProcessor$HardwareThread" "programCounter" "I", Cond.fieldLink RX0 34 "BarrelProcessor$HardwareThread" "loadRegister" "I", Cond.fieldLink RX0 37 "BarrelProcessor$HardwareThread" "loadWord" "I", Cond.fieldLink RX0 40 "BarrelProcessor$HardwareThread" "loadDue" "I", Cond.fieldLink RX0 19 "BarrelProcessor$HardwareThread" "lastIssue" "I", Cond.fieldLink RX0 58 "BarrelProcessor$HardwareThread" "executed" "I", Cond.fieldLink RX0 61 "BarrelProcessor$HardwareThread" "lent" "I", Cond.fieldLink RX0 31 "BarrelProcessor$HardwareThread" "starvedNow" "I", Cond.fieldLink RX0 43 "BarrelProcessor$HardwareThread" "longestStarved" "I", Cond.methodLink RX3 49 yX2_copyRows, Cond.instanceMethod yX2_copyRows, Cond.selects RX2 yX2_copyRows yX2_copyRows, Cond.initialized RX2, Cond.code yX2_copyRows cX2_copyRows 4 none, Cond.fieldLink RX2 11 "BarrelProcessor$Instructions" "operations" "[I", Cond.methodLink RX2 25 arraycopyName, Cond.fieldLink RX2 15 "BarrelProcessor$Instructions" "operands" "[I", Cond.methodLink RX3 59 yX5_copyFrom, Cond.instanceMethod yX5_copyFrom, Cond.selects RX5 yX5_copyFrom yX5_copyFrom, Cond.initialized RX5]
def wsX6_setSlot_r4 : List Cond := [Cond.code yX5_copyFrom cX5_copyFrom 2 none, Cond.fieldLink RX5 11 "BarrelProcessor$Trace" "parts" "[I", Cond.methodLink RX5 29 arraycopyName, Cond.fieldLink RX5 15 "BarrelProcessor$Trace" "next" "I", Cond.fieldLink RX5 19 "BarrelProcessor$Trace" "count" "I", Cond.methodLink RX6 96 yX6_replace, Cond.static yX6_replace, Cond.code yX6_replace cX6_replace 4 (some .int)]
def wsX6_setSlot : List Cond := .code yX6_setSlot cX6_setSlot 3 (some .int) :: ((wsX6_setSlot_r1 ++ (wsX6_setSlot_r2 ++ (wsX6_setSlot_r3 ++ wsX6_setSlot_r4))) ++ wsX60 ++ wsX30 ++ wsX10 ++ wsX00 ++ wsX20 ++ wsX50)
def wsX6_isSetting : List Cond := .code yX6_isSetting cX6_isSetting 1 (some .boolean) :: ([.methodLink RX6 115 yX6_isWithin, .static yX6_isWithin, .initialized RX6, .code yX6_isWithin cX6_isWithin 3 (some .boolean)])
def wsX6_set_r1 : List Cond := [Cond.constant RX6 37 (-100001), Cond.constant RX6 91 (-100002), Cond.fieldLink RX6 22 "BarrelProcessor" "history" "LBarrelProcessor$History;", Cond.fieldLink RX6 10 "BarrelProcessor" "machine" "LBarrelProcessor$Machine;", Cond.methodLink RX6 112 yX6_isSetting, Cond.static yX6_isSetting, Cond.initialized RX6, Cond.code yX6_isSetting cX6_isSetting 1 (some .boolean), Cond.methodLink RX6 115 yX6_isWithin, Cond.static yX6_isWithin, Cond.code yX6_isWithin cX6_isWithin 3 (some .boolean), Cond.methodLink RX6 49 yX1_remember, Cond.instanceMethod yX1_remember, Cond.selects RX1 yX1_remember yX1_remember, Cond.initialized RX1, Cond.code yX1_remember cX1_remember 2 none, Cond.fieldLink RX1 13 "BarrelProcessor$History" "states" "[LBarrelProcessor$Machine;", Cond.fieldLink RX1 18 "BarrelProcessor$History" "next" "I", Cond.fieldLink RX1 26 "BarrelProcessor$History" "count" "I", Cond.methodLink RX1 29 Lib.Math.min.name, Cond.static Lib.Math.min.name, Cond.initialized "java/lang/Math", Cond.code Lib.Math.min.name Lib.Math.min.code 2 (some .int), Cond.methodLink RX1 22 yX3_copyFrom]
def wsX6_set_r2 : List Cond := [Cond.instanceMethod yX3_copyFrom, Cond.selects RX3 yX3_copyFrom yX3_copyFrom, Cond.initialized RX3, Cond.code yX3_copyFrom cX3_copyFrom 3 none, Cond.fieldLink RX3 11 "BarrelProcessor$Machine" "threads" "[LBarrelProcessor$HardwareThread;", Cond.fieldLink RX3 20 "BarrelProcessor$Machine" "program" "LBarrelProcessor$Instructions;", Cond.fieldLink RX3 24 "BarrelProcessor$Machine" "breakpoints" "[I", Cond.methodLink RX3 53 arraycopyName, Cond.native arraycopyName, Cond.static arraycopyName, Cond.initialized "java/lang/System", Cond.fieldLink RX3 28 "BarrelProcessor$Machine" "words" "[I", Cond.fieldLink RX3 31 "BarrelProcessor$Machine" "slots" "[I", Cond.fieldLink RX3 34 "BarrelProcessor$Machine" "settings" "[I", Cond.fieldLink RX3 40 "BarrelProcessor$Machine" "trace" "LBarrelProcessor$Trace;", Cond.fieldLink RX3 62 "BarrelProcessor$Machine" "cycle" "I", Cond.fieldLink RX3 66 "BarrelProcessor$Machine" "idle" "I", Cond.methodLink RX3 45 yX0_copyFrom, Cond.instanceMethod yX0_copyFrom, Cond.selects RX0 yX0_copyFrom yX0_copyFrom, Cond.initialized RX0, Cond.code yX0_copyFrom cX0_copyFrom 2 none, Cond.fieldLink RX0 9 "BarrelProcessor$HardwareThread" "registers" "[I", Cond.methodLink RX0 52 arraycopyName]
def wsX6_set_r3 : List Cond := [Cond.fieldLink RX0 15 "BarrelProcessor$HardwareThread" "state" "I", Cond.fieldLink RX0 28 "BarrelProcessor$HardwareThread" "programCounter" "I", Cond.fieldLink RX0 34 "BarrelProcessor$HardwareThread" "loadRegister" "I", Cond.fieldLink RX0 37 "BarrelProcessor$HardwareThread" "loadWord" "I", Cond.fieldLink RX0 40 "BarrelProcessor$HardwareThread" "loadDue" "I", Cond.fieldLink RX0 19 "BarrelProcessor$HardwareThread" "lastIssue" "I", Cond.fieldLink RX0 58 "BarrelProcessor$HardwareThread" "executed" "I", Cond.fieldLink RX0 61 "BarrelProcessor$HardwareThread" "lent" "I", Cond.fieldLink RX0 31 "BarrelProcessor$HardwareThread" "starvedNow" "I", Cond.fieldLink RX0 43 "BarrelProcessor$HardwareThread" "longestStarved" "I", Cond.methodLink RX3 49 yX2_copyRows, Cond.instanceMethod yX2_copyRows, Cond.selects RX2 yX2_copyRows yX2_copyRows, Cond.initialized RX2, Cond.code yX2_copyRows cX2_copyRows 4 none, Cond.fieldLink RX2 11 "BarrelProcessor$Instructions" "operations" "[I", Cond.methodLink RX2 25 arraycopyName, Cond.fieldLink RX2 15 "BarrelProcessor$Instructions" "operands" "[I", Cond.methodLink RX3 59 yX5_copyFrom, Cond.instanceMethod yX5_copyFrom, Cond.selects RX5 yX5_copyFrom yX5_copyFrom, Cond.initialized RX5, Cond.code yX5_copyFrom cX5_copyFrom 2 none, Cond.fieldLink RX5 11 "BarrelProcessor$Trace" "parts" "[I"]
def wsX6_set_r4 : List Cond := [Cond.methodLink RX5 29 arraycopyName, Cond.fieldLink RX5 15 "BarrelProcessor$Trace" "next" "I", Cond.fieldLink RX5 19 "BarrelProcessor$Trace" "count" "I", Cond.methodLink RX6 96 yX6_replace, Cond.static yX6_replace, Cond.code yX6_replace cX6_replace 4 (some .int)]
def wsX6_set : List Cond := .code yX6_set cX6_set 3 (some .int) :: ((wsX6_set_r1 ++ (wsX6_set_r2 ++ (wsX6_set_r3 ++ wsX6_set_r4))) ++ wsX60 ++ wsX30 ++ wsX10 ++ wsX00 ++ wsX20 ++ wsX50)
def wsX6_setBreakpoint_r1 : List Cond := [Cond.constant RX6 37 (-100001), Cond.fieldLink RX6 22 "BarrelProcessor" "history" "LBarrelProcessor$History;", Cond.fieldLink RX6 10 "BarrelProcessor" "machine" "LBarrelProcessor$Machine;", Cond.methodLink RX6 33 yX6_isPlace, Cond.static yX6_isPlace, Cond.initialized RX6, Cond.code yX6_isPlace cX6_isPlace 1 (some .boolean), Cond.methodLink RX6 115 yX6_isWithin, Cond.static yX6_isWithin, Cond.code yX6_isWithin cX6_isWithin 3 (some .boolean), Cond.methodLink RX6 49 yX1_remember, Cond.instanceMethod yX1_remember, Cond.selects RX1 yX1_remember yX1_remember, Cond.initialized RX1, Cond.code yX1_remember cX1_remember 2 none, Cond.fieldLink RX1 13 "BarrelProcessor$History" "states" "[LBarrelProcessor$Machine;", Cond.fieldLink RX1 18 "BarrelProcessor$History" "next" "I", Cond.fieldLink RX1 26 "BarrelProcessor$History" "count" "I", Cond.methodLink RX1 29 Lib.Math.min.name, Cond.static Lib.Math.min.name, Cond.initialized "java/lang/Math", Cond.code Lib.Math.min.name Lib.Math.min.code 2 (some .int), Cond.methodLink RX1 22 yX3_copyFrom, Cond.instanceMethod yX3_copyFrom]
def wsX6_setBreakpoint_r2 : List Cond := [Cond.selects RX3 yX3_copyFrom yX3_copyFrom, Cond.initialized RX3, Cond.code yX3_copyFrom cX3_copyFrom 3 none, Cond.fieldLink RX3 11 "BarrelProcessor$Machine" "threads" "[LBarrelProcessor$HardwareThread;", Cond.fieldLink RX3 20 "BarrelProcessor$Machine" "program" "LBarrelProcessor$Instructions;", Cond.fieldLink RX3 24 "BarrelProcessor$Machine" "breakpoints" "[I", Cond.methodLink RX3 53 arraycopyName, Cond.native arraycopyName, Cond.static arraycopyName, Cond.initialized "java/lang/System", Cond.fieldLink RX3 28 "BarrelProcessor$Machine" "words" "[I", Cond.fieldLink RX3 31 "BarrelProcessor$Machine" "slots" "[I", Cond.fieldLink RX3 34 "BarrelProcessor$Machine" "settings" "[I", Cond.fieldLink RX3 40 "BarrelProcessor$Machine" "trace" "LBarrelProcessor$Trace;", Cond.fieldLink RX3 62 "BarrelProcessor$Machine" "cycle" "I", Cond.fieldLink RX3 66 "BarrelProcessor$Machine" "idle" "I", Cond.methodLink RX3 45 yX0_copyFrom, Cond.instanceMethod yX0_copyFrom, Cond.selects RX0 yX0_copyFrom yX0_copyFrom, Cond.initialized RX0, Cond.code yX0_copyFrom cX0_copyFrom 2 none, Cond.fieldLink RX0 9 "BarrelProcessor$HardwareThread" "registers" "[I", Cond.methodLink RX0 52 arraycopyName, Cond.fieldLink RX0 15 "BarrelProcessor$HardwareThread" "state" "I"]
def wsX6_setBreakpoint_r3 : List Cond := [Cond.fieldLink RX0 28 "BarrelProcessor$HardwareThread" "programCounter" "I", Cond.fieldLink RX0 34 "BarrelProcessor$HardwareThread" "loadRegister" "I", Cond.fieldLink RX0 37 "BarrelProcessor$HardwareThread" "loadWord" "I", Cond.fieldLink RX0 40 "BarrelProcessor$HardwareThread" "loadDue" "I", Cond.fieldLink RX0 19 "BarrelProcessor$HardwareThread" "lastIssue" "I", Cond.fieldLink RX0 58 "BarrelProcessor$HardwareThread" "executed" "I", Cond.fieldLink RX0 61 "BarrelProcessor$HardwareThread" "lent" "I", Cond.fieldLink RX0 31 "BarrelProcessor$HardwareThread" "starvedNow" "I", Cond.fieldLink RX0 43 "BarrelProcessor$HardwareThread" "longestStarved" "I", Cond.methodLink RX3 49 yX2_copyRows, Cond.instanceMethod yX2_copyRows, Cond.selects RX2 yX2_copyRows yX2_copyRows, Cond.initialized RX2, Cond.code yX2_copyRows cX2_copyRows 4 none, Cond.fieldLink RX2 11 "BarrelProcessor$Instructions" "operations" "[I", Cond.methodLink RX2 25 arraycopyName, Cond.fieldLink RX2 15 "BarrelProcessor$Instructions" "operands" "[I", Cond.methodLink RX3 59 yX5_copyFrom, Cond.instanceMethod yX5_copyFrom, Cond.selects RX5 yX5_copyFrom yX5_copyFrom, Cond.initialized RX5, Cond.code yX5_copyFrom cX5_copyFrom 2 none, Cond.fieldLink RX5 11 "BarrelProcessor$Trace" "parts" "[I", Cond.methodLink RX5 29 arraycopyName]
def wsX6_setBreakpoint_r4 : List Cond := [Cond.fieldLink RX5 15 "BarrelProcessor$Trace" "next" "I", Cond.fieldLink RX5 19 "BarrelProcessor$Trace" "count" "I", Cond.methodLink RX6 125 yX3_countBreakpoints, Cond.instanceMethod yX3_countBreakpoints, Cond.selects RX3 yX3_countBreakpoints yX3_countBreakpoints, Cond.code yX3_countBreakpoints cX3_countBreakpoints 3 (some .int)]
def wsX6_setBreakpoint : List Cond := .code yX6_setBreakpoint cX6_setBreakpoint 3 (some .int) :: ((wsX6_setBreakpoint_r1 ++ (wsX6_setBreakpoint_r2 ++ (wsX6_setBreakpoint_r3 ++ wsX6_setBreakpoint_r4))) ++ wsX60 ++ wsX30 ++ wsX10 ++ wsX00 ++ wsX20 ++ wsX50)
def wsX6_run_r1 : List Cond := [Cond.constant RX6 91 (-100002), Cond.fieldLink RX6 22 "BarrelProcessor" "history" "LBarrelProcessor$History;", Cond.fieldLink RX6 10 "BarrelProcessor" "machine" "LBarrelProcessor$Machine;", Cond.methodLink RX6 115 yX6_isWithin, Cond.static yX6_isWithin, Cond.initialized RX6, Cond.code yX6_isWithin cX6_isWithin 3 (some .boolean), Cond.methodLink RX6 49 yX1_remember, Cond.instanceMethod yX1_remember, Cond.selects RX1 yX1_remember yX1_remember, Cond.initialized RX1, Cond.code yX1_remember cX1_remember 2 none, Cond.fieldLink RX1 13 "BarrelProcessor$History" "states" "[LBarrelProcessor$Machine;", Cond.fieldLink RX1 18 "BarrelProcessor$History" "next" "I", Cond.fieldLink RX1 26 "BarrelProcessor$History" "count" "I", Cond.methodLink RX1 29 Lib.Math.min.name, Cond.static Lib.Math.min.name, Cond.initialized "java/lang/Math", Cond.code Lib.Math.min.name Lib.Math.min.code 2 (some .int), Cond.methodLink RX1 22 yX3_copyFrom, Cond.instanceMethod yX3_copyFrom, Cond.selects RX3 yX3_copyFrom yX3_copyFrom, Cond.initialized RX3, Cond.code yX3_copyFrom cX3_copyFrom 3 none]
def wsX6_run_r2 : List Cond := [Cond.fieldLink RX3 11 "BarrelProcessor$Machine" "threads" "[LBarrelProcessor$HardwareThread;", Cond.fieldLink RX3 20 "BarrelProcessor$Machine" "program" "LBarrelProcessor$Instructions;", Cond.fieldLink RX3 24 "BarrelProcessor$Machine" "breakpoints" "[I", Cond.methodLink RX3 53 arraycopyName, Cond.native arraycopyName, Cond.static arraycopyName, Cond.initialized "java/lang/System", Cond.fieldLink RX3 28 "BarrelProcessor$Machine" "words" "[I", Cond.fieldLink RX3 31 "BarrelProcessor$Machine" "slots" "[I", Cond.fieldLink RX3 34 "BarrelProcessor$Machine" "settings" "[I", Cond.fieldLink RX3 40 "BarrelProcessor$Machine" "trace" "LBarrelProcessor$Trace;", Cond.fieldLink RX3 62 "BarrelProcessor$Machine" "cycle" "I", Cond.fieldLink RX3 66 "BarrelProcessor$Machine" "idle" "I", Cond.methodLink RX3 45 yX0_copyFrom, Cond.instanceMethod yX0_copyFrom, Cond.selects RX0 yX0_copyFrom yX0_copyFrom, Cond.initialized RX0, Cond.code yX0_copyFrom cX0_copyFrom 2 none, Cond.fieldLink RX0 9 "BarrelProcessor$HardwareThread" "registers" "[I", Cond.methodLink RX0 52 arraycopyName, Cond.fieldLink RX0 15 "BarrelProcessor$HardwareThread" "state" "I", Cond.fieldLink RX0 28 "BarrelProcessor$HardwareThread" "programCounter" "I", Cond.fieldLink RX0 34 "BarrelProcessor$HardwareThread" "loadRegister" "I", Cond.fieldLink RX0 37 "BarrelProcessor$HardwareThread" "loadWord" "I"]
def wsX6_run_r3 : List Cond := [Cond.fieldLink RX0 40 "BarrelProcessor$HardwareThread" "loadDue" "I", Cond.fieldLink RX0 19 "BarrelProcessor$HardwareThread" "lastIssue" "I", Cond.fieldLink RX0 58 "BarrelProcessor$HardwareThread" "executed" "I", Cond.fieldLink RX0 61 "BarrelProcessor$HardwareThread" "lent" "I", Cond.fieldLink RX0 31 "BarrelProcessor$HardwareThread" "starvedNow" "I", Cond.fieldLink RX0 43 "BarrelProcessor$HardwareThread" "longestStarved" "I", Cond.methodLink RX3 49 yX2_copyRows, Cond.instanceMethod yX2_copyRows, Cond.selects RX2 yX2_copyRows yX2_copyRows, Cond.initialized RX2, Cond.code yX2_copyRows cX2_copyRows 4 none, Cond.fieldLink RX2 11 "BarrelProcessor$Instructions" "operations" "[I", Cond.methodLink RX2 25 arraycopyName, Cond.fieldLink RX2 15 "BarrelProcessor$Instructions" "operands" "[I", Cond.methodLink RX3 59 yX5_copyFrom, Cond.instanceMethod yX5_copyFrom, Cond.selects RX5 yX5_copyFrom yX5_copyFrom, Cond.initialized RX5, Cond.code yX5_copyFrom cX5_copyFrom 2 none, Cond.fieldLink RX5 11 "BarrelProcessor$Trace" "parts" "[I", Cond.methodLink RX5 29 arraycopyName, Cond.fieldLink RX5 15 "BarrelProcessor$Trace" "next" "I", Cond.fieldLink RX5 19 "BarrelProcessor$Trace" "count" "I", Cond.methodLink RX6 128 yX3_runToBreakpoint]
def wsX6_run_r4 : List Cond := [Cond.instanceMethod yX3_runToBreakpoint, Cond.selects RX3 yX3_runToBreakpoint yX3_runToBreakpoint, Cond.code yX3_runToBreakpoint cX3_runToBreakpoint 3 (some .int), Cond.methodLink RX3 69 yX3_areAllHalted, Cond.instanceMethod yX3_areAllHalted, Cond.selects RX3 yX3_areAllHalted yX3_areAllHalted, Cond.code yX3_areAllHalted cX3_areAllHalted 2 (some .boolean), Cond.methodLink RX3 73 yX3_isAtBreakpoint, Cond.instanceMethod yX3_isAtBreakpoint, Cond.selects RX3 yX3_isAtBreakpoint yX3_isAtBreakpoint, Cond.code yX3_isAtBreakpoint cX3_isAtBreakpoint 3 (some .boolean), Cond.methodLink RX3 112 yX3_findIssuer, Cond.instanceMethod yX3_findIssuer, Cond.selects RX3 yX3_findIssuer yX3_findIssuer, Cond.code yX3_findIssuer cX3_findIssuer 3 (some .int), Cond.constant RX3 79 (-100005), Cond.methodLink RX3 80 yX3_findReady, Cond.instanceMethod yX3_findReady, Cond.selects RX3 yX3_findReady yX3_findReady, Cond.code yX3_findReady cX3_findReady 5 (some .int), Cond.methodLink RX3 99 yX3_doesBarrierOpen, Cond.instanceMethod yX3_doesBarrierOpen, Cond.selects RX3 yX3_doesBarrierOpen yX3_doesBarrierOpen, Cond.code yX3_doesBarrierOpen cX3_doesBarrierOpen 4 (some .boolean)]
def wsX6_run_r5 : List Cond := [Cond.methodLink RX3 105 yX0_hasLoadDue, Cond.instanceMethod yX0_hasLoadDue, Cond.selects RX0 yX0_hasLoadDue yX0_hasLoadDue, Cond.code yX0_hasLoadDue cX0_hasLoadDue 2 (some .boolean), Cond.methodLink RX3 84 yX3_slotOwner, Cond.instanceMethod yX3_slotOwner, Cond.selects RX3 yX3_slotOwner yX3_slotOwner, Cond.code yX3_slotOwner cX3_slotOwner 1 (some .int), Cond.methodLink RX3 87 yX3_isIn, Cond.static yX3_isIn, Cond.code yX3_isIn cX3_isIn 2 (some .boolean), Cond.methodLink RX3 91 yX3_findNextAfter, Cond.static yX3_findNextAfter, Cond.code yX3_findNextAfter cX3_findNextAfter 4 (some .int), Cond.methodLink RX3 95 yX3_findLongestWaiting, Cond.instanceMethod yX3_findLongestWaiting, Cond.selects RX3 yX3_findLongestWaiting yX3_findLongestWaiting, Cond.code yX3_findLongestWaiting cX3_findLongestWaiting 6 (some .int), Cond.static yX6_isThread, Cond.code yX6_isThread cX6_isThread 1 (some .boolean), Cond.static yX6_isPlace, Cond.code yX6_isPlace cX6_isPlace 1 (some .boolean), Cond.methodLink RX3 76 yX3_runCycle, Cond.instanceMethod yX3_runCycle]
def wsX6_run_r6 : List Cond := [Cond.selects RX3 yX3_runCycle yX3_runCycle, Cond.code yX3_runCycle cX3_runCycle 2 none, Cond.methodLink RX3 124 yX3_finishLoads, Cond.instanceMethod yX3_finishLoads, Cond.selects RX3 yX3_finishLoads yX3_finishLoads, Cond.code yX3_finishLoads cX3_finishLoads 3 none, Cond.methodLink RX3 127 yX3_openBarrier, Cond.instanceMethod yX3_openBarrier, Cond.selects RX3 yX3_openBarrier yX3_openBarrier, Cond.code yX3_openBarrier cX3_openBarrier 2 none, Cond.methodLink RX3 130 yX3_countStarving, Cond.instanceMethod yX3_countStarving, Cond.selects RX3 yX3_countStarving yX3_countStarving, Cond.code yX3_countStarving cX3_countStarving 4 none, Cond.methodLink RX3 149 yX0_countCycle, Cond.instanceMethod yX0_countCycle, Cond.selects RX0 yX0_countCycle yX0_countCycle, Cond.code yX0_countCycle cX0_countCycle 2 none, Cond.methodLink RX0 46 Lib.Math.max.name, Cond.static Lib.Math.max.name, Cond.code Lib.Math.max.name Lib.Math.max.code 2 (some .int), Cond.methodLink RX3 134 yX3_noteIssue, Cond.instanceMethod yX3_noteIssue, Cond.selects RX3 yX3_noteIssue yX3_noteIssue]
def wsX6_run_r7 : List Cond := [Cond.code yX3_noteIssue cX3_noteIssue 3 none, Cond.methodLink RX3 159 yX5_note, Cond.instanceMethod yX5_note, Cond.selects RX5 yX5_note yX5_note, Cond.code yX5_note cX5_note 5 none, Cond.methodLink RX5 22 Lib.Math.min.name, Cond.methodLink RX3 137 yX3_executeNext, Cond.instanceMethod yX3_executeNext, Cond.selects RX3 yX3_executeNext yX3_executeNext, Cond.code yX3_executeNext cX3_executeNext 6 none, Cond.methodLink RX3 169 yX3_calculate, Cond.static yX3_calculate, Cond.code yX3_calculate cX3_calculate 6 none, Cond.methodLink RX3 173 yX3_reachMemory, Cond.instanceMethod yX3_reachMemory, Cond.selects RX3 yX3_reachMemory yX3_reachMemory, Cond.code yX3_reachMemory cX3_reachMemory 8 none, Cond.methodLink RX3 180 yX0_beginLoad, Cond.instanceMethod yX0_beginLoad, Cond.selects RX0 yX0_beginLoad yX0_beginLoad, Cond.code yX0_beginLoad cX0_beginLoad 4 none, Cond.methodLink RX3 177 yX3_steer, Cond.static yX3_steer, Cond.code yX3_steer cX3_steer 5 none]
def wsX6_run : List Cond := .code yX6_run cX6_run 2 (some .int) :: ((wsX6_run_r1 ++ (wsX6_run_r2 ++ (wsX6_run_r3 ++ (wsX6_run_r4 ++ (wsX6_run_r5 ++ (wsX6_run_r6 ++ wsX6_run_r7)))))) ++ wsX60 ++ wsX10 ++ wsX30 ++ wsX00 ++ wsX20 ++ wsX50)
def wsX6_append : List Cond := .code yX6_append cX6_append 2 (some .int) :: ([.constant RX6 91 (-100002), .fieldLink RX6 29 "BarrelProcessor" "text" "LBarrelProcessor$Text;", .constant RX6 48 (-100004), .methodLink RX6 115 yX6_isWithin, .static yX6_isWithin, .initialized RX6, .code yX6_isWithin cX6_isWithin 3 (some .boolean), .methodLink RX6 135 yX4_add, .instanceMethod yX4_add, .selects RX4 yX4_add yX4_add, .initialized RX4, .code yX4_add cX4_add 2 none, .fieldLink RX4 22 "BarrelProcessor$Text" "length" "I", .fieldLink RX4 11 "BarrelProcessor$Text" "characters" "[C"] ++ wsX60 ++ wsX40)
def wsX6_clearText : List Cond := .code yX6_clearText cX6_clearText 2 (some .int) :: ([.fieldLink RX6 29 "BarrelProcessor" "text" "LBarrelProcessor$Text;"] ++ wsX60 ++ wsX40)
def wsX6_fault_r1 : List Cond := [Cond.fieldLink RX6 29 "BarrelProcessor" "text" "LBarrelProcessor$Text;", Cond.methodLink RX6 38 yX4_findFault, Cond.instanceMethod yX4_findFault, Cond.selects RX4 yX4_findFault yX4_findFault, Cond.initialized RX4, Cond.code yX4_findFault cX4_findFault 3 (some .int), Cond.fieldLink RX4 26 "BarrelProcessor$Text" "position" "I", Cond.fieldLink RX4 29 "BarrelProcessor$Text" "instructionCount" "I", Cond.fieldLink RX4 22 "BarrelProcessor$Text" "length" "I", Cond.constant RX4 40 (-100005), Cond.methodLink RX4 32 yX4_readInstruction, Cond.instanceMethod yX4_readInstruction, Cond.selects RX4 yX4_readInstruction yX4_readInstruction, Cond.code yX4_readInstruction cX4_readInstruction 2 (some .boolean), Cond.fieldLink RX4 11 "BarrelProcessor$Text" "characters" "[C", Cond.methodLink RX4 43 yJ0_indexOf_0f7a4, Cond.instanceMethod yJ0_indexOf_0f7a4, Cond.selects RJ0 yJ0_indexOf_0f7a4 yJ0_indexOf_0f7a4, Cond.initialized RJ0, Cond.code yJ0_indexOf_0f7a4 cJ0_indexOf_0f7a4 2 (some .int), Cond.methodLink RJ0 633 yJ0_indexOf_7cf53, Cond.instanceMethod yJ0_indexOf_7cf53, Cond.selects RJ0 yJ0_indexOf_7cf53 yJ0_indexOf_7cf53, Cond.code yJ0_indexOf_7cf53 cJ0_indexOf_7cf53 3 (some .int)]
def wsX6_fault_r2 : List Cond := [Cond.fieldLink RJ0 9 "java/lang/String" "value" "[B", Cond.methodLink RJ0 492 yJ0_isLatin1_aae02, Cond.instanceMethod yJ0_isLatin1_aae02, Cond.selects RJ0 yJ0_isLatin1_aae02 yJ0_isLatin1_aae02, Cond.code yJ0_isLatin1_aae02 cJ0_isLatin1_aae02 1 (some .boolean), Cond.fieldLink RJ0 38 "java/lang/String" "COMPACT_STRINGS" "Z", Cond.fieldLink RJ0 15 "java/lang/String" "coder" "B", Cond.methodLink RJ0 505 yJ0_length_8abf5, Cond.instanceMethod yJ0_length_8abf5, Cond.selects RJ0 yJ0_length_8abf5 yJ0_length_8abf5, Cond.code yJ0_length_8abf5 cJ0_length_8abf5 1 (some .int), Cond.methodLink RJ0 335 yJ0_coder_7d493, Cond.instanceMethod yJ0_coder_7d493, Cond.selects RJ0 yJ0_coder_7d493 yJ0_coder_7d493, Cond.code yJ0_coder_7d493 cJ0_coder_7d493 1 (some .byte), Cond.methodLink RJ0 637 yJ1_indexOf_4cfef, Cond.static yJ1_indexOf_4cfef, Cond.initialized RJ1, Cond.code yJ1_indexOf_4cfef cJ1_indexOf_4cfef 4 (some .int), Cond.methodLink RJ1 92 Lib.Math.max.name, Cond.static Lib.Math.max.name, Cond.initialized "java/lang/Math", Cond.code Lib.Math.max.name Lib.Math.max.code 2 (some .int), Cond.methodLink RJ1 38 Lib.Math.min.name]
def wsX6_fault_r3 : List Cond := [Cond.static Lib.Math.min.name, Cond.code Lib.Math.min.name Lib.Math.min.code 2 (some .int), Cond.methodLink RJ1 88 yJ1_canEncode_9a6ad, Cond.static yJ1_canEncode_9a6ad, Cond.code yJ1_canEncode_9a6ad cJ1_canEncode_9a6ad 1 (some .boolean), Cond.methodLink RJ1 95 yJ1_indexOfChar_4cfef, Cond.static yJ1_indexOfChar_4cfef, Cond.code yJ1_indexOfChar_4cfef cJ1_indexOfChar_4cfef 6 (some .int), Cond.methodLink RJ0 640 yJ2_indexOf_4cfef, Cond.static yJ2_indexOf_4cfef, Cond.initialized RJ2, Cond.code yJ2_indexOf_4cfef cJ2_indexOf_4cfef 4 (some .int), Cond.methodLink RJ2 224 Lib.Math.max.name, Cond.methodLink RJ2 183 Lib.Math.min.name, Cond.constant RJ2 227 (65536), Cond.methodLink RJ2 228 yJ2_indexOfChar_4cfef, Cond.static yJ2_indexOfChar_4cfef, Cond.code yJ2_indexOfChar_4cfef cJ2_indexOfChar_4cfef 4 (some .int), Cond.methodLink RJ2 96 yJ2_checkBoundsBeginEnd_d044e, Cond.static yJ2_checkBoundsBeginEnd_d044e, Cond.code yJ2_checkBoundsBeginEnd_d044e cJ2_checkBoundsBeginEnd_d044e 3 none, Cond.methodLink RJ2 48 yJ2_length_9d52b, Cond.static yJ2_length_9d52b, Cond.code yJ2_length_9d52b cJ2_length_9d52b 1 (some .int)]
def wsX6_fault_r4 : List Cond := [Cond.methodLink RJ2 241 yJ0_checkBoundsBeginEnd_23922, Cond.static yJ0_checkBoundsBeginEnd_23922, Cond.code yJ0_checkBoundsBeginEnd_23922 cJ0_checkBoundsBeginEnd_23922 3 none, Cond.fieldLink RJ0 1053 "jdk/internal/util/Preconditions" "SIOOBE_FORMATTER" "Ljava/util/function/BiFunction;", Cond.methodLink RJ0 1062 yJ3_checkFromToIndex_8c36e, Cond.static yJ3_checkFromToIndex_8c36e, Cond.initialized RJ3, Cond.code yJ3_checkFromToIndex_8c36e cJ3_checkFromToIndex_8c36e 4 (some .int), Cond.methodLink RJ2 244 yJ2_indexOfCharUnsafe_4cfef, Cond.static yJ2_indexOfCharUnsafe_4cfef, Cond.code yJ2_indexOfCharUnsafe_4cfef cJ2_indexOfCharUnsafe_4cfef 5 (some .int), Cond.methodLink RJ2 71 yJ2_getChar_3b067, Cond.static yJ2_getChar_3b067, Cond.code yJ2_getChar_3b067 cJ2_getChar_3b067 2 (some .char), Cond.fieldLink RJ2 44 "java/lang/StringUTF16" "$assertionsDisabled" "Z", Cond.fieldLink RJ2 59 "java/lang/StringUTF16" "HI_BYTE_SHIFT" "I", Cond.fieldLink RJ2 63 "java/lang/StringUTF16" "LO_BYTE_SHIFT" "I", Cond.methodLink RJ2 232 yJ2_indexOfSupplementary_4cfef, Cond.static yJ2_indexOfSupplementary_4cfef, Cond.code yJ2_indexOfSupplementary_4cfef cJ2_indexOfSupplementary_4cfef 7 (some .int), Cond.methodLink RJ2 164 yJ11_isValidCodePoint_9a6ad, Cond.static yJ11_isValidCodePoint_9a6ad, Cond.initialized RJ11, Cond.code yJ11_isValidCodePoint_9a6ad cJ11_isValidCodePoint_9a6ad 2 (some .boolean)]
def wsX6_fault_r5 : List Cond := [Cond.methodLink RJ2 157 yJ11_highSurrogate_5068e, Cond.static yJ11_highSurrogate_5068e, Cond.code yJ11_highSurrogate_5068e cJ11_highSurrogate_5068e 1 (some .char), Cond.constant RJ11 110 (55232), Cond.methodLink RJ2 161 yJ11_lowSurrogate_5068e, Cond.static yJ11_lowSurrogate_5068e, Cond.code yJ11_lowSurrogate_5068e cJ11_lowSurrogate_5068e 1 (some .char), Cond.constant RJ11 76 (56320), Cond.methodLink RX4 49 yX4_beginRow, Cond.instanceMethod yX4_beginRow, Cond.selects RX4 yX4_beginRow yX4_beginRow, Cond.code yX4_beginRow cX4_beginRow 2 none, Cond.fieldLink RX4 18 "BarrelProcessor$Text" "instructions" "LBarrelProcessor$Instructions;", Cond.fieldLink RX4 64 "BarrelProcessor$Text" "operandCount" "I", Cond.methodLink RX4 53 yX4_readOperands, Cond.instanceMethod yX4_readOperands, Cond.selects RX4 yX4_readOperands yX4_readOperands, Cond.code yX4_readOperands cX4_readOperands 2 (some .boolean), Cond.methodLink RX4 67 yX4_readRegister, Cond.instanceMethod yX4_readRegister, Cond.selects RX4 yX4_readRegister yX4_readRegister, Cond.code yX4_readRegister cX4_readRegister 1 (some .boolean), Cond.methodLink RX4 80 yX4_isDigit, Cond.instanceMethod yX4_isDigit]
def wsX6_fault_r6 : List Cond := [Cond.selects RX4 yX4_isDigit yX4_isDigit, Cond.code yX4_isDigit cX4_isDigit 3 (some .boolean), Cond.static yX6_isWithin, Cond.initialized RX6, Cond.code yX6_isWithin cX6_isWithin 3 (some .boolean), Cond.methodLink RX4 84 yX4_takeDigit, Cond.instanceMethod yX4_takeDigit, Cond.selects RX4 yX4_takeDigit yX4_takeDigit, Cond.code yX4_takeDigit cX4_takeDigit 2 (some .int), Cond.methodLink RX4 88 yX4_keepOperand, Cond.instanceMethod yX4_keepOperand, Cond.selects RX4 yX4_keepOperand yX4_keepOperand, Cond.code yX4_keepOperand cX4_keepOperand 2 none, Cond.methodLink RX4 36 yX4_readSign, Cond.instanceMethod yX4_readSign, Cond.selects RX4 yX4_readSign yX4_readSign, Cond.code yX4_readSign cX4_readSign 2 (some .boolean), Cond.methodLink RX4 70 yX4_readNumber, Cond.instanceMethod yX4_readNumber, Cond.selects RX4 yX4_readNumber yX4_readNumber, Cond.code yX4_readNumber cX4_readNumber 3 (some .boolean), Cond.methodLink RX4 73 yX4_readPlace, Cond.instanceMethod yX4_readPlace, Cond.selects RX4 yX4_readPlace yX4_readPlace]
def wsX6_fault_r7 : List Cond := [Cond.code yX4_readPlace cX4_readPlace 3 (some .boolean), Cond.methodLink RX4 91 Lib.Math.min.name]
def wsX6_fault : List Cond := .code yX6_fault cX6_fault 1 (some .int) :: ((wsX6_fault_r1 ++ (wsX6_fault_r2 ++ (wsX6_fault_r3 ++ (wsX6_fault_r4 ++ (wsX6_fault_r5 ++ (wsX6_fault_r6 ++ wsX6_fault_r7)))))) ++ wsX60 ++ wsX40 ++ wsX20)
def wsX6_undo_r1 : List Cond := [Cond.fieldLink RX6 22 "BarrelProcessor" "history" "LBarrelProcessor$History;", Cond.fieldLink RX6 10 "BarrelProcessor" "machine" "LBarrelProcessor$Machine;", Cond.methodLink RX6 139 yX1_restore, Cond.instanceMethod yX1_restore, Cond.selects RX1 yX1_restore yX1_restore, Cond.initialized RX1, Cond.code yX1_restore cX1_restore 2 (some .int), Cond.fieldLink RX1 26 "BarrelProcessor$History" "count" "I", Cond.constant RX1 35 (-100005), Cond.fieldLink RX1 18 "BarrelProcessor$History" "next" "I", Cond.fieldLink RX1 13 "BarrelProcessor$History" "states" "[LBarrelProcessor$Machine;", Cond.methodLink RX1 22 yX3_copyFrom, Cond.instanceMethod yX3_copyFrom, Cond.selects RX3 yX3_copyFrom yX3_copyFrom, Cond.initialized RX3, Cond.code yX3_copyFrom cX3_copyFrom 3 none, Cond.fieldLink RX3 11 "BarrelProcessor$Machine" "threads" "[LBarrelProcessor$HardwareThread;", Cond.fieldLink RX3 20 "BarrelProcessor$Machine" "program" "LBarrelProcessor$Instructions;", Cond.fieldLink RX3 24 "BarrelProcessor$Machine" "breakpoints" "[I", Cond.methodLink RX3 53 arraycopyName, Cond.native arraycopyName, Cond.static arraycopyName, Cond.initialized "java/lang/System", Cond.fieldLink RX3 28 "BarrelProcessor$Machine" "words" "[I"]
def wsX6_undo_r2 : List Cond := [Cond.fieldLink RX3 31 "BarrelProcessor$Machine" "slots" "[I", Cond.fieldLink RX3 34 "BarrelProcessor$Machine" "settings" "[I", Cond.fieldLink RX3 40 "BarrelProcessor$Machine" "trace" "LBarrelProcessor$Trace;", Cond.fieldLink RX3 62 "BarrelProcessor$Machine" "cycle" "I", Cond.fieldLink RX3 66 "BarrelProcessor$Machine" "idle" "I", Cond.methodLink RX3 45 yX0_copyFrom, Cond.instanceMethod yX0_copyFrom, Cond.selects RX0 yX0_copyFrom yX0_copyFrom, Cond.initialized RX0, Cond.code yX0_copyFrom cX0_copyFrom 2 none, Cond.fieldLink RX0 9 "BarrelProcessor$HardwareThread" "registers" "[I", Cond.methodLink RX0 52 arraycopyName, Cond.fieldLink RX0 15 "BarrelProcessor$HardwareThread" "state" "I", Cond.fieldLink RX0 28 "BarrelProcessor$HardwareThread" "programCounter" "I", Cond.fieldLink RX0 34 "BarrelProcessor$HardwareThread" "loadRegister" "I", Cond.fieldLink RX0 37 "BarrelProcessor$HardwareThread" "loadWord" "I", Cond.fieldLink RX0 40 "BarrelProcessor$HardwareThread" "loadDue" "I", Cond.fieldLink RX0 19 "BarrelProcessor$HardwareThread" "lastIssue" "I", Cond.fieldLink RX0 58 "BarrelProcessor$HardwareThread" "executed" "I", Cond.fieldLink RX0 61 "BarrelProcessor$HardwareThread" "lent" "I", Cond.fieldLink RX0 31 "BarrelProcessor$HardwareThread" "starvedNow" "I", Cond.fieldLink RX0 43 "BarrelProcessor$HardwareThread" "longestStarved" "I", Cond.methodLink RX3 49 yX2_copyRows, Cond.instanceMethod yX2_copyRows]
def wsX6_undo_r3 : List Cond := [Cond.selects RX2 yX2_copyRows yX2_copyRows, Cond.initialized RX2, Cond.code yX2_copyRows cX2_copyRows 4 none, Cond.fieldLink RX2 11 "BarrelProcessor$Instructions" "operations" "[I", Cond.methodLink RX2 25 arraycopyName, Cond.fieldLink RX2 15 "BarrelProcessor$Instructions" "operands" "[I", Cond.methodLink RX3 59 yX5_copyFrom, Cond.instanceMethod yX5_copyFrom, Cond.selects RX5 yX5_copyFrom yX5_copyFrom, Cond.initialized RX5, Cond.code yX5_copyFrom cX5_copyFrom 2 none, Cond.fieldLink RX5 11 "BarrelProcessor$Trace" "parts" "[I", Cond.methodLink RX5 29 arraycopyName, Cond.fieldLink RX5 15 "BarrelProcessor$Trace" "next" "I", Cond.fieldLink RX5 19 "BarrelProcessor$Trace" "count" "I"]
def wsX6_undo : List Cond := .code yX6_undo cX6_undo 1 (some .int) :: ((wsX6_undo_r1 ++ (wsX6_undo_r2 ++ wsX6_undo_r3)) ++ wsX60 ++ wsX10 ++ wsX30 ++ wsX00 ++ wsX20 ++ wsX50)
def wsX6_state : List Cond := .code yX6_state cX6_state 2 (some .int) :: ([.fieldLink RX6 10 "BarrelProcessor" "machine" "LBarrelProcessor$Machine;", .constant RX6 37 (-100001), .methodLink RX6 66 yX6_isThread, .static yX6_isThread, .initialized RX6, .code yX6_isThread cX6_isThread 1 (some .boolean), .methodLink RX6 115 yX6_isWithin, .static yX6_isWithin, .code yX6_isWithin cX6_isWithin 3 (some .boolean)] ++ wsX60 ++ wsX30 ++ wsX00)
def wsX6_programCounter : List Cond := .code yX6_programCounter cX6_programCounter 2 (some .int) :: ([.fieldLink RX6 10 "BarrelProcessor" "machine" "LBarrelProcessor$Machine;", .constant RX6 37 (-100001), .methodLink RX6 66 yX6_isThread, .static yX6_isThread, .initialized RX6, .code yX6_isThread cX6_isThread 1 (some .boolean), .methodLink RX6 115 yX6_isWithin, .static yX6_isWithin, .code yX6_isWithin cX6_isWithin 3 (some .boolean)] ++ wsX60 ++ wsX30 ++ wsX00)
def wsX6_register : List Cond := .code yX6_register cX6_register 3 (some .int) :: ([.constant RX6 37 (-100001), .fieldLink RX6 10 "BarrelProcessor" "machine" "LBarrelProcessor$Machine;", .methodLink RX6 66 yX6_isThread, .static yX6_isThread, .initialized RX6, .code yX6_isThread cX6_isThread 1 (some .boolean), .methodLink RX6 115 yX6_isWithin, .static yX6_isWithin, .code yX6_isWithin cX6_isWithin 3 (some .boolean), .methodLink RX6 85 yX6_isRegister, .static yX6_isRegister, .code yX6_isRegister cX6_isRegister 1 (some .boolean)] ++ wsX60 ++ wsX30 ++ wsX00)
def wsX6_word : List Cond := .code yX6_word cX6_word 2 (some .int) :: ([.fieldLink RX6 10 "BarrelProcessor" "machine" "LBarrelProcessor$Machine;", .constant RX6 37 (-100001), .methodLink RX6 100 yX6_isWord, .static yX6_isWord, .initialized RX6, .code yX6_isWord cX6_isWord 1 (some .boolean), .methodLink RX6 115 yX6_isWithin, .static yX6_isWithin, .code yX6_isWithin cX6_isWithin 3 (some .boolean)] ++ wsX60 ++ wsX30)
def wsX6_operation : List Cond := .code yX6_operation cX6_operation 2 (some .int) :: ([.fieldLink RX6 10 "BarrelProcessor" "machine" "LBarrelProcessor$Machine;", .constant RX6 37 (-100001), .methodLink RX6 33 yX6_isPlace, .static yX6_isPlace, .initialized RX6, .code yX6_isPlace cX6_isPlace 1 (some .boolean), .methodLink RX6 115 yX6_isWithin, .static yX6_isWithin, .code yX6_isWithin cX6_isWithin 3 (some .boolean)] ++ wsX60 ++ wsX30 ++ wsX20)
def wsX6_operand : List Cond := .code yX6_operand cX6_operand 3 (some .int) :: ([.constant RX6 37 (-100001), .constant RX6 91 (-100002), .fieldLink RX6 10 "BarrelProcessor" "machine" "LBarrelProcessor$Machine;", .methodLink RX6 33 yX6_isPlace, .static yX6_isPlace, .initialized RX6, .code yX6_isPlace cX6_isPlace 1 (some .boolean), .methodLink RX6 115 yX6_isWithin, .static yX6_isWithin, .code yX6_isWithin cX6_isWithin 3 (some .boolean)] ++ wsX60 ++ wsX30 ++ wsX20)
def wsX6_slot : List Cond := .code yX6_slot cX6_slot 2 (some .int) :: ([.fieldLink RX6 10 "BarrelProcessor" "machine" "LBarrelProcessor$Machine;", .constant RX6 37 (-100001), .methodLink RX6 106 yX6_isSlot, .static yX6_isSlot, .initialized RX6, .code yX6_isSlot cX6_isSlot 1 (some .boolean), .methodLink RX6 115 yX6_isWithin, .static yX6_isWithin, .code yX6_isWithin cX6_isWithin 3 (some .boolean)] ++ wsX60 ++ wsX30)
def wsX6_setting : List Cond := .code yX6_setting cX6_setting 2 (some .int) :: ([.fieldLink RX6 10 "BarrelProcessor" "machine" "LBarrelProcessor$Machine;", .constant RX6 37 (-100001), .methodLink RX6 112 yX6_isSetting, .static yX6_isSetting, .initialized RX6, .code yX6_isSetting cX6_isSetting 1 (some .boolean), .methodLink RX6 115 yX6_isWithin, .static yX6_isWithin, .code yX6_isWithin cX6_isWithin 3 (some .boolean)] ++ wsX60 ++ wsX30)
def wsX6_breakpoint : List Cond := .code yX6_breakpoint cX6_breakpoint 2 (some .int) :: ([.fieldLink RX6 10 "BarrelProcessor" "machine" "LBarrelProcessor$Machine;", .constant RX6 37 (-100001), .methodLink RX6 33 yX6_isPlace, .static yX6_isPlace, .initialized RX6, .code yX6_isPlace cX6_isPlace 1 (some .boolean), .methodLink RX6 115 yX6_isWithin, .static yX6_isWithin, .code yX6_isWithin cX6_isWithin 3 (some .boolean)] ++ wsX60 ++ wsX30)
def wsX6_cycle : List Cond := .code yX6_cycle cX6_cycle 1 (some .int) :: ([.fieldLink RX6 10 "BarrelProcessor" "machine" "LBarrelProcessor$Machine;"] ++ wsX60 ++ wsX30)
def wsX6_idle : List Cond := .code yX6_idle cX6_idle 1 (some .int) :: ([.fieldLink RX6 10 "BarrelProcessor" "machine" "LBarrelProcessor$Machine;"] ++ wsX60 ++ wsX30)
def wsX6_executed : List Cond := .code yX6_executed cX6_executed 2 (some .int) :: ([.fieldLink RX6 10 "BarrelProcessor" "machine" "LBarrelProcessor$Machine;", .constant RX6 37 (-100001), .methodLink RX6 66 yX6_isThread, .static yX6_isThread, .initialized RX6, .code yX6_isThread cX6_isThread 1 (some .boolean), .methodLink RX6 115 yX6_isWithin, .static yX6_isWithin, .code yX6_isWithin cX6_isWithin 3 (some .boolean)] ++ wsX60 ++ wsX30 ++ wsX00)
def wsX6_lent : List Cond := .code yX6_lent cX6_lent 2 (some .int) :: ([.fieldLink RX6 10 "BarrelProcessor" "machine" "LBarrelProcessor$Machine;", .constant RX6 37 (-100001), .methodLink RX6 66 yX6_isThread, .static yX6_isThread, .initialized RX6, .code yX6_isThread cX6_isThread 1 (some .boolean), .methodLink RX6 115 yX6_isWithin, .static yX6_isWithin, .code yX6_isWithin cX6_isWithin 3 (some .boolean)] ++ wsX60 ++ wsX30 ++ wsX00)
def wsX6_starved : List Cond := .code yX6_starved cX6_starved 2 (some .int) :: ([.fieldLink RX6 10 "BarrelProcessor" "machine" "LBarrelProcessor$Machine;", .constant RX6 37 (-100001), .methodLink RX6 66 yX6_isThread, .static yX6_isThread, .initialized RX6, .code yX6_isThread cX6_isThread 1 (some .boolean), .methodLink RX6 115 yX6_isWithin, .static yX6_isWithin, .code yX6_isWithin cX6_isWithin 3 (some .boolean)] ++ wsX60 ++ wsX30 ++ wsX00)
def wsX6_trace : List Cond := .code yX6_trace cX6_trace 3 (some .int) :: ([.constant RX6 91 (-100002), .fieldLink RX6 10 "BarrelProcessor" "machine" "LBarrelProcessor$Machine;", .methodLink RX6 115 yX6_isWithin, .static yX6_isWithin, .initialized RX6, .code yX6_isWithin cX6_isWithin 3 (some .boolean), .methodLink RX6 173 yX5_lookUp, .instanceMethod yX5_lookUp, .selects RX5 yX5_lookUp yX5_lookUp, .initialized RX5, .code yX5_lookUp cX5_lookUp 4 (some .int), .fieldLink RX5 19 "BarrelProcessor$Trace" "count" "I", .constant RX5 28 (-100005), .fieldLink RX5 15 "BarrelProcessor$Trace" "next" "I", .fieldLink RX5 11 "BarrelProcessor$Trace" "parts" "[I"] ++ wsX60 ++ wsX30 ++ wsX50)
def wsX6_use : List Cond := .code yX6_use cX6_use 1 (some .float) :: ([.fieldLink RX6 10 "BarrelProcessor" "machine" "LBarrelProcessor$Machine;"] ++ wsX60 ++ wsX30)
def wsX6_nextThread_r1 : List Cond := [Cond.fieldLink RX6 10 "BarrelProcessor" "machine" "LBarrelProcessor$Machine;", Cond.methodLink RX6 177 yX3_findIssuer, Cond.instanceMethod yX3_findIssuer, Cond.selects RX3 yX3_findIssuer yX3_findIssuer, Cond.initialized RX3, Cond.code yX3_findIssuer cX3_findIssuer 3 (some .int), Cond.fieldLink RX3 34 "BarrelProcessor$Machine" "settings" "[I", Cond.constant RX3 79 (-100005), Cond.methodLink RX3 80 yX3_findReady, Cond.instanceMethod yX3_findReady, Cond.selects RX3 yX3_findReady yX3_findReady, Cond.code yX3_findReady cX3_findReady 5 (some .int), Cond.fieldLink RX3 11 "BarrelProcessor$Machine" "threads" "[LBarrelProcessor$HardwareThread;", Cond.fieldLink RX3 62 "BarrelProcessor$Machine" "cycle" "I", Cond.methodLink RX3 99 yX3_doesBarrierOpen, Cond.instanceMethod yX3_doesBarrierOpen, Cond.selects RX3 yX3_doesBarrierOpen yX3_doesBarrierOpen, Cond.code yX3_doesBarrierOpen cX3_doesBarrierOpen 4 (some .boolean), Cond.methodLink RX3 105 yX0_hasLoadDue, Cond.instanceMethod yX0_hasLoadDue, Cond.selects RX0 yX0_hasLoadDue yX0_hasLoadDue, Cond.initialized RX0, Cond.code yX0_hasLoadDue cX0_hasLoadDue 2 (some .boolean), Cond.fieldLink RX0 15 "BarrelProcessor$HardwareThread" "state" "I"]
def wsX6_nextThread_r2 : List Cond := [Cond.fieldLink RX0 40 "BarrelProcessor$HardwareThread" "loadDue" "I", Cond.methodLink RX3 84 yX3_slotOwner, Cond.instanceMethod yX3_slotOwner, Cond.selects RX3 yX3_slotOwner yX3_slotOwner, Cond.code yX3_slotOwner cX3_slotOwner 1 (some .int), Cond.fieldLink RX3 31 "BarrelProcessor$Machine" "slots" "[I", Cond.methodLink RX3 87 yX3_isIn, Cond.static yX3_isIn, Cond.code yX3_isIn cX3_isIn 2 (some .boolean), Cond.methodLink RX3 91 yX3_findNextAfter, Cond.static yX3_findNextAfter, Cond.code yX3_findNextAfter cX3_findNextAfter 4 (some .int), Cond.methodLink RX3 95 yX3_findLongestWaiting, Cond.instanceMethod yX3_findLongestWaiting, Cond.selects RX3 yX3_findLongestWaiting yX3_findLongestWaiting, Cond.code yX3_findLongestWaiting cX3_findLongestWaiting 6 (some .int)]
def wsX6_nextThread : List Cond := .code yX6_nextThread cX6_nextThread 1 (some .int) :: ((wsX6_nextThread_r1 ++ wsX6_nextThread_r2) ++ wsX60 ++ wsX30 ++ wsX00)
def wsX6_tryOut_r1 : List Cond := [Cond.fieldLink RX6 16 "BarrelProcessor" "trial" "LBarrelProcessor$Machine;", Cond.fieldLink RX6 10 "BarrelProcessor" "machine" "LBarrelProcessor$Machine;", Cond.methodLink RX6 183 yX3_copyFrom, Cond.instanceMethod yX3_copyFrom, Cond.selects RX3 yX3_copyFrom yX3_copyFrom, Cond.initialized RX3, Cond.code yX3_copyFrom cX3_copyFrom 3 none, Cond.fieldLink RX3 11 "BarrelProcessor$Machine" "threads" "[LBarrelProcessor$HardwareThread;", Cond.fieldLink RX3 20 "BarrelProcessor$Machine" "program" "LBarrelProcessor$Instructions;", Cond.fieldLink RX3 24 "BarrelProcessor$Machine" "breakpoints" "[I", Cond.methodLink RX3 53 arraycopyName, Cond.native arraycopyName, Cond.static arraycopyName, Cond.initialized "java/lang/System", Cond.fieldLink RX3 28 "BarrelProcessor$Machine" "words" "[I", Cond.fieldLink RX3 31 "BarrelProcessor$Machine" "slots" "[I", Cond.fieldLink RX3 34 "BarrelProcessor$Machine" "settings" "[I", Cond.fieldLink RX3 40 "BarrelProcessor$Machine" "trace" "LBarrelProcessor$Trace;", Cond.fieldLink RX3 62 "BarrelProcessor$Machine" "cycle" "I", Cond.fieldLink RX3 66 "BarrelProcessor$Machine" "idle" "I", Cond.methodLink RX3 45 yX0_copyFrom, Cond.instanceMethod yX0_copyFrom, Cond.selects RX0 yX0_copyFrom yX0_copyFrom, Cond.initialized RX0]
def wsX6_tryOut_r2 : List Cond := [Cond.code yX0_copyFrom cX0_copyFrom 2 none, Cond.fieldLink RX0 9 "BarrelProcessor$HardwareThread" "registers" "[I", Cond.methodLink RX0 52 arraycopyName, Cond.fieldLink RX0 15 "BarrelProcessor$HardwareThread" "state" "I", Cond.fieldLink RX0 28 "BarrelProcessor$HardwareThread" "programCounter" "I", Cond.fieldLink RX0 34 "BarrelProcessor$HardwareThread" "loadRegister" "I", Cond.fieldLink RX0 37 "BarrelProcessor$HardwareThread" "loadWord" "I", Cond.fieldLink RX0 40 "BarrelProcessor$HardwareThread" "loadDue" "I", Cond.fieldLink RX0 19 "BarrelProcessor$HardwareThread" "lastIssue" "I", Cond.fieldLink RX0 58 "BarrelProcessor$HardwareThread" "executed" "I", Cond.fieldLink RX0 61 "BarrelProcessor$HardwareThread" "lent" "I", Cond.fieldLink RX0 31 "BarrelProcessor$HardwareThread" "starvedNow" "I", Cond.fieldLink RX0 43 "BarrelProcessor$HardwareThread" "longestStarved" "I", Cond.methodLink RX3 49 yX2_copyRows, Cond.instanceMethod yX2_copyRows, Cond.selects RX2 yX2_copyRows yX2_copyRows, Cond.initialized RX2, Cond.code yX2_copyRows cX2_copyRows 4 none, Cond.fieldLink RX2 11 "BarrelProcessor$Instructions" "operations" "[I", Cond.methodLink RX2 25 arraycopyName, Cond.fieldLink RX2 15 "BarrelProcessor$Instructions" "operands" "[I", Cond.methodLink RX3 59 yX5_copyFrom, Cond.instanceMethod yX5_copyFrom, Cond.selects RX5 yX5_copyFrom yX5_copyFrom]
def wsX6_tryOut_r3 : List Cond := [Cond.initialized RX5, Cond.code yX5_copyFrom cX5_copyFrom 2 none, Cond.fieldLink RX5 11 "BarrelProcessor$Trace" "parts" "[I", Cond.methodLink RX5 29 arraycopyName, Cond.fieldLink RX5 15 "BarrelProcessor$Trace" "next" "I", Cond.fieldLink RX5 19 "BarrelProcessor$Trace" "count" "I", Cond.methodLink RX6 186 yX3_runToEnd, Cond.instanceMethod yX3_runToEnd, Cond.selects RX3 yX3_runToEnd yX3_runToEnd, Cond.code yX3_runToEnd cX3_runToEnd 2 (some .int), Cond.constant RX3 79 (-100005), Cond.methodLink RX3 69 yX3_areAllHalted, Cond.instanceMethod yX3_areAllHalted, Cond.selects RX3 yX3_areAllHalted yX3_areAllHalted, Cond.code yX3_areAllHalted cX3_areAllHalted 2 (some .boolean), Cond.methodLink RX3 76 yX3_runCycle, Cond.instanceMethod yX3_runCycle, Cond.selects RX3 yX3_runCycle yX3_runCycle, Cond.code yX3_runCycle cX3_runCycle 2 none, Cond.methodLink RX3 124 yX3_finishLoads, Cond.instanceMethod yX3_finishLoads, Cond.selects RX3 yX3_finishLoads yX3_finishLoads, Cond.code yX3_finishLoads cX3_finishLoads 3 none, Cond.methodLink RX3 105 yX0_hasLoadDue]
def wsX6_tryOut_r4 : List Cond := [Cond.instanceMethod yX0_hasLoadDue, Cond.selects RX0 yX0_hasLoadDue yX0_hasLoadDue, Cond.code yX0_hasLoadDue cX0_hasLoadDue 2 (some .boolean), Cond.methodLink RX3 127 yX3_openBarrier, Cond.instanceMethod yX3_openBarrier, Cond.selects RX3 yX3_openBarrier yX3_openBarrier, Cond.code yX3_openBarrier cX3_openBarrier 2 none, Cond.methodLink RX3 99 yX3_doesBarrierOpen, Cond.instanceMethod yX3_doesBarrierOpen, Cond.selects RX3 yX3_doesBarrierOpen yX3_doesBarrierOpen, Cond.code yX3_doesBarrierOpen cX3_doesBarrierOpen 4 (some .boolean), Cond.methodLink RX3 112 yX3_findIssuer, Cond.instanceMethod yX3_findIssuer, Cond.selects RX3 yX3_findIssuer yX3_findIssuer, Cond.code yX3_findIssuer cX3_findIssuer 3 (some .int), Cond.methodLink RX3 80 yX3_findReady, Cond.instanceMethod yX3_findReady, Cond.selects RX3 yX3_findReady yX3_findReady, Cond.code yX3_findReady cX3_findReady 5 (some .int), Cond.methodLink RX3 84 yX3_slotOwner, Cond.instanceMethod yX3_slotOwner, Cond.selects RX3 yX3_slotOwner yX3_slotOwner, Cond.code yX3_slotOwner cX3_slotOwner 1 (some .int), Cond.methodLink RX3 87 yX3_isIn]
def wsX6_tryOut_r5 : List Cond := [Cond.static yX3_isIn, Cond.code yX3_isIn cX3_isIn 2 (some .boolean), Cond.methodLink RX3 91 yX3_findNextAfter, Cond.static yX3_findNextAfter, Cond.code yX3_findNextAfter cX3_findNextAfter 4 (some .int), Cond.methodLink RX3 95 yX3_findLongestWaiting, Cond.instanceMethod yX3_findLongestWaiting, Cond.selects RX3 yX3_findLongestWaiting yX3_findLongestWaiting, Cond.code yX3_findLongestWaiting cX3_findLongestWaiting 6 (some .int), Cond.methodLink RX3 130 yX3_countStarving, Cond.instanceMethod yX3_countStarving, Cond.selects RX3 yX3_countStarving yX3_countStarving, Cond.code yX3_countStarving cX3_countStarving 4 none, Cond.methodLink RX3 149 yX0_countCycle, Cond.instanceMethod yX0_countCycle, Cond.selects RX0 yX0_countCycle yX0_countCycle, Cond.code yX0_countCycle cX0_countCycle 2 none, Cond.methodLink RX0 46 Lib.Math.max.name, Cond.static Lib.Math.max.name, Cond.initialized "java/lang/Math", Cond.code Lib.Math.max.name Lib.Math.max.code 2 (some .int), Cond.static yX6_isThread, Cond.initialized RX6, Cond.code yX6_isThread cX6_isThread 1 (some .boolean)]
def wsX6_tryOut_r6 : List Cond := [Cond.methodLink RX6 115 yX6_isWithin, Cond.static yX6_isWithin, Cond.code yX6_isWithin cX6_isWithin 3 (some .boolean), Cond.methodLink RX3 134 yX3_noteIssue, Cond.instanceMethod yX3_noteIssue, Cond.selects RX3 yX3_noteIssue yX3_noteIssue, Cond.code yX3_noteIssue cX3_noteIssue 3 none, Cond.methodLink RX3 159 yX5_note, Cond.instanceMethod yX5_note, Cond.selects RX5 yX5_note yX5_note, Cond.code yX5_note cX5_note 5 none, Cond.methodLink RX5 22 Lib.Math.min.name, Cond.static Lib.Math.min.name, Cond.code Lib.Math.min.name Lib.Math.min.code 2 (some .int), Cond.methodLink RX3 137 yX3_executeNext, Cond.instanceMethod yX3_executeNext, Cond.selects RX3 yX3_executeNext yX3_executeNext, Cond.code yX3_executeNext cX3_executeNext 6 none, Cond.static yX6_isPlace, Cond.code yX6_isPlace cX6_isPlace 1 (some .boolean), Cond.methodLink RX3 169 yX3_calculate, Cond.static yX3_calculate, Cond.code yX3_calculate cX3_calculate 6 none, Cond.methodLink RX3 173 yX3_reachMemory]
def wsX6_tryOut_r7 : List Cond := [Cond.instanceMethod yX3_reachMemory, Cond.selects RX3 yX3_reachMemory yX3_reachMemory, Cond.code yX3_reachMemory cX3_reachMemory 8 none, Cond.methodLink RX3 180 yX0_beginLoad, Cond.instanceMethod yX0_beginLoad, Cond.selects RX0 yX0_beginLoad yX0_beginLoad, Cond.code yX0_beginLoad cX0_beginLoad 4 none, Cond.methodLink RX3 177 yX3_steer, Cond.static yX3_steer, Cond.code yX3_steer cX3_steer 5 none]
def wsX6_tryOut : List Cond := .code yX6_tryOut cX6_tryOut 3 (some .int) :: ((wsX6_tryOut_r1 ++ (wsX6_tryOut_r2 ++ (wsX6_tryOut_r3 ++ (wsX6_tryOut_r4 ++ (wsX6_tryOut_r5 ++ (wsX6_tryOut_r6 ++ wsX6_tryOut_r7)))))) ++ wsX60 ++ wsX30 ++ wsX00 ++ wsX20 ++ wsX50)
def wsX6_cyclesLeft_r1 : List Cond := [Cond.fieldLink RX6 10 "BarrelProcessor" "machine" "LBarrelProcessor$Machine;", Cond.methodLink RX6 180 yX6_tryOut, Cond.instanceMethod yX6_tryOut, Cond.selects RX6 yX6_tryOut yX6_tryOut, Cond.initialized RX6, Cond.code yX6_tryOut cX6_tryOut 3 (some .int), Cond.fieldLink RX6 16 "BarrelProcessor" "trial" "LBarrelProcessor$Machine;", Cond.methodLink RX6 183 yX3_copyFrom, Cond.instanceMethod yX3_copyFrom, Cond.selects RX3 yX3_copyFrom yX3_copyFrom, Cond.initialized RX3, Cond.code yX3_copyFrom cX3_copyFrom 3 none, Cond.fieldLink RX3 11 "BarrelProcessor$Machine" "threads" "[LBarrelProcessor$HardwareThread;", Cond.fieldLink RX3 20 "BarrelProcessor$Machine" "program" "LBarrelProcessor$Instructions;", Cond.fieldLink RX3 24 "BarrelProcessor$Machine" "breakpoints" "[I", Cond.methodLink RX3 53 arraycopyName, Cond.native arraycopyName, Cond.static arraycopyName, Cond.initialized "java/lang/System", Cond.fieldLink RX3 28 "BarrelProcessor$Machine" "words" "[I", Cond.fieldLink RX3 31 "BarrelProcessor$Machine" "slots" "[I", Cond.fieldLink RX3 34 "BarrelProcessor$Machine" "settings" "[I", Cond.fieldLink RX3 40 "BarrelProcessor$Machine" "trace" "LBarrelProcessor$Trace;", Cond.fieldLink RX3 62 "BarrelProcessor$Machine" "cycle" "I"]
def wsX6_cyclesLeft_r2 : List Cond := [Cond.fieldLink RX3 66 "BarrelProcessor$Machine" "idle" "I", Cond.methodLink RX3 45 yX0_copyFrom, Cond.instanceMethod yX0_copyFrom, Cond.selects RX0 yX0_copyFrom yX0_copyFrom, Cond.initialized RX0, Cond.code yX0_copyFrom cX0_copyFrom 2 none, Cond.fieldLink RX0 9 "BarrelProcessor$HardwareThread" "registers" "[I", Cond.methodLink RX0 52 arraycopyName, Cond.fieldLink RX0 15 "BarrelProcessor$HardwareThread" "state" "I", Cond.fieldLink RX0 28 "BarrelProcessor$HardwareThread" "programCounter" "I", Cond.fieldLink RX0 34 "BarrelProcessor$HardwareThread" "loadRegister" "I", Cond.fieldLink RX0 37 "BarrelProcessor$HardwareThread" "loadWord" "I", Cond.fieldLink RX0 40 "BarrelProcessor$HardwareThread" "loadDue" "I", Cond.fieldLink RX0 19 "BarrelProcessor$HardwareThread" "lastIssue" "I", Cond.fieldLink RX0 58 "BarrelProcessor$HardwareThread" "executed" "I", Cond.fieldLink RX0 61 "BarrelProcessor$HardwareThread" "lent" "I", Cond.fieldLink RX0 31 "BarrelProcessor$HardwareThread" "starvedNow" "I", Cond.fieldLink RX0 43 "BarrelProcessor$HardwareThread" "longestStarved" "I", Cond.methodLink RX3 49 yX2_copyRows, Cond.instanceMethod yX2_copyRows, Cond.selects RX2 yX2_copyRows yX2_copyRows, Cond.initialized RX2, Cond.code yX2_copyRows cX2_copyRows 4 none, Cond.fieldLink RX2 11 "BarrelProcessor$Instructions" "operations" "[I"]
def wsX6_cyclesLeft_r3 : List Cond := [Cond.methodLink RX2 25 arraycopyName, Cond.fieldLink RX2 15 "BarrelProcessor$Instructions" "operands" "[I", Cond.methodLink RX3 59 yX5_copyFrom, Cond.instanceMethod yX5_copyFrom, Cond.selects RX5 yX5_copyFrom yX5_copyFrom, Cond.initialized RX5, Cond.code yX5_copyFrom cX5_copyFrom 2 none, Cond.fieldLink RX5 11 "BarrelProcessor$Trace" "parts" "[I", Cond.methodLink RX5 29 arraycopyName, Cond.fieldLink RX5 15 "BarrelProcessor$Trace" "next" "I", Cond.fieldLink RX5 19 "BarrelProcessor$Trace" "count" "I", Cond.methodLink RX6 186 yX3_runToEnd, Cond.instanceMethod yX3_runToEnd, Cond.selects RX3 yX3_runToEnd yX3_runToEnd, Cond.code yX3_runToEnd cX3_runToEnd 2 (some .int), Cond.constant RX3 79 (-100005), Cond.methodLink RX3 69 yX3_areAllHalted, Cond.instanceMethod yX3_areAllHalted, Cond.selects RX3 yX3_areAllHalted yX3_areAllHalted, Cond.code yX3_areAllHalted cX3_areAllHalted 2 (some .boolean), Cond.methodLink RX3 76 yX3_runCycle, Cond.instanceMethod yX3_runCycle, Cond.selects RX3 yX3_runCycle yX3_runCycle, Cond.code yX3_runCycle cX3_runCycle 2 none]
def wsX6_cyclesLeft_r4 : List Cond := [Cond.methodLink RX3 124 yX3_finishLoads, Cond.instanceMethod yX3_finishLoads, Cond.selects RX3 yX3_finishLoads yX3_finishLoads, Cond.code yX3_finishLoads cX3_finishLoads 3 none, Cond.methodLink RX3 105 yX0_hasLoadDue, Cond.instanceMethod yX0_hasLoadDue, Cond.selects RX0 yX0_hasLoadDue yX0_hasLoadDue, Cond.code yX0_hasLoadDue cX0_hasLoadDue 2 (some .boolean), Cond.methodLink RX3 127 yX3_openBarrier, Cond.instanceMethod yX3_openBarrier, Cond.selects RX3 yX3_openBarrier yX3_openBarrier, Cond.code yX3_openBarrier cX3_openBarrier 2 none, Cond.methodLink RX3 99 yX3_doesBarrierOpen, Cond.instanceMethod yX3_doesBarrierOpen, Cond.selects RX3 yX3_doesBarrierOpen yX3_doesBarrierOpen, Cond.code yX3_doesBarrierOpen cX3_doesBarrierOpen 4 (some .boolean), Cond.methodLink RX3 112 yX3_findIssuer, Cond.instanceMethod yX3_findIssuer, Cond.selects RX3 yX3_findIssuer yX3_findIssuer, Cond.code yX3_findIssuer cX3_findIssuer 3 (some .int), Cond.methodLink RX3 80 yX3_findReady, Cond.instanceMethod yX3_findReady, Cond.selects RX3 yX3_findReady yX3_findReady, Cond.code yX3_findReady cX3_findReady 5 (some .int)]
def wsX6_cyclesLeft_r5 : List Cond := [Cond.methodLink RX3 84 yX3_slotOwner, Cond.instanceMethod yX3_slotOwner, Cond.selects RX3 yX3_slotOwner yX3_slotOwner, Cond.code yX3_slotOwner cX3_slotOwner 1 (some .int), Cond.methodLink RX3 87 yX3_isIn, Cond.static yX3_isIn, Cond.code yX3_isIn cX3_isIn 2 (some .boolean), Cond.methodLink RX3 91 yX3_findNextAfter, Cond.static yX3_findNextAfter, Cond.code yX3_findNextAfter cX3_findNextAfter 4 (some .int), Cond.methodLink RX3 95 yX3_findLongestWaiting, Cond.instanceMethod yX3_findLongestWaiting, Cond.selects RX3 yX3_findLongestWaiting yX3_findLongestWaiting, Cond.code yX3_findLongestWaiting cX3_findLongestWaiting 6 (some .int), Cond.methodLink RX3 130 yX3_countStarving, Cond.instanceMethod yX3_countStarving, Cond.selects RX3 yX3_countStarving yX3_countStarving, Cond.code yX3_countStarving cX3_countStarving 4 none, Cond.methodLink RX3 149 yX0_countCycle, Cond.instanceMethod yX0_countCycle, Cond.selects RX0 yX0_countCycle yX0_countCycle, Cond.code yX0_countCycle cX0_countCycle 2 none, Cond.methodLink RX0 46 Lib.Math.max.name, Cond.static Lib.Math.max.name]
def wsX6_cyclesLeft_r6 : List Cond := [Cond.initialized "java/lang/Math", Cond.code Lib.Math.max.name Lib.Math.max.code 2 (some .int), Cond.static yX6_isThread, Cond.code yX6_isThread cX6_isThread 1 (some .boolean), Cond.methodLink RX6 115 yX6_isWithin, Cond.static yX6_isWithin, Cond.code yX6_isWithin cX6_isWithin 3 (some .boolean), Cond.methodLink RX3 134 yX3_noteIssue, Cond.instanceMethod yX3_noteIssue, Cond.selects RX3 yX3_noteIssue yX3_noteIssue, Cond.code yX3_noteIssue cX3_noteIssue 3 none, Cond.methodLink RX3 159 yX5_note, Cond.instanceMethod yX5_note, Cond.selects RX5 yX5_note yX5_note, Cond.code yX5_note cX5_note 5 none, Cond.methodLink RX5 22 Lib.Math.min.name, Cond.static Lib.Math.min.name, Cond.code Lib.Math.min.name Lib.Math.min.code 2 (some .int), Cond.methodLink RX3 137 yX3_executeNext, Cond.instanceMethod yX3_executeNext, Cond.selects RX3 yX3_executeNext yX3_executeNext, Cond.code yX3_executeNext cX3_executeNext 6 none, Cond.static yX6_isPlace, Cond.code yX6_isPlace cX6_isPlace 1 (some .boolean)]
def wsX6_cyclesLeft_r7 : List Cond := [Cond.methodLink RX3 169 yX3_calculate, Cond.static yX3_calculate, Cond.code yX3_calculate cX3_calculate 6 none, Cond.methodLink RX3 173 yX3_reachMemory, Cond.instanceMethod yX3_reachMemory, Cond.selects RX3 yX3_reachMemory yX3_reachMemory, Cond.code yX3_reachMemory cX3_reachMemory 8 none, Cond.methodLink RX3 180 yX0_beginLoad, Cond.instanceMethod yX0_beginLoad, Cond.selects RX0 yX0_beginLoad yX0_beginLoad, Cond.code yX0_beginLoad cX0_beginLoad 4 none, Cond.methodLink RX3 177 yX3_steer, Cond.static yX3_steer, Cond.code yX3_steer cX3_steer 5 none]
def wsX6_cyclesLeft : List Cond := .code yX6_cyclesLeft cX6_cyclesLeft 1 (some .int) :: ((wsX6_cyclesLeft_r1 ++ (wsX6_cyclesLeft_r2 ++ (wsX6_cyclesLeft_r3 ++ (wsX6_cyclesLeft_r4 ++ (wsX6_cyclesLeft_r5 ++ (wsX6_cyclesLeft_r6 ++ wsX6_cyclesLeft_r7)))))) ++ wsX60 ++ wsX30 ++ wsX00 ++ wsX20 ++ wsX50)
def wsX6_cyclesIf_r1 : List Cond := [Cond.constant RX6 91 (-100002), Cond.methodLink RX6 115 yX6_isWithin, Cond.static yX6_isWithin, Cond.initialized RX6, Cond.code yX6_isWithin cX6_isWithin 3 (some .boolean), Cond.methodLink RX6 180 yX6_tryOut, Cond.instanceMethod yX6_tryOut, Cond.selects RX6 yX6_tryOut yX6_tryOut, Cond.code yX6_tryOut cX6_tryOut 3 (some .int), Cond.fieldLink RX6 16 "BarrelProcessor" "trial" "LBarrelProcessor$Machine;", Cond.fieldLink RX6 10 "BarrelProcessor" "machine" "LBarrelProcessor$Machine;", Cond.methodLink RX6 183 yX3_copyFrom, Cond.instanceMethod yX3_copyFrom, Cond.selects RX3 yX3_copyFrom yX3_copyFrom, Cond.initialized RX3, Cond.code yX3_copyFrom cX3_copyFrom 3 none, Cond.fieldLink RX3 11 "BarrelProcessor$Machine" "threads" "[LBarrelProcessor$HardwareThread;", Cond.fieldLink RX3 20 "BarrelProcessor$Machine" "program" "LBarrelProcessor$Instructions;", Cond.fieldLink RX3 24 "BarrelProcessor$Machine" "breakpoints" "[I", Cond.methodLink RX3 53 arraycopyName, Cond.native arraycopyName, Cond.static arraycopyName, Cond.initialized "java/lang/System", Cond.fieldLink RX3 28 "BarrelProcessor$Machine" "words" "[I"]
def wsX6_cyclesIf_r2 : List Cond := [Cond.fieldLink RX3 31 "BarrelProcessor$Machine" "slots" "[I", Cond.fieldLink RX3 34 "BarrelProcessor$Machine" "settings" "[I", Cond.fieldLink RX3 40 "BarrelProcessor$Machine" "trace" "LBarrelProcessor$Trace;", Cond.fieldLink RX3 62 "BarrelProcessor$Machine" "cycle" "I", Cond.fieldLink RX3 66 "BarrelProcessor$Machine" "idle" "I", Cond.methodLink RX3 45 yX0_copyFrom, Cond.instanceMethod yX0_copyFrom, Cond.selects RX0 yX0_copyFrom yX0_copyFrom, Cond.initialized RX0, Cond.code yX0_copyFrom cX0_copyFrom 2 none, Cond.fieldLink RX0 9 "BarrelProcessor$HardwareThread" "registers" "[I", Cond.methodLink RX0 52 arraycopyName, Cond.fieldLink RX0 15 "BarrelProcessor$HardwareThread" "state" "I", Cond.fieldLink RX0 28 "BarrelProcessor$HardwareThread" "programCounter" "I", Cond.fieldLink RX0 34 "BarrelProcessor$HardwareThread" "loadRegister" "I", Cond.fieldLink RX0 37 "BarrelProcessor$HardwareThread" "loadWord" "I", Cond.fieldLink RX0 40 "BarrelProcessor$HardwareThread" "loadDue" "I", Cond.fieldLink RX0 19 "BarrelProcessor$HardwareThread" "lastIssue" "I", Cond.fieldLink RX0 58 "BarrelProcessor$HardwareThread" "executed" "I", Cond.fieldLink RX0 61 "BarrelProcessor$HardwareThread" "lent" "I", Cond.fieldLink RX0 31 "BarrelProcessor$HardwareThread" "starvedNow" "I", Cond.fieldLink RX0 43 "BarrelProcessor$HardwareThread" "longestStarved" "I", Cond.methodLink RX3 49 yX2_copyRows, Cond.instanceMethod yX2_copyRows]
def wsX6_cyclesIf_r3 : List Cond := [Cond.selects RX2 yX2_copyRows yX2_copyRows, Cond.initialized RX2, Cond.code yX2_copyRows cX2_copyRows 4 none, Cond.fieldLink RX2 11 "BarrelProcessor$Instructions" "operations" "[I", Cond.methodLink RX2 25 arraycopyName, Cond.fieldLink RX2 15 "BarrelProcessor$Instructions" "operands" "[I", Cond.methodLink RX3 59 yX5_copyFrom, Cond.instanceMethod yX5_copyFrom, Cond.selects RX5 yX5_copyFrom yX5_copyFrom, Cond.initialized RX5, Cond.code yX5_copyFrom cX5_copyFrom 2 none, Cond.fieldLink RX5 11 "BarrelProcessor$Trace" "parts" "[I", Cond.methodLink RX5 29 arraycopyName, Cond.fieldLink RX5 15 "BarrelProcessor$Trace" "next" "I", Cond.fieldLink RX5 19 "BarrelProcessor$Trace" "count" "I", Cond.methodLink RX6 186 yX3_runToEnd, Cond.instanceMethod yX3_runToEnd, Cond.selects RX3 yX3_runToEnd yX3_runToEnd, Cond.code yX3_runToEnd cX3_runToEnd 2 (some .int), Cond.constant RX3 79 (-100005), Cond.methodLink RX3 69 yX3_areAllHalted, Cond.instanceMethod yX3_areAllHalted, Cond.selects RX3 yX3_areAllHalted yX3_areAllHalted, Cond.code yX3_areAllHalted cX3_areAllHalted 2 (some .boolean)]
def wsX6_cyclesIf_r4 : List Cond := [Cond.methodLink RX3 76 yX3_runCycle, Cond.instanceMethod yX3_runCycle, Cond.selects RX3 yX3_runCycle yX3_runCycle, Cond.code yX3_runCycle cX3_runCycle 2 none, Cond.methodLink RX3 124 yX3_finishLoads, Cond.instanceMethod yX3_finishLoads, Cond.selects RX3 yX3_finishLoads yX3_finishLoads, Cond.code yX3_finishLoads cX3_finishLoads 3 none, Cond.methodLink RX3 105 yX0_hasLoadDue, Cond.instanceMethod yX0_hasLoadDue, Cond.selects RX0 yX0_hasLoadDue yX0_hasLoadDue, Cond.code yX0_hasLoadDue cX0_hasLoadDue 2 (some .boolean), Cond.methodLink RX3 127 yX3_openBarrier, Cond.instanceMethod yX3_openBarrier, Cond.selects RX3 yX3_openBarrier yX3_openBarrier, Cond.code yX3_openBarrier cX3_openBarrier 2 none, Cond.methodLink RX3 99 yX3_doesBarrierOpen, Cond.instanceMethod yX3_doesBarrierOpen, Cond.selects RX3 yX3_doesBarrierOpen yX3_doesBarrierOpen, Cond.code yX3_doesBarrierOpen cX3_doesBarrierOpen 4 (some .boolean), Cond.methodLink RX3 112 yX3_findIssuer, Cond.instanceMethod yX3_findIssuer, Cond.selects RX3 yX3_findIssuer yX3_findIssuer, Cond.code yX3_findIssuer cX3_findIssuer 3 (some .int)]
def wsX6_cyclesIf_r5 : List Cond := [Cond.methodLink RX3 80 yX3_findReady, Cond.instanceMethod yX3_findReady, Cond.selects RX3 yX3_findReady yX3_findReady, Cond.code yX3_findReady cX3_findReady 5 (some .int), Cond.methodLink RX3 84 yX3_slotOwner, Cond.instanceMethod yX3_slotOwner, Cond.selects RX3 yX3_slotOwner yX3_slotOwner, Cond.code yX3_slotOwner cX3_slotOwner 1 (some .int), Cond.methodLink RX3 87 yX3_isIn, Cond.static yX3_isIn, Cond.code yX3_isIn cX3_isIn 2 (some .boolean), Cond.methodLink RX3 91 yX3_findNextAfter, Cond.static yX3_findNextAfter, Cond.code yX3_findNextAfter cX3_findNextAfter 4 (some .int), Cond.methodLink RX3 95 yX3_findLongestWaiting, Cond.instanceMethod yX3_findLongestWaiting, Cond.selects RX3 yX3_findLongestWaiting yX3_findLongestWaiting, Cond.code yX3_findLongestWaiting cX3_findLongestWaiting 6 (some .int), Cond.methodLink RX3 130 yX3_countStarving, Cond.instanceMethod yX3_countStarving, Cond.selects RX3 yX3_countStarving yX3_countStarving, Cond.code yX3_countStarving cX3_countStarving 4 none, Cond.methodLink RX3 149 yX0_countCycle, Cond.instanceMethod yX0_countCycle]
def wsX6_cyclesIf_r6 : List Cond := [Cond.selects RX0 yX0_countCycle yX0_countCycle, Cond.code yX0_countCycle cX0_countCycle 2 none, Cond.methodLink RX0 46 Lib.Math.max.name, Cond.static Lib.Math.max.name, Cond.initialized "java/lang/Math", Cond.code Lib.Math.max.name Lib.Math.max.code 2 (some .int), Cond.static yX6_isThread, Cond.code yX6_isThread cX6_isThread 1 (some .boolean), Cond.methodLink RX3 134 yX3_noteIssue, Cond.instanceMethod yX3_noteIssue, Cond.selects RX3 yX3_noteIssue yX3_noteIssue, Cond.code yX3_noteIssue cX3_noteIssue 3 none, Cond.methodLink RX3 159 yX5_note, Cond.instanceMethod yX5_note, Cond.selects RX5 yX5_note yX5_note, Cond.code yX5_note cX5_note 5 none, Cond.methodLink RX5 22 Lib.Math.min.name, Cond.static Lib.Math.min.name, Cond.code Lib.Math.min.name Lib.Math.min.code 2 (some .int), Cond.methodLink RX3 137 yX3_executeNext, Cond.instanceMethod yX3_executeNext, Cond.selects RX3 yX3_executeNext yX3_executeNext, Cond.code yX3_executeNext cX3_executeNext 6 none, Cond.static yX6_isPlace]
def wsX6_cyclesIf_r7 : List Cond := [Cond.code yX6_isPlace cX6_isPlace 1 (some .boolean), Cond.methodLink RX3 169 yX3_calculate, Cond.static yX3_calculate, Cond.code yX3_calculate cX3_calculate 6 none, Cond.methodLink RX3 173 yX3_reachMemory, Cond.instanceMethod yX3_reachMemory, Cond.selects RX3 yX3_reachMemory yX3_reachMemory, Cond.code yX3_reachMemory cX3_reachMemory 8 none, Cond.methodLink RX3 180 yX0_beginLoad, Cond.instanceMethod yX0_beginLoad, Cond.selects RX0 yX0_beginLoad yX0_beginLoad, Cond.code yX0_beginLoad cX0_beginLoad 4 none, Cond.methodLink RX3 177 yX3_steer, Cond.static yX3_steer, Cond.code yX3_steer cX3_steer 5 none]
def wsX6_cyclesIf : List Cond := .code yX6_cyclesIf cX6_cyclesIf 3 (some .int) :: ((wsX6_cyclesIf_r1 ++ (wsX6_cyclesIf_r2 ++ (wsX6_cyclesIf_r3 ++ (wsX6_cyclesIf_r4 ++ (wsX6_cyclesIf_r5 ++ (wsX6_cyclesIf_r6 ++ wsX6_cyclesIf_r7)))))) ++ wsX60 ++ wsX30 ++ wsX00 ++ wsX20 ++ wsX50)
def wsX6_bestLend_r1 : List Cond := [Cond.constant RX6 42 (-100005), Cond.fieldLink RX6 10 "BarrelProcessor" "machine" "LBarrelProcessor$Machine;", Cond.methodLink RX6 180 yX6_tryOut, Cond.instanceMethod yX6_tryOut, Cond.selects RX6 yX6_tryOut yX6_tryOut, Cond.initialized RX6, Cond.code yX6_tryOut cX6_tryOut 3 (some .int), Cond.fieldLink RX6 16 "BarrelProcessor" "trial" "LBarrelProcessor$Machine;", Cond.methodLink RX6 183 yX3_copyFrom, Cond.instanceMethod yX3_copyFrom, Cond.selects RX3 yX3_copyFrom yX3_copyFrom, Cond.initialized RX3, Cond.code yX3_copyFrom cX3_copyFrom 3 none, Cond.fieldLink RX3 11 "BarrelProcessor$Machine" "threads" "[LBarrelProcessor$HardwareThread;", Cond.fieldLink RX3 20 "BarrelProcessor$Machine" "program" "LBarrelProcessor$Instructions;", Cond.fieldLink RX3 24 "BarrelProcessor$Machine" "breakpoints" "[I", Cond.methodLink RX3 53 arraycopyName, Cond.native arraycopyName, Cond.static arraycopyName, Cond.initialized "java/lang/System", Cond.fieldLink RX3 28 "BarrelProcessor$Machine" "words" "[I", Cond.fieldLink RX3 31 "BarrelProcessor$Machine" "slots" "[I", Cond.fieldLink RX3 34 "BarrelProcessor$Machine" "settings" "[I", Cond.fieldLink RX3 40 "BarrelProcessor$Machine" "trace" "LBarrelProcessor$Trace;"]
def wsX6_bestLend_r2 : List Cond := [Cond.fieldLink RX3 62 "BarrelProcessor$Machine" "cycle" "I", Cond.fieldLink RX3 66 "BarrelProcessor$Machine" "idle" "I", Cond.methodLink RX3 45 yX0_copyFrom, Cond.instanceMethod yX0_copyFrom, Cond.selects RX0 yX0_copyFrom yX0_copyFrom, Cond.initialized RX0, Cond.code yX0_copyFrom cX0_copyFrom 2 none, Cond.fieldLink RX0 9 "BarrelProcessor$HardwareThread" "registers" "[I", Cond.methodLink RX0 52 arraycopyName, Cond.fieldLink RX0 15 "BarrelProcessor$HardwareThread" "state" "I", Cond.fieldLink RX0 28 "BarrelProcessor$HardwareThread" "programCounter" "I", Cond.fieldLink RX0 34 "BarrelProcessor$HardwareThread" "loadRegister" "I", Cond.fieldLink RX0 37 "BarrelProcessor$HardwareThread" "loadWord" "I", Cond.fieldLink RX0 40 "BarrelProcessor$HardwareThread" "loadDue" "I", Cond.fieldLink RX0 19 "BarrelProcessor$HardwareThread" "lastIssue" "I", Cond.fieldLink RX0 58 "BarrelProcessor$HardwareThread" "executed" "I", Cond.fieldLink RX0 61 "BarrelProcessor$HardwareThread" "lent" "I", Cond.fieldLink RX0 31 "BarrelProcessor$HardwareThread" "starvedNow" "I", Cond.fieldLink RX0 43 "BarrelProcessor$HardwareThread" "longestStarved" "I", Cond.methodLink RX3 49 yX2_copyRows, Cond.instanceMethod yX2_copyRows, Cond.selects RX2 yX2_copyRows yX2_copyRows, Cond.initialized RX2, Cond.code yX2_copyRows cX2_copyRows 4 none]
def wsX6_bestLend_r3 : List Cond := [Cond.fieldLink RX2 11 "BarrelProcessor$Instructions" "operations" "[I", Cond.methodLink RX2 25 arraycopyName, Cond.fieldLink RX2 15 "BarrelProcessor$Instructions" "operands" "[I", Cond.methodLink RX3 59 yX5_copyFrom, Cond.instanceMethod yX5_copyFrom, Cond.selects RX5 yX5_copyFrom yX5_copyFrom, Cond.initialized RX5, Cond.code yX5_copyFrom cX5_copyFrom 2 none, Cond.fieldLink RX5 11 "BarrelProcessor$Trace" "parts" "[I", Cond.methodLink RX5 29 arraycopyName, Cond.fieldLink RX5 15 "BarrelProcessor$Trace" "next" "I", Cond.fieldLink RX5 19 "BarrelProcessor$Trace" "count" "I", Cond.methodLink RX6 186 yX3_runToEnd, Cond.instanceMethod yX3_runToEnd, Cond.selects RX3 yX3_runToEnd yX3_runToEnd, Cond.code yX3_runToEnd cX3_runToEnd 2 (some .int), Cond.constant RX3 79 (-100005), Cond.methodLink RX3 69 yX3_areAllHalted, Cond.instanceMethod yX3_areAllHalted, Cond.selects RX3 yX3_areAllHalted yX3_areAllHalted, Cond.code yX3_areAllHalted cX3_areAllHalted 2 (some .boolean), Cond.methodLink RX3 76 yX3_runCycle, Cond.instanceMethod yX3_runCycle, Cond.selects RX3 yX3_runCycle yX3_runCycle]
def wsX6_bestLend_r4 : List Cond := [Cond.code yX3_runCycle cX3_runCycle 2 none, Cond.methodLink RX3 124 yX3_finishLoads, Cond.instanceMethod yX3_finishLoads, Cond.selects RX3 yX3_finishLoads yX3_finishLoads, Cond.code yX3_finishLoads cX3_finishLoads 3 none, Cond.methodLink RX3 105 yX0_hasLoadDue, Cond.instanceMethod yX0_hasLoadDue, Cond.selects RX0 yX0_hasLoadDue yX0_hasLoadDue, Cond.code yX0_hasLoadDue cX0_hasLoadDue 2 (some .boolean), Cond.methodLink RX3 127 yX3_openBarrier, Cond.instanceMethod yX3_openBarrier, Cond.selects RX3 yX3_openBarrier yX3_openBarrier, Cond.code yX3_openBarrier cX3_openBarrier 2 none, Cond.methodLink RX3 99 yX3_doesBarrierOpen, Cond.instanceMethod yX3_doesBarrierOpen, Cond.selects RX3 yX3_doesBarrierOpen yX3_doesBarrierOpen, Cond.code yX3_doesBarrierOpen cX3_doesBarrierOpen 4 (some .boolean), Cond.methodLink RX3 112 yX3_findIssuer, Cond.instanceMethod yX3_findIssuer, Cond.selects RX3 yX3_findIssuer yX3_findIssuer, Cond.code yX3_findIssuer cX3_findIssuer 3 (some .int), Cond.methodLink RX3 80 yX3_findReady, Cond.instanceMethod yX3_findReady, Cond.selects RX3 yX3_findReady yX3_findReady]
def wsX6_bestLend_r5 : List Cond := [Cond.code yX3_findReady cX3_findReady 5 (some .int), Cond.methodLink RX3 84 yX3_slotOwner, Cond.instanceMethod yX3_slotOwner, Cond.selects RX3 yX3_slotOwner yX3_slotOwner, Cond.code yX3_slotOwner cX3_slotOwner 1 (some .int), Cond.methodLink RX3 87 yX3_isIn, Cond.static yX3_isIn, Cond.code yX3_isIn cX3_isIn 2 (some .boolean), Cond.methodLink RX3 91 yX3_findNextAfter, Cond.static yX3_findNextAfter, Cond.code yX3_findNextAfter cX3_findNextAfter 4 (some .int), Cond.methodLink RX3 95 yX3_findLongestWaiting, Cond.instanceMethod yX3_findLongestWaiting, Cond.selects RX3 yX3_findLongestWaiting yX3_findLongestWaiting, Cond.code yX3_findLongestWaiting cX3_findLongestWaiting 6 (some .int), Cond.methodLink RX3 130 yX3_countStarving, Cond.instanceMethod yX3_countStarving, Cond.selects RX3 yX3_countStarving yX3_countStarving, Cond.code yX3_countStarving cX3_countStarving 4 none, Cond.methodLink RX3 149 yX0_countCycle, Cond.instanceMethod yX0_countCycle, Cond.selects RX0 yX0_countCycle yX0_countCycle, Cond.code yX0_countCycle cX0_countCycle 2 none, Cond.methodLink RX0 46 Lib.Math.max.name]
def wsX6_bestLend_r6 : List Cond := [Cond.static Lib.Math.max.name, Cond.initialized "java/lang/Math", Cond.code Lib.Math.max.name Lib.Math.max.code 2 (some .int), Cond.static yX6_isThread, Cond.code yX6_isThread cX6_isThread 1 (some .boolean), Cond.methodLink RX6 115 yX6_isWithin, Cond.static yX6_isWithin, Cond.code yX6_isWithin cX6_isWithin 3 (some .boolean), Cond.methodLink RX3 134 yX3_noteIssue, Cond.instanceMethod yX3_noteIssue, Cond.selects RX3 yX3_noteIssue yX3_noteIssue, Cond.code yX3_noteIssue cX3_noteIssue 3 none, Cond.methodLink RX3 159 yX5_note, Cond.instanceMethod yX5_note, Cond.selects RX5 yX5_note yX5_note, Cond.code yX5_note cX5_note 5 none, Cond.methodLink RX5 22 Lib.Math.min.name, Cond.static Lib.Math.min.name, Cond.code Lib.Math.min.name Lib.Math.min.code 2 (some .int), Cond.methodLink RX3 137 yX3_executeNext, Cond.instanceMethod yX3_executeNext, Cond.selects RX3 yX3_executeNext yX3_executeNext, Cond.code yX3_executeNext cX3_executeNext 6 none, Cond.static yX6_isPlace]
def wsX6_bestLend_r7 : List Cond := [Cond.code yX6_isPlace cX6_isPlace 1 (some .boolean), Cond.methodLink RX3 169 yX3_calculate, Cond.static yX3_calculate, Cond.code yX3_calculate cX3_calculate 6 none, Cond.methodLink RX3 173 yX3_reachMemory, Cond.instanceMethod yX3_reachMemory, Cond.selects RX3 yX3_reachMemory yX3_reachMemory, Cond.code yX3_reachMemory cX3_reachMemory 8 none, Cond.methodLink RX3 180 yX0_beginLoad, Cond.instanceMethod yX0_beginLoad, Cond.selects RX0 yX0_beginLoad yX0_beginLoad, Cond.code yX0_beginLoad cX0_beginLoad 4 none, Cond.methodLink RX3 177 yX3_steer, Cond.static yX3_steer, Cond.code yX3_steer cX3_steer 5 none]
def wsX6_bestLend : List Cond := .code yX6_bestLend cX6_bestLend 5 (some .int) :: ((wsX6_bestLend_r1 ++ (wsX6_bestLend_r2 ++ (wsX6_bestLend_r3 ++ (wsX6_bestLend_r4 ++ (wsX6_bestLend_r5 ++ (wsX6_bestLend_r6 ++ wsX6_bestLend_r7)))))) ++ wsX60 ++ wsX30 ++ wsX00 ++ wsX20 ++ wsX50)
def wsX6_finalWord_r1 : List Cond := [Cond.constant RX6 37 (-100001), Cond.fieldLink RX6 10 "BarrelProcessor" "machine" "LBarrelProcessor$Machine;", Cond.constant RX6 42 (-100005), Cond.fieldLink RX6 16 "BarrelProcessor" "trial" "LBarrelProcessor$Machine;", Cond.methodLink RX6 100 yX6_isWord, Cond.static yX6_isWord, Cond.initialized RX6, Cond.code yX6_isWord cX6_isWord 1 (some .boolean), Cond.methodLink RX6 115 yX6_isWithin, Cond.static yX6_isWithin, Cond.code yX6_isWithin cX6_isWithin 3 (some .boolean), Cond.methodLink RX6 180 yX6_tryOut, Cond.instanceMethod yX6_tryOut, Cond.selects RX6 yX6_tryOut yX6_tryOut, Cond.code yX6_tryOut cX6_tryOut 3 (some .int), Cond.methodLink RX6 183 yX3_copyFrom, Cond.instanceMethod yX3_copyFrom, Cond.selects RX3 yX3_copyFrom yX3_copyFrom, Cond.initialized RX3, Cond.code yX3_copyFrom cX3_copyFrom 3 none, Cond.fieldLink RX3 11 "BarrelProcessor$Machine" "threads" "[LBarrelProcessor$HardwareThread;", Cond.fieldLink RX3 20 "BarrelProcessor$Machine" "program" "LBarrelProcessor$Instructions;", Cond.fieldLink RX3 24 "BarrelProcessor$Machine" "breakpoints" "[I", Cond.methodLink RX3 53 arraycopyName]
def wsX6_finalWord_r2 : List Cond := [Cond.native arraycopyName, Cond.static arraycopyName, Cond.initialized "java/lang/System", Cond.fieldLink RX3 28 "BarrelProcessor$Machine" "words" "[I", Cond.fieldLink RX3 31 "BarrelProcessor$Machine" "slots" "[I", Cond.fieldLink RX3 34 "BarrelProcessor$Machine" "settings" "[I", Cond.fieldLink RX3 40 "BarrelProcessor$Machine" "trace" "LBarrelProcessor$Trace;", Cond.fieldLink RX3 62 "BarrelProcessor$Machine" "cycle" "I", Cond.fieldLink RX3 66 "BarrelProcessor$Machine" "idle" "I", Cond.methodLink RX3 45 yX0_copyFrom, Cond.instanceMethod yX0_copyFrom, Cond.selects RX0 yX0_copyFrom yX0_copyFrom, Cond.initialized RX0, Cond.code yX0_copyFrom cX0_copyFrom 2 none, Cond.fieldLink RX0 9 "BarrelProcessor$HardwareThread" "registers" "[I", Cond.methodLink RX0 52 arraycopyName, Cond.fieldLink RX0 15 "BarrelProcessor$HardwareThread" "state" "I", Cond.fieldLink RX0 28 "BarrelProcessor$HardwareThread" "programCounter" "I", Cond.fieldLink RX0 34 "BarrelProcessor$HardwareThread" "loadRegister" "I", Cond.fieldLink RX0 37 "BarrelProcessor$HardwareThread" "loadWord" "I", Cond.fieldLink RX0 40 "BarrelProcessor$HardwareThread" "loadDue" "I", Cond.fieldLink RX0 19 "BarrelProcessor$HardwareThread" "lastIssue" "I", Cond.fieldLink RX0 58 "BarrelProcessor$HardwareThread" "executed" "I", Cond.fieldLink RX0 61 "BarrelProcessor$HardwareThread" "lent" "I"]
def wsX6_finalWord_r3 : List Cond := [Cond.fieldLink RX0 31 "BarrelProcessor$HardwareThread" "starvedNow" "I", Cond.fieldLink RX0 43 "BarrelProcessor$HardwareThread" "longestStarved" "I", Cond.methodLink RX3 49 yX2_copyRows, Cond.instanceMethod yX2_copyRows, Cond.selects RX2 yX2_copyRows yX2_copyRows, Cond.initialized RX2, Cond.code yX2_copyRows cX2_copyRows 4 none, Cond.fieldLink RX2 11 "BarrelProcessor$Instructions" "operations" "[I", Cond.methodLink RX2 25 arraycopyName, Cond.fieldLink RX2 15 "BarrelProcessor$Instructions" "operands" "[I", Cond.methodLink RX3 59 yX5_copyFrom, Cond.instanceMethod yX5_copyFrom, Cond.selects RX5 yX5_copyFrom yX5_copyFrom, Cond.initialized RX5, Cond.code yX5_copyFrom cX5_copyFrom 2 none, Cond.fieldLink RX5 11 "BarrelProcessor$Trace" "parts" "[I", Cond.methodLink RX5 29 arraycopyName, Cond.fieldLink RX5 15 "BarrelProcessor$Trace" "next" "I", Cond.fieldLink RX5 19 "BarrelProcessor$Trace" "count" "I", Cond.methodLink RX6 186 yX3_runToEnd, Cond.instanceMethod yX3_runToEnd, Cond.selects RX3 yX3_runToEnd yX3_runToEnd, Cond.code yX3_runToEnd cX3_runToEnd 2 (some .int), Cond.constant RX3 79 (-100005)]
def wsX6_finalWord_r4 : List Cond := [Cond.methodLink RX3 69 yX3_areAllHalted, Cond.instanceMethod yX3_areAllHalted, Cond.selects RX3 yX3_areAllHalted yX3_areAllHalted, Cond.code yX3_areAllHalted cX3_areAllHalted 2 (some .boolean), Cond.methodLink RX3 76 yX3_runCycle, Cond.instanceMethod yX3_runCycle, Cond.selects RX3 yX3_runCycle yX3_runCycle, Cond.code yX3_runCycle cX3_runCycle 2 none, Cond.methodLink RX3 124 yX3_finishLoads, Cond.instanceMethod yX3_finishLoads, Cond.selects RX3 yX3_finishLoads yX3_finishLoads, Cond.code yX3_finishLoads cX3_finishLoads 3 none, Cond.methodLink RX3 105 yX0_hasLoadDue, Cond.instanceMethod yX0_hasLoadDue, Cond.selects RX0 yX0_hasLoadDue yX0_hasLoadDue, Cond.code yX0_hasLoadDue cX0_hasLoadDue 2 (some .boolean), Cond.methodLink RX3 127 yX3_openBarrier, Cond.instanceMethod yX3_openBarrier, Cond.selects RX3 yX3_openBarrier yX3_openBarrier, Cond.code yX3_openBarrier cX3_openBarrier 2 none, Cond.methodLink RX3 99 yX3_doesBarrierOpen, Cond.instanceMethod yX3_doesBarrierOpen, Cond.selects RX3 yX3_doesBarrierOpen yX3_doesBarrierOpen, Cond.code yX3_doesBarrierOpen cX3_doesBarrierOpen 4 (some .boolean)]
def wsX6_finalWord_r5 : List Cond := [Cond.methodLink RX3 112 yX3_findIssuer, Cond.instanceMethod yX3_findIssuer, Cond.selects RX3 yX3_findIssuer yX3_findIssuer, Cond.code yX3_findIssuer cX3_findIssuer 3 (some .int), Cond.methodLink RX3 80 yX3_findReady, Cond.instanceMethod yX3_findReady, Cond.selects RX3 yX3_findReady yX3_findReady, Cond.code yX3_findReady cX3_findReady 5 (some .int), Cond.methodLink RX3 84 yX3_slotOwner, Cond.instanceMethod yX3_slotOwner, Cond.selects RX3 yX3_slotOwner yX3_slotOwner, Cond.code yX3_slotOwner cX3_slotOwner 1 (some .int), Cond.methodLink RX3 87 yX3_isIn, Cond.static yX3_isIn, Cond.code yX3_isIn cX3_isIn 2 (some .boolean), Cond.methodLink RX3 91 yX3_findNextAfter, Cond.static yX3_findNextAfter, Cond.code yX3_findNextAfter cX3_findNextAfter 4 (some .int), Cond.methodLink RX3 95 yX3_findLongestWaiting, Cond.instanceMethod yX3_findLongestWaiting, Cond.selects RX3 yX3_findLongestWaiting yX3_findLongestWaiting, Cond.code yX3_findLongestWaiting cX3_findLongestWaiting 6 (some .int), Cond.methodLink RX3 130 yX3_countStarving, Cond.instanceMethod yX3_countStarving]
def wsX6_finalWord_r6 : List Cond := [Cond.selects RX3 yX3_countStarving yX3_countStarving, Cond.code yX3_countStarving cX3_countStarving 4 none, Cond.methodLink RX3 149 yX0_countCycle, Cond.instanceMethod yX0_countCycle, Cond.selects RX0 yX0_countCycle yX0_countCycle, Cond.code yX0_countCycle cX0_countCycle 2 none, Cond.methodLink RX0 46 Lib.Math.max.name, Cond.static Lib.Math.max.name, Cond.initialized "java/lang/Math", Cond.code Lib.Math.max.name Lib.Math.max.code 2 (some .int), Cond.static yX6_isThread, Cond.code yX6_isThread cX6_isThread 1 (some .boolean), Cond.methodLink RX3 134 yX3_noteIssue, Cond.instanceMethod yX3_noteIssue, Cond.selects RX3 yX3_noteIssue yX3_noteIssue, Cond.code yX3_noteIssue cX3_noteIssue 3 none, Cond.methodLink RX3 159 yX5_note, Cond.instanceMethod yX5_note, Cond.selects RX5 yX5_note yX5_note, Cond.code yX5_note cX5_note 5 none, Cond.methodLink RX5 22 Lib.Math.min.name, Cond.static Lib.Math.min.name, Cond.code Lib.Math.min.name Lib.Math.min.code 2 (some .int), Cond.methodLink RX3 137 yX3_executeNext]
def wsX6_finalWord_r7 : List Cond := [Cond.instanceMethod yX3_executeNext, Cond.selects RX3 yX3_executeNext yX3_executeNext, Cond.code yX3_executeNext cX3_executeNext 6 none, Cond.static yX6_isPlace, Cond.code yX6_isPlace cX6_isPlace 1 (some .boolean), Cond.methodLink RX3 169 yX3_calculate, Cond.static yX3_calculate, Cond.code yX3_calculate cX3_calculate 6 none, Cond.methodLink RX3 173 yX3_reachMemory, Cond.instanceMethod yX3_reachMemory, Cond.selects RX3 yX3_reachMemory yX3_reachMemory, Cond.code yX3_reachMemory cX3_reachMemory 8 none, Cond.methodLink RX3 180 yX0_beginLoad, Cond.instanceMethod yX0_beginLoad, Cond.selects RX0 yX0_beginLoad yX0_beginLoad, Cond.code yX0_beginLoad cX0_beginLoad 4 none, Cond.methodLink RX3 177 yX3_steer, Cond.static yX3_steer, Cond.code yX3_steer cX3_steer 5 none]
def wsX6_finalWord : List Cond := .code yX6_finalWord cX6_finalWord 3 (some .int) :: ((wsX6_finalWord_r1 ++ (wsX6_finalWord_r2 ++ (wsX6_finalWord_r3 ++ (wsX6_finalWord_r4 ++ (wsX6_finalWord_r5 ++ (wsX6_finalWord_r6 ++ wsX6_finalWord_r7)))))) ++ wsX60 ++ wsX30 ++ wsX00 ++ wsX20 ++ wsX50)
def wsX7_at : List Cond := .code yX7_at cX7_at 2 (some .int) :: ([])
def wsX7_init : List Cond := .code yX7_init cX7_init 2 none :: ([.methodLink RX7 1 objectInit, .instanceMethod objectInit, .code objectInit ⟨#[0xb1]⟩ 1 none, .arrayClass .int, .fieldLink RX7 7 "BarrelProcessorModel" "s" "[I", .fieldLink RX7 13 "BarrelProcessorModel" "aside" "[I", .fieldLink RX7 16 "BarrelProcessorModel" "past" "[I", .fieldLink RX7 19 "BarrelProcessorModel" "text" "[I", .methodLink RX7 22 yX7_at, .static yX7_at, .initialized RX7, .code yX7_at cX7_at 2 (some .int)] ++ wsX70)
def wsX7_in : List Cond := .code yX7_in cX7_in 3 (some .boolean) :: ([])
def wsX7_isThread : List Cond := .code yX7_isThread cX7_isThread 1 (some .boolean) :: ([.methodLink RX7 26 yX7_in, .static yX7_in, .initialized RX7, .code yX7_in cX7_in 3 (some .boolean)])
def wsX7_isPlace : List Cond := .code yX7_isPlace cX7_isPlace 1 (some .boolean) :: ([.methodLink RX7 26 yX7_in, .static yX7_in, .initialized RX7, .code yX7_in cX7_in 3 (some .boolean)])
def wsX7_isShort : List Cond := .code yX7_isShort cX7_isShort 1 (some .boolean) :: ([.methodLink RX7 26 yX7_in, .static yX7_in, .initialized RX7, .code yX7_in cX7_in 3 (some .boolean)])
def wsX7_putAside : List Cond := .code yX7_putAside cX7_putAside 2 none :: ([.fieldLink RX7 13 "BarrelProcessorModel" "aside" "[I", .fieldLink RX7 7 "BarrelProcessorModel" "s" "[I"] ++ wsX70)
def wsX7_putBack : List Cond := .code yX7_putBack cX7_putBack 2 none :: ([.fieldLink RX7 7 "BarrelProcessorModel" "s" "[I", .fieldLink RX7 13 "BarrelProcessorModel" "aside" "[I"] ++ wsX70)
def wsX7_records : List Cond := .code yX7_records cX7_records 2 none :: ([.fieldLink RX7 30 "BarrelProcessorModel" "pasts" "I", .fieldLink RX7 16 "BarrelProcessorModel" "past" "[I", .fieldLink RX7 7 "BarrelProcessorModel" "s" "[I"] ++ wsX70)
def wsX7_register0 : List Cond := .code yX7_register0 cX7_register0 3 (some .int) :: ([.fieldLink RX7 7 "BarrelProcessorModel" "s" "[I", .methodLink RX7 22 yX7_at, .static yX7_at, .initialized RX7, .code yX7_at cX7_at 2 (some .int)] ++ wsX70)
def wsX7_puts : List Cond := .code yX7_puts cX7_puts 4 none :: ([.fieldLink RX7 7 "BarrelProcessorModel" "s" "[I", .methodLink RX7 22 yX7_at, .static yX7_at, .initialized RX7, .code yX7_at cX7_at 2 (some .int)] ++ wsX70)
def wsX7_jumps : List Cond := .code yX7_jumps cX7_jumps 4 none :: ([.fieldLink RX7 7 "BarrelProcessorModel" "s" "[I", .methodLink RX7 22 yX7_at, .static yX7_at, .initialized RX7, .code yX7_at cX7_at 2 (some .int)] ++ wsX70)
def wsX7_does : List Cond := .code yX7_does cX7_does 7 none :: ([.fieldLink RX7 7 "BarrelProcessorModel" "s" "[I", .methodLink RX7 26 yX7_in, .static yX7_in, .initialized RX7, .code yX7_in cX7_in 3 (some .boolean), .methodLink RX7 34 yX7_register0, .instanceMethod yX7_register0, .selects RX7 yX7_register0 yX7_register0, .code yX7_register0 cX7_register0 3 (some .int), .methodLink RX7 22 yX7_at, .static yX7_at, .code yX7_at cX7_at 2 (some .int), .methodLink RX7 37 yX7_puts, .instanceMethod yX7_puts, .selects RX7 yX7_puts yX7_puts, .code yX7_puts cX7_puts 4 none, .methodLink RX7 41 yX7_jumps, .instanceMethod yX7_jumps, .selects RX7 yX7_jumps yX7_jumps, .code yX7_jumps cX7_jumps 4 none] ++ wsX70)
def wsX7_traces : List Cond := .code yX7_traces cX7_traces 4 none :: ([.fieldLink RX7 7 "BarrelProcessorModel" "s" "[I"] ++ wsX70)
def wsX7_executes_r1 : List Cond := [Cond.fieldLink RX7 7 "BarrelProcessorModel" "s" "[I", Cond.methodLink RX7 22 yX7_at, Cond.static yX7_at, Cond.initialized RX7, Cond.code yX7_at cX7_at 2 (some .int), Cond.methodLink RX7 45 yX7_traces, Cond.instanceMethod yX7_traces, Cond.selects RX7 yX7_traces yX7_traces, Cond.code yX7_traces cX7_traces 4 none, Cond.methodLink RX7 49 yX7_does, Cond.instanceMethod yX7_does, Cond.selects RX7 yX7_does yX7_does, Cond.code yX7_does cX7_does 7 none, Cond.methodLink RX7 26 yX7_in, Cond.static yX7_in, Cond.code yX7_in cX7_in 3 (some .boolean), Cond.methodLink RX7 34 yX7_register0, Cond.instanceMethod yX7_register0, Cond.selects RX7 yX7_register0 yX7_register0, Cond.code yX7_register0 cX7_register0 3 (some .int), Cond.methodLink RX7 37 yX7_puts, Cond.instanceMethod yX7_puts, Cond.selects RX7 yX7_puts yX7_puts, Cond.code yX7_puts cX7_puts 4 none]
def wsX7_executes_r2 : List Cond := [Cond.methodLink RX7 41 yX7_jumps, Cond.instanceMethod yX7_jumps, Cond.selects RX7 yX7_jumps yX7_jumps, Cond.code yX7_jumps cX7_jumps 4 none]
def wsX7_executes : List Cond := .code yX7_executes cX7_executes 3 none :: ((wsX7_executes_r1 ++ wsX7_executes_r2) ++ wsX70)
def wsX7_many : List Cond := .code yX7_many cX7_many 4 (some .int) :: ([.fieldLink RX7 7 "BarrelProcessorModel" "s" "[I", .methodLink RX7 22 yX7_at, .static yX7_at, .initialized RX7, .code yX7_at cX7_at 2 (some .int)] ++ wsX70)
def wsX7_prepares : List Cond := .code yX7_prepares cX7_prepares 3 none :: ([.fieldLink RX7 7 "BarrelProcessorModel" "s" "[I", .methodLink RX7 22 yX7_at, .static yX7_at, .initialized RX7, .code yX7_at cX7_at 2 (some .int), .methodLink RX7 37 yX7_puts, .instanceMethod yX7_puts, .selects RX7 yX7_puts yX7_puts, .code yX7_puts cX7_puts 4 none, .methodLink RX7 53 yX7_many, .instanceMethod yX7_many, .selects RX7 yX7_many yX7_many, .code yX7_many cX7_many 4 (some .int)] ++ wsX70)
def wsX7_isReady : List Cond := .code yX7_isReady cX7_isReady 2 (some .boolean) :: ([.fieldLink RX7 7 "BarrelProcessorModel" "s" "[I", .methodLink RX7 22 yX7_at, .static yX7_at, .initialized RX7, .code yX7_at cX7_at 2 (some .int)] ++ wsX70)
def wsX7_issuing : List Cond := .code yX7_issuing cX7_issuing 5 (some .int) :: ([.fieldLink RX7 7 "BarrelProcessorModel" "s" "[I", .methodLink RX7 57 yX7_isReady, .instanceMethod yX7_isReady, .selects RX7 yX7_isReady yX7_isReady, .initialized RX7, .code yX7_isReady cX7_isReady 2 (some .boolean), .methodLink RX7 22 yX7_at, .static yX7_at, .code yX7_at cX7_at 2 (some .int)] ++ wsX70)
def wsX7_cycles_r1 : List Cond := [Cond.fieldLink RX7 7 "BarrelProcessorModel" "s" "[I", Cond.methodLink RX7 61 yX7_prepares, Cond.instanceMethod yX7_prepares, Cond.selects RX7 yX7_prepares yX7_prepares, Cond.initialized RX7, Cond.code yX7_prepares cX7_prepares 3 none, Cond.methodLink RX7 22 yX7_at, Cond.static yX7_at, Cond.code yX7_at cX7_at 2 (some .int), Cond.methodLink RX7 37 yX7_puts, Cond.instanceMethod yX7_puts, Cond.selects RX7 yX7_puts yX7_puts, Cond.code yX7_puts cX7_puts 4 none, Cond.methodLink RX7 53 yX7_many, Cond.instanceMethod yX7_many, Cond.selects RX7 yX7_many yX7_many, Cond.code yX7_many cX7_many 4 (some .int), Cond.methodLink RX7 64 yX7_issuing, Cond.instanceMethod yX7_issuing, Cond.selects RX7 yX7_issuing yX7_issuing, Cond.code yX7_issuing cX7_issuing 5 (some .int), Cond.methodLink RX7 57 yX7_isReady, Cond.instanceMethod yX7_isReady, Cond.selects RX7 yX7_isReady yX7_isReady]
def wsX7_cycles_r2 : List Cond := [Cond.code yX7_isReady cX7_isReady 2 (some .boolean), Cond.methodLink RX7 68 yX7_executes, Cond.instanceMethod yX7_executes, Cond.selects RX7 yX7_executes yX7_executes, Cond.code yX7_executes cX7_executes 3 none, Cond.methodLink RX7 45 yX7_traces, Cond.instanceMethod yX7_traces, Cond.selects RX7 yX7_traces yX7_traces, Cond.code yX7_traces cX7_traces 4 none, Cond.methodLink RX7 49 yX7_does, Cond.instanceMethod yX7_does, Cond.selects RX7 yX7_does yX7_does, Cond.code yX7_does cX7_does 7 none, Cond.methodLink RX7 26 yX7_in, Cond.static yX7_in, Cond.code yX7_in cX7_in 3 (some .boolean), Cond.methodLink RX7 34 yX7_register0, Cond.instanceMethod yX7_register0, Cond.selects RX7 yX7_register0 yX7_register0, Cond.code yX7_register0 cX7_register0 3 (some .int), Cond.methodLink RX7 41 yX7_jumps, Cond.instanceMethod yX7_jumps, Cond.selects RX7 yX7_jumps yX7_jumps, Cond.code yX7_jumps cX7_jumps 4 none]
def wsX7_cycles : List Cond := .code yX7_cycles cX7_cycles 4 none :: ((wsX7_cycles_r1 ++ wsX7_cycles_r2) ++ wsX70)
def wsX7_isOver : List Cond := .code yX7_isOver cX7_isOver 1 (some .boolean) :: ([.methodLink RX7 53 yX7_many, .instanceMethod yX7_many, .selects RX7 yX7_many yX7_many, .initialized RX7, .code yX7_many cX7_many 4 (some .int), .fieldLink RX7 7 "BarrelProcessorModel" "s" "[I", .methodLink RX7 22 yX7_at, .static yX7_at, .code yX7_at cX7_at 2 (some .int)] ++ wsX70)
def wsX7_next : List Cond := .code yX7_next cX7_next 1 (some .int) :: ([.fieldLink RX7 88 "BarrelProcessorModel" "spot" "I", .fieldLink RX7 81 "BarrelProcessorModel" "length" "I", .fieldLink RX7 19 "BarrelProcessorModel" "text" "[I"] ++ wsX70)
def wsX7_operationOf : List Cond := .code yX7_operationOf cX7_operationOf 1 (some .int) :: ([])
def wsX7_digit : List Cond := .code yX7_digit cX7_digit 4 (some .int) :: ([.fieldLink RX7 125 "BarrelProcessorModel" "isWrong" "Z", .fieldLink RX7 88 "BarrelProcessorModel" "spot" "I", .methodLink RX7 129 yX7_next, .instanceMethod yX7_next, .selects RX7 yX7_next yX7_next, .initialized RX7, .code yX7_next cX7_next 1 (some .int), .fieldLink RX7 81 "BarrelProcessorModel" "length" "I", .fieldLink RX7 19 "BarrelProcessorModel" "text" "[I", .methodLink RX7 26 yX7_in, .static yX7_in, .code yX7_in cX7_in 3 (some .boolean)] ++ wsX70)
def wsX7_upTo : List Cond := .code yX7_upTo cX7_upTo 5 (some .int) :: ([.fieldLink RX7 125 "BarrelProcessorModel" "isWrong" "Z", .fieldLink RX7 88 "BarrelProcessorModel" "spot" "I", .methodLink RX7 132 yX7_digit, .instanceMethod yX7_digit, .selects RX7 yX7_digit yX7_digit, .initialized RX7, .code yX7_digit cX7_digit 4 (some .int), .methodLink RX7 129 yX7_next, .instanceMethod yX7_next, .selects RX7 yX7_next yX7_next, .code yX7_next cX7_next 1 (some .int), .fieldLink RX7 81 "BarrelProcessorModel" "length" "I", .fieldLink RX7 19 "BarrelProcessorModel" "text" "[I", .methodLink RX7 26 yX7_in, .static yX7_in, .code yX7_in cX7_in 3 (some .boolean)] ++ wsX70)
def wsX7_sign : List Cond := .code yX7_sign cX7_sign 2 none :: ([.fieldLink RX7 125 "BarrelProcessorModel" "isWrong" "Z", .fieldLink RX7 88 "BarrelProcessorModel" "spot" "I", .methodLink RX7 129 yX7_next, .instanceMethod yX7_next, .selects RX7 yX7_next yX7_next, .initialized RX7, .code yX7_next cX7_next 1 (some .int), .fieldLink RX7 81 "BarrelProcessorModel" "length" "I", .fieldLink RX7 19 "BarrelProcessorModel" "text" "[I"] ++ wsX70)
def wsX7_number : List Cond := .code yX7_number cX7_number 1 (some .int) :: ([.fieldLink RX7 125 "BarrelProcessorModel" "isWrong" "Z", .fieldLink RX7 88 "BarrelProcessorModel" "spot" "I", .methodLink RX7 129 yX7_next, .instanceMethod yX7_next, .selects RX7 yX7_next yX7_next, .initialized RX7, .code yX7_next cX7_next 1 (some .int), .fieldLink RX7 81 "BarrelProcessorModel" "length" "I", .fieldLink RX7 19 "BarrelProcessorModel" "text" "[I", .methodLink RX7 135 yX7_upTo, .instanceMethod yX7_upTo, .selects RX7 yX7_upTo yX7_upTo, .code yX7_upTo cX7_upTo 5 (some .int), .methodLink RX7 132 yX7_digit, .instanceMethod yX7_digit, .selects RX7 yX7_digit yX7_digit, .code yX7_digit cX7_digit 4 (some .int), .methodLink RX7 26 yX7_in, .static yX7_in, .code yX7_in cX7_in 3 (some .boolean)] ++ wsX70)
def wsX7_instruction_r1 : List Cond := [Cond.fieldLink RX7 94 "BarrelProcessorModel" "operation" "I", Cond.fieldLink RX7 97 "BarrelProcessorModel" "first" "I", Cond.fieldLink RX7 100 "BarrelProcessorModel" "second" "I", Cond.fieldLink RX7 125 "BarrelProcessorModel" "isWrong" "Z", Cond.fieldLink RX7 88 "BarrelProcessorModel" "spot" "I", Cond.methodLink RX7 129 yX7_next, Cond.instanceMethod yX7_next, Cond.selects RX7 yX7_next yX7_next, Cond.initialized RX7, Cond.code yX7_next cX7_next 1 (some .int), Cond.fieldLink RX7 81 "BarrelProcessorModel" "length" "I", Cond.fieldLink RX7 19 "BarrelProcessorModel" "text" "[I", Cond.methodLink RX7 138 yX7_operationOf, Cond.static yX7_operationOf, Cond.code yX7_operationOf cX7_operationOf 1 (some .int), Cond.methodLink RX7 135 yX7_upTo, Cond.instanceMethod yX7_upTo, Cond.selects RX7 yX7_upTo yX7_upTo, Cond.code yX7_upTo cX7_upTo 5 (some .int), Cond.methodLink RX7 132 yX7_digit, Cond.instanceMethod yX7_digit, Cond.selects RX7 yX7_digit yX7_digit, Cond.code yX7_digit cX7_digit 4 (some .int), Cond.methodLink RX7 26 yX7_in]
def wsX7_instruction_r2 : List Cond := [Cond.static yX7_in, Cond.code yX7_in cX7_in 3 (some .boolean), Cond.methodLink RX7 141 yX7_sign, Cond.instanceMethod yX7_sign, Cond.selects RX7 yX7_sign yX7_sign, Cond.code yX7_sign cX7_sign 2 none, Cond.methodLink RX7 144 yX7_number, Cond.instanceMethod yX7_number, Cond.selects RX7 yX7_number yX7_number, Cond.code yX7_number cX7_number 1 (some .int)]
def wsX7_instruction : List Cond := .code yX7_instruction cX7_instruction 1 none :: ((wsX7_instruction_r1 ++ wsX7_instruction_r2) ++ wsX70)
def wsX7_isFaulty_r1 : List Cond := [Cond.fieldLink RX7 88 "BarrelProcessorModel" "spot" "I", Cond.fieldLink RX7 125 "BarrelProcessorModel" "isWrong" "Z", Cond.fieldLink RX7 81 "BarrelProcessorModel" "length" "I", Cond.methodLink RX7 91 yX7_instruction, Cond.instanceMethod yX7_instruction, Cond.selects RX7 yX7_instruction yX7_instruction, Cond.initialized RX7, Cond.code yX7_instruction cX7_instruction 1 none, Cond.fieldLink RX7 94 "BarrelProcessorModel" "operation" "I", Cond.fieldLink RX7 97 "BarrelProcessorModel" "first" "I", Cond.fieldLink RX7 100 "BarrelProcessorModel" "second" "I", Cond.methodLink RX7 129 yX7_next, Cond.instanceMethod yX7_next, Cond.selects RX7 yX7_next yX7_next, Cond.code yX7_next cX7_next 1 (some .int), Cond.fieldLink RX7 19 "BarrelProcessorModel" "text" "[I", Cond.methodLink RX7 138 yX7_operationOf, Cond.static yX7_operationOf, Cond.code yX7_operationOf cX7_operationOf 1 (some .int), Cond.methodLink RX7 135 yX7_upTo, Cond.instanceMethod yX7_upTo, Cond.selects RX7 yX7_upTo yX7_upTo, Cond.code yX7_upTo cX7_upTo 5 (some .int), Cond.methodLink RX7 132 yX7_digit]
def wsX7_isFaulty_r2 : List Cond := [Cond.instanceMethod yX7_digit, Cond.selects RX7 yX7_digit yX7_digit, Cond.code yX7_digit cX7_digit 4 (some .int), Cond.methodLink RX7 26 yX7_in, Cond.static yX7_in, Cond.code yX7_in cX7_in 3 (some .boolean), Cond.methodLink RX7 141 yX7_sign, Cond.instanceMethod yX7_sign, Cond.selects RX7 yX7_sign yX7_sign, Cond.code yX7_sign cX7_sign 2 none, Cond.methodLink RX7 144 yX7_number, Cond.instanceMethod yX7_number, Cond.selects RX7 yX7_number yX7_number, Cond.code yX7_number cX7_number 1 (some .int)]
def wsX7_isFaulty : List Cond := .code yX7_isFaulty cX7_isFaulty 2 (some .boolean) :: ((wsX7_isFaulty_r1 ++ wsX7_isFaulty_r2) ++ wsX70)
def wsX7_assemble_r1 : List Cond := [Cond.constant RX7 75 (-100001), Cond.constant RX7 80 (-100003), Cond.fieldLink RX7 81 "BarrelProcessorModel" "length" "I", Cond.fieldLink RX7 19 "BarrelProcessorModel" "text" "[I", Cond.constant RX7 84 (-100004), Cond.fieldLink RX7 88 "BarrelProcessorModel" "spot" "I", Cond.fieldLink RX7 7 "BarrelProcessorModel" "s" "[I", Cond.fieldLink RX7 94 "BarrelProcessorModel" "operation" "I", Cond.fieldLink RX7 97 "BarrelProcessorModel" "first" "I", Cond.fieldLink RX7 100 "BarrelProcessorModel" "second" "I", Cond.methodLink RX7 72 yX7_isPlace, Cond.static yX7_isPlace, Cond.initialized RX7, Cond.code yX7_isPlace cX7_isPlace 1 (some .boolean), Cond.methodLink RX7 26 yX7_in, Cond.static yX7_in, Cond.code yX7_in cX7_in 3 (some .boolean), Cond.methodLink RX7 76 yX7_isFaulty, Cond.instanceMethod yX7_isFaulty, Cond.selects RX7 yX7_isFaulty yX7_isFaulty, Cond.code yX7_isFaulty cX7_isFaulty 2 (some .boolean), Cond.fieldLink RX7 125 "BarrelProcessorModel" "isWrong" "Z", Cond.methodLink RX7 91 yX7_instruction, Cond.instanceMethod yX7_instruction]
def wsX7_assemble_r2 : List Cond := [Cond.selects RX7 yX7_instruction yX7_instruction, Cond.code yX7_instruction cX7_instruction 1 none, Cond.methodLink RX7 129 yX7_next, Cond.instanceMethod yX7_next, Cond.selects RX7 yX7_next yX7_next, Cond.code yX7_next cX7_next 1 (some .int), Cond.methodLink RX7 138 yX7_operationOf, Cond.static yX7_operationOf, Cond.code yX7_operationOf cX7_operationOf 1 (some .int), Cond.methodLink RX7 135 yX7_upTo, Cond.instanceMethod yX7_upTo, Cond.selects RX7 yX7_upTo yX7_upTo, Cond.code yX7_upTo cX7_upTo 5 (some .int), Cond.methodLink RX7 132 yX7_digit, Cond.instanceMethod yX7_digit, Cond.selects RX7 yX7_digit yX7_digit, Cond.code yX7_digit cX7_digit 4 (some .int), Cond.methodLink RX7 141 yX7_sign, Cond.instanceMethod yX7_sign, Cond.selects RX7 yX7_sign yX7_sign, Cond.code yX7_sign cX7_sign 2 none, Cond.methodLink RX7 144 yX7_number, Cond.instanceMethod yX7_number, Cond.selects RX7 yX7_number yX7_number]
def wsX7_assemble_r3 : List Cond := [Cond.code yX7_number cX7_number 1 (some .int), Cond.methodLink RX7 85 yX7_records, Cond.instanceMethod yX7_records, Cond.selects RX7 yX7_records yX7_records, Cond.code yX7_records cX7_records 2 none, Cond.fieldLink RX7 30 "BarrelProcessorModel" "pasts" "I", Cond.fieldLink RX7 16 "BarrelProcessorModel" "past" "[I"]
def wsX7_assemble : List Cond := .code yX7_assemble cX7_assemble 4 (some .int) :: ((wsX7_assemble_r1 ++ (wsX7_assemble_r2 ++ wsX7_assemble_r3)) ++ wsX70)
def wsX7_start : List Cond := .code yX7_start cX7_start 5 (some .int) :: ([.constant RX7 75 (-100001), .fieldLink RX7 7 "BarrelProcessorModel" "s" "[I", .methodLink RX7 103 yX7_isThread, .static yX7_isThread, .initialized RX7, .code yX7_isThread cX7_isThread 1 (some .boolean), .methodLink RX7 26 yX7_in, .static yX7_in, .code yX7_in cX7_in 3 (some .boolean), .methodLink RX7 72 yX7_isPlace, .static yX7_isPlace, .code yX7_isPlace cX7_isPlace 1 (some .boolean), .methodLink RX7 85 yX7_records, .instanceMethod yX7_records, .selects RX7 yX7_records yX7_records, .code yX7_records cX7_records 2 none, .fieldLink RX7 30 "BarrelProcessorModel" "pasts" "I", .fieldLink RX7 16 "BarrelProcessorModel" "past" "[I", .methodLink RX7 22 yX7_at, .static yX7_at, .code yX7_at cX7_at 2 (some .int)] ++ wsX70)
def wsX7_halt : List Cond := .code yX7_halt cX7_halt 3 (some .int) :: ([.constant RX7 75 (-100001), .fieldLink RX7 7 "BarrelProcessorModel" "s" "[I", .methodLink RX7 103 yX7_isThread, .static yX7_isThread, .initialized RX7, .code yX7_isThread cX7_isThread 1 (some .boolean), .methodLink RX7 26 yX7_in, .static yX7_in, .code yX7_in cX7_in 3 (some .boolean), .methodLink RX7 85 yX7_records, .instanceMethod yX7_records, .selects RX7 yX7_records yX7_records, .code yX7_records cX7_records 2 none, .fieldLink RX7 30 "BarrelProcessorModel" "pasts" "I", .fieldLink RX7 16 "BarrelProcessorModel" "past" "[I", .methodLink RX7 22 yX7_at, .static yX7_at, .code yX7_at cX7_at 2 (some .int)] ++ wsX70)
def wsX7_setRegister_r1 : List Cond := [Cond.constant RX7 75 (-100001), Cond.constant RX7 109 (-100002), Cond.methodLink RX7 103 yX7_isThread, Cond.static yX7_isThread, Cond.initialized RX7, Cond.code yX7_isThread cX7_isThread 1 (some .boolean), Cond.methodLink RX7 26 yX7_in, Cond.static yX7_in, Cond.code yX7_in cX7_in 3 (some .boolean), Cond.methodLink RX7 106 yX7_isShort, Cond.static yX7_isShort, Cond.code yX7_isShort cX7_isShort 1 (some .boolean), Cond.methodLink RX7 85 yX7_records, Cond.instanceMethod yX7_records, Cond.selects RX7 yX7_records yX7_records, Cond.code yX7_records cX7_records 2 none, Cond.fieldLink RX7 30 "BarrelProcessorModel" "pasts" "I", Cond.fieldLink RX7 16 "BarrelProcessorModel" "past" "[I", Cond.fieldLink RX7 7 "BarrelProcessorModel" "s" "[I", Cond.methodLink RX7 34 yX7_register0, Cond.instanceMethod yX7_register0, Cond.selects RX7 yX7_register0 yX7_register0, Cond.code yX7_register0 cX7_register0 3 (some .int), Cond.methodLink RX7 22 yX7_at]
def wsX7_setRegister_r2 : List Cond := [Cond.static yX7_at, Cond.code yX7_at cX7_at 2 (some .int), Cond.methodLink RX7 37 yX7_puts, Cond.instanceMethod yX7_puts, Cond.selects RX7 yX7_puts yX7_puts, Cond.code yX7_puts cX7_puts 4 none]
def wsX7_setRegister : List Cond := .code yX7_setRegister cX7_setRegister 5 (some .int) :: ((wsX7_setRegister_r1 ++ wsX7_setRegister_r2) ++ wsX70)
def wsX7_setWord : List Cond := .code yX7_setWord cX7_setWord 4 (some .int) :: ([.constant RX7 75 (-100001), .constant RX7 109 (-100002), .fieldLink RX7 7 "BarrelProcessorModel" "s" "[I", .methodLink RX7 26 yX7_in, .static yX7_in, .initialized RX7, .code yX7_in cX7_in 3 (some .boolean), .methodLink RX7 106 yX7_isShort, .static yX7_isShort, .code yX7_isShort cX7_isShort 1 (some .boolean), .methodLink RX7 85 yX7_records, .instanceMethod yX7_records, .selects RX7 yX7_records yX7_records, .code yX7_records cX7_records 2 none, .fieldLink RX7 30 "BarrelProcessorModel" "pasts" "I", .fieldLink RX7 16 "BarrelProcessorModel" "past" "[I"] ++ wsX70)
def wsX7_setSlot : List Cond := .code yX7_setSlot cX7_setSlot 4 (some .int) :: ([.constant RX7 75 (-100001), .fieldLink RX7 7 "BarrelProcessorModel" "s" "[I", .methodLink RX7 26 yX7_in, .static yX7_in, .initialized RX7, .code yX7_in cX7_in 3 (some .boolean), .methodLink RX7 103 yX7_isThread, .static yX7_isThread, .code yX7_isThread cX7_isThread 1 (some .boolean), .methodLink RX7 85 yX7_records, .instanceMethod yX7_records, .selects RX7 yX7_records yX7_records, .code yX7_records cX7_records 2 none, .fieldLink RX7 30 "BarrelProcessorModel" "pasts" "I", .fieldLink RX7 16 "BarrelProcessorModel" "past" "[I"] ++ wsX70)
def wsX7_set : List Cond := .code yX7_set cX7_set 4 (some .int) :: ([.constant RX7 75 (-100001), .constant RX7 109 (-100002), .fieldLink RX7 7 "BarrelProcessorModel" "s" "[I", .methodLink RX7 26 yX7_in, .static yX7_in, .initialized RX7, .code yX7_in cX7_in 3 (some .boolean), .methodLink RX7 85 yX7_records, .instanceMethod yX7_records, .selects RX7 yX7_records yX7_records, .code yX7_records cX7_records 2 none, .fieldLink RX7 30 "BarrelProcessorModel" "pasts" "I", .fieldLink RX7 16 "BarrelProcessorModel" "past" "[I"] ++ wsX70)
def wsX7_setBreakpoint : List Cond := .code yX7_setBreakpoint cX7_setBreakpoint 5 (some .int) :: ([.constant RX7 75 (-100001), .fieldLink RX7 7 "BarrelProcessorModel" "s" "[I", .methodLink RX7 72 yX7_isPlace, .static yX7_isPlace, .initialized RX7, .code yX7_isPlace cX7_isPlace 1 (some .boolean), .methodLink RX7 26 yX7_in, .static yX7_in, .code yX7_in cX7_in 3 (some .boolean), .methodLink RX7 85 yX7_records, .instanceMethod yX7_records, .selects RX7 yX7_records yX7_records, .code yX7_records cX7_records 2 none, .fieldLink RX7 30 "BarrelProcessorModel" "pasts" "I", .fieldLink RX7 16 "BarrelProcessorModel" "past" "[I"] ++ wsX70)
def wsX7_isStopped_r1 : List Cond := [Cond.fieldLink RX7 7 "BarrelProcessorModel" "s" "[I", Cond.methodLink RX7 110 yX7_putAside, Cond.instanceMethod yX7_putAside, Cond.selects RX7 yX7_putAside yX7_putAside, Cond.initialized RX7, Cond.code yX7_putAside cX7_putAside 2 none, Cond.fieldLink RX7 13 "BarrelProcessorModel" "aside" "[I", Cond.methodLink RX7 61 yX7_prepares, Cond.instanceMethod yX7_prepares, Cond.selects RX7 yX7_prepares yX7_prepares, Cond.code yX7_prepares cX7_prepares 3 none, Cond.methodLink RX7 22 yX7_at, Cond.static yX7_at, Cond.code yX7_at cX7_at 2 (some .int), Cond.methodLink RX7 37 yX7_puts, Cond.instanceMethod yX7_puts, Cond.selects RX7 yX7_puts yX7_puts, Cond.code yX7_puts cX7_puts 4 none, Cond.methodLink RX7 53 yX7_many, Cond.instanceMethod yX7_many, Cond.selects RX7 yX7_many yX7_many, Cond.code yX7_many cX7_many 4 (some .int), Cond.methodLink RX7 64 yX7_issuing, Cond.instanceMethod yX7_issuing]
def wsX7_isStopped_r2 : List Cond := [Cond.selects RX7 yX7_issuing yX7_issuing, Cond.code yX7_issuing cX7_issuing 5 (some .int), Cond.methodLink RX7 57 yX7_isReady, Cond.instanceMethod yX7_isReady, Cond.selects RX7 yX7_isReady yX7_isReady, Cond.code yX7_isReady cX7_isReady 2 (some .boolean), Cond.methodLink RX7 113 yX7_putBack, Cond.instanceMethod yX7_putBack, Cond.selects RX7 yX7_putBack yX7_putBack, Cond.code yX7_putBack cX7_putBack 2 none]
def wsX7_isStopped : List Cond := .code yX7_isStopped cX7_isStopped 3 (some .boolean) :: ((wsX7_isStopped_r1 ++ wsX7_isStopped_r2) ++ wsX70)
def wsX7_run_r1 : List Cond := [Cond.constant RX7 109 (-100002), Cond.methodLink RX7 26 yX7_in, Cond.static yX7_in, Cond.initialized RX7, Cond.code yX7_in cX7_in 3 (some .boolean), Cond.methodLink RX7 85 yX7_records, Cond.instanceMethod yX7_records, Cond.selects RX7 yX7_records yX7_records, Cond.code yX7_records cX7_records 2 none, Cond.fieldLink RX7 30 "BarrelProcessorModel" "pasts" "I", Cond.fieldLink RX7 16 "BarrelProcessorModel" "past" "[I", Cond.fieldLink RX7 7 "BarrelProcessorModel" "s" "[I", Cond.methodLink RX7 116 yX7_isOver, Cond.instanceMethod yX7_isOver, Cond.selects RX7 yX7_isOver yX7_isOver, Cond.code yX7_isOver cX7_isOver 1 (some .boolean), Cond.methodLink RX7 53 yX7_many, Cond.instanceMethod yX7_many, Cond.selects RX7 yX7_many yX7_many, Cond.code yX7_many cX7_many 4 (some .int), Cond.methodLink RX7 22 yX7_at, Cond.static yX7_at, Cond.code yX7_at cX7_at 2 (some .int), Cond.methodLink RX7 119 yX7_isStopped]
def wsX7_run_r2 : List Cond := [Cond.instanceMethod yX7_isStopped, Cond.selects RX7 yX7_isStopped yX7_isStopped, Cond.code yX7_isStopped cX7_isStopped 3 (some .boolean), Cond.methodLink RX7 110 yX7_putAside, Cond.instanceMethod yX7_putAside, Cond.selects RX7 yX7_putAside yX7_putAside, Cond.code yX7_putAside cX7_putAside 2 none, Cond.fieldLink RX7 13 "BarrelProcessorModel" "aside" "[I", Cond.methodLink RX7 61 yX7_prepares, Cond.instanceMethod yX7_prepares, Cond.selects RX7 yX7_prepares yX7_prepares, Cond.code yX7_prepares cX7_prepares 3 none, Cond.methodLink RX7 37 yX7_puts, Cond.instanceMethod yX7_puts, Cond.selects RX7 yX7_puts yX7_puts, Cond.code yX7_puts cX7_puts 4 none, Cond.methodLink RX7 64 yX7_issuing, Cond.instanceMethod yX7_issuing, Cond.selects RX7 yX7_issuing yX7_issuing, Cond.code yX7_issuing cX7_issuing 5 (some .int), Cond.methodLink RX7 57 yX7_isReady, Cond.instanceMethod yX7_isReady, Cond.selects RX7 yX7_isReady yX7_isReady, Cond.code yX7_isReady cX7_isReady 2 (some .boolean)]
def wsX7_run_r3 : List Cond := [Cond.methodLink RX7 113 yX7_putBack, Cond.instanceMethod yX7_putBack, Cond.selects RX7 yX7_putBack yX7_putBack, Cond.code yX7_putBack cX7_putBack 2 none, Cond.methodLink RX7 122 yX7_cycles, Cond.instanceMethod yX7_cycles, Cond.selects RX7 yX7_cycles yX7_cycles, Cond.code yX7_cycles cX7_cycles 4 none, Cond.methodLink RX7 68 yX7_executes, Cond.instanceMethod yX7_executes, Cond.selects RX7 yX7_executes yX7_executes, Cond.code yX7_executes cX7_executes 3 none, Cond.methodLink RX7 45 yX7_traces, Cond.instanceMethod yX7_traces, Cond.selects RX7 yX7_traces yX7_traces, Cond.code yX7_traces cX7_traces 4 none, Cond.methodLink RX7 49 yX7_does, Cond.instanceMethod yX7_does, Cond.selects RX7 yX7_does yX7_does, Cond.code yX7_does cX7_does 7 none, Cond.methodLink RX7 34 yX7_register0, Cond.instanceMethod yX7_register0, Cond.selects RX7 yX7_register0 yX7_register0, Cond.code yX7_register0 cX7_register0 3 (some .int)]
def wsX7_run_r4 : List Cond := [Cond.methodLink RX7 41 yX7_jumps, Cond.instanceMethod yX7_jumps, Cond.selects RX7 yX7_jumps yX7_jumps, Cond.code yX7_jumps cX7_jumps 4 none]
def wsX7_run : List Cond := .code yX7_run cX7_run 3 (some .int) :: ((wsX7_run_r1 ++ (wsX7_run_r2 ++ (wsX7_run_r3 ++ wsX7_run_r4))) ++ wsX70)
def wsX7_append : List Cond := .code yX7_append cX7_append 2 (some .int) :: ([.constant RX7 109 (-100002), .fieldLink RX7 81 "BarrelProcessorModel" "length" "I", .constant RX7 84 (-100004), .fieldLink RX7 19 "BarrelProcessorModel" "text" "[I", .methodLink RX7 26 yX7_in, .static yX7_in, .initialized RX7, .code yX7_in cX7_in 3 (some .boolean)] ++ wsX70)
def wsX7_clearText : List Cond := .code yX7_clearText cX7_clearText 2 (some .int) :: ([.fieldLink RX7 81 "BarrelProcessorModel" "length" "I"] ++ wsX70)
def wsX7_fault_r1 : List Cond := [Cond.fieldLink RX7 88 "BarrelProcessorModel" "spot" "I", Cond.constant RX7 147 (-100005), Cond.methodLink RX7 76 yX7_isFaulty, Cond.instanceMethod yX7_isFaulty, Cond.selects RX7 yX7_isFaulty yX7_isFaulty, Cond.initialized RX7, Cond.code yX7_isFaulty cX7_isFaulty 2 (some .boolean), Cond.fieldLink RX7 125 "BarrelProcessorModel" "isWrong" "Z", Cond.fieldLink RX7 81 "BarrelProcessorModel" "length" "I", Cond.methodLink RX7 91 yX7_instruction, Cond.instanceMethod yX7_instruction, Cond.selects RX7 yX7_instruction yX7_instruction, Cond.code yX7_instruction cX7_instruction 1 none, Cond.fieldLink RX7 94 "BarrelProcessorModel" "operation" "I", Cond.fieldLink RX7 97 "BarrelProcessorModel" "first" "I", Cond.fieldLink RX7 100 "BarrelProcessorModel" "second" "I", Cond.methodLink RX7 129 yX7_next, Cond.instanceMethod yX7_next, Cond.selects RX7 yX7_next yX7_next, Cond.code yX7_next cX7_next 1 (some .int), Cond.fieldLink RX7 19 "BarrelProcessorModel" "text" "[I", Cond.methodLink RX7 138 yX7_operationOf, Cond.static yX7_operationOf, Cond.code yX7_operationOf cX7_operationOf 1 (some .int)]
def wsX7_fault_r2 : List Cond := [Cond.methodLink RX7 135 yX7_upTo, Cond.instanceMethod yX7_upTo, Cond.selects RX7 yX7_upTo yX7_upTo, Cond.code yX7_upTo cX7_upTo 5 (some .int), Cond.methodLink RX7 132 yX7_digit, Cond.instanceMethod yX7_digit, Cond.selects RX7 yX7_digit yX7_digit, Cond.code yX7_digit cX7_digit 4 (some .int), Cond.methodLink RX7 26 yX7_in, Cond.static yX7_in, Cond.code yX7_in cX7_in 3 (some .boolean), Cond.methodLink RX7 141 yX7_sign, Cond.instanceMethod yX7_sign, Cond.selects RX7 yX7_sign yX7_sign, Cond.code yX7_sign cX7_sign 2 none, Cond.methodLink RX7 144 yX7_number, Cond.instanceMethod yX7_number, Cond.selects RX7 yX7_number yX7_number, Cond.code yX7_number cX7_number 1 (some .int)]
def wsX7_fault : List Cond := .code yX7_fault cX7_fault 1 (some .int) :: ((wsX7_fault_r1 ++ wsX7_fault_r2) ++ wsX70)
def wsX7_undo : List Cond := .code yX7_undo cX7_undo 2 (some .int) :: ([.fieldLink RX7 30 "BarrelProcessorModel" "pasts" "I", .constant RX7 147 (-100005), .fieldLink RX7 7 "BarrelProcessorModel" "s" "[I", .fieldLink RX7 16 "BarrelProcessorModel" "past" "[I"] ++ wsX70)
def wsX7_ofThread : List Cond := .code yX7_ofThread cX7_ofThread 3 (some .int) :: ([.fieldLink RX7 7 "BarrelProcessorModel" "s" "[I", .constant RX7 75 (-100001), .methodLink RX7 103 yX7_isThread, .static yX7_isThread, .initialized RX7, .code yX7_isThread cX7_isThread 1 (some .boolean), .methodLink RX7 26 yX7_in, .static yX7_in, .code yX7_in cX7_in 3 (some .boolean), .methodLink RX7 22 yX7_at, .static yX7_at, .code yX7_at cX7_at 2 (some .int)] ++ wsX70)
def wsX7_state : List Cond := .code yX7_state cX7_state 2 (some .int) :: ([.methodLink RX7 148 yX7_ofThread, .instanceMethod yX7_ofThread, .selects RX7 yX7_ofThread yX7_ofThread, .initialized RX7, .code yX7_ofThread cX7_ofThread 3 (some .int), .fieldLink RX7 7 "BarrelProcessorModel" "s" "[I", .constant RX7 75 (-100001), .methodLink RX7 103 yX7_isThread, .static yX7_isThread, .code yX7_isThread cX7_isThread 1 (some .boolean), .methodLink RX7 26 yX7_in, .static yX7_in, .code yX7_in cX7_in 3 (some .boolean), .methodLink RX7 22 yX7_at, .static yX7_at, .code yX7_at cX7_at 2 (some .int)] ++ wsX70)
def wsX7_programCounter : List Cond := .code yX7_programCounter cX7_programCounter 2 (some .int) :: ([.methodLink RX7 148 yX7_ofThread, .instanceMethod yX7_ofThread, .selects RX7 yX7_ofThread yX7_ofThread, .initialized RX7, .code yX7_ofThread cX7_ofThread 3 (some .int), .fieldLink RX7 7 "BarrelProcessorModel" "s" "[I", .constant RX7 75 (-100001), .methodLink RX7 103 yX7_isThread, .static yX7_isThread, .code yX7_isThread cX7_isThread 1 (some .boolean), .methodLink RX7 26 yX7_in, .static yX7_in, .code yX7_in cX7_in 3 (some .boolean), .methodLink RX7 22 yX7_at, .static yX7_at, .code yX7_at cX7_at 2 (some .int)] ++ wsX70)
def wsX7_register : List Cond := .code yX7_register cX7_register 3 (some .int) :: ([.constant RX7 75 (-100001), .methodLink RX7 103 yX7_isThread, .static yX7_isThread, .initialized RX7, .code yX7_isThread cX7_isThread 1 (some .boolean), .methodLink RX7 26 yX7_in, .static yX7_in, .code yX7_in cX7_in 3 (some .boolean), .methodLink RX7 34 yX7_register0, .instanceMethod yX7_register0, .selects RX7 yX7_register0 yX7_register0, .code yX7_register0 cX7_register0 3 (some .int), .fieldLink RX7 7 "BarrelProcessorModel" "s" "[I", .methodLink RX7 22 yX7_at, .static yX7_at, .code yX7_at cX7_at 2 (some .int)] ++ wsX70)
def wsX7_word : List Cond := .code yX7_word cX7_word 2 (some .int) :: ([.fieldLink RX7 7 "BarrelProcessorModel" "s" "[I", .constant RX7 75 (-100001), .methodLink RX7 26 yX7_in, .static yX7_in, .initialized RX7, .code yX7_in cX7_in 3 (some .boolean)] ++ wsX70)
def wsX7_operation : List Cond := .code yX7_operation cX7_operation 2 (some .int) :: ([.fieldLink RX7 7 "BarrelProcessorModel" "s" "[I", .constant RX7 75 (-100001), .methodLink RX7 72 yX7_isPlace, .static yX7_isPlace, .initialized RX7, .code yX7_isPlace cX7_isPlace 1 (some .boolean), .methodLink RX7 26 yX7_in, .static yX7_in, .code yX7_in cX7_in 3 (some .boolean)] ++ wsX70)
def wsX7_operand : List Cond := .code yX7_operand cX7_operand 5 (some .int) :: ([.constant RX7 75 (-100001), .constant RX7 109 (-100002), .fieldLink RX7 7 "BarrelProcessorModel" "s" "[I", .constant RX7 147 (-100005), .methodLink RX7 72 yX7_isPlace, .static yX7_isPlace, .initialized RX7, .code yX7_isPlace cX7_isPlace 1 (some .boolean), .methodLink RX7 26 yX7_in, .static yX7_in, .code yX7_in cX7_in 3 (some .boolean)] ++ wsX70)
def wsX7_slot : List Cond := .code yX7_slot cX7_slot 2 (some .int) :: ([.fieldLink RX7 7 "BarrelProcessorModel" "s" "[I", .constant RX7 75 (-100001), .methodLink RX7 26 yX7_in, .static yX7_in, .initialized RX7, .code yX7_in cX7_in 3 (some .boolean)] ++ wsX70)
def wsX7_setting : List Cond := .code yX7_setting cX7_setting 2 (some .int) :: ([.fieldLink RX7 7 "BarrelProcessorModel" "s" "[I", .constant RX7 75 (-100001), .methodLink RX7 26 yX7_in, .static yX7_in, .initialized RX7, .code yX7_in cX7_in 3 (some .boolean)] ++ wsX70)
def wsX7_breakpoint : List Cond := .code yX7_breakpoint cX7_breakpoint 2 (some .int) :: ([.fieldLink RX7 7 "BarrelProcessorModel" "s" "[I", .constant RX7 75 (-100001), .methodLink RX7 72 yX7_isPlace, .static yX7_isPlace, .initialized RX7, .code yX7_isPlace cX7_isPlace 1 (some .boolean), .methodLink RX7 26 yX7_in, .static yX7_in, .code yX7_in cX7_in 3 (some .boolean)] ++ wsX70)
def wsX7_cycle : List Cond := .code yX7_cycle cX7_cycle 1 (some .int) :: ([.fieldLink RX7 7 "BarrelProcessorModel" "s" "[I"] ++ wsX70)
def wsX7_idle : List Cond := .code yX7_idle cX7_idle 1 (some .int) :: ([.fieldLink RX7 7 "BarrelProcessorModel" "s" "[I"] ++ wsX70)
def wsX7_executed : List Cond := .code yX7_executed cX7_executed 2 (some .int) :: ([.methodLink RX7 148 yX7_ofThread, .instanceMethod yX7_ofThread, .selects RX7 yX7_ofThread yX7_ofThread, .initialized RX7, .code yX7_ofThread cX7_ofThread 3 (some .int), .fieldLink RX7 7 "BarrelProcessorModel" "s" "[I", .constant RX7 75 (-100001), .methodLink RX7 103 yX7_isThread, .static yX7_isThread, .code yX7_isThread cX7_isThread 1 (some .boolean), .methodLink RX7 26 yX7_in, .static yX7_in, .code yX7_in cX7_in 3 (some .boolean), .methodLink RX7 22 yX7_at, .static yX7_at, .code yX7_at cX7_at 2 (some .int)] ++ wsX70)
def wsX7_lent : List Cond := .code yX7_lent cX7_lent 2 (some .int) :: ([.methodLink RX7 148 yX7_ofThread, .instanceMethod yX7_ofThread, .selects RX7 yX7_ofThread yX7_ofThread, .initialized RX7, .code yX7_ofThread cX7_ofThread 3 (some .int), .fieldLink RX7 7 "BarrelProcessorModel" "s" "[I", .constant RX7 75 (-100001), .methodLink RX7 103 yX7_isThread, .static yX7_isThread, .code yX7_isThread cX7_isThread 1 (some .boolean), .methodLink RX7 26 yX7_in, .static yX7_in, .code yX7_in cX7_in 3 (some .boolean), .methodLink RX7 22 yX7_at, .static yX7_at, .code yX7_at cX7_at 2 (some .int)] ++ wsX70)
def wsX7_starved : List Cond := .code yX7_starved cX7_starved 2 (some .int) :: ([.methodLink RX7 148 yX7_ofThread, .instanceMethod yX7_ofThread, .selects RX7 yX7_ofThread yX7_ofThread, .initialized RX7, .code yX7_ofThread cX7_ofThread 3 (some .int), .fieldLink RX7 7 "BarrelProcessorModel" "s" "[I", .constant RX7 75 (-100001), .methodLink RX7 103 yX7_isThread, .static yX7_isThread, .code yX7_isThread cX7_isThread 1 (some .boolean), .methodLink RX7 26 yX7_in, .static yX7_in, .code yX7_in cX7_in 3 (some .boolean), .methodLink RX7 22 yX7_at, .static yX7_at, .code yX7_at cX7_at 2 (some .int)] ++ wsX70)
def wsX7_trace : List Cond := .code yX7_trace cX7_trace 3 (some .int) :: ([.constant RX7 109 (-100002), .fieldLink RX7 7 "BarrelProcessorModel" "s" "[I", .constant RX7 147 (-100005), .methodLink RX7 26 yX7_in, .static yX7_in, .initialized RX7, .code yX7_in cX7_in 3 (some .boolean)] ++ wsX70)
def wsX7_use : List Cond := .code yX7_use cX7_use 1 (some .float) :: ([.fieldLink RX7 7 "BarrelProcessorModel" "s" "[I"] ++ wsX70)
def wsX7_nextThread_r1 : List Cond := [Cond.constant RX7 147 (-100005), Cond.methodLink RX7 110 yX7_putAside, Cond.instanceMethod yX7_putAside, Cond.selects RX7 yX7_putAside yX7_putAside, Cond.initialized RX7, Cond.code yX7_putAside cX7_putAside 2 none, Cond.fieldLink RX7 13 "BarrelProcessorModel" "aside" "[I", Cond.fieldLink RX7 7 "BarrelProcessorModel" "s" "[I", Cond.methodLink RX7 61 yX7_prepares, Cond.instanceMethod yX7_prepares, Cond.selects RX7 yX7_prepares yX7_prepares, Cond.code yX7_prepares cX7_prepares 3 none, Cond.methodLink RX7 22 yX7_at, Cond.static yX7_at, Cond.code yX7_at cX7_at 2 (some .int), Cond.methodLink RX7 37 yX7_puts, Cond.instanceMethod yX7_puts, Cond.selects RX7 yX7_puts yX7_puts, Cond.code yX7_puts cX7_puts 4 none, Cond.methodLink RX7 53 yX7_many, Cond.instanceMethod yX7_many, Cond.selects RX7 yX7_many yX7_many, Cond.code yX7_many cX7_many 4 (some .int), Cond.methodLink RX7 64 yX7_issuing]
def wsX7_nextThread_r2 : List Cond := [Cond.instanceMethod yX7_issuing, Cond.selects RX7 yX7_issuing yX7_issuing, Cond.code yX7_issuing cX7_issuing 5 (some .int), Cond.methodLink RX7 57 yX7_isReady, Cond.instanceMethod yX7_isReady, Cond.selects RX7 yX7_isReady yX7_isReady, Cond.code yX7_isReady cX7_isReady 2 (some .boolean), Cond.methodLink RX7 113 yX7_putBack, Cond.instanceMethod yX7_putBack, Cond.selects RX7 yX7_putBack yX7_putBack, Cond.code yX7_putBack cX7_putBack 2 none]
def wsX7_nextThread : List Cond := .code yX7_nextThread cX7_nextThread 2 (some .int) :: ((wsX7_nextThread_r1 ++ wsX7_nextThread_r2) ++ wsX70)
def wsX7_runsOut_r1 : List Cond := [Cond.constant RX7 147 (-100005), Cond.methodLink RX7 116 yX7_isOver, Cond.instanceMethod yX7_isOver, Cond.selects RX7 yX7_isOver yX7_isOver, Cond.initialized RX7, Cond.code yX7_isOver cX7_isOver 1 (some .boolean), Cond.methodLink RX7 53 yX7_many, Cond.instanceMethod yX7_many, Cond.selects RX7 yX7_many yX7_many, Cond.code yX7_many cX7_many 4 (some .int), Cond.fieldLink RX7 7 "BarrelProcessorModel" "s" "[I", Cond.methodLink RX7 22 yX7_at, Cond.static yX7_at, Cond.code yX7_at cX7_at 2 (some .int), Cond.methodLink RX7 122 yX7_cycles, Cond.instanceMethod yX7_cycles, Cond.selects RX7 yX7_cycles yX7_cycles, Cond.code yX7_cycles cX7_cycles 4 none, Cond.methodLink RX7 61 yX7_prepares, Cond.instanceMethod yX7_prepares, Cond.selects RX7 yX7_prepares yX7_prepares, Cond.code yX7_prepares cX7_prepares 3 none, Cond.methodLink RX7 37 yX7_puts, Cond.instanceMethod yX7_puts]
def wsX7_runsOut_r2 : List Cond := [Cond.selects RX7 yX7_puts yX7_puts, Cond.code yX7_puts cX7_puts 4 none, Cond.methodLink RX7 64 yX7_issuing, Cond.instanceMethod yX7_issuing, Cond.selects RX7 yX7_issuing yX7_issuing, Cond.code yX7_issuing cX7_issuing 5 (some .int), Cond.methodLink RX7 57 yX7_isReady, Cond.instanceMethod yX7_isReady, Cond.selects RX7 yX7_isReady yX7_isReady, Cond.code yX7_isReady cX7_isReady 2 (some .boolean), Cond.methodLink RX7 68 yX7_executes, Cond.instanceMethod yX7_executes, Cond.selects RX7 yX7_executes yX7_executes, Cond.code yX7_executes cX7_executes 3 none, Cond.methodLink RX7 45 yX7_traces, Cond.instanceMethod yX7_traces, Cond.selects RX7 yX7_traces yX7_traces, Cond.code yX7_traces cX7_traces 4 none, Cond.methodLink RX7 49 yX7_does, Cond.instanceMethod yX7_does, Cond.selects RX7 yX7_does yX7_does, Cond.code yX7_does cX7_does 7 none, Cond.methodLink RX7 26 yX7_in, Cond.static yX7_in]
def wsX7_runsOut_r3 : List Cond := [Cond.code yX7_in cX7_in 3 (some .boolean), Cond.methodLink RX7 34 yX7_register0, Cond.instanceMethod yX7_register0, Cond.selects RX7 yX7_register0 yX7_register0, Cond.code yX7_register0 cX7_register0 3 (some .int), Cond.methodLink RX7 41 yX7_jumps, Cond.instanceMethod yX7_jumps, Cond.selects RX7 yX7_jumps yX7_jumps, Cond.code yX7_jumps cX7_jumps 4 none]
def wsX7_runsOut : List Cond := .code yX7_runsOut cX7_runsOut 2 (some .int) :: ((wsX7_runsOut_r1 ++ (wsX7_runsOut_r2 ++ wsX7_runsOut_r3)) ++ wsX70)
def wsX7_leftIf_r1 : List Cond := [Cond.fieldLink RX7 7 "BarrelProcessorModel" "s" "[I", Cond.methodLink RX7 110 yX7_putAside, Cond.instanceMethod yX7_putAside, Cond.selects RX7 yX7_putAside yX7_putAside, Cond.initialized RX7, Cond.code yX7_putAside cX7_putAside 2 none, Cond.fieldLink RX7 13 "BarrelProcessorModel" "aside" "[I", Cond.methodLink RX7 151 yX7_runsOut, Cond.instanceMethod yX7_runsOut, Cond.selects RX7 yX7_runsOut yX7_runsOut, Cond.code yX7_runsOut cX7_runsOut 2 (some .int), Cond.constant RX7 147 (-100005), Cond.methodLink RX7 116 yX7_isOver, Cond.instanceMethod yX7_isOver, Cond.selects RX7 yX7_isOver yX7_isOver, Cond.code yX7_isOver cX7_isOver 1 (some .boolean), Cond.methodLink RX7 53 yX7_many, Cond.instanceMethod yX7_many, Cond.selects RX7 yX7_many yX7_many, Cond.code yX7_many cX7_many 4 (some .int), Cond.methodLink RX7 22 yX7_at, Cond.static yX7_at, Cond.code yX7_at cX7_at 2 (some .int), Cond.methodLink RX7 122 yX7_cycles]
def wsX7_leftIf_r2 : List Cond := [Cond.instanceMethod yX7_cycles, Cond.selects RX7 yX7_cycles yX7_cycles, Cond.code yX7_cycles cX7_cycles 4 none, Cond.methodLink RX7 61 yX7_prepares, Cond.instanceMethod yX7_prepares, Cond.selects RX7 yX7_prepares yX7_prepares, Cond.code yX7_prepares cX7_prepares 3 none, Cond.methodLink RX7 37 yX7_puts, Cond.instanceMethod yX7_puts, Cond.selects RX7 yX7_puts yX7_puts, Cond.code yX7_puts cX7_puts 4 none, Cond.methodLink RX7 64 yX7_issuing, Cond.instanceMethod yX7_issuing, Cond.selects RX7 yX7_issuing yX7_issuing, Cond.code yX7_issuing cX7_issuing 5 (some .int), Cond.methodLink RX7 57 yX7_isReady, Cond.instanceMethod yX7_isReady, Cond.selects RX7 yX7_isReady yX7_isReady, Cond.code yX7_isReady cX7_isReady 2 (some .boolean), Cond.methodLink RX7 68 yX7_executes, Cond.instanceMethod yX7_executes, Cond.selects RX7 yX7_executes yX7_executes, Cond.code yX7_executes cX7_executes 3 none, Cond.methodLink RX7 45 yX7_traces]
def wsX7_leftIf_r3 : List Cond := [Cond.instanceMethod yX7_traces, Cond.selects RX7 yX7_traces yX7_traces, Cond.code yX7_traces cX7_traces 4 none, Cond.methodLink RX7 49 yX7_does, Cond.instanceMethod yX7_does, Cond.selects RX7 yX7_does yX7_does, Cond.code yX7_does cX7_does 7 none, Cond.methodLink RX7 26 yX7_in, Cond.static yX7_in, Cond.code yX7_in cX7_in 3 (some .boolean), Cond.methodLink RX7 34 yX7_register0, Cond.instanceMethod yX7_register0, Cond.selects RX7 yX7_register0 yX7_register0, Cond.code yX7_register0 cX7_register0 3 (some .int), Cond.methodLink RX7 41 yX7_jumps, Cond.instanceMethod yX7_jumps, Cond.selects RX7 yX7_jumps yX7_jumps, Cond.code yX7_jumps cX7_jumps 4 none, Cond.methodLink RX7 113 yX7_putBack, Cond.instanceMethod yX7_putBack, Cond.selects RX7 yX7_putBack yX7_putBack, Cond.code yX7_putBack cX7_putBack 2 none]
def wsX7_leftIf : List Cond := .code yX7_leftIf cX7_leftIf 4 (some .int) :: ((wsX7_leftIf_r1 ++ (wsX7_leftIf_r2 ++ wsX7_leftIf_r3)) ++ wsX70)
def wsX7_cyclesLeft_r1 : List Cond := [Cond.fieldLink RX7 7 "BarrelProcessorModel" "s" "[I", Cond.methodLink RX7 154 yX7_leftIf, Cond.instanceMethod yX7_leftIf, Cond.selects RX7 yX7_leftIf yX7_leftIf, Cond.initialized RX7, Cond.code yX7_leftIf cX7_leftIf 4 (some .int), Cond.methodLink RX7 110 yX7_putAside, Cond.instanceMethod yX7_putAside, Cond.selects RX7 yX7_putAside yX7_putAside, Cond.code yX7_putAside cX7_putAside 2 none, Cond.fieldLink RX7 13 "BarrelProcessorModel" "aside" "[I", Cond.methodLink RX7 151 yX7_runsOut, Cond.instanceMethod yX7_runsOut, Cond.selects RX7 yX7_runsOut yX7_runsOut, Cond.code yX7_runsOut cX7_runsOut 2 (some .int), Cond.constant RX7 147 (-100005), Cond.methodLink RX7 116 yX7_isOver, Cond.instanceMethod yX7_isOver, Cond.selects RX7 yX7_isOver yX7_isOver, Cond.code yX7_isOver cX7_isOver 1 (some .boolean), Cond.methodLink RX7 53 yX7_many, Cond.instanceMethod yX7_many, Cond.selects RX7 yX7_many yX7_many, Cond.code yX7_many cX7_many 4 (some .int)]
def wsX7_cyclesLeft_r2 : List Cond := [Cond.methodLink RX7 22 yX7_at, Cond.static yX7_at, Cond.code yX7_at cX7_at 2 (some .int), Cond.methodLink RX7 122 yX7_cycles, Cond.instanceMethod yX7_cycles, Cond.selects RX7 yX7_cycles yX7_cycles, Cond.code yX7_cycles cX7_cycles 4 none, Cond.methodLink RX7 61 yX7_prepares, Cond.instanceMethod yX7_prepares, Cond.selects RX7 yX7_prepares yX7_prepares, Cond.code yX7_prepares cX7_prepares 3 none, Cond.methodLink RX7 37 yX7_puts, Cond.instanceMethod yX7_puts, Cond.selects RX7 yX7_puts yX7_puts, Cond.code yX7_puts cX7_puts 4 none, Cond.methodLink RX7 64 yX7_issuing, Cond.instanceMethod yX7_issuing, Cond.selects RX7 yX7_issuing yX7_issuing, Cond.code yX7_issuing cX7_issuing 5 (some .int), Cond.methodLink RX7 57 yX7_isReady, Cond.instanceMethod yX7_isReady, Cond.selects RX7 yX7_isReady yX7_isReady, Cond.code yX7_isReady cX7_isReady 2 (some .boolean), Cond.methodLink RX7 68 yX7_executes]
def wsX7_cyclesLeft_r3 : List Cond := [Cond.instanceMethod yX7_executes, Cond.selects RX7 yX7_executes yX7_executes, Cond.code yX7_executes cX7_executes 3 none, Cond.methodLink RX7 45 yX7_traces, Cond.instanceMethod yX7_traces, Cond.selects RX7 yX7_traces yX7_traces, Cond.code yX7_traces cX7_traces 4 none, Cond.methodLink RX7 49 yX7_does, Cond.instanceMethod yX7_does, Cond.selects RX7 yX7_does yX7_does, Cond.code yX7_does cX7_does 7 none, Cond.methodLink RX7 26 yX7_in, Cond.static yX7_in, Cond.code yX7_in cX7_in 3 (some .boolean), Cond.methodLink RX7 34 yX7_register0, Cond.instanceMethod yX7_register0, Cond.selects RX7 yX7_register0 yX7_register0, Cond.code yX7_register0 cX7_register0 3 (some .int), Cond.methodLink RX7 41 yX7_jumps, Cond.instanceMethod yX7_jumps, Cond.selects RX7 yX7_jumps yX7_jumps, Cond.code yX7_jumps cX7_jumps 4 none, Cond.methodLink RX7 113 yX7_putBack, Cond.instanceMethod yX7_putBack]
def wsX7_cyclesLeft_r4 : List Cond := [Cond.selects RX7 yX7_putBack yX7_putBack, Cond.code yX7_putBack cX7_putBack 2 none]
def wsX7_cyclesLeft : List Cond := .code yX7_cyclesLeft cX7_cyclesLeft 1 (some .int) :: ((wsX7_cyclesLeft_r1 ++ (wsX7_cyclesLeft_r2 ++ (wsX7_cyclesLeft_r3 ++ wsX7_cyclesLeft_r4))) ++ wsX70)
def wsX7_cyclesIf_r1 : List Cond := [Cond.constant RX7 109 (-100002), Cond.methodLink RX7 26 yX7_in, Cond.static yX7_in, Cond.initialized RX7, Cond.code yX7_in cX7_in 3 (some .boolean), Cond.methodLink RX7 154 yX7_leftIf, Cond.instanceMethod yX7_leftIf, Cond.selects RX7 yX7_leftIf yX7_leftIf, Cond.code yX7_leftIf cX7_leftIf 4 (some .int), Cond.fieldLink RX7 7 "BarrelProcessorModel" "s" "[I", Cond.methodLink RX7 110 yX7_putAside, Cond.instanceMethod yX7_putAside, Cond.selects RX7 yX7_putAside yX7_putAside, Cond.code yX7_putAside cX7_putAside 2 none, Cond.fieldLink RX7 13 "BarrelProcessorModel" "aside" "[I", Cond.methodLink RX7 151 yX7_runsOut, Cond.instanceMethod yX7_runsOut, Cond.selects RX7 yX7_runsOut yX7_runsOut, Cond.code yX7_runsOut cX7_runsOut 2 (some .int), Cond.constant RX7 147 (-100005), Cond.methodLink RX7 116 yX7_isOver, Cond.instanceMethod yX7_isOver, Cond.selects RX7 yX7_isOver yX7_isOver, Cond.code yX7_isOver cX7_isOver 1 (some .boolean)]
def wsX7_cyclesIf_r2 : List Cond := [Cond.methodLink RX7 53 yX7_many, Cond.instanceMethod yX7_many, Cond.selects RX7 yX7_many yX7_many, Cond.code yX7_many cX7_many 4 (some .int), Cond.methodLink RX7 22 yX7_at, Cond.static yX7_at, Cond.code yX7_at cX7_at 2 (some .int), Cond.methodLink RX7 122 yX7_cycles, Cond.instanceMethod yX7_cycles, Cond.selects RX7 yX7_cycles yX7_cycles, Cond.code yX7_cycles cX7_cycles 4 none, Cond.methodLink RX7 61 yX7_prepares, Cond.instanceMethod yX7_prepares, Cond.selects RX7 yX7_prepares yX7_prepares, Cond.code yX7_prepares cX7_prepares 3 none, Cond.methodLink RX7 37 yX7_puts, Cond.instanceMethod yX7_puts, Cond.selects RX7 yX7_puts yX7_puts, Cond.code yX7_puts cX7_puts 4 none, Cond.methodLink RX7 64 yX7_issuing, Cond.instanceMethod yX7_issuing, Cond.selects RX7 yX7_issuing yX7_issuing, Cond.code yX7_issuing cX7_issuing 5 (some .int), Cond.methodLink RX7 57 yX7_isReady]
def wsX7_cyclesIf_r3 : List Cond := [Cond.instanceMethod yX7_isReady, Cond.selects RX7 yX7_isReady yX7_isReady, Cond.code yX7_isReady cX7_isReady 2 (some .boolean), Cond.methodLink RX7 68 yX7_executes, Cond.instanceMethod yX7_executes, Cond.selects RX7 yX7_executes yX7_executes, Cond.code yX7_executes cX7_executes 3 none, Cond.methodLink RX7 45 yX7_traces, Cond.instanceMethod yX7_traces, Cond.selects RX7 yX7_traces yX7_traces, Cond.code yX7_traces cX7_traces 4 none, Cond.methodLink RX7 49 yX7_does, Cond.instanceMethod yX7_does, Cond.selects RX7 yX7_does yX7_does, Cond.code yX7_does cX7_does 7 none, Cond.methodLink RX7 34 yX7_register0, Cond.instanceMethod yX7_register0, Cond.selects RX7 yX7_register0 yX7_register0, Cond.code yX7_register0 cX7_register0 3 (some .int), Cond.methodLink RX7 41 yX7_jumps, Cond.instanceMethod yX7_jumps, Cond.selects RX7 yX7_jumps yX7_jumps, Cond.code yX7_jumps cX7_jumps 4 none, Cond.methodLink RX7 113 yX7_putBack]
def wsX7_cyclesIf_r4 : List Cond := [Cond.instanceMethod yX7_putBack, Cond.selects RX7 yX7_putBack yX7_putBack, Cond.code yX7_putBack cX7_putBack 2 none]
def wsX7_cyclesIf : List Cond := .code yX7_cyclesIf cX7_cyclesIf 3 (some .int) :: ((wsX7_cyclesIf_r1 ++ (wsX7_cyclesIf_r2 ++ (wsX7_cyclesIf_r3 ++ wsX7_cyclesIf_r4))) ++ wsX70)
def wsX7_bestLend_r1 : List Cond := [Cond.constant RX7 147 (-100005), Cond.fieldLink RX7 7 "BarrelProcessorModel" "s" "[I", Cond.methodLink RX7 154 yX7_leftIf, Cond.instanceMethod yX7_leftIf, Cond.selects RX7 yX7_leftIf yX7_leftIf, Cond.initialized RX7, Cond.code yX7_leftIf cX7_leftIf 4 (some .int), Cond.methodLink RX7 110 yX7_putAside, Cond.instanceMethod yX7_putAside, Cond.selects RX7 yX7_putAside yX7_putAside, Cond.code yX7_putAside cX7_putAside 2 none, Cond.fieldLink RX7 13 "BarrelProcessorModel" "aside" "[I", Cond.methodLink RX7 151 yX7_runsOut, Cond.instanceMethod yX7_runsOut, Cond.selects RX7 yX7_runsOut yX7_runsOut, Cond.code yX7_runsOut cX7_runsOut 2 (some .int), Cond.methodLink RX7 116 yX7_isOver, Cond.instanceMethod yX7_isOver, Cond.selects RX7 yX7_isOver yX7_isOver, Cond.code yX7_isOver cX7_isOver 1 (some .boolean), Cond.methodLink RX7 53 yX7_many, Cond.instanceMethod yX7_many, Cond.selects RX7 yX7_many yX7_many, Cond.code yX7_many cX7_many 4 (some .int)]
def wsX7_bestLend_r2 : List Cond := [Cond.methodLink RX7 22 yX7_at, Cond.static yX7_at, Cond.code yX7_at cX7_at 2 (some .int), Cond.methodLink RX7 122 yX7_cycles, Cond.instanceMethod yX7_cycles, Cond.selects RX7 yX7_cycles yX7_cycles, Cond.code yX7_cycles cX7_cycles 4 none, Cond.methodLink RX7 61 yX7_prepares, Cond.instanceMethod yX7_prepares, Cond.selects RX7 yX7_prepares yX7_prepares, Cond.code yX7_prepares cX7_prepares 3 none, Cond.methodLink RX7 37 yX7_puts, Cond.instanceMethod yX7_puts, Cond.selects RX7 yX7_puts yX7_puts, Cond.code yX7_puts cX7_puts 4 none, Cond.methodLink RX7 64 yX7_issuing, Cond.instanceMethod yX7_issuing, Cond.selects RX7 yX7_issuing yX7_issuing, Cond.code yX7_issuing cX7_issuing 5 (some .int), Cond.methodLink RX7 57 yX7_isReady, Cond.instanceMethod yX7_isReady, Cond.selects RX7 yX7_isReady yX7_isReady, Cond.code yX7_isReady cX7_isReady 2 (some .boolean), Cond.methodLink RX7 68 yX7_executes]
def wsX7_bestLend_r3 : List Cond := [Cond.instanceMethod yX7_executes, Cond.selects RX7 yX7_executes yX7_executes, Cond.code yX7_executes cX7_executes 3 none, Cond.methodLink RX7 45 yX7_traces, Cond.instanceMethod yX7_traces, Cond.selects RX7 yX7_traces yX7_traces, Cond.code yX7_traces cX7_traces 4 none, Cond.methodLink RX7 49 yX7_does, Cond.instanceMethod yX7_does, Cond.selects RX7 yX7_does yX7_does, Cond.code yX7_does cX7_does 7 none, Cond.methodLink RX7 26 yX7_in, Cond.static yX7_in, Cond.code yX7_in cX7_in 3 (some .boolean), Cond.methodLink RX7 34 yX7_register0, Cond.instanceMethod yX7_register0, Cond.selects RX7 yX7_register0 yX7_register0, Cond.code yX7_register0 cX7_register0 3 (some .int), Cond.methodLink RX7 41 yX7_jumps, Cond.instanceMethod yX7_jumps, Cond.selects RX7 yX7_jumps yX7_jumps, Cond.code yX7_jumps cX7_jumps 4 none, Cond.methodLink RX7 113 yX7_putBack, Cond.instanceMethod yX7_putBack]
def wsX7_bestLend_r4 : List Cond := [Cond.selects RX7 yX7_putBack yX7_putBack, Cond.code yX7_putBack cX7_putBack 2 none]
def wsX7_bestLend : List Cond := .code yX7_bestLend cX7_bestLend 5 (some .int) :: ((wsX7_bestLend_r1 ++ (wsX7_bestLend_r2 ++ (wsX7_bestLend_r3 ++ wsX7_bestLend_r4))) ++ wsX70)
def wsX7_finalWord_r1 : List Cond := [Cond.constant RX7 75 (-100001), Cond.fieldLink RX7 7 "BarrelProcessorModel" "s" "[I", Cond.constant RX7 147 (-100005), Cond.methodLink RX7 26 yX7_in, Cond.static yX7_in, Cond.initialized RX7, Cond.code yX7_in cX7_in 3 (some .boolean), Cond.methodLink RX7 110 yX7_putAside, Cond.instanceMethod yX7_putAside, Cond.selects RX7 yX7_putAside yX7_putAside, Cond.code yX7_putAside cX7_putAside 2 none, Cond.fieldLink RX7 13 "BarrelProcessorModel" "aside" "[I", Cond.methodLink RX7 151 yX7_runsOut, Cond.instanceMethod yX7_runsOut, Cond.selects RX7 yX7_runsOut yX7_runsOut, Cond.code yX7_runsOut cX7_runsOut 2 (some .int), Cond.methodLink RX7 116 yX7_isOver, Cond.instanceMethod yX7_isOver, Cond.selects RX7 yX7_isOver yX7_isOver, Cond.code yX7_isOver cX7_isOver 1 (some .boolean), Cond.methodLink RX7 53 yX7_many, Cond.instanceMethod yX7_many, Cond.selects RX7 yX7_many yX7_many, Cond.code yX7_many cX7_many 4 (some .int)]
def wsX7_finalWord_r2 : List Cond := [Cond.methodLink RX7 22 yX7_at, Cond.static yX7_at, Cond.code yX7_at cX7_at 2 (some .int), Cond.methodLink RX7 122 yX7_cycles, Cond.instanceMethod yX7_cycles, Cond.selects RX7 yX7_cycles yX7_cycles, Cond.code yX7_cycles cX7_cycles 4 none, Cond.methodLink RX7 61 yX7_prepares, Cond.instanceMethod yX7_prepares, Cond.selects RX7 yX7_prepares yX7_prepares, Cond.code yX7_prepares cX7_prepares 3 none, Cond.methodLink RX7 37 yX7_puts, Cond.instanceMethod yX7_puts, Cond.selects RX7 yX7_puts yX7_puts, Cond.code yX7_puts cX7_puts 4 none, Cond.methodLink RX7 64 yX7_issuing, Cond.instanceMethod yX7_issuing, Cond.selects RX7 yX7_issuing yX7_issuing, Cond.code yX7_issuing cX7_issuing 5 (some .int), Cond.methodLink RX7 57 yX7_isReady, Cond.instanceMethod yX7_isReady, Cond.selects RX7 yX7_isReady yX7_isReady, Cond.code yX7_isReady cX7_isReady 2 (some .boolean), Cond.methodLink RX7 68 yX7_executes]
def wsX7_finalWord_r3 : List Cond := [Cond.instanceMethod yX7_executes, Cond.selects RX7 yX7_executes yX7_executes, Cond.code yX7_executes cX7_executes 3 none, Cond.methodLink RX7 45 yX7_traces, Cond.instanceMethod yX7_traces, Cond.selects RX7 yX7_traces yX7_traces, Cond.code yX7_traces cX7_traces 4 none, Cond.methodLink RX7 49 yX7_does, Cond.instanceMethod yX7_does, Cond.selects RX7 yX7_does yX7_does, Cond.code yX7_does cX7_does 7 none, Cond.methodLink RX7 34 yX7_register0, Cond.instanceMethod yX7_register0, Cond.selects RX7 yX7_register0 yX7_register0, Cond.code yX7_register0 cX7_register0 3 (some .int), Cond.methodLink RX7 41 yX7_jumps, Cond.instanceMethod yX7_jumps, Cond.selects RX7 yX7_jumps yX7_jumps, Cond.code yX7_jumps cX7_jumps 4 none, Cond.methodLink RX7 113 yX7_putBack, Cond.instanceMethod yX7_putBack, Cond.selects RX7 yX7_putBack yX7_putBack, Cond.code yX7_putBack cX7_putBack 2 none]
def wsX7_finalWord : List Cond := .code yX7_finalWord cX7_finalWord 4 (some .int) :: ((wsX7_finalWord_r1 ++ (wsX7_finalWord_r2 ++ wsX7_finalWord_r3)) ++ wsX70)
def wsJ9_max_7cf53 : List Cond := .code yJ9_max_7cf53 cJ9_max_7cf53 2 (some .int) :: ([])
def wsJ9_min_7cf53 : List Cond := .code yJ9_min_7cf53 cJ9_min_7cf53 2 (some .int) :: ([])
def wsL_law_r1 : List Cond := [Cond.classLink RL 7 RX6, Cond.instantiable RX6 4, Cond.initialized RX6, Cond.classLink RL 10 RX7, Cond.instantiable RX7 11, Cond.initialized RX7, Cond.methodLink RL 9 yX6_init, Cond.instanceMethod yX6_init, Cond.code yX6_init cX6_init 1 none, Cond.methodLink RX6 1 objectInit, Cond.instanceMethod objectInit, Cond.code objectInit ⟨#[0xb1]⟩ 1 none, Cond.classLink RX6 7 RX3, Cond.instantiable RX3 9, Cond.initialized RX3, Cond.fieldLink RX6 10 "BarrelProcessor" "machine" "LBarrelProcessor$Machine;", Cond.fieldLink RX6 16 "BarrelProcessor" "trial" "LBarrelProcessor$Machine;", Cond.classLink RX6 19 RX1, Cond.instantiable RX1 3, Cond.initialized RX1, Cond.fieldLink RX6 22 "BarrelProcessor" "history" "LBarrelProcessor$History;", Cond.classLink RX6 26 RX4, Cond.instantiable RX4 6, Cond.initialized RX4]
def wsL_law_r2 : List Cond := [Cond.fieldLink RX6 29 "BarrelProcessor" "text" "LBarrelProcessor$Text;", Cond.methodLink RX6 9 yX3_init, Cond.instanceMethod yX3_init, Cond.code yX3_init cX3_init 2 none, Cond.methodLink RX3 3 objectInit, Cond.classLink RX3 9 RX0, Cond.fieldLink RX3 11 "BarrelProcessor$Machine" "threads" "[LBarrelProcessor$HardwareThread;", Cond.classLink RX3 17 RX2, Cond.instantiable RX2 2, Cond.initialized RX2, Cond.fieldLink RX3 20 "BarrelProcessor$Machine" "program" "LBarrelProcessor$Instructions;", Cond.arrayClass .int, Cond.fieldLink RX3 24 "BarrelProcessor$Machine" "breakpoints" "[I", Cond.fieldLink RX3 28 "BarrelProcessor$Machine" "words" "[I", Cond.fieldLink RX3 31 "BarrelProcessor$Machine" "slots" "[I", Cond.fieldLink RX3 34 "BarrelProcessor$Machine" "settings" "[I", Cond.classLink RX3 37 RX5, Cond.instantiable RX5 3, Cond.initialized RX5, Cond.fieldLink RX3 40 "BarrelProcessor$Machine" "trace" "LBarrelProcessor$Trace;", Cond.instantiable RX0 11, Cond.initialized RX0, Cond.methodLink RX3 19 yX2_init, Cond.instanceMethod yX2_init]
def wsL_law_r3 : List Cond := [Cond.code yX2_init cX2_init 1 none, Cond.methodLink RX2 3 objectInit, Cond.fieldLink RX2 11 "BarrelProcessor$Instructions" "operations" "[I", Cond.fieldLink RX2 15 "BarrelProcessor$Instructions" "operands" "[I", Cond.constant RX2 24 (-100005), Cond.methodLink RX2 18 yJ7_fill_53178, Cond.static yJ7_fill_53178, Cond.initialized RJ7, Cond.code yJ7_fill_53178 cJ7_fill_53178 4 none, Cond.instanceMethod yX5_init, Cond.code yX5_init cX5_init 1 none, Cond.methodLink RX5 3 objectInit, Cond.fieldLink RX5 11 "BarrelProcessor$Trace" "parts" "[I", Cond.instanceMethod yX0_init, Cond.code yX0_init cX0_init 1 none, Cond.methodLink RX0 3 objectInit, Cond.fieldLink RX0 9 "BarrelProcessor$HardwareThread" "registers" "[I", Cond.fieldLink RX0 15 "BarrelProcessor$HardwareThread" "state" "I", Cond.fieldLink RX0 19 "BarrelProcessor$HardwareThread" "lastIssue" "I", Cond.methodLink RX6 21 yX1_init, Cond.instanceMethod yX1_init, Cond.code yX1_init cX1_init 2 none, Cond.methodLink RX1 3 objectInit, Cond.classLink RX1 11 RX3]
def wsL_law_r4 : List Cond := [Cond.fieldLink RX1 13 "BarrelProcessor$History" "states" "[LBarrelProcessor$Machine;", Cond.methodLink RX1 17 yX3_init, Cond.instanceMethod yX4_init, Cond.code yX4_init cX4_init 1 none, Cond.methodLink RX4 3 objectInit, Cond.arrayClass .char, Cond.fieldLink RX4 11 "BarrelProcessor$Text" "characters" "[C", Cond.classLink RX4 15 RX2, Cond.fieldLink RX4 18 "BarrelProcessor$Text" "instructions" "LBarrelProcessor$Instructions;", Cond.methodLink RX4 17 yX2_init, Cond.methodLink RL 12 yX7_init, Cond.instanceMethod yX7_init, Cond.code yX7_init cX7_init 2 none, Cond.methodLink RX7 1 objectInit, Cond.fieldLink RX7 7 "BarrelProcessorModel" "s" "[I", Cond.fieldLink RX7 13 "BarrelProcessorModel" "aside" "[I", Cond.fieldLink RX7 16 "BarrelProcessorModel" "past" "[I", Cond.fieldLink RX7 19 "BarrelProcessorModel" "text" "[I", Cond.methodLink RX7 22 yX7_at, Cond.static yX7_at, Cond.code yX7_at cX7_at 2 (some .int), Cond.methodLink RL 13 yX6_assemble, Cond.instanceMethod yX6_assemble, Cond.selects RX6 yX6_assemble yX6_assemble]
def wsL_law_r5 : List Cond := [Cond.code yX6_assemble cX6_assemble 3 (some .int), Cond.constant RX6 37 (-100001), Cond.constant RX6 42 (-100005), Cond.constant RX6 43 (-100003), Cond.constant RX6 48 (-100004), Cond.methodLink RX6 33 yX6_isPlace, Cond.static yX6_isPlace, Cond.code yX6_isPlace cX6_isPlace 1 (some .boolean), Cond.methodLink RX6 115 yX6_isWithin, Cond.static yX6_isWithin, Cond.code yX6_isWithin cX6_isWithin 3 (some .boolean), Cond.methodLink RX6 38 yX4_findFault, Cond.instanceMethod yX4_findFault, Cond.selects RX4 yX4_findFault yX4_findFault, Cond.code yX4_findFault cX4_findFault 3 (some .int), Cond.fieldLink RX4 26 "BarrelProcessor$Text" "position" "I", Cond.fieldLink RX4 29 "BarrelProcessor$Text" "instructionCount" "I", Cond.fieldLink RX4 22 "BarrelProcessor$Text" "length" "I", Cond.constant RX4 40 (-100005), Cond.methodLink RX4 32 yX4_readInstruction, Cond.instanceMethod yX4_readInstruction, Cond.selects RX4 yX4_readInstruction yX4_readInstruction, Cond.code yX4_readInstruction cX4_readInstruction 2 (some .boolean), Cond.methodLink RX4 43 yJ0_indexOf_0f7a4]
def wsL_law_r6 : List Cond := [Cond.instanceMethod yJ0_indexOf_0f7a4, Cond.selects RJ0 yJ0_indexOf_0f7a4 yJ0_indexOf_0f7a4, Cond.initialized RJ0, Cond.code yJ0_indexOf_0f7a4 cJ0_indexOf_0f7a4 2 (some .int), Cond.methodLink RJ0 633 yJ0_indexOf_7cf53, Cond.instanceMethod yJ0_indexOf_7cf53, Cond.selects RJ0 yJ0_indexOf_7cf53 yJ0_indexOf_7cf53, Cond.code yJ0_indexOf_7cf53 cJ0_indexOf_7cf53 3 (some .int), Cond.fieldLink RJ0 9 "java/lang/String" "value" "[B", Cond.methodLink RJ0 492 yJ0_isLatin1_aae02, Cond.instanceMethod yJ0_isLatin1_aae02, Cond.selects RJ0 yJ0_isLatin1_aae02 yJ0_isLatin1_aae02, Cond.code yJ0_isLatin1_aae02 cJ0_isLatin1_aae02 1 (some .boolean), Cond.fieldLink RJ0 38 "java/lang/String" "COMPACT_STRINGS" "Z", Cond.fieldLink RJ0 15 "java/lang/String" "coder" "B", Cond.methodLink RJ0 505 yJ0_length_8abf5, Cond.instanceMethod yJ0_length_8abf5, Cond.selects RJ0 yJ0_length_8abf5 yJ0_length_8abf5, Cond.code yJ0_length_8abf5 cJ0_length_8abf5 1 (some .int), Cond.methodLink RJ0 335 yJ0_coder_7d493, Cond.instanceMethod yJ0_coder_7d493, Cond.selects RJ0 yJ0_coder_7d493 yJ0_coder_7d493, Cond.code yJ0_coder_7d493 cJ0_coder_7d493 1 (some .byte), Cond.methodLink RJ0 637 yJ1_indexOf_4cfef]
def wsL_law_r7 : List Cond := [Cond.static yJ1_indexOf_4cfef, Cond.initialized RJ1, Cond.code yJ1_indexOf_4cfef cJ1_indexOf_4cfef 4 (some .int), Cond.methodLink RJ1 92 Lib.Math.max.name, Cond.static Lib.Math.max.name, Cond.initialized "java/lang/Math", Cond.code Lib.Math.max.name Lib.Math.max.code 2 (some .int), Cond.methodLink RJ1 38 Lib.Math.min.name, Cond.static Lib.Math.min.name, Cond.code Lib.Math.min.name Lib.Math.min.code 2 (some .int), Cond.methodLink RJ1 88 yJ1_canEncode_9a6ad, Cond.static yJ1_canEncode_9a6ad, Cond.code yJ1_canEncode_9a6ad cJ1_canEncode_9a6ad 1 (some .boolean), Cond.methodLink RJ1 95 yJ1_indexOfChar_4cfef, Cond.static yJ1_indexOfChar_4cfef, Cond.code yJ1_indexOfChar_4cfef cJ1_indexOfChar_4cfef 6 (some .int), Cond.methodLink RJ0 640 yJ2_indexOf_4cfef, Cond.static yJ2_indexOf_4cfef, Cond.initialized RJ2, Cond.code yJ2_indexOf_4cfef cJ2_indexOf_4cfef 4 (some .int), Cond.methodLink RJ2 224 Lib.Math.max.name, Cond.methodLink RJ2 183 Lib.Math.min.name, Cond.constant RJ2 227 (65536), Cond.methodLink RJ2 228 yJ2_indexOfChar_4cfef]
def wsL_law_r8 : List Cond := [Cond.static yJ2_indexOfChar_4cfef, Cond.code yJ2_indexOfChar_4cfef cJ2_indexOfChar_4cfef 4 (some .int), Cond.methodLink RJ2 96 yJ2_checkBoundsBeginEnd_d044e, Cond.static yJ2_checkBoundsBeginEnd_d044e, Cond.code yJ2_checkBoundsBeginEnd_d044e cJ2_checkBoundsBeginEnd_d044e 3 none, Cond.methodLink RJ2 48 yJ2_length_9d52b, Cond.static yJ2_length_9d52b, Cond.code yJ2_length_9d52b cJ2_length_9d52b 1 (some .int), Cond.methodLink RJ2 241 yJ0_checkBoundsBeginEnd_23922, Cond.static yJ0_checkBoundsBeginEnd_23922, Cond.code yJ0_checkBoundsBeginEnd_23922 cJ0_checkBoundsBeginEnd_23922 3 none, Cond.fieldLink RJ0 1053 "jdk/internal/util/Preconditions" "SIOOBE_FORMATTER" "Ljava/util/function/BiFunction;", Cond.methodLink RJ0 1062 yJ3_checkFromToIndex_8c36e, Cond.static yJ3_checkFromToIndex_8c36e, Cond.initialized RJ3, Cond.code yJ3_checkFromToIndex_8c36e cJ3_checkFromToIndex_8c36e 4 (some .int), Cond.methodLink RJ2 244 yJ2_indexOfCharUnsafe_4cfef, Cond.static yJ2_indexOfCharUnsafe_4cfef, Cond.code yJ2_indexOfCharUnsafe_4cfef cJ2_indexOfCharUnsafe_4cfef 5 (some .int), Cond.methodLink RJ2 71 yJ2_getChar_3b067, Cond.static yJ2_getChar_3b067, Cond.code yJ2_getChar_3b067 cJ2_getChar_3b067 2 (some .char), Cond.fieldLink RJ2 44 "java/lang/StringUTF16" "$assertionsDisabled" "Z", Cond.fieldLink RJ2 59 "java/lang/StringUTF16" "HI_BYTE_SHIFT" "I"]
def wsL_law_r9 : List Cond := [Cond.fieldLink RJ2 63 "java/lang/StringUTF16" "LO_BYTE_SHIFT" "I", Cond.methodLink RJ2 232 yJ2_indexOfSupplementary_4cfef, Cond.static yJ2_indexOfSupplementary_4cfef, Cond.code yJ2_indexOfSupplementary_4cfef cJ2_indexOfSupplementary_4cfef 7 (some .int), Cond.methodLink RJ2 164 yJ11_isValidCodePoint_9a6ad, Cond.static yJ11_isValidCodePoint_9a6ad, Cond.initialized RJ11, Cond.code yJ11_isValidCodePoint_9a6ad cJ11_isValidCodePoint_9a6ad 2 (some .boolean), Cond.methodLink RJ2 157 yJ11_highSurrogate_5068e, Cond.static yJ11_highSurrogate_5068e, Cond.code yJ11_highSurrogate_5068e cJ11_highSurrogate_5068e 1 (some .char), Cond.constant RJ11 110 (55232), Cond.methodLink RJ2 161 yJ11_lowSurrogate_5068e, Cond.static yJ11_lowSurrogate_5068e, Cond.code yJ11_lowSurrogate_5068e cJ11_lowSurrogate_5068e 1 (some .char), Cond.constant RJ11 76 (56320), Cond.methodLink RX4 49 yX4_beginRow, Cond.instanceMethod yX4_beginRow, Cond.selects RX4 yX4_beginRow yX4_beginRow, Cond.code yX4_beginRow cX4_beginRow 2 none, Cond.fieldLink RX4 64 "BarrelProcessor$Text" "operandCount" "I", Cond.methodLink RX4 53 yX4_readOperands, Cond.instanceMethod yX4_readOperands, Cond.selects RX4 yX4_readOperands yX4_readOperands]
def wsL_law_r10 : List Cond := [Cond.code yX4_readOperands cX4_readOperands 2 (some .boolean), Cond.methodLink RX4 67 yX4_readRegister, Cond.instanceMethod yX4_readRegister, Cond.selects RX4 yX4_readRegister yX4_readRegister, Cond.code yX4_readRegister cX4_readRegister 1 (some .boolean), Cond.methodLink RX4 80 yX4_isDigit, Cond.instanceMethod yX4_isDigit, Cond.selects RX4 yX4_isDigit yX4_isDigit, Cond.code yX4_isDigit cX4_isDigit 3 (some .boolean), Cond.methodLink RX4 84 yX4_takeDigit, Cond.instanceMethod yX4_takeDigit, Cond.selects RX4 yX4_takeDigit yX4_takeDigit, Cond.code yX4_takeDigit cX4_takeDigit 2 (some .int), Cond.methodLink RX4 88 yX4_keepOperand, Cond.instanceMethod yX4_keepOperand, Cond.selects RX4 yX4_keepOperand yX4_keepOperand, Cond.code yX4_keepOperand cX4_keepOperand 2 none, Cond.methodLink RX4 36 yX4_readSign, Cond.instanceMethod yX4_readSign, Cond.selects RX4 yX4_readSign yX4_readSign, Cond.code yX4_readSign cX4_readSign 2 (some .boolean), Cond.methodLink RX4 70 yX4_readNumber, Cond.instanceMethod yX4_readNumber, Cond.selects RX4 yX4_readNumber yX4_readNumber]
def wsL_law_r11 : List Cond := [Cond.code yX4_readNumber cX4_readNumber 3 (some .boolean), Cond.methodLink RX4 73 yX4_readPlace, Cond.instanceMethod yX4_readPlace, Cond.selects RX4 yX4_readPlace yX4_readPlace, Cond.code yX4_readPlace cX4_readPlace 3 (some .boolean), Cond.methodLink RX4 91 Lib.Math.min.name, Cond.methodLink RX6 49 yX1_remember, Cond.instanceMethod yX1_remember, Cond.selects RX1 yX1_remember yX1_remember, Cond.code yX1_remember cX1_remember 2 none, Cond.fieldLink RX1 18 "BarrelProcessor$History" "next" "I", Cond.fieldLink RX1 26 "BarrelProcessor$History" "count" "I", Cond.methodLink RX1 29 Lib.Math.min.name, Cond.methodLink RX1 22 yX3_copyFrom, Cond.instanceMethod yX3_copyFrom, Cond.selects RX3 yX3_copyFrom yX3_copyFrom, Cond.code yX3_copyFrom cX3_copyFrom 3 none, Cond.methodLink RX3 53 arraycopyName, Cond.native arraycopyName, Cond.static arraycopyName, Cond.initialized "java/lang/System", Cond.fieldLink RX3 62 "BarrelProcessor$Machine" "cycle" "I", Cond.fieldLink RX3 66 "BarrelProcessor$Machine" "idle" "I", Cond.methodLink RX3 45 yX0_copyFrom]
def wsL_law_r12 : List Cond := [Cond.instanceMethod yX0_copyFrom, Cond.selects RX0 yX0_copyFrom yX0_copyFrom, Cond.code yX0_copyFrom cX0_copyFrom 2 none, Cond.methodLink RX0 52 arraycopyName, Cond.fieldLink RX0 28 "BarrelProcessor$HardwareThread" "programCounter" "I", Cond.fieldLink RX0 34 "BarrelProcessor$HardwareThread" "loadRegister" "I", Cond.fieldLink RX0 37 "BarrelProcessor$HardwareThread" "loadWord" "I", Cond.fieldLink RX0 40 "BarrelProcessor$HardwareThread" "loadDue" "I", Cond.fieldLink RX0 58 "BarrelProcessor$HardwareThread" "executed" "I", Cond.fieldLink RX0 61 "BarrelProcessor$HardwareThread" "lent" "I", Cond.fieldLink RX0 31 "BarrelProcessor$HardwareThread" "starvedNow" "I", Cond.fieldLink RX0 43 "BarrelProcessor$HardwareThread" "longestStarved" "I", Cond.methodLink RX3 49 yX2_copyRows, Cond.instanceMethod yX2_copyRows, Cond.selects RX2 yX2_copyRows yX2_copyRows, Cond.code yX2_copyRows cX2_copyRows 4 none, Cond.methodLink RX2 25 arraycopyName, Cond.methodLink RX3 59 yX5_copyFrom, Cond.instanceMethod yX5_copyFrom, Cond.selects RX5 yX5_copyFrom yX5_copyFrom, Cond.code yX5_copyFrom cX5_copyFrom 2 none, Cond.methodLink RX5 29 arraycopyName, Cond.fieldLink RX5 15 "BarrelProcessor$Trace" "next" "I", Cond.fieldLink RX5 19 "BarrelProcessor$Trace" "count" "I"]
def wsL_law_r13 : List Cond := [Cond.methodLink RX6 60 yX2_copyRows, Cond.methodLink RL 17 yX7_assemble, Cond.instanceMethod yX7_assemble, Cond.selects RX7 yX7_assemble yX7_assemble, Cond.code yX7_assemble cX7_assemble 4 (some .int), Cond.constant RX7 75 (-100001), Cond.constant RX7 80 (-100003), Cond.fieldLink RX7 81 "BarrelProcessorModel" "length" "I", Cond.constant RX7 84 (-100004), Cond.fieldLink RX7 88 "BarrelProcessorModel" "spot" "I", Cond.fieldLink RX7 94 "BarrelProcessorModel" "operation" "I", Cond.fieldLink RX7 97 "BarrelProcessorModel" "first" "I", Cond.fieldLink RX7 100 "BarrelProcessorModel" "second" "I", Cond.methodLink RX7 72 yX7_isPlace, Cond.static yX7_isPlace, Cond.code yX7_isPlace cX7_isPlace 1 (some .boolean), Cond.methodLink RX7 26 yX7_in, Cond.static yX7_in, Cond.code yX7_in cX7_in 3 (some .boolean), Cond.methodLink RX7 76 yX7_isFaulty, Cond.instanceMethod yX7_isFaulty, Cond.selects RX7 yX7_isFaulty yX7_isFaulty, Cond.code yX7_isFaulty cX7_isFaulty 2 (some .boolean), Cond.fieldLink RX7 125 "BarrelProcessorModel" "isWrong" "Z"]
def wsL_law_r14 : List Cond := [Cond.methodLink RX7 91 yX7_instruction, Cond.instanceMethod yX7_instruction, Cond.selects RX7 yX7_instruction yX7_instruction, Cond.code yX7_instruction cX7_instruction 1 none, Cond.methodLink RX7 129 yX7_next, Cond.instanceMethod yX7_next, Cond.selects RX7 yX7_next yX7_next, Cond.code yX7_next cX7_next 1 (some .int), Cond.methodLink RX7 138 yX7_operationOf, Cond.static yX7_operationOf, Cond.code yX7_operationOf cX7_operationOf 1 (some .int), Cond.methodLink RX7 135 yX7_upTo, Cond.instanceMethod yX7_upTo, Cond.selects RX7 yX7_upTo yX7_upTo, Cond.code yX7_upTo cX7_upTo 5 (some .int), Cond.methodLink RX7 132 yX7_digit, Cond.instanceMethod yX7_digit, Cond.selects RX7 yX7_digit yX7_digit, Cond.code yX7_digit cX7_digit 4 (some .int), Cond.methodLink RX7 141 yX7_sign, Cond.instanceMethod yX7_sign, Cond.selects RX7 yX7_sign yX7_sign, Cond.code yX7_sign cX7_sign 2 none, Cond.methodLink RX7 144 yX7_number]
def wsL_law_r15 : List Cond := [Cond.instanceMethod yX7_number, Cond.selects RX7 yX7_number yX7_number, Cond.code yX7_number cX7_number 1 (some .int), Cond.methodLink RX7 85 yX7_records, Cond.instanceMethod yX7_records, Cond.selects RX7 yX7_records yX7_records, Cond.code yX7_records cX7_records 2 none, Cond.fieldLink RX7 30 "BarrelProcessorModel" "pasts" "I", Cond.methodLink RL 18 yX6_start, Cond.instanceMethod yX6_start, Cond.selects RX6 yX6_start yX6_start, Cond.code yX6_start cX6_start 4 (some .int), Cond.methodLink RX6 66 yX6_isThread, Cond.static yX6_isThread, Cond.code yX6_isThread cX6_isThread 1 (some .boolean), Cond.methodLink RX6 78 yX0_startAt, Cond.instanceMethod yX0_startAt, Cond.selects RX0 yX0_startAt yX0_startAt, Cond.code yX0_startAt cX0_startAt 2 none, Cond.methodLink RX0 22 yJ7_fill_53178, Cond.methodLink RL 22 yX7_start, Cond.instanceMethod yX7_start, Cond.selects RX7 yX7_start yX7_start, Cond.code yX7_start cX7_start 5 (some .int)]
def wsL_law_r16 : List Cond := [Cond.methodLink RX7 103 yX7_isThread, Cond.static yX7_isThread, Cond.code yX7_isThread cX7_isThread 1 (some .boolean), Cond.methodLink RL 23 yX6_halt, Cond.instanceMethod yX6_halt, Cond.selects RX6 yX6_halt yX6_halt, Cond.code yX6_halt cX6_halt 3 (some .int), Cond.methodLink RX6 82 yX0_haltNow, Cond.instanceMethod yX0_haltNow, Cond.selects RX0 yX0_haltNow yX0_haltNow, Cond.code yX0_haltNow cX0_haltNow 1 none, Cond.methodLink RL 26 yX7_halt, Cond.instanceMethod yX7_halt, Cond.selects RX7 yX7_halt yX7_halt, Cond.code yX7_halt cX7_halt 3 (some .int), Cond.methodLink RL 27 yX6_setRegister, Cond.instanceMethod yX6_setRegister, Cond.selects RX6 yX6_setRegister yX6_setRegister, Cond.code yX6_setRegister cX6_setRegister 4 (some .int), Cond.constant RX6 91 (-100002), Cond.methodLink RX6 85 yX6_isRegister, Cond.static yX6_isRegister, Cond.code yX6_isRegister cX6_isRegister 1 (some .boolean), Cond.methodLink RX6 88 yX6_isValue]
def wsL_law_r17 : List Cond := [Cond.static yX6_isValue, Cond.code yX6_isValue cX6_isValue 1 (some .boolean), Cond.methodLink RX6 96 yX6_replace, Cond.static yX6_replace, Cond.code yX6_replace cX6_replace 4 (some .int), Cond.methodLink RL 31 yX7_setRegister, Cond.instanceMethod yX7_setRegister, Cond.selects RX7 yX7_setRegister yX7_setRegister, Cond.code yX7_setRegister cX7_setRegister 5 (some .int), Cond.constant RX7 109 (-100002), Cond.methodLink RX7 106 yX7_isShort, Cond.static yX7_isShort, Cond.code yX7_isShort cX7_isShort 1 (some .boolean), Cond.methodLink RX7 34 yX7_register0, Cond.instanceMethod yX7_register0, Cond.selects RX7 yX7_register0 yX7_register0, Cond.code yX7_register0 cX7_register0 3 (some .int), Cond.methodLink RX7 37 yX7_puts, Cond.instanceMethod yX7_puts, Cond.selects RX7 yX7_puts yX7_puts, Cond.code yX7_puts cX7_puts 4 none, Cond.methodLink RL 32 yX6_setWord, Cond.instanceMethod yX6_setWord, Cond.selects RX6 yX6_setWord yX6_setWord]
def wsL_law_r18 : List Cond := [Cond.code yX6_setWord cX6_setWord 3 (some .int), Cond.methodLink RX6 100 yX6_isWord, Cond.static yX6_isWord, Cond.code yX6_isWord cX6_isWord 1 (some .boolean), Cond.methodLink RL 35 yX7_setWord, Cond.instanceMethod yX7_setWord, Cond.selects RX7 yX7_setWord yX7_setWord, Cond.code yX7_setWord cX7_setWord 4 (some .int), Cond.methodLink RL 36 yX6_setSlot, Cond.instanceMethod yX6_setSlot, Cond.selects RX6 yX6_setSlot yX6_setSlot, Cond.code yX6_setSlot cX6_setSlot 3 (some .int), Cond.methodLink RX6 106 yX6_isSlot, Cond.static yX6_isSlot, Cond.code yX6_isSlot cX6_isSlot 1 (some .boolean), Cond.methodLink RL 39 yX7_setSlot, Cond.instanceMethod yX7_setSlot, Cond.selects RX7 yX7_setSlot yX7_setSlot, Cond.code yX7_setSlot cX7_setSlot 4 (some .int), Cond.methodLink RL 40 yX6_set, Cond.instanceMethod yX6_set, Cond.selects RX6 yX6_set yX6_set, Cond.code yX6_set cX6_set 3 (some .int), Cond.methodLink RX6 112 yX6_isSetting]
def wsL_law_r19 : List Cond := [Cond.static yX6_isSetting, Cond.code yX6_isSetting cX6_isSetting 1 (some .boolean), Cond.methodLink RL 43 yX7_set, Cond.instanceMethod yX7_set, Cond.selects RX7 yX7_set yX7_set, Cond.code yX7_set cX7_set 4 (some .int), Cond.methodLink RL 44 yX6_setBreakpoint, Cond.instanceMethod yX6_setBreakpoint, Cond.selects RX6 yX6_setBreakpoint yX6_setBreakpoint, Cond.code yX6_setBreakpoint cX6_setBreakpoint 3 (some .int), Cond.methodLink RX6 125 yX3_countBreakpoints, Cond.instanceMethod yX3_countBreakpoints, Cond.selects RX3 yX3_countBreakpoints yX3_countBreakpoints, Cond.code yX3_countBreakpoints cX3_countBreakpoints 3 (some .int), Cond.methodLink RL 48 yX7_setBreakpoint, Cond.instanceMethod yX7_setBreakpoint, Cond.selects RX7 yX7_setBreakpoint yX7_setBreakpoint, Cond.code yX7_setBreakpoint cX7_setBreakpoint 5 (some .int), Cond.methodLink RL 49 yX6_run, Cond.instanceMethod yX6_run, Cond.selects RX6 yX6_run yX6_run, Cond.code yX6_run cX6_run 2 (some .int), Cond.methodLink RX6 128 yX3_runToBreakpoint, Cond.instanceMethod yX3_runToBreakpoint]
def wsL_law_r20 : List Cond := [Cond.selects RX3 yX3_runToBreakpoint yX3_runToBreakpoint, Cond.code yX3_runToBreakpoint cX3_runToBreakpoint 3 (some .int), Cond.methodLink RX3 69 yX3_areAllHalted, Cond.instanceMethod yX3_areAllHalted, Cond.selects RX3 yX3_areAllHalted yX3_areAllHalted, Cond.code yX3_areAllHalted cX3_areAllHalted 2 (some .boolean), Cond.methodLink RX3 73 yX3_isAtBreakpoint, Cond.instanceMethod yX3_isAtBreakpoint, Cond.selects RX3 yX3_isAtBreakpoint yX3_isAtBreakpoint, Cond.code yX3_isAtBreakpoint cX3_isAtBreakpoint 3 (some .boolean), Cond.methodLink RX3 112 yX3_findIssuer, Cond.instanceMethod yX3_findIssuer, Cond.selects RX3 yX3_findIssuer yX3_findIssuer, Cond.code yX3_findIssuer cX3_findIssuer 3 (some .int), Cond.constant RX3 79 (-100005), Cond.methodLink RX3 80 yX3_findReady, Cond.instanceMethod yX3_findReady, Cond.selects RX3 yX3_findReady yX3_findReady, Cond.code yX3_findReady cX3_findReady 5 (some .int), Cond.methodLink RX3 99 yX3_doesBarrierOpen, Cond.instanceMethod yX3_doesBarrierOpen, Cond.selects RX3 yX3_doesBarrierOpen yX3_doesBarrierOpen, Cond.code yX3_doesBarrierOpen cX3_doesBarrierOpen 4 (some .boolean), Cond.methodLink RX3 105 yX0_hasLoadDue]
def wsL_law_r21 : List Cond := [Cond.instanceMethod yX0_hasLoadDue, Cond.selects RX0 yX0_hasLoadDue yX0_hasLoadDue, Cond.code yX0_hasLoadDue cX0_hasLoadDue 2 (some .boolean), Cond.methodLink RX3 84 yX3_slotOwner, Cond.instanceMethod yX3_slotOwner, Cond.selects RX3 yX3_slotOwner yX3_slotOwner, Cond.code yX3_slotOwner cX3_slotOwner 1 (some .int), Cond.methodLink RX3 87 yX3_isIn, Cond.static yX3_isIn, Cond.code yX3_isIn cX3_isIn 2 (some .boolean), Cond.methodLink RX3 91 yX3_findNextAfter, Cond.static yX3_findNextAfter, Cond.code yX3_findNextAfter cX3_findNextAfter 4 (some .int), Cond.methodLink RX3 95 yX3_findLongestWaiting, Cond.instanceMethod yX3_findLongestWaiting, Cond.selects RX3 yX3_findLongestWaiting yX3_findLongestWaiting, Cond.code yX3_findLongestWaiting cX3_findLongestWaiting 6 (some .int), Cond.methodLink RX3 76 yX3_runCycle, Cond.instanceMethod yX3_runCycle, Cond.selects RX3 yX3_runCycle yX3_runCycle, Cond.code yX3_runCycle cX3_runCycle 2 none, Cond.methodLink RX3 124 yX3_finishLoads, Cond.instanceMethod yX3_finishLoads, Cond.selects RX3 yX3_finishLoads yX3_finishLoads]
def wsL_law_r22 : List Cond := [Cond.code yX3_finishLoads cX3_finishLoads 3 none, Cond.methodLink RX3 127 yX3_openBarrier, Cond.instanceMethod yX3_openBarrier, Cond.selects RX3 yX3_openBarrier yX3_openBarrier, Cond.code yX3_openBarrier cX3_openBarrier 2 none, Cond.methodLink RX3 130 yX3_countStarving, Cond.instanceMethod yX3_countStarving, Cond.selects RX3 yX3_countStarving yX3_countStarving, Cond.code yX3_countStarving cX3_countStarving 4 none, Cond.methodLink RX3 149 yX0_countCycle, Cond.instanceMethod yX0_countCycle, Cond.selects RX0 yX0_countCycle yX0_countCycle, Cond.code yX0_countCycle cX0_countCycle 2 none, Cond.methodLink RX0 46 Lib.Math.max.name, Cond.methodLink RX3 134 yX3_noteIssue, Cond.instanceMethod yX3_noteIssue, Cond.selects RX3 yX3_noteIssue yX3_noteIssue, Cond.code yX3_noteIssue cX3_noteIssue 3 none, Cond.methodLink RX3 159 yX5_note, Cond.instanceMethod yX5_note, Cond.selects RX5 yX5_note yX5_note, Cond.code yX5_note cX5_note 5 none, Cond.methodLink RX5 22 Lib.Math.min.name, Cond.methodLink RX3 137 yX3_executeNext]
def wsL_law_r23 : List Cond := [Cond.instanceMethod yX3_executeNext, Cond.selects RX3 yX3_executeNext yX3_executeNext, Cond.code yX3_executeNext cX3_executeNext 6 none, Cond.methodLink RX3 169 yX3_calculate, Cond.static yX3_calculate, Cond.code yX3_calculate cX3_calculate 6 none, Cond.methodLink RX3 173 yX3_reachMemory, Cond.instanceMethod yX3_reachMemory, Cond.selects RX3 yX3_reachMemory yX3_reachMemory, Cond.code yX3_reachMemory cX3_reachMemory 8 none, Cond.methodLink RX3 180 yX0_beginLoad, Cond.instanceMethod yX0_beginLoad, Cond.selects RX0 yX0_beginLoad yX0_beginLoad, Cond.code yX0_beginLoad cX0_beginLoad 4 none, Cond.methodLink RX3 177 yX3_steer, Cond.static yX3_steer, Cond.code yX3_steer cX3_steer 5 none, Cond.methodLink RL 52 yX7_run, Cond.instanceMethod yX7_run, Cond.selects RX7 yX7_run yX7_run, Cond.code yX7_run cX7_run 3 (some .int), Cond.methodLink RX7 116 yX7_isOver, Cond.instanceMethod yX7_isOver, Cond.selects RX7 yX7_isOver yX7_isOver]
def wsL_law_r24 : List Cond := [Cond.code yX7_isOver cX7_isOver 1 (some .boolean), Cond.methodLink RX7 53 yX7_many, Cond.instanceMethod yX7_many, Cond.selects RX7 yX7_many yX7_many, Cond.code yX7_many cX7_many 4 (some .int), Cond.methodLink RX7 119 yX7_isStopped, Cond.instanceMethod yX7_isStopped, Cond.selects RX7 yX7_isStopped yX7_isStopped, Cond.code yX7_isStopped cX7_isStopped 3 (some .boolean), Cond.methodLink RX7 110 yX7_putAside, Cond.instanceMethod yX7_putAside, Cond.selects RX7 yX7_putAside yX7_putAside, Cond.code yX7_putAside cX7_putAside 2 none, Cond.methodLink RX7 61 yX7_prepares, Cond.instanceMethod yX7_prepares, Cond.selects RX7 yX7_prepares yX7_prepares, Cond.code yX7_prepares cX7_prepares 3 none, Cond.methodLink RX7 64 yX7_issuing, Cond.instanceMethod yX7_issuing, Cond.selects RX7 yX7_issuing yX7_issuing, Cond.code yX7_issuing cX7_issuing 5 (some .int), Cond.methodLink RX7 57 yX7_isReady, Cond.instanceMethod yX7_isReady, Cond.selects RX7 yX7_isReady yX7_isReady]
def wsL_law_r25 : List Cond := [Cond.code yX7_isReady cX7_isReady 2 (some .boolean), Cond.methodLink RX7 113 yX7_putBack, Cond.instanceMethod yX7_putBack, Cond.selects RX7 yX7_putBack yX7_putBack, Cond.code yX7_putBack cX7_putBack 2 none, Cond.methodLink RX7 122 yX7_cycles, Cond.instanceMethod yX7_cycles, Cond.selects RX7 yX7_cycles yX7_cycles, Cond.code yX7_cycles cX7_cycles 4 none, Cond.methodLink RX7 68 yX7_executes, Cond.instanceMethod yX7_executes, Cond.selects RX7 yX7_executes yX7_executes, Cond.code yX7_executes cX7_executes 3 none, Cond.methodLink RX7 45 yX7_traces, Cond.instanceMethod yX7_traces, Cond.selects RX7 yX7_traces yX7_traces, Cond.code yX7_traces cX7_traces 4 none, Cond.methodLink RX7 49 yX7_does, Cond.instanceMethod yX7_does, Cond.selects RX7 yX7_does yX7_does, Cond.code yX7_does cX7_does 7 none, Cond.methodLink RX7 41 yX7_jumps, Cond.instanceMethod yX7_jumps, Cond.selects RX7 yX7_jumps yX7_jumps]
def wsL_law_r26 : List Cond := [Cond.code yX7_jumps cX7_jumps 4 none, Cond.methodLink RL 53 yX6_append, Cond.instanceMethod yX6_append, Cond.selects RX6 yX6_append yX6_append, Cond.code yX6_append cX6_append 2 (some .int), Cond.methodLink RX6 135 yX4_add, Cond.instanceMethod yX4_add, Cond.selects RX4 yX4_add yX4_add, Cond.code yX4_add cX4_add 2 none, Cond.methodLink RL 56 yX7_append, Cond.instanceMethod yX7_append, Cond.selects RX7 yX7_append yX7_append, Cond.code yX7_append cX7_append 2 (some .int), Cond.methodLink RL 57 yX6_clearText, Cond.instanceMethod yX6_clearText, Cond.selects RX6 yX6_clearText yX6_clearText, Cond.code yX6_clearText cX6_clearText 2 (some .int), Cond.methodLink RL 61 yX7_clearText, Cond.instanceMethod yX7_clearText, Cond.selects RX7 yX7_clearText yX7_clearText, Cond.code yX7_clearText cX7_clearText 2 (some .int), Cond.methodLink RL 62 yX6_fault, Cond.instanceMethod yX6_fault, Cond.selects RX6 yX6_fault yX6_fault]
def wsL_law_r27 : List Cond := [Cond.code yX6_fault cX6_fault 1 (some .int), Cond.methodLink RL 65 yX7_fault, Cond.instanceMethod yX7_fault, Cond.selects RX7 yX7_fault yX7_fault, Cond.code yX7_fault cX7_fault 1 (some .int), Cond.constant RX7 147 (-100005), Cond.methodLink RL 66 yX6_undo, Cond.instanceMethod yX6_undo, Cond.selects RX6 yX6_undo yX6_undo, Cond.code yX6_undo cX6_undo 1 (some .int), Cond.methodLink RX6 139 yX1_restore, Cond.instanceMethod yX1_restore, Cond.selects RX1 yX1_restore yX1_restore, Cond.code yX1_restore cX1_restore 2 (some .int), Cond.constant RX1 35 (-100005), Cond.methodLink RL 69 yX7_undo, Cond.instanceMethod yX7_undo, Cond.selects RX7 yX7_undo yX7_undo, Cond.code yX7_undo cX7_undo 2 (some .int), Cond.methodLink RL 70 yX6_state, Cond.instanceMethod yX6_state, Cond.selects RX6 yX6_state yX6_state, Cond.code yX6_state cX6_state 2 (some .int), Cond.methodLink RL 73 yX7_state]
def wsL_law_r28 : List Cond := [Cond.instanceMethod yX7_state, Cond.selects RX7 yX7_state yX7_state, Cond.code yX7_state cX7_state 2 (some .int), Cond.methodLink RX7 148 yX7_ofThread, Cond.instanceMethod yX7_ofThread, Cond.selects RX7 yX7_ofThread yX7_ofThread, Cond.code yX7_ofThread cX7_ofThread 3 (some .int), Cond.methodLink RL 74 yX6_programCounter, Cond.instanceMethod yX6_programCounter, Cond.selects RX6 yX6_programCounter yX6_programCounter, Cond.code yX6_programCounter cX6_programCounter 2 (some .int), Cond.methodLink RL 77 yX7_programCounter, Cond.instanceMethod yX7_programCounter, Cond.selects RX7 yX7_programCounter yX7_programCounter, Cond.code yX7_programCounter cX7_programCounter 2 (some .int), Cond.methodLink RL 78 yX6_register, Cond.instanceMethod yX6_register, Cond.selects RX6 yX6_register yX6_register, Cond.code yX6_register cX6_register 3 (some .int), Cond.methodLink RL 81 yX7_register, Cond.instanceMethod yX7_register, Cond.selects RX7 yX7_register yX7_register, Cond.code yX7_register cX7_register 3 (some .int), Cond.methodLink RL 82 yX6_word]
def wsL_law_r29 : List Cond := [Cond.instanceMethod yX6_word, Cond.selects RX6 yX6_word yX6_word, Cond.code yX6_word cX6_word 2 (some .int), Cond.methodLink RL 85 yX7_word, Cond.instanceMethod yX7_word, Cond.selects RX7 yX7_word yX7_word, Cond.code yX7_word cX7_word 2 (some .int), Cond.methodLink RL 86 yX6_operation, Cond.instanceMethod yX6_operation, Cond.selects RX6 yX6_operation yX6_operation, Cond.code yX6_operation cX6_operation 2 (some .int), Cond.methodLink RL 89 yX7_operation, Cond.instanceMethod yX7_operation, Cond.selects RX7 yX7_operation yX7_operation, Cond.code yX7_operation cX7_operation 2 (some .int), Cond.methodLink RL 90 yX6_operand, Cond.instanceMethod yX6_operand, Cond.selects RX6 yX6_operand yX6_operand, Cond.code yX6_operand cX6_operand 3 (some .int), Cond.methodLink RL 93 yX7_operand, Cond.instanceMethod yX7_operand, Cond.selects RX7 yX7_operand yX7_operand, Cond.code yX7_operand cX7_operand 5 (some .int), Cond.methodLink RL 94 yX6_slot]
def wsL_law_r30 : List Cond := [Cond.instanceMethod yX6_slot, Cond.selects RX6 yX6_slot yX6_slot, Cond.code yX6_slot cX6_slot 2 (some .int), Cond.methodLink RL 97 yX7_slot, Cond.instanceMethod yX7_slot, Cond.selects RX7 yX7_slot yX7_slot, Cond.code yX7_slot cX7_slot 2 (some .int), Cond.methodLink RL 98 yX6_setting, Cond.instanceMethod yX6_setting, Cond.selects RX6 yX6_setting yX6_setting, Cond.code yX6_setting cX6_setting 2 (some .int), Cond.methodLink RL 101 yX7_setting, Cond.instanceMethod yX7_setting, Cond.selects RX7 yX7_setting yX7_setting, Cond.code yX7_setting cX7_setting 2 (some .int), Cond.methodLink RL 102 yX6_breakpoint, Cond.instanceMethod yX6_breakpoint, Cond.selects RX6 yX6_breakpoint yX6_breakpoint, Cond.code yX6_breakpoint cX6_breakpoint 2 (some .int), Cond.methodLink RL 105 yX7_breakpoint, Cond.instanceMethod yX7_breakpoint, Cond.selects RX7 yX7_breakpoint yX7_breakpoint, Cond.code yX7_breakpoint cX7_breakpoint 2 (some .int), Cond.methodLink RL 106 yX6_cycle]
def wsL_law_r31 : List Cond := [Cond.instanceMethod yX6_cycle, Cond.selects RX6 yX6_cycle yX6_cycle, Cond.code yX6_cycle cX6_cycle 1 (some .int), Cond.methodLink RL 109 yX7_cycle, Cond.instanceMethod yX7_cycle, Cond.selects RX7 yX7_cycle yX7_cycle, Cond.code yX7_cycle cX7_cycle 1 (some .int), Cond.methodLink RL 110 yX6_idle, Cond.instanceMethod yX6_idle, Cond.selects RX6 yX6_idle yX6_idle, Cond.code yX6_idle cX6_idle 1 (some .int), Cond.methodLink RL 113 yX7_idle, Cond.instanceMethod yX7_idle, Cond.selects RX7 yX7_idle yX7_idle, Cond.code yX7_idle cX7_idle 1 (some .int), Cond.methodLink RL 114 yX6_executed, Cond.instanceMethod yX6_executed, Cond.selects RX6 yX6_executed yX6_executed, Cond.code yX6_executed cX6_executed 2 (some .int), Cond.methodLink RL 117 yX7_executed, Cond.instanceMethod yX7_executed, Cond.selects RX7 yX7_executed yX7_executed, Cond.code yX7_executed cX7_executed 2 (some .int), Cond.methodLink RL 118 yX6_lent]
def wsL_law_r32 : List Cond := [Cond.instanceMethod yX6_lent, Cond.selects RX6 yX6_lent yX6_lent, Cond.code yX6_lent cX6_lent 2 (some .int), Cond.methodLink RL 121 yX7_lent, Cond.instanceMethod yX7_lent, Cond.selects RX7 yX7_lent yX7_lent, Cond.code yX7_lent cX7_lent 2 (some .int), Cond.methodLink RL 122 yX6_starved, Cond.instanceMethod yX6_starved, Cond.selects RX6 yX6_starved yX6_starved, Cond.code yX6_starved cX6_starved 2 (some .int), Cond.methodLink RL 125 yX7_starved, Cond.instanceMethod yX7_starved, Cond.selects RX7 yX7_starved yX7_starved, Cond.code yX7_starved cX7_starved 2 (some .int), Cond.methodLink RL 126 yX6_trace, Cond.instanceMethod yX6_trace, Cond.selects RX6 yX6_trace yX6_trace, Cond.code yX6_trace cX6_trace 3 (some .int), Cond.methodLink RX6 173 yX5_lookUp, Cond.instanceMethod yX5_lookUp, Cond.selects RX5 yX5_lookUp yX5_lookUp, Cond.code yX5_lookUp cX5_lookUp 4 (some .int), Cond.constant RX5 28 (-100005)]
def wsL_law_r33 : List Cond := [Cond.methodLink RL 129 yX7_trace, Cond.instanceMethod yX7_trace, Cond.selects RX7 yX7_trace yX7_trace, Cond.code yX7_trace cX7_trace 3 (some .int), Cond.methodLink RL 130 yX6_use, Cond.instanceMethod yX6_use, Cond.selects RX6 yX6_use yX6_use, Cond.code yX6_use cX6_use 1 (some .float), Cond.methodLink RL 134 yX7_use, Cond.instanceMethod yX7_use, Cond.selects RX7 yX7_use yX7_use, Cond.code yX7_use cX7_use 1 (some .float), Cond.methodLink RL 135 yX6_nextThread, Cond.instanceMethod yX6_nextThread, Cond.selects RX6 yX6_nextThread yX6_nextThread, Cond.code yX6_nextThread cX6_nextThread 1 (some .int), Cond.methodLink RX6 177 yX3_findIssuer, Cond.methodLink RL 138 yX7_nextThread, Cond.instanceMethod yX7_nextThread, Cond.selects RX7 yX7_nextThread yX7_nextThread, Cond.code yX7_nextThread cX7_nextThread 2 (some .int), Cond.methodLink RL 139 yX6_cyclesLeft, Cond.instanceMethod yX6_cyclesLeft, Cond.selects RX6 yX6_cyclesLeft yX6_cyclesLeft]
def wsL_law_r34 : List Cond := [Cond.code yX6_cyclesLeft cX6_cyclesLeft 1 (some .int), Cond.methodLink RX6 180 yX6_tryOut, Cond.instanceMethod yX6_tryOut, Cond.selects RX6 yX6_tryOut yX6_tryOut, Cond.code yX6_tryOut cX6_tryOut 3 (some .int), Cond.methodLink RX6 183 yX3_copyFrom, Cond.methodLink RX6 186 yX3_runToEnd, Cond.instanceMethod yX3_runToEnd, Cond.selects RX3 yX3_runToEnd yX3_runToEnd, Cond.code yX3_runToEnd cX3_runToEnd 2 (some .int), Cond.methodLink RL 142 yX7_cyclesLeft, Cond.instanceMethod yX7_cyclesLeft, Cond.selects RX7 yX7_cyclesLeft yX7_cyclesLeft, Cond.code yX7_cyclesLeft cX7_cyclesLeft 1 (some .int), Cond.methodLink RX7 154 yX7_leftIf, Cond.instanceMethod yX7_leftIf, Cond.selects RX7 yX7_leftIf yX7_leftIf, Cond.code yX7_leftIf cX7_leftIf 4 (some .int), Cond.methodLink RX7 151 yX7_runsOut, Cond.instanceMethod yX7_runsOut, Cond.selects RX7 yX7_runsOut yX7_runsOut, Cond.code yX7_runsOut cX7_runsOut 2 (some .int), Cond.methodLink RL 143 yX6_cyclesIf, Cond.instanceMethod yX6_cyclesIf]
def wsL_law_r35 : List Cond := [Cond.selects RX6 yX6_cyclesIf yX6_cyclesIf, Cond.code yX6_cyclesIf cX6_cyclesIf 3 (some .int), Cond.methodLink RL 146 yX7_cyclesIf, Cond.instanceMethod yX7_cyclesIf, Cond.selects RX7 yX7_cyclesIf yX7_cyclesIf, Cond.code yX7_cyclesIf cX7_cyclesIf 3 (some .int), Cond.methodLink RL 147 yX6_bestLend, Cond.instanceMethod yX6_bestLend, Cond.selects RX6 yX6_bestLend yX6_bestLend, Cond.code yX6_bestLend cX6_bestLend 5 (some .int), Cond.methodLink RL 150 yX7_bestLend, Cond.instanceMethod yX7_bestLend, Cond.selects RX7 yX7_bestLend yX7_bestLend, Cond.code yX7_bestLend cX7_bestLend 5 (some .int), Cond.methodLink RL 151 yX6_finalWord, Cond.instanceMethod yX6_finalWord, Cond.selects RX6 yX6_finalWord yX6_finalWord, Cond.code yX6_finalWord cX6_finalWord 3 (some .int), Cond.methodLink RL 154 yX7_finalWord, Cond.instanceMethod yX7_finalWord, Cond.selects RX7 yX7_finalWord yX7_finalWord, Cond.code yX7_finalWord cX7_finalWord 4 (some .int)]
def wsL_law : List Cond := (wsL_law_r1 ++ (wsL_law_r2 ++ (wsL_law_r3 ++ (wsL_law_r4 ++ (wsL_law_r5 ++ (wsL_law_r6 ++ (wsL_law_r7 ++ (wsL_law_r8 ++ (wsL_law_r9 ++ (wsL_law_r10 ++ (wsL_law_r11 ++ (wsL_law_r12 ++ (wsL_law_r13 ++ (wsL_law_r14 ++ (wsL_law_r15 ++ (wsL_law_r16 ++ (wsL_law_r17 ++ (wsL_law_r18 ++ (wsL_law_r19 ++ (wsL_law_r20 ++ (wsL_law_r21 ++ (wsL_law_r22 ++ (wsL_law_r23 ++ (wsL_law_r24 ++ (wsL_law_r25 ++ (wsL_law_r26 ++ (wsL_law_r27 ++ (wsL_law_r28 ++ (wsL_law_r29 ++ (wsL_law_r30 ++ (wsL_law_r31 ++ (wsL_law_r32 ++ (wsL_law_r33 ++ (wsL_law_r34 ++ wsL_law_r35)))))))))))))))))))))))))))))))))) ++ wsX60 ++ wsX70 ++ wsX30 ++ wsX10 ++ wsX40 ++ wsX20 ++ wsX50 ++ wsX00 ++ ([] : List Cond)
set_option maxRecDepth 20000 in
theorem wsL_law_in : ∀ w ∈ wsL_law, w ∈ lw_tbl := fun w h => (goodIn_p wsL_law [71, 74, 79, 87, 91, 111, 126, 217, 236, 741, 745, 279, 282, 285, 290, 294, 299, 303, 307, 313, 317, 320, 326, 329, 323, 332, 335, 341, 344, 347, 350, 355, 358, 361, 370, 373, 376, 380, 385, 390, 394, 398, 403, 407, 411, 415, 419, 427, 431, 435, 442, 448, 783, 786, 789, 794, 798, 802, 805, 809, 813, 817, 821, 827, 456, 459, 463, 831, 834, 468, 472, 838, 476, 479, 482, 486, 842, 845, 850, 854, 490, 493, 858, 497, 500, 862, 504, 507, 866, 511, 515, 870, 519, 523, 527, 531, 535, 539, 543, 547, 551, 554, 557, 562, 568, 572, 576, 580, 584, 589, 593, 598, 601, 605, 609, 612, 874, 878, 882, 886, 890, 894, 898, 902, 906, 910, 914, 918, 922, 926, 616, 620, 930, 624, 934, 628, 938, 632, 636, 943, 641, 947, 951, 645, 955, 649, 959, 653, 963, 657, 967, 661, 971, 665, 975, 669, 979, 673, 983, 677, 987, 681, 991, 685, 995, 689, 999, 693, 1003, 697, 701, 1007, 706, 1011, 710, 1015, 715, 719, 724, 1019, 1023, 1027, 728, 1031, 732, 1035, 736, 1039] (by decide +kernel) (by decide +kernel) w h).1
theorem inlX0 : ∀ w ∈ wsX00, w ∈ wsL_law := fun _ h => List.mem_append_left _ (List.mem_append_right _ h)
theorem inX0 : ∀ w ∈ wsX00, w ∈ lw_tbl := fun w h => wsL_law_in w (inlX0 w h)
theorem inlX1 : ∀ w ∈ wsX10, w ∈ wsL_law := fun _ h => List.mem_append_left _ (List.mem_append_left _ (List.mem_append_left _ (List.mem_append_left _ (List.mem_append_left _ (List.mem_append_right _ h)))))
theorem inX1 : ∀ w ∈ wsX10, w ∈ lw_tbl := fun w h => wsL_law_in w (inlX1 w h)
theorem inlX2 : ∀ w ∈ wsX20, w ∈ wsL_law := fun _ h => List.mem_append_left _ (List.mem_append_left _ (List.mem_append_left _ (List.mem_append_right _ h)))
theorem inX2 : ∀ w ∈ wsX20, w ∈ lw_tbl := fun w h => wsL_law_in w (inlX2 w h)
theorem inlX3 : ∀ w ∈ wsX30, w ∈ wsL_law := fun _ h => List.mem_append_left _ (List.mem_append_left _ (List.mem_append_left _ (List.mem_append_left _ (List.mem_append_left _ (List.mem_append_left _ (List.mem_append_right _ h))))))
theorem inX3 : ∀ w ∈ wsX30, w ∈ lw_tbl := fun w h => wsL_law_in w (inlX3 w h)
theorem inlX4 : ∀ w ∈ wsX40, w ∈ wsL_law := fun _ h => List.mem_append_left _ (List.mem_append_left _ (List.mem_append_left _ (List.mem_append_left _ (List.mem_append_right _ h))))
theorem inX4 : ∀ w ∈ wsX40, w ∈ lw_tbl := fun w h => wsL_law_in w (inlX4 w h)
theorem inlX5 : ∀ w ∈ wsX50, w ∈ wsL_law := fun _ h => List.mem_append_left _ (List.mem_append_left _ (List.mem_append_right _ h))
theorem inX5 : ∀ w ∈ wsX50, w ∈ lw_tbl := fun w h => wsL_law_in w (inlX5 w h)
theorem inlX6 : ∀ w ∈ wsX60, w ∈ wsL_law := fun _ h => List.mem_append_left _ (List.mem_append_left _ (List.mem_append_left _ (List.mem_append_left _ (List.mem_append_left _ (List.mem_append_left _ (List.mem_append_left _ (List.mem_append_left _ (List.mem_append_right _ h))))))))
theorem inX6 : ∀ w ∈ wsX60, w ∈ lw_tbl := fun w h => wsL_law_in w (inlX6 w h)
theorem inlX7 : ∀ w ∈ wsX70, w ∈ wsL_law := fun _ h => List.mem_append_left _ (List.mem_append_left _ (List.mem_append_left _ (List.mem_append_left _ (List.mem_append_left _ (List.mem_append_left _ (List.mem_append_left _ (List.mem_append_right _ h)))))))
theorem inX7 : ∀ w ∈ wsX70, w ∈ lw_tbl := fun w h => wsL_law_in w (inlX7 w h)
theorem inJx145de : ∀ w ∈ wsJx145de0, w ∈ lw_tbl := by decide +kernel
theorem inJx9f9b0 : ∀ w ∈ wsJx9f9b00, w ∈ lw_tbl := by decide +kernel
theorem inJ11 : ∀ w ∈ wsJ110, w ∈ lw_tbl := by decide +kernel
theorem inJxb160c : ∀ w ∈ wsJxb160c0, w ∈ lw_tbl := by decide +kernel
theorem inJ9 : ∀ w ∈ wsJ90, w ∈ lw_tbl := by decide +kernel
theorem inJ0 : ∀ w ∈ wsJ00, w ∈ lw_tbl := by decide +kernel
theorem inJ1 : ∀ w ∈ wsJ10, w ∈ lw_tbl := by decide +kernel
theorem inJ2 : ∀ w ∈ wsJ20, w ∈ lw_tbl := by decide +kernel
theorem inJ10 : ∀ w ∈ wsJ100, w ∈ lw_tbl := by decide +kernel
theorem inJxfd54e : ∀ w ∈ wsJxfd54e0, w ∈ lw_tbl := by decide +kernel
theorem inJx3cf43 : ∀ w ∈ wsJx3cf430, w ∈ lw_tbl := by decide +kernel
theorem inJ7 : ∀ w ∈ wsJ70, w ∈ lw_tbl := by decide +kernel
theorem inJ3 : ∀ w ∈ wsJ30, w ∈ lw_tbl := by decide +kernel
theorem dX0_init_0 : decode cX0_init 0 = .ok (.aload_n 0, 1) := by decide +kernel
theorem dX0_init_1 : decode cX0_init 1 = .ok (.invokespecial 3, 3) := by decide +kernel
theorem dX0_init_4 : decode cX0_init 4 = .ok (.aload_n 0, 1) := by decide +kernel
theorem dX0_init_5 : decode cX0_init 5 = .ok (.iconst 4, 1) := by decide +kernel
theorem dX0_init_6 : decode cX0_init 6 = .ok (.newarray .int, 2) := by decide +kernel
theorem dX0_init_8 : decode cX0_init 8 = .ok (.putfield 9, 3) := by decide +kernel
theorem dX0_init_11 : decode cX0_init 11 = .ok (.aload_n 0, 1) := by decide +kernel
theorem dX0_init_12 : decode cX0_init 12 = .ok (.iconst 0, 1) := by decide +kernel
theorem dX0_init_13 : decode cX0_init 13 = .ok (.putfield 15, 3) := by decide +kernel
theorem dX0_init_16 : decode cX0_init 16 = .ok (.aload_n 0, 1) := by decide +kernel
theorem dX0_init_17 : decode cX0_init 17 = .ok (.iconst (-1), 1) := by decide +kernel
theorem dX0_init_18 : decode cX0_init 18 = .ok (.putfield 19, 3) := by decide +kernel
theorem dX0_init_21 : decode cX0_init 21 = .ok (.return_, 1) := by decide +kernel
set_option maxRecDepth 20000 in
theorem ggX0_startAt_J7_fill_53178 : GoodIn wsX0_startAt wsJ7_fill_53178 := goodIn_r _ [9] (by decide +kernel) (by decide +kernel)
set_option maxRecDepth 20000 in
theorem gX0_startAt_J7_fill_53178 : GoodIn wsX0_startAt (va_wsS RX0 22 yJ7_fill_53178 wsJ7_fill_53178) := goodIn_app (goodIn_of _ (by decide +kernel)) ggX0_startAt_J7_fill_53178
theorem dX0_startAt_0 : decode cX0_startAt 0 = .ok (.aload_n 0, 1) := by decide +kernel
theorem dX0_startAt_1 : decode cX0_startAt 1 = .ok (.getfield 9, 3) := by decide +kernel
theorem dX0_startAt_4 : decode cX0_startAt 4 = .ok (.iconst 0, 1) := by decide +kernel
theorem dX0_startAt_5 : decode cX0_startAt 5 = .ok (.invokestatic 22, 3) := by decide +kernel
theorem dX0_startAt_8 : decode cX0_startAt 8 = .ok (.aload_n 0, 1) := by decide +kernel
theorem dX0_startAt_9 : decode cX0_startAt 9 = .ok (.iconst 1, 1) := by decide +kernel
theorem dX0_startAt_10 : decode cX0_startAt 10 = .ok (.putfield 15, 3) := by decide +kernel
theorem dX0_startAt_13 : decode cX0_startAt 13 = .ok (.aload_n 0, 1) := by decide +kernel
theorem dX0_startAt_14 : decode cX0_startAt 14 = .ok (.iload_n 1, 1) := by decide +kernel
theorem dX0_startAt_15 : decode cX0_startAt 15 = .ok (.putfield 28, 3) := by decide +kernel
theorem dX0_startAt_18 : decode cX0_startAt 18 = .ok (.aload_n 0, 1) := by decide +kernel
theorem dX0_startAt_19 : decode cX0_startAt 19 = .ok (.iconst (-1), 1) := by decide +kernel
theorem dX0_startAt_20 : decode cX0_startAt 20 = .ok (.putfield 19, 3) := by decide +kernel
theorem dX0_startAt_23 : decode cX0_startAt 23 = .ok (.aload_n 0, 1) := by decide +kernel
theorem dX0_startAt_24 : decode cX0_startAt 24 = .ok (.iconst 0, 1) := by decide +kernel
theorem dX0_startAt_25 : decode cX0_startAt 25 = .ok (.putfield 31, 3) := by decide +kernel
theorem dX0_startAt_28 : decode cX0_startAt 28 = .ok (.return_, 1) := by decide +kernel
theorem dX0_haltNow_0 : decode cX0_haltNow 0 = .ok (.aload_n 0, 1) := by decide +kernel
theorem dX0_haltNow_1 : decode cX0_haltNow 1 = .ok (.iconst 0, 1) := by decide +kernel
theorem dX0_haltNow_2 : decode cX0_haltNow 2 = .ok (.putfield 15, 3) := by decide +kernel
theorem dX0_haltNow_5 : decode cX0_haltNow 5 = .ok (.aload_n 0, 1) := by decide +kernel
theorem dX0_haltNow_6 : decode cX0_haltNow 6 = .ok (.iconst 0, 1) := by decide +kernel
theorem dX0_haltNow_7 : decode cX0_haltNow 7 = .ok (.putfield 31, 3) := by decide +kernel
theorem dX0_haltNow_10 : decode cX0_haltNow 10 = .ok (.return_, 1) := by decide +kernel
theorem dX0_beginLoad_0 : decode cX0_beginLoad 0 = .ok (.aload_n 0, 1) := by decide +kernel
theorem dX0_beginLoad_1 : decode cX0_beginLoad 1 = .ok (.iconst 2, 1) := by decide +kernel
theorem dX0_beginLoad_2 : decode cX0_beginLoad 2 = .ok (.putfield 15, 3) := by decide +kernel
theorem dX0_beginLoad_5 : decode cX0_beginLoad 5 = .ok (.aload_n 0, 1) := by decide +kernel
theorem dX0_beginLoad_6 : decode cX0_beginLoad 6 = .ok (.iload_n 1, 1) := by decide +kernel
theorem dX0_beginLoad_7 : decode cX0_beginLoad 7 = .ok (.putfield 34, 3) := by decide +kernel
theorem dX0_beginLoad_10 : decode cX0_beginLoad 10 = .ok (.aload_n 0, 1) := by decide +kernel
theorem dX0_beginLoad_11 : decode cX0_beginLoad 11 = .ok (.iload_n 2, 1) := by decide +kernel
theorem dX0_beginLoad_12 : decode cX0_beginLoad 12 = .ok (.putfield 37, 3) := by decide +kernel
theorem dX0_beginLoad_15 : decode cX0_beginLoad 15 = .ok (.aload_n 0, 1) := by decide +kernel
theorem dX0_beginLoad_16 : decode cX0_beginLoad 16 = .ok (.iload_n 3, 1) := by decide +kernel
theorem dX0_beginLoad_17 : decode cX0_beginLoad 17 = .ok (.putfield 40, 3) := by decide +kernel
theorem dX0_beginLoad_20 : decode cX0_beginLoad 20 = .ok (.return_, 1) := by decide +kernel
theorem dX0_hasLoadDue_0 : decode cX0_hasLoadDue 0 = .ok (.aload_n 0, 1) := by decide +kernel
theorem dX0_hasLoadDue_1 : decode cX0_hasLoadDue 1 = .ok (.getfield 15, 3) := by decide +kernel
theorem dX0_hasLoadDue_4 : decode cX0_hasLoadDue 4 = .ok (.iconst 2, 1) := by decide +kernel
theorem dX0_hasLoadDue_5 : decode cX0_hasLoadDue 5 = .ok (.if_icmp .ne 15, 3) := by decide +kernel
theorem dX0_hasLoadDue_8 : decode cX0_hasLoadDue 8 = .ok (.aload_n 0, 1) := by decide +kernel
theorem dX0_hasLoadDue_9 : decode cX0_hasLoadDue 9 = .ok (.getfield 40, 3) := by decide +kernel
theorem dX0_hasLoadDue_12 : decode cX0_hasLoadDue 12 = .ok (.iload_n 1, 1) := by decide +kernel
theorem dX0_hasLoadDue_13 : decode cX0_hasLoadDue 13 = .ok (.if_icmp .gt 7, 3) := by decide +kernel
theorem dX0_hasLoadDue_16 : decode cX0_hasLoadDue 16 = .ok (.iconst 1, 1) := by decide +kernel
theorem dX0_hasLoadDue_17 : decode cX0_hasLoadDue 17 = .ok (.goto 4, 3) := by decide +kernel
theorem dX0_hasLoadDue_20 : decode cX0_hasLoadDue 20 = .ok (.iconst 0, 1) := by decide +kernel
theorem dX0_hasLoadDue_21 : decode cX0_hasLoadDue 21 = .ok (.ireturn, 1) := by decide +kernel
theorem dX0_countCycle_0 : decode cX0_countCycle 0 = .ok (.aload_n 0, 1) := by decide +kernel
theorem dX0_countCycle_1 : decode cX0_countCycle 1 = .ok (.iload_n 1, 1) := by decide +kernel
theorem dX0_countCycle_2 : decode cX0_countCycle 2 = .ok (.ifCond .eq 12, 3) := by decide +kernel
theorem dX0_countCycle_5 : decode cX0_countCycle 5 = .ok (.aload_n 0, 1) := by decide +kernel
theorem dX0_countCycle_6 : decode cX0_countCycle 6 = .ok (.getfield 31, 3) := by decide +kernel
theorem dX0_countCycle_9 : decode cX0_countCycle 9 = .ok (.iconst 1, 1) := by decide +kernel
theorem dX0_countCycle_10 : decode cX0_countCycle 10 = .ok (.iadd, 1) := by decide +kernel
theorem dX0_countCycle_11 : decode cX0_countCycle 11 = .ok (.goto 4, 3) := by decide +kernel
theorem dX0_countCycle_14 : decode cX0_countCycle 14 = .ok (.iconst 0, 1) := by decide +kernel
theorem dX0_countCycle_15 : decode cX0_countCycle 15 = .ok (.putfield 31, 3) := by decide +kernel
theorem dX0_countCycle_18 : decode cX0_countCycle 18 = .ok (.aload_n 0, 1) := by decide +kernel
theorem dX0_countCycle_19 : decode cX0_countCycle 19 = .ok (.aload_n 0, 1) := by decide +kernel
theorem dX0_countCycle_20 : decode cX0_countCycle 20 = .ok (.getfield 43, 3) := by decide +kernel
theorem dX0_countCycle_23 : decode cX0_countCycle 23 = .ok (.aload_n 0, 1) := by decide +kernel
theorem dX0_countCycle_24 : decode cX0_countCycle 24 = .ok (.getfield 31, 3) := by decide +kernel
theorem dX0_countCycle_27 : decode cX0_countCycle 27 = .ok (.invokestatic 46, 3) := by decide +kernel
theorem dX0_countCycle_30 : decode cX0_countCycle 30 = .ok (.putfield 43, 3) := by decide +kernel
theorem dX0_countCycle_33 : decode cX0_countCycle 33 = .ok (.return_, 1) := by decide +kernel
theorem dX0_copyFrom_0 : decode cX0_copyFrom 0 = .ok (.aload_n 1, 1) := by decide +kernel
theorem dX0_copyFrom_1 : decode cX0_copyFrom 1 = .ok (.getfield 9, 3) := by decide +kernel
theorem dX0_copyFrom_4 : decode cX0_copyFrom 4 = .ok (.iconst 0, 1) := by decide +kernel
theorem dX0_copyFrom_5 : decode cX0_copyFrom 5 = .ok (.aload_n 0, 1) := by decide +kernel
theorem dX0_copyFrom_6 : decode cX0_copyFrom 6 = .ok (.getfield 9, 3) := by decide +kernel
theorem dX0_copyFrom_9 : decode cX0_copyFrom 9 = .ok (.iconst 0, 1) := by decide +kernel
theorem dX0_copyFrom_10 : decode cX0_copyFrom 10 = .ok (.iconst 4, 1) := by decide +kernel
theorem dX0_copyFrom_11 : decode cX0_copyFrom 11 = .ok (.invokestatic 52, 3) := by decide +kernel
theorem dX0_copyFrom_14 : decode cX0_copyFrom 14 = .ok (.aload_n 0, 1) := by decide +kernel
theorem dX0_copyFrom_15 : decode cX0_copyFrom 15 = .ok (.aload_n 1, 1) := by decide +kernel
theorem dX0_copyFrom_16 : decode cX0_copyFrom 16 = .ok (.getfield 15, 3) := by decide +kernel
theorem dX0_copyFrom_19 : decode cX0_copyFrom 19 = .ok (.putfield 15, 3) := by decide +kernel
theorem dX0_copyFrom_22 : decode cX0_copyFrom 22 = .ok (.aload_n 0, 1) := by decide +kernel
theorem dX0_copyFrom_23 : decode cX0_copyFrom 23 = .ok (.aload_n 1, 1) := by decide +kernel
theorem dX0_copyFrom_24 : decode cX0_copyFrom 24 = .ok (.getfield 28, 3) := by decide +kernel
theorem dX0_copyFrom_27 : decode cX0_copyFrom 27 = .ok (.putfield 28, 3) := by decide +kernel
theorem dX0_copyFrom_30 : decode cX0_copyFrom 30 = .ok (.aload_n 0, 1) := by decide +kernel
theorem dX0_copyFrom_31 : decode cX0_copyFrom 31 = .ok (.aload_n 1, 1) := by decide +kernel
theorem dX0_copyFrom_32 : decode cX0_copyFrom 32 = .ok (.getfield 34, 3) := by decide +kernel
theorem dX0_copyFrom_35 : decode cX0_copyFrom 35 = .ok (.putfield 34, 3) := by decide +kernel
theorem dX0_copyFrom_38 : decode cX0_copyFrom 38 = .ok (.aload_n 0, 1) := by decide +kernel
theorem dX0_copyFrom_39 : decode cX0_copyFrom 39 = .ok (.aload_n 1, 1) := by decide +kernel
theorem dX0_copyFrom_40 : decode cX0_copyFrom 40 = .ok (.getfield 37, 3) := by decide +kernel
theorem dX0_copyFrom_43 : decode cX0_copyFrom 43 = .ok (.putfield 37, 3) := by decide +kernel
theorem dX0_copyFrom_46 : decode cX0_copyFrom 46 = .ok (.aload_n 0, 1) := by decide +kernel
theorem dX0_copyFrom_47 : decode cX0_copyFrom 47 = .ok (.aload_n 1, 1) := by decide +kernel
theorem dX0_copyFrom_48 : decode cX0_copyFrom 48 = .ok (.getfield 40, 3) := by decide +kernel
theorem dX0_copyFrom_51 : decode cX0_copyFrom 51 = .ok (.putfield 40, 3) := by decide +kernel
theorem dX0_copyFrom_54 : decode cX0_copyFrom 54 = .ok (.aload_n 0, 1) := by decide +kernel
theorem dX0_copyFrom_55 : decode cX0_copyFrom 55 = .ok (.aload_n 1, 1) := by decide +kernel
theorem dX0_copyFrom_56 : decode cX0_copyFrom 56 = .ok (.getfield 19, 3) := by decide +kernel
theorem dX0_copyFrom_59 : decode cX0_copyFrom 59 = .ok (.putfield 19, 3) := by decide +kernel
theorem dX0_copyFrom_62 : decode cX0_copyFrom 62 = .ok (.aload_n 0, 1) := by decide +kernel
theorem dX0_copyFrom_63 : decode cX0_copyFrom 63 = .ok (.aload_n 1, 1) := by decide +kernel
theorem dX0_copyFrom_64 : decode cX0_copyFrom 64 = .ok (.getfield 58, 3) := by decide +kernel
theorem dX0_copyFrom_67 : decode cX0_copyFrom 67 = .ok (.putfield 58, 3) := by decide +kernel
theorem dX0_copyFrom_70 : decode cX0_copyFrom 70 = .ok (.aload_n 0, 1) := by decide +kernel
theorem dX0_copyFrom_71 : decode cX0_copyFrom 71 = .ok (.aload_n 1, 1) := by decide +kernel
theorem dX0_copyFrom_72 : decode cX0_copyFrom 72 = .ok (.getfield 61, 3) := by decide +kernel
theorem dX0_copyFrom_75 : decode cX0_copyFrom 75 = .ok (.putfield 61, 3) := by decide +kernel
theorem dX0_copyFrom_78 : decode cX0_copyFrom 78 = .ok (.aload_n 0, 1) := by decide +kernel
theorem dX0_copyFrom_79 : decode cX0_copyFrom 79 = .ok (.aload_n 1, 1) := by decide +kernel
theorem dX0_copyFrom_80 : decode cX0_copyFrom 80 = .ok (.getfield 31, 3) := by decide +kernel
theorem dX0_copyFrom_83 : decode cX0_copyFrom 83 = .ok (.putfield 31, 3) := by decide +kernel
theorem dX0_copyFrom_86 : decode cX0_copyFrom 86 = .ok (.aload_n 0, 1) := by decide +kernel
theorem dX0_copyFrom_87 : decode cX0_copyFrom 87 = .ok (.aload_n 1, 1) := by decide +kernel
theorem dX0_copyFrom_88 : decode cX0_copyFrom 88 = .ok (.getfield 43, 3) := by decide +kernel
theorem dX0_copyFrom_91 : decode cX0_copyFrom 91 = .ok (.putfield 43, 3) := by decide +kernel
theorem dX0_copyFrom_94 : decode cX0_copyFrom 94 = .ok (.return_, 1) := by decide +kernel
set_option maxRecDepth 20000 in
theorem ggX1_init_X3_init : GoodIn wsX1_init wsX3_init := goodIn_r _ [10, 11, 2, 3, 12, 13, 14, 15, 16, 17, 18, 19, 20, 21, 22, 23, 24, 25, 26, 27, 28, 29, 30, 31, 32, 33, 34, 35, 36, 37, 38, 39, 40, 41, 42, 43, 44, 45, 46, 47, 48, 49, 53, 54, 55, 56, 57, 58, 59, 60, 61, 62, 63, 64, 65, 66, 67, 68, 69, 70, 71, 72, 73, 74, 75, 76, 77] (by decide +kernel) (by decide +kernel)
set_option maxRecDepth 20000 in
theorem gX1_init_X3_init : GoodIn wsX1_init (wsX3_init) := ggX1_init_X3_init
theorem dX1_init_0 : decode cX1_init 0 = .ok (.aload_n 0, 1) := by decide +kernel
theorem dX1_init_1 : decode cX1_init 1 = .ok (.invokespecial 3, 3) := by decide +kernel
theorem dX1_init_4 : decode cX1_init 4 = .ok (.aload_n 0, 1) := by decide +kernel
theorem dX1_init_5 : decode cX1_init 5 = .ok (.iconst 4, 1) := by decide +kernel
theorem dX1_init_6 : decode cX1_init 6 = .ok (.anewarray 11, 3) := by decide +kernel
theorem dX1_init_9 : decode cX1_init 9 = .ok (.putfield 13, 3) := by decide +kernel
theorem dX1_init_12 : decode cX1_init 12 = .ok (.iconst 0, 1) := by decide +kernel
theorem dX1_init_13 : decode cX1_init 13 = .ok (.istore_n 1, 1) := by decide +kernel
theorem dX1_init_14 : decode cX1_init 14 = .ok (.iload_n 1, 1) := by decide +kernel
theorem dX1_init_15 : decode cX1_init 15 = .ok (.iconst 4, 1) := by decide +kernel
theorem dX1_init_16 : decode cX1_init 16 = .ok (.if_icmp .ge 22, 3) := by decide +kernel
theorem dX1_init_19 : decode cX1_init 19 = .ok (.aload_n 0, 1) := by decide +kernel
theorem dX1_init_20 : decode cX1_init 20 = .ok (.getfield 13, 3) := by decide +kernel
theorem dX1_init_23 : decode cX1_init 23 = .ok (.iload_n 1, 1) := by decide +kernel
theorem dX1_init_24 : decode cX1_init 24 = .ok (.new 11, 3) := by decide +kernel
theorem dX1_init_27 : decode cX1_init 27 = .ok (.dup, 1) := by decide +kernel
theorem dX1_init_28 : decode cX1_init 28 = .ok (.invokespecial 17, 3) := by decide +kernel
theorem dX1_init_31 : decode cX1_init 31 = .ok (.aastore, 1) := by decide +kernel
theorem dX1_init_32 : decode cX1_init 32 = .ok (.iinc 1 1, 3) := by decide +kernel
theorem dX1_init_35 : decode cX1_init 35 = .ok (.goto (-21), 3) := by decide +kernel
theorem dX1_init_38 : decode cX1_init 38 = .ok (.return_, 1) := by decide +kernel
set_option maxRecDepth 20000 in
theorem ggX1_remember_X3_copyFrom : GoodIn wsX1_remember wsX3_copyFrom := goodIn_r _ [12, 13, 14, 15, 16, 17, 18, 19, 20, 21, 22, 23, 24, 25, 26, 27, 28, 29, 30, 31, 32, 33, 34, 35, 36, 37, 38, 39, 40, 41, 42, 43, 44, 45, 46, 47, 48, 49, 50, 51, 52, 53, 54, 55, 56, 57, 58, 59, 63, 64, 65, 66, 67, 68, 69, 70, 71, 72, 73, 74, 75, 76, 77, 78, 79, 80, 81, 82, 83, 84, 85, 86, 87] (by decide +kernel) (by decide +kernel)
set_option maxRecDepth 20000 in
theorem gX1_remember_X3_copyFrom : GoodIn wsX1_remember (wsV RX1 22 RX3 yX3_copyFrom wsX3_copyFrom) := goodIn_app (goodIn_of _ (by decide +kernel)) ggX1_remember_X3_copyFrom
theorem dX1_remember_0 : decode cX1_remember 0 = .ok (.aload_n 0, 1) := by decide +kernel
theorem dX1_remember_1 : decode cX1_remember 1 = .ok (.getfield 13, 3) := by decide +kernel
theorem dX1_remember_4 : decode cX1_remember 4 = .ok (.aload_n 0, 1) := by decide +kernel
theorem dX1_remember_5 : decode cX1_remember 5 = .ok (.getfield 18, 3) := by decide +kernel
theorem dX1_remember_8 : decode cX1_remember 8 = .ok (.aaload, 1) := by decide +kernel
theorem dX1_remember_9 : decode cX1_remember 9 = .ok (.aload_n 1, 1) := by decide +kernel
theorem dX1_remember_10 : decode cX1_remember 10 = .ok (.invokevirtual 22, 3) := by decide +kernel
theorem dX1_remember_13 : decode cX1_remember 13 = .ok (.aload_n 0, 1) := by decide +kernel
theorem dX1_remember_14 : decode cX1_remember 14 = .ok (.aload_n 0, 1) := by decide +kernel
theorem dX1_remember_15 : decode cX1_remember 15 = .ok (.getfield 18, 3) := by decide +kernel
theorem dX1_remember_18 : decode cX1_remember 18 = .ok (.iconst 1, 1) := by decide +kernel
theorem dX1_remember_19 : decode cX1_remember 19 = .ok (.iadd, 1) := by decide +kernel
theorem dX1_remember_20 : decode cX1_remember 20 = .ok (.iconst 4, 1) := by decide +kernel
theorem dX1_remember_21 : decode cX1_remember 21 = .ok (.irem, 1) := by decide +kernel
theorem dX1_remember_22 : decode cX1_remember 22 = .ok (.putfield 18, 3) := by decide +kernel
theorem dX1_remember_25 : decode cX1_remember 25 = .ok (.aload_n 0, 1) := by decide +kernel
theorem dX1_remember_26 : decode cX1_remember 26 = .ok (.aload_n 0, 1) := by decide +kernel
theorem dX1_remember_27 : decode cX1_remember 27 = .ok (.getfield 26, 3) := by decide +kernel
theorem dX1_remember_30 : decode cX1_remember 30 = .ok (.iconst 1, 1) := by decide +kernel
theorem dX1_remember_31 : decode cX1_remember 31 = .ok (.iadd, 1) := by decide +kernel
theorem dX1_remember_32 : decode cX1_remember 32 = .ok (.iconst 4, 1) := by decide +kernel
theorem dX1_remember_33 : decode cX1_remember 33 = .ok (.invokestatic 29, 3) := by decide +kernel
theorem dX1_remember_36 : decode cX1_remember 36 = .ok (.putfield 26, 3) := by decide +kernel
theorem dX1_remember_39 : decode cX1_remember 39 = .ok (.return_, 1) := by decide +kernel
set_option maxRecDepth 20000 in
theorem ggX1_restore_X3_copyFrom : GoodIn wsX1_restore wsX3_copyFrom := goodIn_r _ [9, 10, 11, 12, 13, 14, 15, 16, 17, 18, 19, 20, 21, 22, 23, 24, 25, 26, 27, 28, 29, 30, 31, 32, 33, 34, 35, 36, 37, 38, 39, 40, 41, 42, 43, 44, 45, 46, 47, 48, 49, 50, 51, 52, 53, 54, 55, 56, 60, 61, 62, 63, 64, 65, 66, 67, 68, 69, 70, 71, 72, 73, 74, 75, 76, 77, 78, 79, 80, 81, 82, 83, 84] (by decide +kernel) (by decide +kernel)
set_option maxRecDepth 20000 in
theorem gX1_restore_X3_copyFrom : GoodIn wsX1_restore (wsV RX1 22 RX3 yX3_copyFrom wsX3_copyFrom) := goodIn_app (goodIn_of _ (by decide +kernel)) ggX1_restore_X3_copyFrom
theorem dX1_restore_0 : decode cX1_restore 0 = .ok (.aload_n 0, 1) := by decide +kernel
theorem dX1_restore_1 : decode cX1_restore 1 = .ok (.getfield 26, 3) := by decide +kernel
theorem dX1_restore_4 : decode cX1_restore 4 = .ok (.ifCond .ne 6, 3) := by decide +kernel
theorem dX1_restore_7 : decode cX1_restore 7 = .ok (.ldc 35, 2) := by decide +kernel
theorem dX1_restore_9 : decode cX1_restore 9 = .ok (.ireturn, 1) := by decide +kernel
theorem dX1_restore_10 : decode cX1_restore 10 = .ok (.aload_n 0, 1) := by decide +kernel
theorem dX1_restore_11 : decode cX1_restore 11 = .ok (.aload_n 0, 1) := by decide +kernel
theorem dX1_restore_12 : decode cX1_restore 12 = .ok (.getfield 18, 3) := by decide +kernel
theorem dX1_restore_15 : decode cX1_restore 15 = .ok (.iconst 4, 1) := by decide +kernel
theorem dX1_restore_16 : decode cX1_restore 16 = .ok (.iadd, 1) := by decide +kernel
theorem dX1_restore_17 : decode cX1_restore 17 = .ok (.iconst 1, 1) := by decide +kernel
theorem dX1_restore_18 : decode cX1_restore 18 = .ok (.isub, 1) := by decide +kernel
theorem dX1_restore_19 : decode cX1_restore 19 = .ok (.iconst 4, 1) := by decide +kernel
theorem dX1_restore_20 : decode cX1_restore 20 = .ok (.irem, 1) := by decide +kernel
theorem dX1_restore_21 : decode cX1_restore 21 = .ok (.putfield 18, 3) := by decide +kernel
theorem dX1_restore_24 : decode cX1_restore 24 = .ok (.aload_n 0, 1) := by decide +kernel
theorem dX1_restore_25 : decode cX1_restore 25 = .ok (.dup, 1) := by decide +kernel
theorem dX1_restore_26 : decode cX1_restore 26 = .ok (.getfield 26, 3) := by decide +kernel
theorem dX1_restore_29 : decode cX1_restore 29 = .ok (.iconst 1, 1) := by decide +kernel
theorem dX1_restore_30 : decode cX1_restore 30 = .ok (.isub, 1) := by decide +kernel
theorem dX1_restore_31 : decode cX1_restore 31 = .ok (.putfield 26, 3) := by decide +kernel
theorem dX1_restore_34 : decode cX1_restore 34 = .ok (.aload_n 1, 1) := by decide +kernel
theorem dX1_restore_35 : decode cX1_restore 35 = .ok (.aload_n 0, 1) := by decide +kernel
theorem dX1_restore_36 : decode cX1_restore 36 = .ok (.getfield 13, 3) := by decide +kernel
theorem dX1_restore_39 : decode cX1_restore 39 = .ok (.aload_n 0, 1) := by decide +kernel
theorem dX1_restore_40 : decode cX1_restore 40 = .ok (.getfield 18, 3) := by decide +kernel
theorem dX1_restore_43 : decode cX1_restore 43 = .ok (.aaload, 1) := by decide +kernel
theorem dX1_restore_44 : decode cX1_restore 44 = .ok (.invokevirtual 22, 3) := by decide +kernel
theorem dX1_restore_47 : decode cX1_restore 47 = .ok (.aload_n 0, 1) := by decide +kernel
theorem dX1_restore_48 : decode cX1_restore 48 = .ok (.getfield 26, 3) := by decide +kernel
theorem dX1_restore_51 : decode cX1_restore 51 = .ok (.ireturn, 1) := by decide +kernel
set_option maxRecDepth 20000 in
theorem ggX2_init_J7_fill_53178 : GoodIn wsX2_init wsJ7_fill_53178 := goodIn_r _ [11] (by decide +kernel) (by decide +kernel)
set_option maxRecDepth 20000 in
theorem gX2_init_J7_fill_53178 : GoodIn wsX2_init (va_wsS RX2 18 yJ7_fill_53178 wsJ7_fill_53178) := goodIn_app (goodIn_of _ (by decide +kernel)) ggX2_init_J7_fill_53178
theorem dX2_init_0 : decode cX2_init 0 = .ok (.aload_n 0, 1) := by decide +kernel
theorem dX2_init_1 : decode cX2_init 1 = .ok (.invokespecial 3, 3) := by decide +kernel
theorem dX2_init_4 : decode cX2_init 4 = .ok (.aload_n 0, 1) := by decide +kernel
theorem dX2_init_5 : decode cX2_init 5 = .ok (.bipush 50, 2) := by decide +kernel
theorem dX2_init_7 : decode cX2_init 7 = .ok (.newarray .int, 2) := by decide +kernel
theorem dX2_init_9 : decode cX2_init 9 = .ok (.putfield 11, 3) := by decide +kernel
theorem dX2_init_12 : decode cX2_init 12 = .ok (.aload_n 0, 1) := by decide +kernel
theorem dX2_init_13 : decode cX2_init 13 = .ok (.bipush 100, 2) := by decide +kernel
theorem dX2_init_15 : decode cX2_init 15 = .ok (.newarray .int, 2) := by decide +kernel
theorem dX2_init_17 : decode cX2_init 17 = .ok (.putfield 15, 3) := by decide +kernel
theorem dX2_init_20 : decode cX2_init 20 = .ok (.aload_n 0, 1) := by decide +kernel
theorem dX2_init_21 : decode cX2_init 21 = .ok (.getfield 11, 3) := by decide +kernel
theorem dX2_init_24 : decode cX2_init 24 = .ok (.bipush 11, 2) := by decide +kernel
theorem dX2_init_26 : decode cX2_init 26 = .ok (.invokestatic 18, 3) := by decide +kernel
theorem dX2_init_29 : decode cX2_init 29 = .ok (.aload_n 0, 1) := by decide +kernel
theorem dX2_init_30 : decode cX2_init 30 = .ok (.getfield 15, 3) := by decide +kernel
theorem dX2_init_33 : decode cX2_init 33 = .ok (.ldc 24, 2) := by decide +kernel
theorem dX2_init_35 : decode cX2_init 35 = .ok (.invokestatic 18, 3) := by decide +kernel
theorem dX2_init_38 : decode cX2_init 38 = .ok (.return_, 1) := by decide +kernel
theorem dX2_copyRows_0 : decode cX2_copyRows 0 = .ok (.aload_n 1, 1) := by decide +kernel
theorem dX2_copyRows_1 : decode cX2_copyRows 1 = .ok (.getfield 11, 3) := by decide +kernel
theorem dX2_copyRows_4 : decode cX2_copyRows 4 = .ok (.iconst 0, 1) := by decide +kernel
theorem dX2_copyRows_5 : decode cX2_copyRows 5 = .ok (.aload_n 0, 1) := by decide +kernel
theorem dX2_copyRows_6 : decode cX2_copyRows 6 = .ok (.getfield 11, 3) := by decide +kernel
theorem dX2_copyRows_9 : decode cX2_copyRows 9 = .ok (.iload_n 3, 1) := by decide +kernel
theorem dX2_copyRows_10 : decode cX2_copyRows 10 = .ok (.iload_n 2, 1) := by decide +kernel
theorem dX2_copyRows_11 : decode cX2_copyRows 11 = .ok (.invokestatic 25, 3) := by decide +kernel
theorem dX2_copyRows_14 : decode cX2_copyRows 14 = .ok (.aload_n 1, 1) := by decide +kernel
theorem dX2_copyRows_15 : decode cX2_copyRows 15 = .ok (.getfield 15, 3) := by decide +kernel
theorem dX2_copyRows_18 : decode cX2_copyRows 18 = .ok (.iconst 0, 1) := by decide +kernel
theorem dX2_copyRows_19 : decode cX2_copyRows 19 = .ok (.aload_n 0, 1) := by decide +kernel
theorem dX2_copyRows_20 : decode cX2_copyRows 20 = .ok (.getfield 15, 3) := by decide +kernel
theorem dX2_copyRows_23 : decode cX2_copyRows 23 = .ok (.iload_n 3, 1) := by decide +kernel
theorem dX2_copyRows_24 : decode cX2_copyRows 24 = .ok (.iconst 2, 1) := by decide +kernel
theorem dX2_copyRows_25 : decode cX2_copyRows 25 = .ok (.imul, 1) := by decide +kernel
theorem dX2_copyRows_26 : decode cX2_copyRows 26 = .ok (.iload_n 2, 1) := by decide +kernel
theorem dX2_copyRows_27 : decode cX2_copyRows 27 = .ok (.iconst 2, 1) := by decide +kernel
theorem dX2_copyRows_28 : decode cX2_copyRows 28 = .ok (.imul, 1) := by decide +kernel
theorem dX2_copyRows_29 : decode cX2_copyRows 29 = .ok (.invokestatic 25, 3) := by decide +kernel
theorem dX2_copyRows_32 : decode cX2_copyRows 32 = .ok (.return_, 1) := by decide +kernel
set_option maxRecDepth 20000 in
theorem ggX3_init_X2_init : GoodIn wsX3_init wsX2_init := goodIn_r _ [23, 24, 2, 3, 10, 25, 26, 27, 28, 29, 30, 31, 51, 52] (by decide +kernel) (by decide +kernel)
set_option maxRecDepth 20000 in
theorem gX3_init_X2_init : GoodIn wsX3_init (wsX2_init) := ggX3_init_X2_init
set_option maxRecDepth 20000 in
theorem ggX3_init_X5_init : GoodIn wsX3_init wsX5_init := goodIn_r _ [33, 34, 2, 3, 10, 35, 53, 54, 55] (by decide +kernel) (by decide +kernel)
set_option maxRecDepth 20000 in
theorem gX3_init_X5_init_n39 : GoodIn wsX3_init (wsX5_init) := ggX3_init_X5_init
set_option maxRecDepth 20000 in
theorem ggX3_init_X0_init : GoodIn wsX3_init wsX0_init := goodIn_r _ [37, 38, 2, 3, 10, 39, 40, 41, 56, 57, 58, 59, 60, 61, 62, 63, 64, 65, 66] (by decide +kernel) (by decide +kernel)
set_option maxRecDepth 20000 in
theorem gX3_init_X0_init_n44 : GoodIn wsX3_init (wsX0_init) := ggX3_init_X0_init
theorem dX3_init_0 : decode cX3_init 0 = .ok (.aload_n 0, 1) := by decide +kernel
theorem dX3_init_1 : decode cX3_init 1 = .ok (.invokespecial 3, 3) := by decide +kernel
theorem dX3_init_4 : decode cX3_init 4 = .ok (.aload_n 0, 1) := by decide +kernel
theorem dX3_init_5 : decode cX3_init 5 = .ok (.iconst 4, 1) := by decide +kernel
theorem dX3_init_6 : decode cX3_init 6 = .ok (.anewarray 9, 3) := by decide +kernel
theorem dX3_init_9 : decode cX3_init 9 = .ok (.putfield 11, 3) := by decide +kernel
theorem dX3_init_12 : decode cX3_init 12 = .ok (.aload_n 0, 1) := by decide +kernel
theorem dX3_init_13 : decode cX3_init 13 = .ok (.new 17, 3) := by decide +kernel
theorem dX3_init_16 : decode cX3_init 16 = .ok (.dup, 1) := by decide +kernel
theorem dX3_init_17 : decode cX3_init 17 = .ok (.invokespecial 19, 3) := by decide +kernel
theorem dX3_init_20 : decode cX3_init 20 = .ok (.putfield 20, 3) := by decide +kernel
theorem dX3_init_23 : decode cX3_init 23 = .ok (.aload_n 0, 1) := by decide +kernel
theorem dX3_init_24 : decode cX3_init 24 = .ok (.bipush 48, 2) := by decide +kernel
theorem dX3_init_26 : decode cX3_init 26 = .ok (.newarray .int, 2) := by decide +kernel
theorem dX3_init_28 : decode cX3_init 28 = .ok (.putfield 24, 3) := by decide +kernel
theorem dX3_init_31 : decode cX3_init 31 = .ok (.aload_n 0, 1) := by decide +kernel
theorem dX3_init_32 : decode cX3_init 32 = .ok (.bipush 32, 2) := by decide +kernel
theorem dX3_init_34 : decode cX3_init 34 = .ok (.newarray .int, 2) := by decide +kernel
theorem dX3_init_36 : decode cX3_init 36 = .ok (.putfield 28, 3) := by decide +kernel
theorem dX3_init_39 : decode cX3_init 39 = .ok (.aload_n 0, 1) := by decide +kernel
theorem dX3_init_40 : decode cX3_init 40 = .ok (.bipush 8, 2) := by decide +kernel
theorem dX3_init_42 : decode cX3_init 42 = .ok (.newarray .int, 2) := by decide +kernel
theorem dX3_init_44 : decode cX3_init 44 = .ok (.putfield 31, 3) := by decide +kernel
theorem dX3_init_47 : decode cX3_init 47 = .ok (.aload_n 0, 1) := by decide +kernel
theorem dX3_init_48 : decode cX3_init 48 = .ok (.iconst 2, 1) := by decide +kernel
theorem dX3_init_49 : decode cX3_init 49 = .ok (.newarray .int, 2) := by decide +kernel
theorem dX3_init_51 : decode cX3_init 51 = .ok (.putfield 34, 3) := by decide +kernel
theorem dX3_init_54 : decode cX3_init 54 = .ok (.aload_n 0, 1) := by decide +kernel
theorem dX3_init_55 : decode cX3_init 55 = .ok (.new 37, 3) := by decide +kernel
theorem dX3_init_58 : decode cX3_init 58 = .ok (.dup, 1) := by decide +kernel
theorem dX3_init_59 : decode cX3_init 59 = .ok (.invokespecial 39, 3) := by decide +kernel
theorem dX3_init_62 : decode cX3_init 62 = .ok (.putfield 40, 3) := by decide +kernel
theorem dX3_init_65 : decode cX3_init 65 = .ok (.iconst 0, 1) := by decide +kernel
theorem dX3_init_66 : decode cX3_init 66 = .ok (.istore_n 1, 1) := by decide +kernel
theorem dX3_init_67 : decode cX3_init 67 = .ok (.iload_n 1, 1) := by decide +kernel
theorem dX3_init_68 : decode cX3_init 68 = .ok (.iconst 4, 1) := by decide +kernel
theorem dX3_init_69 : decode cX3_init 69 = .ok (.if_icmp .ge 22, 3) := by decide +kernel
theorem dX3_init_72 : decode cX3_init 72 = .ok (.aload_n 0, 1) := by decide +kernel
theorem dX3_init_73 : decode cX3_init 73 = .ok (.getfield 11, 3) := by decide +kernel
theorem dX3_init_76 : decode cX3_init 76 = .ok (.iload_n 1, 1) := by decide +kernel
theorem dX3_init_77 : decode cX3_init 77 = .ok (.new 9, 3) := by decide +kernel
theorem dX3_init_80 : decode cX3_init 80 = .ok (.dup, 1) := by decide +kernel
theorem dX3_init_81 : decode cX3_init 81 = .ok (.invokespecial 44, 3) := by decide +kernel
theorem dX3_init_84 : decode cX3_init 84 = .ok (.aastore, 1) := by decide +kernel
theorem dX3_init_85 : decode cX3_init 85 = .ok (.iinc 1 1, 3) := by decide +kernel
theorem dX3_init_88 : decode cX3_init 88 = .ok (.goto (-21), 3) := by decide +kernel
theorem dX3_init_91 : decode cX3_init 91 = .ok (.iconst 0, 1) := by decide +kernel
theorem dX3_init_92 : decode cX3_init 92 = .ok (.istore_n 1, 1) := by decide +kernel
theorem dX3_init_93 : decode cX3_init 93 = .ok (.iload_n 1, 1) := by decide +kernel
theorem dX3_init_94 : decode cX3_init 94 = .ok (.bipush 8, 2) := by decide +kernel
theorem dX3_init_96 : decode cX3_init 96 = .ok (.if_icmp .ge 18, 3) := by decide +kernel
theorem dX3_init_99 : decode cX3_init 99 = .ok (.aload_n 0, 1) := by decide +kernel
theorem dX3_init_100 : decode cX3_init 100 = .ok (.getfield 31, 3) := by decide +kernel
theorem dX3_init_103 : decode cX3_init 103 = .ok (.iload_n 1, 1) := by decide +kernel
theorem dX3_init_104 : decode cX3_init 104 = .ok (.iload_n 1, 1) := by decide +kernel
theorem dX3_init_105 : decode cX3_init 105 = .ok (.iconst 4, 1) := by decide +kernel
theorem dX3_init_106 : decode cX3_init 106 = .ok (.irem, 1) := by decide +kernel
theorem dX3_init_107 : decode cX3_init 107 = .ok (.iastore, 1) := by decide +kernel
theorem dX3_init_108 : decode cX3_init 108 = .ok (.iinc 1 1, 3) := by decide +kernel
theorem dX3_init_111 : decode cX3_init 111 = .ok (.goto (-18), 3) := by decide +kernel
theorem dX3_init_114 : decode cX3_init 114 = .ok (.aload_n 0, 1) := by decide +kernel
theorem dX3_init_115 : decode cX3_init 115 = .ok (.getfield 34, 3) := by decide +kernel
theorem dX3_init_118 : decode cX3_init 118 = .ok (.iconst 0, 1) := by decide +kernel
theorem dX3_init_119 : decode cX3_init 119 = .ok (.iconst 3, 1) := by decide +kernel
theorem dX3_init_120 : decode cX3_init 120 = .ok (.iastore, 1) := by decide +kernel
theorem dX3_init_121 : decode cX3_init 121 = .ok (.return_, 1) := by decide +kernel
set_option maxRecDepth 20000 in
theorem ggX3_copyFrom_X0_copyFrom : GoodIn wsX3_copyFrom wsX0_copyFrom := goodIn_r _ [18, 19, 20, 5, 6, 7, 21, 22, 23, 24, 25, 26, 27, 28, 29, 30, 57, 58, 59, 60, 61, 62, 63, 64, 65, 66, 67] (by decide +kernel) (by decide +kernel)
set_option maxRecDepth 20000 in
theorem gX3_copyFrom_X0_copyFrom : GoodIn wsX3_copyFrom (wsV RX3 45 RX0 yX0_copyFrom wsX0_copyFrom) := goodIn_app (goodIn_of _ (by decide +kernel)) ggX3_copyFrom_X0_copyFrom
set_option maxRecDepth 20000 in
theorem ggX3_copyFrom_X2_copyRows : GoodIn wsX3_copyFrom wsX2_copyRows := goodIn_r _ [35, 36, 37, 5, 6, 7, 38, 68, 69] (by decide +kernel) (by decide +kernel)
set_option maxRecDepth 20000 in
theorem gX3_copyFrom_X2_copyRows : GoodIn wsX3_copyFrom (wsV RX3 49 RX2 yX2_copyRows wsX2_copyRows) := goodIn_app (goodIn_of _ (by decide +kernel)) ggX3_copyFrom_X2_copyRows
set_option maxRecDepth 20000 in
theorem ggX3_copyFrom_X5_copyFrom : GoodIn wsX3_copyFrom wsX5_copyFrom := goodIn_r _ [43, 44, 45, 5, 6, 7, 46, 47, 70, 71, 72] (by decide +kernel) (by decide +kernel)
set_option maxRecDepth 20000 in
theorem gX3_copyFrom_X5_copyFrom : GoodIn wsX3_copyFrom (wsV RX3 59 RX5 yX5_copyFrom wsX5_copyFrom) := goodIn_app (goodIn_of _ (by decide +kernel)) ggX3_copyFrom_X5_copyFrom
theorem dX3_copyFrom_0 : decode cX3_copyFrom 0 = .ok (.iconst 0, 1) := by decide +kernel
theorem dX3_copyFrom_1 : decode cX3_copyFrom 1 = .ok (.istore_n 2, 1) := by decide +kernel
theorem dX3_copyFrom_2 : decode cX3_copyFrom 2 = .ok (.iload_n 2, 1) := by decide +kernel
theorem dX3_copyFrom_3 : decode cX3_copyFrom 3 = .ok (.iconst 4, 1) := by decide +kernel
theorem dX3_copyFrom_4 : decode cX3_copyFrom 4 = .ok (.if_icmp .ge 24, 3) := by decide +kernel
theorem dX3_copyFrom_7 : decode cX3_copyFrom 7 = .ok (.aload_n 0, 1) := by decide +kernel
theorem dX3_copyFrom_8 : decode cX3_copyFrom 8 = .ok (.getfield 11, 3) := by decide +kernel
theorem dX3_copyFrom_11 : decode cX3_copyFrom 11 = .ok (.iload_n 2, 1) := by decide +kernel
theorem dX3_copyFrom_12 : decode cX3_copyFrom 12 = .ok (.aaload, 1) := by decide +kernel
theorem dX3_copyFrom_13 : decode cX3_copyFrom 13 = .ok (.aload_n 1, 1) := by decide +kernel
theorem dX3_copyFrom_14 : decode cX3_copyFrom 14 = .ok (.getfield 11, 3) := by decide +kernel
theorem dX3_copyFrom_17 : decode cX3_copyFrom 17 = .ok (.iload_n 2, 1) := by decide +kernel
theorem dX3_copyFrom_18 : decode cX3_copyFrom 18 = .ok (.aaload, 1) := by decide +kernel
theorem dX3_copyFrom_19 : decode cX3_copyFrom 19 = .ok (.invokevirtual 45, 3) := by decide +kernel
theorem dX3_copyFrom_22 : decode cX3_copyFrom 22 = .ok (.iinc 2 1, 3) := by decide +kernel
theorem dX3_copyFrom_25 : decode cX3_copyFrom 25 = .ok (.goto (-23), 3) := by decide +kernel
theorem dX3_copyFrom_28 : decode cX3_copyFrom 28 = .ok (.aload_n 0, 1) := by decide +kernel
theorem dX3_copyFrom_29 : decode cX3_copyFrom 29 = .ok (.getfield 20, 3) := by decide +kernel
theorem dX3_copyFrom_32 : decode cX3_copyFrom 32 = .ok (.aload_n 1, 1) := by decide +kernel
theorem dX3_copyFrom_33 : decode cX3_copyFrom 33 = .ok (.getfield 20, 3) := by decide +kernel
theorem dX3_copyFrom_36 : decode cX3_copyFrom 36 = .ok (.bipush 48, 2) := by decide +kernel
theorem dX3_copyFrom_38 : decode cX3_copyFrom 38 = .ok (.iconst 0, 1) := by decide +kernel
theorem dX3_copyFrom_39 : decode cX3_copyFrom 39 = .ok (.invokevirtual 49, 3) := by decide +kernel
theorem dX3_copyFrom_42 : decode cX3_copyFrom 42 = .ok (.aload_n 1, 1) := by decide +kernel
theorem dX3_copyFrom_43 : decode cX3_copyFrom 43 = .ok (.getfield 24, 3) := by decide +kernel
theorem dX3_copyFrom_46 : decode cX3_copyFrom 46 = .ok (.iconst 0, 1) := by decide +kernel
theorem dX3_copyFrom_47 : decode cX3_copyFrom 47 = .ok (.aload_n 0, 1) := by decide +kernel
theorem dX3_copyFrom_48 : decode cX3_copyFrom 48 = .ok (.getfield 24, 3) := by decide +kernel
theorem dX3_copyFrom_51 : decode cX3_copyFrom 51 = .ok (.iconst 0, 1) := by decide +kernel
theorem dX3_copyFrom_52 : decode cX3_copyFrom 52 = .ok (.bipush 48, 2) := by decide +kernel
theorem dX3_copyFrom_54 : decode cX3_copyFrom 54 = .ok (.invokestatic 53, 3) := by decide +kernel
theorem dX3_copyFrom_57 : decode cX3_copyFrom 57 = .ok (.aload_n 1, 1) := by decide +kernel
theorem dX3_copyFrom_58 : decode cX3_copyFrom 58 = .ok (.getfield 28, 3) := by decide +kernel
theorem dX3_copyFrom_61 : decode cX3_copyFrom 61 = .ok (.iconst 0, 1) := by decide +kernel
theorem dX3_copyFrom_62 : decode cX3_copyFrom 62 = .ok (.aload_n 0, 1) := by decide +kernel
theorem dX3_copyFrom_63 : decode cX3_copyFrom 63 = .ok (.getfield 28, 3) := by decide +kernel
theorem dX3_copyFrom_66 : decode cX3_copyFrom 66 = .ok (.iconst 0, 1) := by decide +kernel
theorem dX3_copyFrom_67 : decode cX3_copyFrom 67 = .ok (.bipush 32, 2) := by decide +kernel
theorem dX3_copyFrom_69 : decode cX3_copyFrom 69 = .ok (.invokestatic 53, 3) := by decide +kernel
theorem dX3_copyFrom_72 : decode cX3_copyFrom 72 = .ok (.aload_n 1, 1) := by decide +kernel
theorem dX3_copyFrom_73 : decode cX3_copyFrom 73 = .ok (.getfield 31, 3) := by decide +kernel
theorem dX3_copyFrom_76 : decode cX3_copyFrom 76 = .ok (.iconst 0, 1) := by decide +kernel
theorem dX3_copyFrom_77 : decode cX3_copyFrom 77 = .ok (.aload_n 0, 1) := by decide +kernel
theorem dX3_copyFrom_78 : decode cX3_copyFrom 78 = .ok (.getfield 31, 3) := by decide +kernel
theorem dX3_copyFrom_81 : decode cX3_copyFrom 81 = .ok (.iconst 0, 1) := by decide +kernel
theorem dX3_copyFrom_82 : decode cX3_copyFrom 82 = .ok (.bipush 8, 2) := by decide +kernel
theorem dX3_copyFrom_84 : decode cX3_copyFrom 84 = .ok (.invokestatic 53, 3) := by decide +kernel
theorem dX3_copyFrom_87 : decode cX3_copyFrom 87 = .ok (.aload_n 1, 1) := by decide +kernel
theorem dX3_copyFrom_88 : decode cX3_copyFrom 88 = .ok (.getfield 34, 3) := by decide +kernel
theorem dX3_copyFrom_91 : decode cX3_copyFrom 91 = .ok (.iconst 0, 1) := by decide +kernel
theorem dX3_copyFrom_92 : decode cX3_copyFrom 92 = .ok (.aload_n 0, 1) := by decide +kernel
theorem dX3_copyFrom_93 : decode cX3_copyFrom 93 = .ok (.getfield 34, 3) := by decide +kernel
theorem dX3_copyFrom_96 : decode cX3_copyFrom 96 = .ok (.iconst 0, 1) := by decide +kernel
theorem dX3_copyFrom_97 : decode cX3_copyFrom 97 = .ok (.iconst 2, 1) := by decide +kernel
theorem dX3_copyFrom_98 : decode cX3_copyFrom 98 = .ok (.invokestatic 53, 3) := by decide +kernel
theorem dX3_copyFrom_101 : decode cX3_copyFrom 101 = .ok (.aload_n 0, 1) := by decide +kernel
theorem dX3_copyFrom_102 : decode cX3_copyFrom 102 = .ok (.getfield 40, 3) := by decide +kernel
theorem dX3_copyFrom_105 : decode cX3_copyFrom 105 = .ok (.aload_n 1, 1) := by decide +kernel
theorem dX3_copyFrom_106 : decode cX3_copyFrom 106 = .ok (.getfield 40, 3) := by decide +kernel
theorem dX3_copyFrom_109 : decode cX3_copyFrom 109 = .ok (.invokevirtual 59, 3) := by decide +kernel
theorem dX3_copyFrom_112 : decode cX3_copyFrom 112 = .ok (.aload_n 0, 1) := by decide +kernel
theorem dX3_copyFrom_113 : decode cX3_copyFrom 113 = .ok (.aload_n 1, 1) := by decide +kernel
theorem dX3_copyFrom_114 : decode cX3_copyFrom 114 = .ok (.getfield 62, 3) := by decide +kernel
theorem dX3_copyFrom_117 : decode cX3_copyFrom 117 = .ok (.putfield 62, 3) := by decide +kernel
theorem dX3_copyFrom_120 : decode cX3_copyFrom 120 = .ok (.aload_n 0, 1) := by decide +kernel
theorem dX3_copyFrom_121 : decode cX3_copyFrom 121 = .ok (.aload_n 1, 1) := by decide +kernel
theorem dX3_copyFrom_122 : decode cX3_copyFrom 122 = .ok (.getfield 66, 3) := by decide +kernel
theorem dX3_copyFrom_125 : decode cX3_copyFrom 125 = .ok (.putfield 66, 3) := by decide +kernel
theorem dX3_copyFrom_128 : decode cX3_copyFrom 128 = .ok (.return_, 1) := by decide +kernel
theorem dX3_countBreakpoints_0 : decode cX3_countBreakpoints 0 = .ok (.iconst 0, 1) := by decide +kernel
theorem dX3_countBreakpoints_1 : decode cX3_countBreakpoints 1 = .ok (.istore_n 1, 1) := by decide +kernel
theorem dX3_countBreakpoints_2 : decode cX3_countBreakpoints 2 = .ok (.iconst 0, 1) := by decide +kernel
theorem dX3_countBreakpoints_3 : decode cX3_countBreakpoints 3 = .ok (.istore_n 2, 1) := by decide +kernel
theorem dX3_countBreakpoints_4 : decode cX3_countBreakpoints 4 = .ok (.iload_n 2, 1) := by decide +kernel
theorem dX3_countBreakpoints_5 : decode cX3_countBreakpoints 5 = .ok (.bipush 48, 2) := by decide +kernel
theorem dX3_countBreakpoints_7 : decode cX3_countBreakpoints 7 = .ok (.if_icmp .ge 18, 3) := by decide +kernel
theorem dX3_countBreakpoints_10 : decode cX3_countBreakpoints 10 = .ok (.iload_n 1, 1) := by decide +kernel
theorem dX3_countBreakpoints_11 : decode cX3_countBreakpoints 11 = .ok (.aload_n 0, 1) := by decide +kernel
theorem dX3_countBreakpoints_12 : decode cX3_countBreakpoints 12 = .ok (.getfield 24, 3) := by decide +kernel
theorem dX3_countBreakpoints_15 : decode cX3_countBreakpoints 15 = .ok (.iload_n 2, 1) := by decide +kernel
theorem dX3_countBreakpoints_16 : decode cX3_countBreakpoints 16 = .ok (.iaload, 1) := by decide +kernel
theorem dX3_countBreakpoints_17 : decode cX3_countBreakpoints 17 = .ok (.iadd, 1) := by decide +kernel
theorem dX3_countBreakpoints_18 : decode cX3_countBreakpoints 18 = .ok (.istore_n 1, 1) := by decide +kernel
theorem dX3_countBreakpoints_19 : decode cX3_countBreakpoints 19 = .ok (.iinc 2 1, 3) := by decide +kernel
theorem dX3_countBreakpoints_22 : decode cX3_countBreakpoints 22 = .ok (.goto (-18), 3) := by decide +kernel
theorem dX3_countBreakpoints_25 : decode cX3_countBreakpoints 25 = .ok (.iload_n 1, 1) := by decide +kernel
theorem dX3_countBreakpoints_26 : decode cX3_countBreakpoints 26 = .ok (.ireturn, 1) := by decide +kernel
set_option maxRecDepth 20000 in
theorem ggX3_runToBreakpoint_X3_areAllHalted : GoodIn wsX3_runToBreakpoint wsX3_areAllHalted := goodIn_r _ [5, 6, 122, 123, 124, 125, 126, 127, 128, 129, 130, 131, 132, 133, 134, 135, 136, 137, 138, 139, 140, 141] (by decide +kernel) (by decide +kernel)
set_option maxRecDepth 20000 in
theorem gX3_runToBreakpoint_X3_areAllHalted : GoodIn wsX3_runToBreakpoint (wsV RX3 69 RX3 yX3_areAllHalted wsX3_areAllHalted) := goodIn_app (goodIn_of _ (by decide +kernel)) ggX3_runToBreakpoint_X3_areAllHalted
set_option maxRecDepth 20000 in
theorem ggX3_runToBreakpoint_X3_isAtBreakpoint : GoodIn wsX3_runToBreakpoint wsX3_isAtBreakpoint := goodIn_r _ [10, 6, 11, 12, 13, 14, 4, 15, 16, 17, 18, 19, 20, 21, 22, 23, 24, 25, 26, 27, 28, 29, 30, 31, 32, 33, 34, 35, 36, 37, 38, 39, 40, 41, 42, 43, 44, 45, 46, 47, 48, 49, 50, 51, 52, 53, 54, 55, 56, 122, 123, 124, 125, 126, 127, 128, 129, 130, 131, 132, 133, 134, 135, 136, 137, 138, 139, 140, 141] (by decide +kernel) (by decide +kernel)
set_option maxRecDepth 20000 in
theorem gX3_runToBreakpoint_X3_isAtBreakpoint : GoodIn wsX3_runToBreakpoint (wsV RX3 73 RX3 yX3_isAtBreakpoint wsX3_isAtBreakpoint) := goodIn_app (goodIn_of _ (by decide +kernel)) ggX3_runToBreakpoint_X3_isAtBreakpoint
set_option maxRecDepth 20000 in
theorem ggX3_runToBreakpoint_X3_runCycle : GoodIn wsX3_runToBreakpoint wsX3_runCycle := goodIn_r _ [60, 6, 61, 22, 62, 63, 64, 4, 65, 66, 27, 28, 29, 30, 31, 32, 33, 67, 68, 69, 70, 23, 24, 25, 26, 12, 13, 14, 15, 16, 17, 18, 19, 20, 21, 34, 35, 36, 37, 38, 39, 40, 41, 42, 43, 44, 45, 46, 47, 48, 71, 72, 73, 74, 75, 76, 77, 78, 79, 80, 81, 82, 83, 84, 49, 50, 51, 52, 53, 54, 85, 86, 87, 88, 89, 90, 91, 92, 93, 94, 95, 96, 97, 98, 99, 100, 101, 102, 103, 104, 105, 55, 56, 106, 107, 108, 109, 110, 111, 112, 113, 114, 115, 116, 117, 118, 119, 120, 121, 122, 123, 124, 125, 126, 127, 128, 129, 130, 131, 132, 133, 134, 135, 136, 137, 138, 139, 140, 141, 142, 143, 144, 145, 146] (by decide +kernel) (by decide +kernel)
set_option maxRecDepth 20000 in
theorem gX3_runToBreakpoint_X3_runCycle : GoodIn wsX3_runToBreakpoint (wsV RX3 76 RX3 yX3_runCycle wsX3_runCycle) := goodIn_app (goodIn_of _ (by decide +kernel)) ggX3_runToBreakpoint_X3_runCycle
theorem dX3_runToBreakpoint_0 : decode cX3_runToBreakpoint 0 = .ok (.iconst 0, 1) := by decide +kernel
theorem dX3_runToBreakpoint_1 : decode cX3_runToBreakpoint 1 = .ok (.istore_n 2, 1) := by decide +kernel
theorem dX3_runToBreakpoint_2 : decode cX3_runToBreakpoint 2 = .ok (.iload_n 2, 1) := by decide +kernel
theorem dX3_runToBreakpoint_3 : decode cX3_runToBreakpoint 3 = .ok (.iload_n 1, 1) := by decide +kernel
theorem dX3_runToBreakpoint_4 : decode cX3_runToBreakpoint 4 = .ok (.if_icmp .ge 33, 3) := by decide +kernel
theorem dX3_runToBreakpoint_7 : decode cX3_runToBreakpoint 7 = .ok (.aload_n 0, 1) := by decide +kernel
theorem dX3_runToBreakpoint_8 : decode cX3_runToBreakpoint 8 = .ok (.invokevirtual 69, 3) := by decide +kernel
theorem dX3_runToBreakpoint_11 : decode cX3_runToBreakpoint 11 = .ok (.ifCond .ne 14, 3) := by decide +kernel
theorem dX3_runToBreakpoint_14 : decode cX3_runToBreakpoint 14 = .ok (.iload_n 2, 1) := by decide +kernel
theorem dX3_runToBreakpoint_15 : decode cX3_runToBreakpoint 15 = .ok (.ifCond .le 12, 3) := by decide +kernel
theorem dX3_runToBreakpoint_18 : decode cX3_runToBreakpoint 18 = .ok (.aload_n 0, 1) := by decide +kernel
theorem dX3_runToBreakpoint_19 : decode cX3_runToBreakpoint 19 = .ok (.invokevirtual 73, 3) := by decide +kernel
theorem dX3_runToBreakpoint_22 : decode cX3_runToBreakpoint 22 = .ok (.ifCond .eq 5, 3) := by decide +kernel
theorem dX3_runToBreakpoint_25 : decode cX3_runToBreakpoint 25 = .ok (.iload_n 2, 1) := by decide +kernel
theorem dX3_runToBreakpoint_26 : decode cX3_runToBreakpoint 26 = .ok (.ireturn, 1) := by decide +kernel
theorem dX3_runToBreakpoint_27 : decode cX3_runToBreakpoint 27 = .ok (.aload_n 0, 1) := by decide +kernel
theorem dX3_runToBreakpoint_28 : decode cX3_runToBreakpoint 28 = .ok (.invokevirtual 76, 3) := by decide +kernel
theorem dX3_runToBreakpoint_31 : decode cX3_runToBreakpoint 31 = .ok (.iinc 2 1, 3) := by decide +kernel
theorem dX3_runToBreakpoint_34 : decode cX3_runToBreakpoint 34 = .ok (.goto (-32), 3) := by decide +kernel
theorem dX3_runToBreakpoint_37 : decode cX3_runToBreakpoint 37 = .ok (.iload_n 1, 1) := by decide +kernel
theorem dX3_runToBreakpoint_38 : decode cX3_runToBreakpoint 38 = .ok (.ireturn, 1) := by decide +kernel
set_option maxRecDepth 20000 in
theorem ggX3_runToEnd_X3_areAllHalted : GoodIn wsX3_runToEnd wsX3_areAllHalted := goodIn_r _ [6, 7, 117, 118, 119, 120, 121, 122, 123, 124, 125, 126, 127, 128, 129, 130, 131, 132, 133, 134, 135, 136] (by decide +kernel) (by decide +kernel)
set_option maxRecDepth 20000 in
theorem gX3_runToEnd_X3_areAllHalted : GoodIn wsX3_runToEnd (wsV RX3 69 RX3 yX3_areAllHalted wsX3_areAllHalted) := goodIn_app (goodIn_of _ (by decide +kernel)) ggX3_runToEnd_X3_areAllHalted
set_option maxRecDepth 20000 in
theorem ggX3_runToEnd_X3_runCycle : GoodIn wsX3_runToEnd wsX3_runCycle := goodIn_r _ [11, 7, 12, 13, 14, 15, 16, 5, 17, 18, 19, 20, 21, 22, 23, 24, 25, 26, 27, 28, 29, 30, 31, 32, 33, 34, 35, 36, 37, 38, 1, 39, 40, 41, 42, 43, 44, 45, 46, 47, 48, 49, 50, 51, 52, 53, 54, 55, 56, 57, 58, 59, 60, 61, 62, 63, 64, 65, 66, 67, 68, 69, 70, 71, 72, 73, 74, 75, 76, 77, 78, 79, 80, 81, 82, 83, 84, 85, 86, 87, 88, 89, 90, 91, 92, 93, 94, 95, 96, 97, 98, 99, 100, 101, 102, 103, 104, 105, 106, 107, 108, 109, 110, 111, 112, 113, 114, 115, 116, 117, 118, 119, 120, 121, 122, 123, 124, 125, 126, 127, 128, 129, 130, 131, 132, 133, 134, 135, 136, 137, 138, 139, 140, 141] (by decide +kernel) (by decide +kernel)
set_option maxRecDepth 20000 in
theorem gX3_runToEnd_X3_runCycle : GoodIn wsX3_runToEnd (wsV RX3 76 RX3 yX3_runCycle wsX3_runCycle) := goodIn_app (goodIn_of _ (by decide +kernel)) ggX3_runToEnd_X3_runCycle
theorem dX3_runToEnd_0 : decode cX3_runToEnd 0 = .ok (.iconst 0, 1) := by decide +kernel
theorem dX3_runToEnd_1 : decode cX3_runToEnd 1 = .ok (.istore_n 1, 1) := by decide +kernel
theorem dX3_runToEnd_2 : decode cX3_runToEnd 2 = .ok (.iload_n 1, 1) := by decide +kernel
theorem dX3_runToEnd_3 : decode cX3_runToEnd 3 = .ok (.sipush 500, 3) := by decide +kernel
theorem dX3_runToEnd_6 : decode cX3_runToEnd 6 = .ok (.if_icmp .ge 22, 3) := by decide +kernel
theorem dX3_runToEnd_9 : decode cX3_runToEnd 9 = .ok (.aload_n 0, 1) := by decide +kernel
theorem dX3_runToEnd_10 : decode cX3_runToEnd 10 = .ok (.invokevirtual 69, 3) := by decide +kernel
theorem dX3_runToEnd_13 : decode cX3_runToEnd 13 = .ok (.ifCond .eq 5, 3) := by decide +kernel
theorem dX3_runToEnd_16 : decode cX3_runToEnd 16 = .ok (.iload_n 1, 1) := by decide +kernel
theorem dX3_runToEnd_17 : decode cX3_runToEnd 17 = .ok (.ireturn, 1) := by decide +kernel
theorem dX3_runToEnd_18 : decode cX3_runToEnd 18 = .ok (.aload_n 0, 1) := by decide +kernel
theorem dX3_runToEnd_19 : decode cX3_runToEnd 19 = .ok (.invokevirtual 76, 3) := by decide +kernel
theorem dX3_runToEnd_22 : decode cX3_runToEnd 22 = .ok (.iinc 1 1, 3) := by decide +kernel
theorem dX3_runToEnd_25 : decode cX3_runToEnd 25 = .ok (.goto (-23), 3) := by decide +kernel
theorem dX3_runToEnd_28 : decode cX3_runToEnd 28 = .ok (.aload_n 0, 1) := by decide +kernel
theorem dX3_runToEnd_29 : decode cX3_runToEnd 29 = .ok (.invokevirtual 69, 3) := by decide +kernel
theorem dX3_runToEnd_32 : decode cX3_runToEnd 32 = .ok (.ifCond .eq 9, 3) := by decide +kernel
theorem dX3_runToEnd_35 : decode cX3_runToEnd 35 = .ok (.sipush 500, 3) := by decide +kernel
theorem dX3_runToEnd_38 : decode cX3_runToEnd 38 = .ok (.goto 5, 3) := by decide +kernel
theorem dX3_runToEnd_41 : decode cX3_runToEnd 41 = .ok (.ldc 79, 2) := by decide +kernel
theorem dX3_runToEnd_43 : decode cX3_runToEnd 43 = .ok (.ireturn, 1) := by decide +kernel
set_option maxRecDepth 20000 in
theorem ggX3_findIssuer_X3_findReady : GoodIn wsX3_findIssuer wsX3_findReady := goodIn_r _ [7, 8, 9, 10, 11, 12, 6, 13, 14, 15, 16, 17, 18, 19, 20, 36, 37, 38, 39, 40, 41, 42, 43, 44, 45, 46, 47, 48, 49, 50, 51, 52, 53, 54, 55] (by decide +kernel) (by decide +kernel)
set_option maxRecDepth 20000 in
theorem gX3_findIssuer_X3_findReady : GoodIn wsX3_findIssuer (wsV RX3 80 RX3 yX3_findReady wsX3_findReady) := goodIn_app (goodIn_of _ (by decide +kernel)) ggX3_findIssuer_X3_findReady
set_option maxRecDepth 20000 in
theorem ggX3_findIssuer_X3_slotOwner : GoodIn wsX3_findIssuer wsX3_slotOwner := goodIn_r _ [24, 25, 9, 36, 37, 38, 39, 40, 41, 42, 43, 44] (by decide +kernel) (by decide +kernel)
set_option maxRecDepth 20000 in
theorem gX3_findIssuer_X3_slotOwner : GoodIn wsX3_findIssuer (wsV RX3 84 RX3 yX3_slotOwner wsX3_slotOwner) := goodIn_app (goodIn_of _ (by decide +kernel)) ggX3_findIssuer_X3_slotOwner
set_option maxRecDepth 20000 in
theorem ggX3_findIssuer_X3_isIn : GoodIn wsX3_findIssuer wsX3_isIn := goodIn_r _ [28] (by decide +kernel) (by decide +kernel)
set_option maxRecDepth 20000 in
theorem gX3_findIssuer_X3_isIn : GoodIn wsX3_findIssuer (va_wsS RX3 87 yX3_isIn wsX3_isIn) := goodIn_app (goodIn_of _ (by decide +kernel)) ggX3_findIssuer_X3_isIn
set_option maxRecDepth 20000 in
theorem ggX3_findIssuer_X3_findNextAfter : GoodIn wsX3_findIssuer wsX3_findNextAfter := goodIn_r _ [31, 2, 26, 27, 6, 28] (by decide +kernel) (by decide +kernel)
set_option maxRecDepth 20000 in
theorem gX3_findIssuer_X3_findNextAfter : GoodIn wsX3_findIssuer (va_wsS RX3 91 yX3_findNextAfter wsX3_findNextAfter) := goodIn_app (goodIn_of _ (by decide +kernel)) ggX3_findIssuer_X3_findNextAfter
set_option maxRecDepth 20000 in
theorem ggX3_findIssuer_X3_findLongestWaiting : GoodIn wsX3_findIssuer wsX3_findLongestWaiting := goodIn_r _ [35, 2, 8, 26, 27, 6, 28, 36, 37, 38, 39, 40, 41, 42, 43, 44, 45, 46, 47, 48, 49, 50, 51, 52, 53, 54, 55] (by decide +kernel) (by decide +kernel)
set_option maxRecDepth 20000 in
theorem gX3_findIssuer_X3_findLongestWaiting : GoodIn wsX3_findIssuer (wsV RX3 95 RX3 yX3_findLongestWaiting wsX3_findLongestWaiting) := goodIn_app (goodIn_of _ (by decide +kernel)) ggX3_findIssuer_X3_findLongestWaiting
theorem dX3_findIssuer_0 : decode cX3_findIssuer 0 = .ok (.aload_n 0, 1) := by decide +kernel
theorem dX3_findIssuer_1 : decode cX3_findIssuer 1 = .ok (.invokevirtual 80, 3) := by decide +kernel
theorem dX3_findIssuer_4 : decode cX3_findIssuer 4 = .ok (.istore_n 1, 1) := by decide +kernel
theorem dX3_findIssuer_5 : decode cX3_findIssuer 5 = .ok (.aload_n 0, 1) := by decide +kernel
theorem dX3_findIssuer_6 : decode cX3_findIssuer 6 = .ok (.invokevirtual 84, 3) := by decide +kernel
theorem dX3_findIssuer_9 : decode cX3_findIssuer 9 = .ok (.istore_n 2, 1) := by decide +kernel
theorem dX3_findIssuer_10 : decode cX3_findIssuer 10 = .ok (.iload_n 1, 1) := by decide +kernel
theorem dX3_findIssuer_11 : decode cX3_findIssuer 11 = .ok (.iload_n 2, 1) := by decide +kernel
theorem dX3_findIssuer_12 : decode cX3_findIssuer 12 = .ok (.invokestatic 87, 3) := by decide +kernel
theorem dX3_findIssuer_15 : decode cX3_findIssuer 15 = .ok (.ifCond .eq 5, 3) := by decide +kernel
theorem dX3_findIssuer_18 : decode cX3_findIssuer 18 = .ok (.iload_n 2, 1) := by decide +kernel
theorem dX3_findIssuer_19 : decode cX3_findIssuer 19 = .ok (.ireturn, 1) := by decide +kernel
theorem dX3_findIssuer_20 : decode cX3_findIssuer 20 = .ok (.aload_n 0, 1) := by decide +kernel
theorem dX3_findIssuer_21 : decode cX3_findIssuer 21 = .ok (.getfield 34, 3) := by decide +kernel
theorem dX3_findIssuer_24 : decode cX3_findIssuer 24 = .ok (.iconst 1, 1) := by decide +kernel
theorem dX3_findIssuer_25 : decode cX3_findIssuer 25 = .ok (.iaload, 1) := by decide +kernel
theorem dX3_findIssuer_26 : decode cX3_findIssuer 26 = .ok (.iconst 1, 1) := by decide +kernel
theorem dX3_findIssuer_27 : decode cX3_findIssuer 27 = .ok (.if_icmp .ne 9, 3) := by decide +kernel
theorem dX3_findIssuer_30 : decode cX3_findIssuer 30 = .ok (.iload_n 2, 1) := by decide +kernel
theorem dX3_findIssuer_31 : decode cX3_findIssuer 31 = .ok (.iload_n 1, 1) := by decide +kernel
theorem dX3_findIssuer_32 : decode cX3_findIssuer 32 = .ok (.invokestatic 91, 3) := by decide +kernel
theorem dX3_findIssuer_35 : decode cX3_findIssuer 35 = .ok (.ireturn, 1) := by decide +kernel
theorem dX3_findIssuer_36 : decode cX3_findIssuer 36 = .ok (.aload_n 0, 1) := by decide +kernel
theorem dX3_findIssuer_37 : decode cX3_findIssuer 37 = .ok (.getfield 34, 3) := by decide +kernel
theorem dX3_findIssuer_40 : decode cX3_findIssuer 40 = .ok (.iconst 1, 1) := by decide +kernel
theorem dX3_findIssuer_41 : decode cX3_findIssuer 41 = .ok (.iaload, 1) := by decide +kernel
theorem dX3_findIssuer_42 : decode cX3_findIssuer 42 = .ok (.iconst 2, 1) := by decide +kernel
theorem dX3_findIssuer_43 : decode cX3_findIssuer 43 = .ok (.if_icmp .ne 9, 3) := by decide +kernel
theorem dX3_findIssuer_46 : decode cX3_findIssuer 46 = .ok (.aload_n 0, 1) := by decide +kernel
theorem dX3_findIssuer_47 : decode cX3_findIssuer 47 = .ok (.iload_n 1, 1) := by decide +kernel
theorem dX3_findIssuer_48 : decode cX3_findIssuer 48 = .ok (.invokevirtual 95, 3) := by decide +kernel
theorem dX3_findIssuer_51 : decode cX3_findIssuer 51 = .ok (.ireturn, 1) := by decide +kernel
theorem dX3_findIssuer_52 : decode cX3_findIssuer 52 = .ok (.ldc 79, 2) := by decide +kernel
theorem dX3_findIssuer_54 : decode cX3_findIssuer 54 = .ok (.ireturn, 1) := by decide +kernel
theorem dX3_slotOwner_0 : decode cX3_slotOwner 0 = .ok (.aload_n 0, 1) := by decide +kernel
theorem dX3_slotOwner_1 : decode cX3_slotOwner 1 = .ok (.getfield 31, 3) := by decide +kernel
theorem dX3_slotOwner_4 : decode cX3_slotOwner 4 = .ok (.aload_n 0, 1) := by decide +kernel
theorem dX3_slotOwner_5 : decode cX3_slotOwner 5 = .ok (.getfield 62, 3) := by decide +kernel
theorem dX3_slotOwner_8 : decode cX3_slotOwner 8 = .ok (.bipush 7, 2) := by decide +kernel
theorem dX3_slotOwner_10 : decode cX3_slotOwner 10 = .ok (.iand, 1) := by decide +kernel
theorem dX3_slotOwner_11 : decode cX3_slotOwner 11 = .ok (.iaload, 1) := by decide +kernel
theorem dX3_slotOwner_12 : decode cX3_slotOwner 12 = .ok (.ireturn, 1) := by decide +kernel
set_option maxRecDepth 20000 in
theorem ggX3_findReady_X3_doesBarrierOpen : GoodIn wsX3_findReady wsX3_doesBarrierOpen := goodIn_r _ [7, 1, 15, 16, 17, 18, 19, 20, 21, 22, 23, 24, 25, 26, 27, 28, 29, 30, 31, 32, 33, 34] (by decide +kernel) (by decide +kernel)
set_option maxRecDepth 20000 in
theorem gX3_findReady_X3_doesBarrierOpen : GoodIn wsX3_findReady (wsV RX3 99 RX3 yX3_doesBarrierOpen wsX3_doesBarrierOpen) := goodIn_app (goodIn_of _ (by decide +kernel)) ggX3_findReady_X3_doesBarrierOpen
set_option maxRecDepth 20000 in
theorem ggX3_findReady_X0_hasLoadDue : GoodIn wsX3_findReady wsX0_hasLoadDue := goodIn_r _ [12, 13, 14, 24, 25, 26, 27, 28, 29, 30, 31, 32, 33, 34] (by decide +kernel) (by decide +kernel)
set_option maxRecDepth 20000 in
theorem gX3_findReady_X0_hasLoadDue : GoodIn wsX3_findReady (wsV RX3 105 RX0 yX0_hasLoadDue wsX0_hasLoadDue) := goodIn_app (goodIn_of _ (by decide +kernel)) ggX3_findReady_X0_hasLoadDue
theorem dX3_findReady_0 : decode cX3_findReady 0 = .ok (.aload_n 0, 1) := by decide +kernel
theorem dX3_findReady_1 : decode cX3_findReady 1 = .ok (.invokevirtual 99, 3) := by decide +kernel
theorem dX3_findReady_4 : decode cX3_findReady 4 = .ok (.istore_n 1, 1) := by decide +kernel
theorem dX3_findReady_5 : decode cX3_findReady 5 = .ok (.iconst 0, 1) := by decide +kernel
theorem dX3_findReady_6 : decode cX3_findReady 6 = .ok (.istore_n 2, 1) := by decide +kernel
theorem dX3_findReady_7 : decode cX3_findReady 7 = .ok (.iconst 0, 1) := by decide +kernel
theorem dX3_findReady_8 : decode cX3_findReady 8 = .ok (.istore_n 3, 1) := by decide +kernel
theorem dX3_findReady_9 : decode cX3_findReady 9 = .ok (.iload_n 3, 1) := by decide +kernel
theorem dX3_findReady_10 : decode cX3_findReady 10 = .ok (.iconst 4, 1) := by decide +kernel
theorem dX3_findReady_11 : decode cX3_findReady 11 = .ok (.if_icmp .ge 57, 3) := by decide +kernel
theorem dX3_findReady_14 : decode cX3_findReady 14 = .ok (.aload_n 0, 1) := by decide +kernel
theorem dX3_findReady_15 : decode cX3_findReady 15 = .ok (.getfield 11, 3) := by decide +kernel
theorem dX3_findReady_18 : decode cX3_findReady 18 = .ok (.iload_n 3, 1) := by decide +kernel
theorem dX3_findReady_19 : decode cX3_findReady 19 = .ok (.aaload, 1) := by decide +kernel
theorem dX3_findReady_20 : decode cX3_findReady 20 = .ok (.astore 4, 2) := by decide +kernel
theorem dX3_findReady_22 : decode cX3_findReady 22 = .ok (.aload 4, 2) := by decide +kernel
theorem dX3_findReady_24 : decode cX3_findReady 24 = .ok (.getfield 102, 3) := by decide +kernel
theorem dX3_findReady_27 : decode cX3_findReady 27 = .ok (.iconst 1, 1) := by decide +kernel
theorem dX3_findReady_28 : decode cX3_findReady 28 = .ok (.if_icmp .eq 28, 3) := by decide +kernel
theorem dX3_findReady_31 : decode cX3_findReady 31 = .ok (.aload 4, 2) := by decide +kernel
theorem dX3_findReady_33 : decode cX3_findReady 33 = .ok (.getfield 102, 3) := by decide +kernel
theorem dX3_findReady_36 : decode cX3_findReady 36 = .ok (.iconst 3, 1) := by decide +kernel
theorem dX3_findReady_37 : decode cX3_findReady 37 = .ok (.if_icmp .ne 7, 3) := by decide +kernel
theorem dX3_findReady_40 : decode cX3_findReady 40 = .ok (.iload_n 1, 1) := by decide +kernel
theorem dX3_findReady_41 : decode cX3_findReady 41 = .ok (.ifCond .ne 15, 3) := by decide +kernel
theorem dX3_findReady_44 : decode cX3_findReady 44 = .ok (.aload 4, 2) := by decide +kernel
theorem dX3_findReady_46 : decode cX3_findReady 46 = .ok (.aload_n 0, 1) := by decide +kernel
theorem dX3_findReady_47 : decode cX3_findReady 47 = .ok (.getfield 62, 3) := by decide +kernel
theorem dX3_findReady_50 : decode cX3_findReady 50 = .ok (.invokevirtual 105, 3) := by decide +kernel
theorem dX3_findReady_53 : decode cX3_findReady 53 = .ok (.ifCond .eq 9, 3) := by decide +kernel
theorem dX3_findReady_56 : decode cX3_findReady 56 = .ok (.iload_n 2, 1) := by decide +kernel
theorem dX3_findReady_57 : decode cX3_findReady 57 = .ok (.iconst 1, 1) := by decide +kernel
theorem dX3_findReady_58 : decode cX3_findReady 58 = .ok (.iload_n 3, 1) := by decide +kernel
theorem dX3_findReady_59 : decode cX3_findReady 59 = .ok (.ishl, 1) := by decide +kernel
theorem dX3_findReady_60 : decode cX3_findReady 60 = .ok (.ior, 1) := by decide +kernel
theorem dX3_findReady_61 : decode cX3_findReady 61 = .ok (.istore_n 2, 1) := by decide +kernel
theorem dX3_findReady_62 : decode cX3_findReady 62 = .ok (.iinc 3 1, 3) := by decide +kernel
theorem dX3_findReady_65 : decode cX3_findReady 65 = .ok (.goto (-56), 3) := by decide +kernel
theorem dX3_findReady_68 : decode cX3_findReady 68 = .ok (.iload_n 2, 1) := by decide +kernel
theorem dX3_findReady_69 : decode cX3_findReady 69 = .ok (.ireturn, 1) := by decide +kernel
theorem dX3_isIn_0 : decode cX3_isIn 0 = .ok (.iload_n 0, 1) := by decide +kernel
theorem dX3_isIn_1 : decode cX3_isIn 1 = .ok (.iconst 1, 1) := by decide +kernel
theorem dX3_isIn_2 : decode cX3_isIn 2 = .ok (.iload_n 1, 1) := by decide +kernel
theorem dX3_isIn_3 : decode cX3_isIn 3 = .ok (.ishl, 1) := by decide +kernel
theorem dX3_isIn_4 : decode cX3_isIn 4 = .ok (.iand, 1) := by decide +kernel
theorem dX3_isIn_5 : decode cX3_isIn 5 = .ok (.ifCond .eq 7, 3) := by decide +kernel
theorem dX3_isIn_8 : decode cX3_isIn 8 = .ok (.iconst 1, 1) := by decide +kernel
theorem dX3_isIn_9 : decode cX3_isIn 9 = .ok (.goto 4, 3) := by decide +kernel
theorem dX3_isIn_12 : decode cX3_isIn 12 = .ok (.iconst 0, 1) := by decide +kernel
theorem dX3_isIn_13 : decode cX3_isIn 13 = .ok (.ireturn, 1) := by decide +kernel
set_option maxRecDepth 20000 in
theorem ggX3_findNextAfter_X3_isIn : GoodIn wsX3_findNextAfter wsX3_isIn := goodIn_r _ [5] (by decide +kernel) (by decide +kernel)
set_option maxRecDepth 20000 in
theorem gX3_findNextAfter_X3_isIn : GoodIn wsX3_findNextAfter (va_wsS RX3 87 yX3_isIn wsX3_isIn) := goodIn_app (goodIn_of _ (by decide +kernel)) ggX3_findNextAfter_X3_isIn
theorem dX3_findNextAfter_0 : decode cX3_findNextAfter 0 = .ok (.iconst 1, 1) := by decide +kernel
theorem dX3_findNextAfter_1 : decode cX3_findNextAfter 1 = .ok (.istore_n 2, 1) := by decide +kernel
theorem dX3_findNextAfter_2 : decode cX3_findNextAfter 2 = .ok (.iload_n 2, 1) := by decide +kernel
theorem dX3_findNextAfter_3 : decode cX3_findNextAfter 3 = .ok (.iconst 4, 1) := by decide +kernel
theorem dX3_findNextAfter_4 : decode cX3_findNextAfter 4 = .ok (.if_icmp .ge 25, 3) := by decide +kernel
theorem dX3_findNextAfter_7 : decode cX3_findNextAfter 7 = .ok (.iload_n 0, 1) := by decide +kernel
theorem dX3_findNextAfter_8 : decode cX3_findNextAfter 8 = .ok (.iload_n 2, 1) := by decide +kernel
theorem dX3_findNextAfter_9 : decode cX3_findNextAfter 9 = .ok (.iadd, 1) := by decide +kernel
theorem dX3_findNextAfter_10 : decode cX3_findNextAfter 10 = .ok (.iconst 4, 1) := by decide +kernel
theorem dX3_findNextAfter_11 : decode cX3_findNextAfter 11 = .ok (.irem, 1) := by decide +kernel
theorem dX3_findNextAfter_12 : decode cX3_findNextAfter 12 = .ok (.istore_n 3, 1) := by decide +kernel
theorem dX3_findNextAfter_13 : decode cX3_findNextAfter 13 = .ok (.iload_n 1, 1) := by decide +kernel
theorem dX3_findNextAfter_14 : decode cX3_findNextAfter 14 = .ok (.iload_n 3, 1) := by decide +kernel
theorem dX3_findNextAfter_15 : decode cX3_findNextAfter 15 = .ok (.invokestatic 87, 3) := by decide +kernel
theorem dX3_findNextAfter_18 : decode cX3_findNextAfter 18 = .ok (.ifCond .eq 5, 3) := by decide +kernel
theorem dX3_findNextAfter_21 : decode cX3_findNextAfter 21 = .ok (.iload_n 3, 1) := by decide +kernel
theorem dX3_findNextAfter_22 : decode cX3_findNextAfter 22 = .ok (.ireturn, 1) := by decide +kernel
theorem dX3_findNextAfter_23 : decode cX3_findNextAfter 23 = .ok (.iinc 2 1, 3) := by decide +kernel
theorem dX3_findNextAfter_26 : decode cX3_findNextAfter 26 = .ok (.goto (-24), 3) := by decide +kernel
theorem dX3_findNextAfter_29 : decode cX3_findNextAfter 29 = .ok (.ldc 79, 2) := by decide +kernel
theorem dX3_findNextAfter_31 : decode cX3_findNextAfter 31 = .ok (.ireturn, 1) := by decide +kernel
set_option maxRecDepth 20000 in
theorem ggX3_findLongestWaiting_X3_isIn : GoodIn wsX3_findLongestWaiting wsX3_isIn := goodIn_r _ [6] (by decide +kernel) (by decide +kernel)
set_option maxRecDepth 20000 in
theorem gX3_findLongestWaiting_X3_isIn : GoodIn wsX3_findLongestWaiting (va_wsS RX3 87 yX3_isIn wsX3_isIn) := goodIn_app (goodIn_of _ (by decide +kernel)) ggX3_findLongestWaiting_X3_isIn
theorem dX3_findLongestWaiting_0 : decode cX3_findLongestWaiting 0 = .ok (.ldc 79, 2) := by decide +kernel
theorem dX3_findLongestWaiting_2 : decode cX3_findLongestWaiting 2 = .ok (.istore_n 2, 1) := by decide +kernel
theorem dX3_findLongestWaiting_3 : decode cX3_findLongestWaiting 3 = .ok (.iconst 0, 1) := by decide +kernel
theorem dX3_findLongestWaiting_4 : decode cX3_findLongestWaiting 4 = .ok (.istore_n 3, 1) := by decide +kernel
theorem dX3_findLongestWaiting_5 : decode cX3_findLongestWaiting 5 = .ok (.iconst 0, 1) := by decide +kernel
theorem dX3_findLongestWaiting_6 : decode cX3_findLongestWaiting 6 = .ok (.istore 4, 2) := by decide +kernel
theorem dX3_findLongestWaiting_8 : decode cX3_findLongestWaiting 8 = .ok (.iload 4, 2) := by decide +kernel
theorem dX3_findLongestWaiting_10 : decode cX3_findLongestWaiting 10 = .ok (.iconst 4, 1) := by decide +kernel
theorem dX3_findLongestWaiting_11 : decode cX3_findLongestWaiting 11 = .ok (.if_icmp .ge 48, 3) := by decide +kernel
theorem dX3_findLongestWaiting_14 : decode cX3_findLongestWaiting 14 = .ok (.aload_n 0, 1) := by decide +kernel
theorem dX3_findLongestWaiting_15 : decode cX3_findLongestWaiting 15 = .ok (.getfield 11, 3) := by decide +kernel
theorem dX3_findLongestWaiting_18 : decode cX3_findLongestWaiting 18 = .ok (.iload 4, 2) := by decide +kernel
theorem dX3_findLongestWaiting_20 : decode cX3_findLongestWaiting 20 = .ok (.aaload, 1) := by decide +kernel
theorem dX3_findLongestWaiting_21 : decode cX3_findLongestWaiting 21 = .ok (.getfield 109, 3) := by decide +kernel
theorem dX3_findLongestWaiting_24 : decode cX3_findLongestWaiting 24 = .ok (.istore 5, 2) := by decide +kernel
theorem dX3_findLongestWaiting_26 : decode cX3_findLongestWaiting 26 = .ok (.iload_n 1, 1) := by decide +kernel
theorem dX3_findLongestWaiting_27 : decode cX3_findLongestWaiting 27 = .ok (.iload 4, 2) := by decide +kernel
theorem dX3_findLongestWaiting_29 : decode cX3_findLongestWaiting 29 = .ok (.invokestatic 87, 3) := by decide +kernel
theorem dX3_findLongestWaiting_32 : decode cX3_findLongestWaiting 32 = .ok (.ifCond .eq 21, 3) := by decide +kernel
theorem dX3_findLongestWaiting_35 : decode cX3_findLongestWaiting 35 = .ok (.iload_n 2, 1) := by decide +kernel
theorem dX3_findLongestWaiting_36 : decode cX3_findLongestWaiting 36 = .ok (.ldc 79, 2) := by decide +kernel
theorem dX3_findLongestWaiting_38 : decode cX3_findLongestWaiting 38 = .ok (.if_icmp .eq 9, 3) := by decide +kernel
theorem dX3_findLongestWaiting_41 : decode cX3_findLongestWaiting 41 = .ok (.iload 5, 2) := by decide +kernel
theorem dX3_findLongestWaiting_43 : decode cX3_findLongestWaiting 43 = .ok (.iload_n 3, 1) := by decide +kernel
theorem dX3_findLongestWaiting_44 : decode cX3_findLongestWaiting 44 = .ok (.if_icmp .ge 9, 3) := by decide +kernel
theorem dX3_findLongestWaiting_47 : decode cX3_findLongestWaiting 47 = .ok (.iload 4, 2) := by decide +kernel
theorem dX3_findLongestWaiting_49 : decode cX3_findLongestWaiting 49 = .ok (.istore_n 2, 1) := by decide +kernel
theorem dX3_findLongestWaiting_50 : decode cX3_findLongestWaiting 50 = .ok (.iload 5, 2) := by decide +kernel
theorem dX3_findLongestWaiting_52 : decode cX3_findLongestWaiting 52 = .ok (.istore_n 3, 1) := by decide +kernel
theorem dX3_findLongestWaiting_53 : decode cX3_findLongestWaiting 53 = .ok (.iinc 4 1, 3) := by decide +kernel
theorem dX3_findLongestWaiting_56 : decode cX3_findLongestWaiting 56 = .ok (.goto (-48), 3) := by decide +kernel
theorem dX3_findLongestWaiting_59 : decode cX3_findLongestWaiting 59 = .ok (.iload_n 2, 1) := by decide +kernel
theorem dX3_findLongestWaiting_60 : decode cX3_findLongestWaiting 60 = .ok (.ireturn, 1) := by decide +kernel
theorem dX3_areAllHalted_0 : decode cX3_areAllHalted 0 = .ok (.iconst 0, 1) := by decide +kernel
theorem dX3_areAllHalted_1 : decode cX3_areAllHalted 1 = .ok (.istore_n 1, 1) := by decide +kernel
theorem dX3_areAllHalted_2 : decode cX3_areAllHalted 2 = .ok (.iload_n 1, 1) := by decide +kernel
theorem dX3_areAllHalted_3 : decode cX3_areAllHalted 3 = .ok (.iconst 4, 1) := by decide +kernel
theorem dX3_areAllHalted_4 : decode cX3_areAllHalted 4 = .ok (.if_icmp .ge 23, 3) := by decide +kernel
theorem dX3_areAllHalted_7 : decode cX3_areAllHalted 7 = .ok (.aload_n 0, 1) := by decide +kernel
theorem dX3_areAllHalted_8 : decode cX3_areAllHalted 8 = .ok (.getfield 11, 3) := by decide +kernel
theorem dX3_areAllHalted_11 : decode cX3_areAllHalted 11 = .ok (.iload_n 1, 1) := by decide +kernel
theorem dX3_areAllHalted_12 : decode cX3_areAllHalted 12 = .ok (.aaload, 1) := by decide +kernel
theorem dX3_areAllHalted_13 : decode cX3_areAllHalted 13 = .ok (.getfield 102, 3) := by decide +kernel
theorem dX3_areAllHalted_16 : decode cX3_areAllHalted 16 = .ok (.ifCond .eq 5, 3) := by decide +kernel
theorem dX3_areAllHalted_19 : decode cX3_areAllHalted 19 = .ok (.iconst 0, 1) := by decide +kernel
theorem dX3_areAllHalted_20 : decode cX3_areAllHalted 20 = .ok (.ireturn, 1) := by decide +kernel
theorem dX3_areAllHalted_21 : decode cX3_areAllHalted 21 = .ok (.iinc 1 1, 3) := by decide +kernel
theorem dX3_areAllHalted_24 : decode cX3_areAllHalted 24 = .ok (.goto (-22), 3) := by decide +kernel
theorem dX3_areAllHalted_27 : decode cX3_areAllHalted 27 = .ok (.iconst 1, 1) := by decide +kernel
theorem dX3_areAllHalted_28 : decode cX3_areAllHalted 28 = .ok (.ireturn, 1) := by decide +kernel
set_option maxRecDepth 20000 in
theorem ggX3_isAtBreakpoint_X3_findIssuer : GoodIn wsX3_isAtBreakpoint wsX3_findIssuer := goodIn_r _ [7, 8, 9, 10, 11, 12, 6, 13, 1, 14, 15, 16, 17, 18, 19, 20, 21, 22, 23, 24, 25, 26, 27, 28, 29, 30, 31, 32, 33, 34, 35, 36, 37, 38, 39, 40, 49, 50, 51, 52, 53, 54, 55, 56, 57, 58, 59, 60, 61, 62, 63, 64, 65, 66, 67, 68] (by decide +kernel) (by decide +kernel)
set_option maxRecDepth 20000 in
theorem gX3_isAtBreakpoint_X3_findIssuer : GoodIn wsX3_isAtBreakpoint (wsV RX3 112 RX3 yX3_findIssuer wsX3_findIssuer) := goodIn_app (goodIn_of _ (by decide +kernel)) ggX3_isAtBreakpoint_X3_findIssuer
set_option maxRecDepth 20000 in
theorem ggX3_isAtBreakpoint_X6_isThread : GoodIn wsX3_isAtBreakpoint wsX6_isThread := goodIn_r _ [43, 44, 45, 42, 46] (by decide +kernel) (by decide +kernel)
set_option maxRecDepth 20000 in
theorem gX3_isAtBreakpoint_X6_isThread_n115 : GoodIn wsX3_isAtBreakpoint (wsX6_isThread) := ggX3_isAtBreakpoint_X6_isThread
set_option maxRecDepth 20000 in
theorem ggX3_isAtBreakpoint_X6_isPlace : GoodIn wsX3_isAtBreakpoint wsX6_isPlace := goodIn_r _ [48, 44, 45, 42, 46] (by decide +kernel) (by decide +kernel)
set_option maxRecDepth 20000 in
theorem gX3_isAtBreakpoint_X6_isPlace_n121 : GoodIn wsX3_isAtBreakpoint (wsX6_isPlace) := ggX3_isAtBreakpoint_X6_isPlace
theorem dX3_isAtBreakpoint_0 : decode cX3_isAtBreakpoint 0 = .ok (.aload_n 0, 1) := by decide +kernel
theorem dX3_isAtBreakpoint_1 : decode cX3_isAtBreakpoint 1 = .ok (.invokevirtual 112, 3) := by decide +kernel
theorem dX3_isAtBreakpoint_4 : decode cX3_isAtBreakpoint 4 = .ok (.istore_n 1, 1) := by decide +kernel
theorem dX3_isAtBreakpoint_5 : decode cX3_isAtBreakpoint 5 = .ok (.iload_n 1, 1) := by decide +kernel
theorem dX3_isAtBreakpoint_6 : decode cX3_isAtBreakpoint 6 = .ok (.invokestatic 115, 3) := by decide +kernel
theorem dX3_isAtBreakpoint_9 : decode cX3_isAtBreakpoint 9 = .ok (.ifCond .ne 5, 3) := by decide +kernel
theorem dX3_isAtBreakpoint_12 : decode cX3_isAtBreakpoint 12 = .ok (.iconst 0, 1) := by decide +kernel
theorem dX3_isAtBreakpoint_13 : decode cX3_isAtBreakpoint 13 = .ok (.ireturn, 1) := by decide +kernel
theorem dX3_isAtBreakpoint_14 : decode cX3_isAtBreakpoint 14 = .ok (.aload_n 0, 1) := by decide +kernel
theorem dX3_isAtBreakpoint_15 : decode cX3_isAtBreakpoint 15 = .ok (.getfield 11, 3) := by decide +kernel
theorem dX3_isAtBreakpoint_18 : decode cX3_isAtBreakpoint 18 = .ok (.iload_n 1, 1) := by decide +kernel
theorem dX3_isAtBreakpoint_19 : decode cX3_isAtBreakpoint 19 = .ok (.aaload, 1) := by decide +kernel
theorem dX3_isAtBreakpoint_20 : decode cX3_isAtBreakpoint 20 = .ok (.getfield 118, 3) := by decide +kernel
theorem dX3_isAtBreakpoint_23 : decode cX3_isAtBreakpoint 23 = .ok (.istore_n 2, 1) := by decide +kernel
theorem dX3_isAtBreakpoint_24 : decode cX3_isAtBreakpoint 24 = .ok (.iload_n 2, 1) := by decide +kernel
theorem dX3_isAtBreakpoint_25 : decode cX3_isAtBreakpoint 25 = .ok (.invokestatic 121, 3) := by decide +kernel
theorem dX3_isAtBreakpoint_28 : decode cX3_isAtBreakpoint 28 = .ok (.ifCond .eq 17, 3) := by decide +kernel
theorem dX3_isAtBreakpoint_31 : decode cX3_isAtBreakpoint 31 = .ok (.aload_n 0, 1) := by decide +kernel
theorem dX3_isAtBreakpoint_32 : decode cX3_isAtBreakpoint 32 = .ok (.getfield 24, 3) := by decide +kernel
theorem dX3_isAtBreakpoint_35 : decode cX3_isAtBreakpoint 35 = .ok (.iload_n 2, 1) := by decide +kernel
theorem dX3_isAtBreakpoint_36 : decode cX3_isAtBreakpoint 36 = .ok (.iaload, 1) := by decide +kernel
theorem dX3_isAtBreakpoint_37 : decode cX3_isAtBreakpoint 37 = .ok (.iconst 1, 1) := by decide +kernel
theorem dX3_isAtBreakpoint_38 : decode cX3_isAtBreakpoint 38 = .ok (.if_icmp .ne 7, 3) := by decide +kernel
theorem dX3_isAtBreakpoint_41 : decode cX3_isAtBreakpoint 41 = .ok (.iconst 1, 1) := by decide +kernel
theorem dX3_isAtBreakpoint_42 : decode cX3_isAtBreakpoint 42 = .ok (.goto 4, 3) := by decide +kernel
theorem dX3_isAtBreakpoint_45 : decode cX3_isAtBreakpoint 45 = .ok (.iconst 0, 1) := by decide +kernel
theorem dX3_isAtBreakpoint_46 : decode cX3_isAtBreakpoint 46 = .ok (.ireturn, 1) := by decide +kernel
set_option maxRecDepth 20000 in
theorem ggX3_runCycle_X3_finishLoads : GoodIn wsX3_runCycle wsX3_finishLoads := goodIn_r _ [8, 1, 3, 9, 10, 11, 12, 13, 14, 15, 16, 109, 110, 111, 112, 113, 114, 115, 116, 117, 118, 119, 120, 121, 122, 123, 124, 125, 126, 127, 128] (by decide +kernel) (by decide +kernel)
set_option maxRecDepth 20000 in
theorem gX3_runCycle_X3_finishLoads : GoodIn wsX3_runCycle (wsV RX3 124 RX3 yX3_finishLoads wsX3_finishLoads) := goodIn_app (goodIn_of _ (by decide +kernel)) ggX3_runCycle_X3_finishLoads
set_option maxRecDepth 20000 in
theorem ggX3_runCycle_X3_openBarrier : GoodIn wsX3_runCycle wsX3_openBarrier := goodIn_r _ [20, 1, 21, 22, 23, 7, 24, 109, 110, 111, 112, 113, 114, 115, 116, 117, 118, 119, 120, 121, 122, 123, 124, 125, 126, 127, 128] (by decide +kernel) (by decide +kernel)
set_option maxRecDepth 20000 in
theorem gX3_runCycle_X3_openBarrier : GoodIn wsX3_runCycle (wsV RX3 127 RX3 yX3_openBarrier wsX3_openBarrier) := goodIn_app (goodIn_of _ (by decide +kernel)) ggX3_runCycle_X3_openBarrier
set_option maxRecDepth 20000 in
theorem ggX3_runCycle_X3_findIssuer : GoodIn wsX3_runCycle wsX3_findIssuer := goodIn_r _ [28, 29, 30, 31, 32, 33, 7, 34, 1, 3, 21, 22, 23, 24, 10, 11, 12, 13, 14, 15, 16, 35, 36, 37, 38, 39, 40, 41, 42, 43, 44, 45, 46, 47, 48, 49, 109, 110, 111, 112, 113, 114, 115, 116, 117, 118, 119, 120, 121, 122, 123, 124, 125, 126, 127, 128] (by decide +kernel) (by decide +kernel)
set_option maxRecDepth 20000 in
theorem gX3_runCycle_X3_findIssuer : GoodIn wsX3_runCycle (wsV RX3 112 RX3 yX3_findIssuer wsX3_findIssuer) := goodIn_app (goodIn_of _ (by decide +kernel)) ggX3_runCycle_X3_findIssuer
set_option maxRecDepth 20000 in
theorem ggX3_runCycle_X3_countStarving : GoodIn wsX3_runCycle wsX3_countStarving := goodIn_r _ [53, 1, 54, 55, 56, 13, 57, 58, 59, 60, 61, 62, 63, 109, 110, 111, 112, 113, 114, 115, 116, 117, 118, 119, 120, 121, 122, 123, 124, 125, 126, 127, 128] (by decide +kernel) (by decide +kernel)
set_option maxRecDepth 20000 in
theorem gX3_runCycle_X3_countStarving : GoodIn wsX3_runCycle (wsV RX3 130 RX3 yX3_countStarving wsX3_countStarving) := goodIn_app (goodIn_of _ (by decide +kernel)) ggX3_runCycle_X3_countStarving
set_option maxRecDepth 20000 in
theorem ggX3_runCycle_X6_isThread : GoodIn wsX3_runCycle wsX6_isThread := goodIn_r _ [66, 67, 68, 65, 69] (by decide +kernel) (by decide +kernel)
set_option maxRecDepth 20000 in
theorem gX3_runCycle_X6_isThread_n115 : GoodIn wsX3_runCycle (wsX6_isThread) := ggX3_runCycle_X6_isThread
set_option maxRecDepth 20000 in
theorem ggX3_runCycle_X3_noteIssue : GoodIn wsX3_runCycle wsX3_noteIssue := goodIn_r _ [73, 1, 3, 74, 35, 36, 37, 7, 38, 39, 75, 76, 77, 78, 79, 80, 81, 82, 83, 84, 62, 85, 109, 110, 111, 112, 113, 114, 115, 116, 117, 118, 119, 120, 121, 122, 123, 124, 125, 126, 127, 128, 129, 130, 131] (by decide +kernel) (by decide +kernel)
set_option maxRecDepth 20000 in
theorem gX3_runCycle_X3_noteIssue : GoodIn wsX3_runCycle (wsV RX3 134 RX3 yX3_noteIssue wsX3_noteIssue) := goodIn_app (goodIn_of _ (by decide +kernel)) ggX3_runCycle_X3_noteIssue
set_option maxRecDepth 20000 in
theorem ggX3_runCycle_X3_executeNext : GoodIn wsX3_runCycle wsX3_executeNext := goodIn_r _ [89, 90, 91, 65, 92, 67, 68, 69, 93, 94, 7, 95, 96, 97, 98, 99, 3, 29, 9, 100, 101, 102, 13, 103, 15, 104, 105, 16, 106, 107, 108, 118, 119, 120, 121, 122, 123, 124, 125, 126, 127, 128, 109, 110, 111, 112, 113, 114, 115, 116, 117, 132, 133] (by decide +kernel) (by decide +kernel)
set_option maxRecDepth 20000 in
theorem gX3_runCycle_X3_executeNext : GoodIn wsX3_runCycle (wsV RX3 137 RX3 yX3_executeNext wsX3_executeNext) := goodIn_app (goodIn_of _ (by decide +kernel)) ggX3_runCycle_X3_executeNext
theorem dX3_runCycle_0 : decode cX3_runCycle 0 = .ok (.aload_n 0, 1) := by decide +kernel
theorem dX3_runCycle_1 : decode cX3_runCycle 1 = .ok (.invokevirtual 124, 3) := by decide +kernel
theorem dX3_runCycle_4 : decode cX3_runCycle 4 = .ok (.aload_n 0, 1) := by decide +kernel
theorem dX3_runCycle_5 : decode cX3_runCycle 5 = .ok (.invokevirtual 127, 3) := by decide +kernel
theorem dX3_runCycle_8 : decode cX3_runCycle 8 = .ok (.aload_n 0, 1) := by decide +kernel
theorem dX3_runCycle_9 : decode cX3_runCycle 9 = .ok (.invokevirtual 112, 3) := by decide +kernel
theorem dX3_runCycle_12 : decode cX3_runCycle 12 = .ok (.istore_n 1, 1) := by decide +kernel
theorem dX3_runCycle_13 : decode cX3_runCycle 13 = .ok (.aload_n 0, 1) := by decide +kernel
theorem dX3_runCycle_14 : decode cX3_runCycle 14 = .ok (.iload_n 1, 1) := by decide +kernel
theorem dX3_runCycle_15 : decode cX3_runCycle 15 = .ok (.invokevirtual 130, 3) := by decide +kernel
theorem dX3_runCycle_18 : decode cX3_runCycle 18 = .ok (.iload_n 1, 1) := by decide +kernel
theorem dX3_runCycle_19 : decode cX3_runCycle 19 = .ok (.invokestatic 115, 3) := by decide +kernel
theorem dX3_runCycle_22 : decode cX3_runCycle 22 = .ok (.ifCond .eq 21, 3) := by decide +kernel
theorem dX3_runCycle_25 : decode cX3_runCycle 25 = .ok (.aload_n 0, 1) := by decide +kernel
theorem dX3_runCycle_26 : decode cX3_runCycle 26 = .ok (.iload_n 1, 1) := by decide +kernel
theorem dX3_runCycle_27 : decode cX3_runCycle 27 = .ok (.invokevirtual 134, 3) := by decide +kernel
theorem dX3_runCycle_30 : decode cX3_runCycle 30 = .ok (.aload_n 0, 1) := by decide +kernel
theorem dX3_runCycle_31 : decode cX3_runCycle 31 = .ok (.aload_n 0, 1) := by decide +kernel
theorem dX3_runCycle_32 : decode cX3_runCycle 32 = .ok (.getfield 11, 3) := by decide +kernel
theorem dX3_runCycle_35 : decode cX3_runCycle 35 = .ok (.iload_n 1, 1) := by decide +kernel
theorem dX3_runCycle_36 : decode cX3_runCycle 36 = .ok (.aaload, 1) := by decide +kernel
theorem dX3_runCycle_37 : decode cX3_runCycle 37 = .ok (.invokevirtual 137, 3) := by decide +kernel
theorem dX3_runCycle_40 : decode cX3_runCycle 40 = .ok (.goto 13, 3) := by decide +kernel
theorem dX3_runCycle_43 : decode cX3_runCycle 43 = .ok (.aload_n 0, 1) := by decide +kernel
theorem dX3_runCycle_44 : decode cX3_runCycle 44 = .ok (.dup, 1) := by decide +kernel
theorem dX3_runCycle_45 : decode cX3_runCycle 45 = .ok (.getfield 66, 3) := by decide +kernel
theorem dX3_runCycle_48 : decode cX3_runCycle 48 = .ok (.iconst 1, 1) := by decide +kernel
theorem dX3_runCycle_49 : decode cX3_runCycle 49 = .ok (.iadd, 1) := by decide +kernel
theorem dX3_runCycle_50 : decode cX3_runCycle 50 = .ok (.putfield 66, 3) := by decide +kernel
theorem dX3_runCycle_53 : decode cX3_runCycle 53 = .ok (.aload_n 0, 1) := by decide +kernel
theorem dX3_runCycle_54 : decode cX3_runCycle 54 = .ok (.dup, 1) := by decide +kernel
theorem dX3_runCycle_55 : decode cX3_runCycle 55 = .ok (.getfield 62, 3) := by decide +kernel
theorem dX3_runCycle_58 : decode cX3_runCycle 58 = .ok (.iconst 1, 1) := by decide +kernel
theorem dX3_runCycle_59 : decode cX3_runCycle 59 = .ok (.iadd, 1) := by decide +kernel
theorem dX3_runCycle_60 : decode cX3_runCycle 60 = .ok (.putfield 62, 3) := by decide +kernel
theorem dX3_runCycle_63 : decode cX3_runCycle 63 = .ok (.return_, 1) := by decide +kernel
set_option maxRecDepth 20000 in
theorem ggX3_finishLoads_X0_hasLoadDue : GoodIn wsX3_finishLoads wsX0_hasLoadDue := goodIn_r _ [8, 9, 10, 20, 21, 22, 23, 24, 25, 26, 27, 28, 29, 30] (by decide +kernel) (by decide +kernel)
set_option maxRecDepth 20000 in
theorem gX3_finishLoads_X0_hasLoadDue : GoodIn wsX3_finishLoads (wsV RX3 105 RX0 yX0_hasLoadDue wsX0_hasLoadDue) := goodIn_app (goodIn_of _ (by decide +kernel)) ggX3_finishLoads_X0_hasLoadDue
theorem dX3_finishLoads_0 : decode cX3_finishLoads 0 = .ok (.iconst 0, 1) := by decide +kernel
theorem dX3_finishLoads_1 : decode cX3_finishLoads 1 = .ok (.istore_n 1, 1) := by decide +kernel
theorem dX3_finishLoads_2 : decode cX3_finishLoads 2 = .ok (.iload_n 1, 1) := by decide +kernel
theorem dX3_finishLoads_3 : decode cX3_finishLoads 3 = .ok (.iconst 4, 1) := by decide +kernel
theorem dX3_finishLoads_4 : decode cX3_finishLoads 4 = .ok (.if_icmp .ge 50, 3) := by decide +kernel
theorem dX3_finishLoads_7 : decode cX3_finishLoads 7 = .ok (.aload_n 0, 1) := by decide +kernel
theorem dX3_finishLoads_8 : decode cX3_finishLoads 8 = .ok (.getfield 11, 3) := by decide +kernel
theorem dX3_finishLoads_11 : decode cX3_finishLoads 11 = .ok (.iload_n 1, 1) := by decide +kernel
theorem dX3_finishLoads_12 : decode cX3_finishLoads 12 = .ok (.aaload, 1) := by decide +kernel
theorem dX3_finishLoads_13 : decode cX3_finishLoads 13 = .ok (.astore_n 2, 1) := by decide +kernel
theorem dX3_finishLoads_14 : decode cX3_finishLoads 14 = .ok (.aload_n 2, 1) := by decide +kernel
theorem dX3_finishLoads_15 : decode cX3_finishLoads 15 = .ok (.aload_n 0, 1) := by decide +kernel
theorem dX3_finishLoads_16 : decode cX3_finishLoads 16 = .ok (.getfield 62, 3) := by decide +kernel
theorem dX3_finishLoads_19 : decode cX3_finishLoads 19 = .ok (.invokevirtual 105, 3) := by decide +kernel
theorem dX3_finishLoads_22 : decode cX3_finishLoads 22 = .ok (.ifCond .eq 26, 3) := by decide +kernel
theorem dX3_finishLoads_25 : decode cX3_finishLoads 25 = .ok (.aload_n 2, 1) := by decide +kernel
theorem dX3_finishLoads_26 : decode cX3_finishLoads 26 = .ok (.getfield 140, 3) := by decide +kernel
theorem dX3_finishLoads_29 : decode cX3_finishLoads 29 = .ok (.aload_n 2, 1) := by decide +kernel
theorem dX3_finishLoads_30 : decode cX3_finishLoads 30 = .ok (.getfield 143, 3) := by decide +kernel
theorem dX3_finishLoads_33 : decode cX3_finishLoads 33 = .ok (.aload_n 0, 1) := by decide +kernel
theorem dX3_finishLoads_34 : decode cX3_finishLoads 34 = .ok (.getfield 28, 3) := by decide +kernel
theorem dX3_finishLoads_37 : decode cX3_finishLoads 37 = .ok (.aload_n 2, 1) := by decide +kernel
theorem dX3_finishLoads_38 : decode cX3_finishLoads 38 = .ok (.getfield 146, 3) := by decide +kernel
theorem dX3_finishLoads_41 : decode cX3_finishLoads 41 = .ok (.iaload, 1) := by decide +kernel
theorem dX3_finishLoads_42 : decode cX3_finishLoads 42 = .ok (.iastore, 1) := by decide +kernel
theorem dX3_finishLoads_43 : decode cX3_finishLoads 43 = .ok (.aload_n 2, 1) := by decide +kernel
theorem dX3_finishLoads_44 : decode cX3_finishLoads 44 = .ok (.iconst 1, 1) := by decide +kernel
theorem dX3_finishLoads_45 : decode cX3_finishLoads 45 = .ok (.putfield 102, 3) := by decide +kernel
theorem dX3_finishLoads_48 : decode cX3_finishLoads 48 = .ok (.iinc 1 1, 3) := by decide +kernel
theorem dX3_finishLoads_51 : decode cX3_finishLoads 51 = .ok (.goto (-49), 3) := by decide +kernel
theorem dX3_finishLoads_54 : decode cX3_finishLoads 54 = .ok (.return_, 1) := by decide +kernel
theorem dX3_doesBarrierOpen_0 : decode cX3_doesBarrierOpen 0 = .ok (.iconst 0, 1) := by decide +kernel
theorem dX3_doesBarrierOpen_1 : decode cX3_doesBarrierOpen 1 = .ok (.istore_n 1, 1) := by decide +kernel
theorem dX3_doesBarrierOpen_2 : decode cX3_doesBarrierOpen 2 = .ok (.iconst 0, 1) := by decide +kernel
theorem dX3_doesBarrierOpen_3 : decode cX3_doesBarrierOpen 3 = .ok (.istore_n 2, 1) := by decide +kernel
theorem dX3_doesBarrierOpen_4 : decode cX3_doesBarrierOpen 4 = .ok (.iload_n 2, 1) := by decide +kernel
theorem dX3_doesBarrierOpen_5 : decode cX3_doesBarrierOpen 5 = .ok (.iconst 4, 1) := by decide +kernel
theorem dX3_doesBarrierOpen_6 : decode cX3_doesBarrierOpen 6 = .ok (.if_icmp .ge 46, 3) := by decide +kernel
theorem dX3_doesBarrierOpen_9 : decode cX3_doesBarrierOpen 9 = .ok (.aload_n 0, 1) := by decide +kernel
theorem dX3_doesBarrierOpen_10 : decode cX3_doesBarrierOpen 10 = .ok (.getfield 11, 3) := by decide +kernel
theorem dX3_doesBarrierOpen_13 : decode cX3_doesBarrierOpen 13 = .ok (.iload_n 2, 1) := by decide +kernel
theorem dX3_doesBarrierOpen_14 : decode cX3_doesBarrierOpen 14 = .ok (.aaload, 1) := by decide +kernel
theorem dX3_doesBarrierOpen_15 : decode cX3_doesBarrierOpen 15 = .ok (.getfield 102, 3) := by decide +kernel
theorem dX3_doesBarrierOpen_18 : decode cX3_doesBarrierOpen 18 = .ok (.istore_n 3, 1) := by decide +kernel
theorem dX3_doesBarrierOpen_19 : decode cX3_doesBarrierOpen 19 = .ok (.iload_n 3, 1) := by decide +kernel
theorem dX3_doesBarrierOpen_20 : decode cX3_doesBarrierOpen 20 = .ok (.iconst 1, 1) := by decide +kernel
theorem dX3_doesBarrierOpen_21 : decode cX3_doesBarrierOpen 21 = .ok (.if_icmp .eq 8, 3) := by decide +kernel
theorem dX3_doesBarrierOpen_24 : decode cX3_doesBarrierOpen 24 = .ok (.iload_n 3, 1) := by decide +kernel
theorem dX3_doesBarrierOpen_25 : decode cX3_doesBarrierOpen 25 = .ok (.iconst 2, 1) := by decide +kernel
theorem dX3_doesBarrierOpen_26 : decode cX3_doesBarrierOpen 26 = .ok (.if_icmp .ne 5, 3) := by decide +kernel
theorem dX3_doesBarrierOpen_29 : decode cX3_doesBarrierOpen 29 = .ok (.iconst 0, 1) := by decide +kernel
theorem dX3_doesBarrierOpen_30 : decode cX3_doesBarrierOpen 30 = .ok (.ireturn, 1) := by decide +kernel
theorem dX3_doesBarrierOpen_31 : decode cX3_doesBarrierOpen 31 = .ok (.iload_n 1, 1) := by decide +kernel
theorem dX3_doesBarrierOpen_32 : decode cX3_doesBarrierOpen 32 = .ok (.ifCond .ne 8, 3) := by decide +kernel
theorem dX3_doesBarrierOpen_35 : decode cX3_doesBarrierOpen 35 = .ok (.iload_n 3, 1) := by decide +kernel
theorem dX3_doesBarrierOpen_36 : decode cX3_doesBarrierOpen 36 = .ok (.iconst 3, 1) := by decide +kernel
theorem dX3_doesBarrierOpen_37 : decode cX3_doesBarrierOpen 37 = .ok (.if_icmp .ne 7, 3) := by decide +kernel
theorem dX3_doesBarrierOpen_40 : decode cX3_doesBarrierOpen 40 = .ok (.iconst 1, 1) := by decide +kernel
theorem dX3_doesBarrierOpen_41 : decode cX3_doesBarrierOpen 41 = .ok (.goto 4, 3) := by decide +kernel
theorem dX3_doesBarrierOpen_44 : decode cX3_doesBarrierOpen 44 = .ok (.iconst 0, 1) := by decide +kernel
theorem dX3_doesBarrierOpen_45 : decode cX3_doesBarrierOpen 45 = .ok (.istore_n 1, 1) := by decide +kernel
theorem dX3_doesBarrierOpen_46 : decode cX3_doesBarrierOpen 46 = .ok (.iinc 2 1, 3) := by decide +kernel
theorem dX3_doesBarrierOpen_49 : decode cX3_doesBarrierOpen 49 = .ok (.goto (-45), 3) := by decide +kernel
theorem dX3_doesBarrierOpen_52 : decode cX3_doesBarrierOpen 52 = .ok (.iload_n 1, 1) := by decide +kernel
theorem dX3_doesBarrierOpen_53 : decode cX3_doesBarrierOpen 53 = .ok (.ireturn, 1) := by decide +kernel
set_option maxRecDepth 20000 in
theorem ggX3_openBarrier_X3_doesBarrierOpen : GoodIn wsX3_openBarrier wsX3_doesBarrierOpen := goodIn_r _ [6, 1, 7, 8, 9, 10, 11, 12, 13, 14, 15, 16, 17, 18, 19, 20, 21, 22, 23, 24, 25, 26] (by decide +kernel) (by decide +kernel)
set_option maxRecDepth 20000 in
theorem gX3_openBarrier_X3_doesBarrierOpen : GoodIn wsX3_openBarrier (wsV RX3 99 RX3 yX3_doesBarrierOpen wsX3_doesBarrierOpen) := goodIn_app (goodIn_of _ (by decide +kernel)) ggX3_openBarrier_X3_doesBarrierOpen
theorem dX3_openBarrier_0 : decode cX3_openBarrier 0 = .ok (.aload_n 0, 1) := by decide +kernel
theorem dX3_openBarrier_1 : decode cX3_openBarrier 1 = .ok (.invokevirtual 99, 3) := by decide +kernel
theorem dX3_openBarrier_4 : decode cX3_openBarrier 4 = .ok (.ifCond .ne 4, 3) := by decide +kernel
theorem dX3_openBarrier_7 : decode cX3_openBarrier 7 = .ok (.return_, 1) := by decide +kernel
theorem dX3_openBarrier_8 : decode cX3_openBarrier 8 = .ok (.iconst 0, 1) := by decide +kernel
theorem dX3_openBarrier_9 : decode cX3_openBarrier 9 = .ok (.istore_n 1, 1) := by decide +kernel
theorem dX3_openBarrier_10 : decode cX3_openBarrier 10 = .ok (.iload_n 1, 1) := by decide +kernel
theorem dX3_openBarrier_11 : decode cX3_openBarrier 11 = .ok (.iconst 4, 1) := by decide +kernel
theorem dX3_openBarrier_12 : decode cX3_openBarrier 12 = .ok (.if_icmp .ge 32, 3) := by decide +kernel
theorem dX3_openBarrier_15 : decode cX3_openBarrier 15 = .ok (.aload_n 0, 1) := by decide +kernel
theorem dX3_openBarrier_16 : decode cX3_openBarrier 16 = .ok (.getfield 11, 3) := by decide +kernel
theorem dX3_openBarrier_19 : decode cX3_openBarrier 19 = .ok (.iload_n 1, 1) := by decide +kernel
theorem dX3_openBarrier_20 : decode cX3_openBarrier 20 = .ok (.aaload, 1) := by decide +kernel
theorem dX3_openBarrier_21 : decode cX3_openBarrier 21 = .ok (.getfield 102, 3) := by decide +kernel
theorem dX3_openBarrier_24 : decode cX3_openBarrier 24 = .ok (.iconst 3, 1) := by decide +kernel
theorem dX3_openBarrier_25 : decode cX3_openBarrier 25 = .ok (.if_icmp .ne 13, 3) := by decide +kernel
theorem dX3_openBarrier_28 : decode cX3_openBarrier 28 = .ok (.aload_n 0, 1) := by decide +kernel
theorem dX3_openBarrier_29 : decode cX3_openBarrier 29 = .ok (.getfield 11, 3) := by decide +kernel
theorem dX3_openBarrier_32 : decode cX3_openBarrier 32 = .ok (.iload_n 1, 1) := by decide +kernel
theorem dX3_openBarrier_33 : decode cX3_openBarrier 33 = .ok (.aaload, 1) := by decide +kernel
theorem dX3_openBarrier_34 : decode cX3_openBarrier 34 = .ok (.iconst 1, 1) := by decide +kernel
theorem dX3_openBarrier_35 : decode cX3_openBarrier 35 = .ok (.putfield 102, 3) := by decide +kernel
theorem dX3_openBarrier_38 : decode cX3_openBarrier 38 = .ok (.iinc 1 1, 3) := by decide +kernel
theorem dX3_openBarrier_41 : decode cX3_openBarrier 41 = .ok (.goto (-31), 3) := by decide +kernel
theorem dX3_openBarrier_44 : decode cX3_openBarrier 44 = .ok (.return_, 1) := by decide +kernel
set_option maxRecDepth 20000 in
theorem ggX3_countStarving_X0_countCycle : GoodIn wsX3_countStarving wsX0_countCycle := goodIn_r _ [6, 7, 8, 9, 10, 11, 12, 22, 23, 24, 25, 26, 27, 28, 29, 30, 31, 32] (by decide +kernel) (by decide +kernel)
set_option maxRecDepth 20000 in
theorem gX3_countStarving_X0_countCycle : GoodIn wsX3_countStarving (wsV RX3 149 RX0 yX0_countCycle wsX0_countCycle) := goodIn_app (goodIn_of _ (by decide +kernel)) ggX3_countStarving_X0_countCycle
theorem dX3_countStarving_0 : decode cX3_countStarving 0 = .ok (.iconst 0, 1) := by decide +kernel
theorem dX3_countStarving_1 : decode cX3_countStarving 1 = .ok (.istore_n 2, 1) := by decide +kernel
theorem dX3_countStarving_2 : decode cX3_countStarving 2 = .ok (.iload_n 2, 1) := by decide +kernel
theorem dX3_countStarving_3 : decode cX3_countStarving 3 = .ok (.iconst 4, 1) := by decide +kernel
theorem dX3_countStarving_4 : decode cX3_countStarving 4 = .ok (.if_icmp .ge 38, 3) := by decide +kernel
theorem dX3_countStarving_7 : decode cX3_countStarving 7 = .ok (.aload_n 0, 1) := by decide +kernel
theorem dX3_countStarving_8 : decode cX3_countStarving 8 = .ok (.getfield 11, 3) := by decide +kernel
theorem dX3_countStarving_11 : decode cX3_countStarving 11 = .ok (.iload_n 2, 1) := by decide +kernel
theorem dX3_countStarving_12 : decode cX3_countStarving 12 = .ok (.aaload, 1) := by decide +kernel
theorem dX3_countStarving_13 : decode cX3_countStarving 13 = .ok (.astore_n 3, 1) := by decide +kernel
theorem dX3_countStarving_14 : decode cX3_countStarving 14 = .ok (.aload_n 3, 1) := by decide +kernel
theorem dX3_countStarving_15 : decode cX3_countStarving 15 = .ok (.aload_n 3, 1) := by decide +kernel
theorem dX3_countStarving_16 : decode cX3_countStarving 16 = .ok (.getfield 102, 3) := by decide +kernel
theorem dX3_countStarving_19 : decode cX3_countStarving 19 = .ok (.iconst 1, 1) := by decide +kernel
theorem dX3_countStarving_20 : decode cX3_countStarving 20 = .ok (.if_icmp .ne 12, 3) := by decide +kernel
theorem dX3_countStarving_23 : decode cX3_countStarving 23 = .ok (.iload_n 2, 1) := by decide +kernel
theorem dX3_countStarving_24 : decode cX3_countStarving 24 = .ok (.iload_n 1, 1) := by decide +kernel
theorem dX3_countStarving_25 : decode cX3_countStarving 25 = .ok (.if_icmp .eq 7, 3) := by decide +kernel
theorem dX3_countStarving_28 : decode cX3_countStarving 28 = .ok (.iconst 1, 1) := by decide +kernel
theorem dX3_countStarving_29 : decode cX3_countStarving 29 = .ok (.goto 4, 3) := by decide +kernel
theorem dX3_countStarving_32 : decode cX3_countStarving 32 = .ok (.iconst 0, 1) := by decide +kernel
theorem dX3_countStarving_33 : decode cX3_countStarving 33 = .ok (.invokevirtual 149, 3) := by decide +kernel
theorem dX3_countStarving_36 : decode cX3_countStarving 36 = .ok (.iinc 2 1, 3) := by decide +kernel
theorem dX3_countStarving_39 : decode cX3_countStarving 39 = .ok (.goto (-37), 3) := by decide +kernel
theorem dX3_countStarving_42 : decode cX3_countStarving 42 = .ok (.return_, 1) := by decide +kernel
set_option maxRecDepth 20000 in
theorem ggX3_noteIssue_X3_slotOwner : GoodIn wsX3_noteIssue wsX3_slotOwner := goodIn_r _ [8, 9, 2, 22, 23, 24, 25, 26, 27, 28, 29, 30] (by decide +kernel) (by decide +kernel)
set_option maxRecDepth 20000 in
theorem gX3_noteIssue_X3_slotOwner : GoodIn wsX3_noteIssue (wsV RX3 84 RX3 yX3_slotOwner wsX3_slotOwner) := goodIn_app (goodIn_of _ (by decide +kernel)) ggX3_noteIssue_X3_slotOwner
set_option maxRecDepth 20000 in
theorem ggX3_noteIssue_X5_note : GoodIn wsX3_noteIssue wsX5_note := goodIn_r _ [14, 15, 16, 17, 18, 19, 20, 21, 42, 43, 44] (by decide +kernel) (by decide +kernel)
set_option maxRecDepth 20000 in
theorem gX3_noteIssue_X5_note : GoodIn wsX3_noteIssue (wsV RX3 159 RX5 yX5_note wsX5_note) := goodIn_app (goodIn_of _ (by decide +kernel)) ggX3_noteIssue_X5_note
theorem dX3_noteIssue_0 : decode cX3_noteIssue 0 = .ok (.aload_n 0, 1) := by decide +kernel
theorem dX3_noteIssue_1 : decode cX3_noteIssue 1 = .ok (.getfield 11, 3) := by decide +kernel
theorem dX3_noteIssue_4 : decode cX3_noteIssue 4 = .ok (.iload_n 1, 1) := by decide +kernel
theorem dX3_noteIssue_5 : decode cX3_noteIssue 5 = .ok (.aaload, 1) := by decide +kernel
theorem dX3_noteIssue_6 : decode cX3_noteIssue 6 = .ok (.astore_n 2, 1) := by decide +kernel
theorem dX3_noteIssue_7 : decode cX3_noteIssue 7 = .ok (.aload_n 2, 1) := by decide +kernel
theorem dX3_noteIssue_8 : decode cX3_noteIssue 8 = .ok (.dup, 1) := by decide +kernel
theorem dX3_noteIssue_9 : decode cX3_noteIssue 9 = .ok (.getfield 153, 3) := by decide +kernel
theorem dX3_noteIssue_12 : decode cX3_noteIssue 12 = .ok (.iconst 1, 1) := by decide +kernel
theorem dX3_noteIssue_13 : decode cX3_noteIssue 13 = .ok (.iadd, 1) := by decide +kernel
theorem dX3_noteIssue_14 : decode cX3_noteIssue 14 = .ok (.putfield 153, 3) := by decide +kernel
theorem dX3_noteIssue_17 : decode cX3_noteIssue 17 = .ok (.iload_n 1, 1) := by decide +kernel
theorem dX3_noteIssue_18 : decode cX3_noteIssue 18 = .ok (.aload_n 0, 1) := by decide +kernel
theorem dX3_noteIssue_19 : decode cX3_noteIssue 19 = .ok (.invokevirtual 84, 3) := by decide +kernel
theorem dX3_noteIssue_22 : decode cX3_noteIssue 22 = .ok (.if_icmp .eq 13, 3) := by decide +kernel
theorem dX3_noteIssue_25 : decode cX3_noteIssue 25 = .ok (.aload_n 2, 1) := by decide +kernel
theorem dX3_noteIssue_26 : decode cX3_noteIssue 26 = .ok (.dup, 1) := by decide +kernel
theorem dX3_noteIssue_27 : decode cX3_noteIssue 27 = .ok (.getfield 156, 3) := by decide +kernel
theorem dX3_noteIssue_30 : decode cX3_noteIssue 30 = .ok (.iconst 1, 1) := by decide +kernel
theorem dX3_noteIssue_31 : decode cX3_noteIssue 31 = .ok (.iadd, 1) := by decide +kernel
theorem dX3_noteIssue_32 : decode cX3_noteIssue 32 = .ok (.putfield 156, 3) := by decide +kernel
theorem dX3_noteIssue_35 : decode cX3_noteIssue 35 = .ok (.aload_n 2, 1) := by decide +kernel
theorem dX3_noteIssue_36 : decode cX3_noteIssue 36 = .ok (.aload_n 0, 1) := by decide +kernel
theorem dX3_noteIssue_37 : decode cX3_noteIssue 37 = .ok (.getfield 62, 3) := by decide +kernel
theorem dX3_noteIssue_40 : decode cX3_noteIssue 40 = .ok (.putfield 109, 3) := by decide +kernel
theorem dX3_noteIssue_43 : decode cX3_noteIssue 43 = .ok (.aload_n 0, 1) := by decide +kernel
theorem dX3_noteIssue_44 : decode cX3_noteIssue 44 = .ok (.getfield 40, 3) := by decide +kernel
theorem dX3_noteIssue_47 : decode cX3_noteIssue 47 = .ok (.aload_n 0, 1) := by decide +kernel
theorem dX3_noteIssue_48 : decode cX3_noteIssue 48 = .ok (.getfield 62, 3) := by decide +kernel
theorem dX3_noteIssue_51 : decode cX3_noteIssue 51 = .ok (.iload_n 1, 1) := by decide +kernel
theorem dX3_noteIssue_52 : decode cX3_noteIssue 52 = .ok (.aload_n 2, 1) := by decide +kernel
theorem dX3_noteIssue_53 : decode cX3_noteIssue 53 = .ok (.getfield 118, 3) := by decide +kernel
theorem dX3_noteIssue_56 : decode cX3_noteIssue 56 = .ok (.invokevirtual 159, 3) := by decide +kernel
theorem dX3_noteIssue_59 : decode cX3_noteIssue 59 = .ok (.return_, 1) := by decide +kernel
set_option maxRecDepth 20000 in
theorem ggX3_executeNext_X6_isPlace : GoodIn wsX3_executeNext wsX6_isPlace := goodIn_r _ [4, 5, 6, 3, 7] (by decide +kernel) (by decide +kernel)
set_option maxRecDepth 20000 in
theorem gX3_executeNext_X6_isPlace_n121 : GoodIn wsX3_executeNext (wsX6_isPlace) := ggX3_executeNext_X6_isPlace
set_option maxRecDepth 20000 in
theorem ggX3_executeNext_X3_calculate : GoodIn wsX3_executeNext wsX3_calculate := goodIn_r _ [11] (by decide +kernel) (by decide +kernel)
set_option maxRecDepth 20000 in
theorem gX3_executeNext_X3_calculate : GoodIn wsX3_executeNext (va_wsS RX3 169 yX3_calculate wsX3_calculate) := goodIn_app (goodIn_of _ (by decide +kernel)) ggX3_executeNext_X3_calculate
set_option maxRecDepth 20000 in
theorem ggX3_executeNext_X3_reachMemory : GoodIn wsX3_executeNext wsX3_reachMemory := goodIn_r _ [15, 16, 17, 18, 19, 20, 21, 22, 23, 24, 25, 26, 27, 31, 32, 33, 34, 35, 36, 37, 38, 39, 40, 41, 42, 43, 44, 45, 46, 47, 48, 49, 50] (by decide +kernel) (by decide +kernel)
set_option maxRecDepth 20000 in
theorem gX3_executeNext_X3_reachMemory : GoodIn wsX3_executeNext (wsV RX3 173 RX3 yX3_reachMemory wsX3_reachMemory) := goodIn_app (goodIn_of _ (by decide +kernel)) ggX3_executeNext_X3_reachMemory
set_option maxRecDepth 20000 in
theorem ggX3_executeNext_X3_steer : GoodIn wsX3_executeNext wsX3_steer := goodIn_r _ [30, 31, 32, 33, 34, 35, 36, 37, 38, 39, 40, 41] (by decide +kernel) (by decide +kernel)
set_option maxRecDepth 20000 in
theorem gX3_executeNext_X3_steer : GoodIn wsX3_executeNext (va_wsS RX3 177 yX3_steer wsX3_steer) := goodIn_app (goodIn_of _ (by decide +kernel)) ggX3_executeNext_X3_steer
theorem dX3_executeNext_0 : decode cX3_executeNext 0 = .ok (.aload_n 1, 1) := by decide +kernel
theorem dX3_executeNext_1 : decode cX3_executeNext 1 = .ok (.getfield 118, 3) := by decide +kernel
theorem dX3_executeNext_4 : decode cX3_executeNext 4 = .ok (.istore_n 2, 1) := by decide +kernel
theorem dX3_executeNext_5 : decode cX3_executeNext 5 = .ok (.iload_n 2, 1) := by decide +kernel
theorem dX3_executeNext_6 : decode cX3_executeNext 6 = .ok (.invokestatic 121, 3) := by decide +kernel
theorem dX3_executeNext_9 : decode cX3_executeNext 9 = .ok (.ifCond .ne 9, 3) := by decide +kernel
theorem dX3_executeNext_12 : decode cX3_executeNext 12 = .ok (.aload_n 1, 1) := by decide +kernel
theorem dX3_executeNext_13 : decode cX3_executeNext 13 = .ok (.iconst 0, 1) := by decide +kernel
theorem dX3_executeNext_14 : decode cX3_executeNext 14 = .ok (.putfield 102, 3) := by decide +kernel
theorem dX3_executeNext_17 : decode cX3_executeNext 17 = .ok (.return_, 1) := by decide +kernel
theorem dX3_executeNext_18 : decode cX3_executeNext 18 = .ok (.aload_n 1, 1) := by decide +kernel
theorem dX3_executeNext_19 : decode cX3_executeNext 19 = .ok (.iload_n 2, 1) := by decide +kernel
theorem dX3_executeNext_20 : decode cX3_executeNext 20 = .ok (.iconst 1, 1) := by decide +kernel
theorem dX3_executeNext_21 : decode cX3_executeNext 21 = .ok (.iadd, 1) := by decide +kernel
theorem dX3_executeNext_22 : decode cX3_executeNext 22 = .ok (.putfield 118, 3) := by decide +kernel
theorem dX3_executeNext_25 : decode cX3_executeNext 25 = .ok (.aload_n 0, 1) := by decide +kernel
theorem dX3_executeNext_26 : decode cX3_executeNext 26 = .ok (.getfield 20, 3) := by decide +kernel
theorem dX3_executeNext_29 : decode cX3_executeNext 29 = .ok (.getfield 163, 3) := by decide +kernel
theorem dX3_executeNext_32 : decode cX3_executeNext 32 = .ok (.iload_n 2, 1) := by decide +kernel
theorem dX3_executeNext_33 : decode cX3_executeNext 33 = .ok (.iaload, 1) := by decide +kernel
theorem dX3_executeNext_34 : decode cX3_executeNext 34 = .ok (.istore_n 3, 1) := by decide +kernel
theorem dX3_executeNext_35 : decode cX3_executeNext 35 = .ok (.aload_n 0, 1) := by decide +kernel
theorem dX3_executeNext_36 : decode cX3_executeNext 36 = .ok (.getfield 20, 3) := by decide +kernel
theorem dX3_executeNext_39 : decode cX3_executeNext 39 = .ok (.getfield 166, 3) := by decide +kernel
theorem dX3_executeNext_42 : decode cX3_executeNext 42 = .ok (.iload_n 2, 1) := by decide +kernel
theorem dX3_executeNext_43 : decode cX3_executeNext 43 = .ok (.iconst 2, 1) := by decide +kernel
theorem dX3_executeNext_44 : decode cX3_executeNext 44 = .ok (.imul, 1) := by decide +kernel
theorem dX3_executeNext_45 : decode cX3_executeNext 45 = .ok (.iaload, 1) := by decide +kernel
theorem dX3_executeNext_46 : decode cX3_executeNext 46 = .ok (.istore 4, 2) := by decide +kernel
theorem dX3_executeNext_48 : decode cX3_executeNext 48 = .ok (.aload_n 0, 1) := by decide +kernel
theorem dX3_executeNext_49 : decode cX3_executeNext 49 = .ok (.getfield 20, 3) := by decide +kernel
theorem dX3_executeNext_52 : decode cX3_executeNext 52 = .ok (.getfield 166, 3) := by decide +kernel
theorem dX3_executeNext_55 : decode cX3_executeNext 55 = .ok (.iload_n 2, 1) := by decide +kernel
theorem dX3_executeNext_56 : decode cX3_executeNext 56 = .ok (.iconst 2, 1) := by decide +kernel
theorem dX3_executeNext_57 : decode cX3_executeNext 57 = .ok (.imul, 1) := by decide +kernel
theorem dX3_executeNext_58 : decode cX3_executeNext 58 = .ok (.iconst 1, 1) := by decide +kernel
theorem dX3_executeNext_59 : decode cX3_executeNext 59 = .ok (.iadd, 1) := by decide +kernel
theorem dX3_executeNext_60 : decode cX3_executeNext 60 = .ok (.iaload, 1) := by decide +kernel
theorem dX3_executeNext_61 : decode cX3_executeNext 61 = .ok (.istore 5, 2) := by decide +kernel
theorem dX3_executeNext_63 : decode cX3_executeNext 63 = .ok (.iload_n 3, 1) := by decide +kernel
theorem dX3_executeNext_64 : decode cX3_executeNext 64 = .ok (.iconst 3, 1) := by decide +kernel
theorem dX3_executeNext_65 : decode cX3_executeNext 65 = .ok (.if_icmp .gt 18, 3) := by decide +kernel
theorem dX3_executeNext_68 : decode cX3_executeNext 68 = .ok (.aload_n 1, 1) := by decide +kernel
theorem dX3_executeNext_69 : decode cX3_executeNext 69 = .ok (.getfield 140, 3) := by decide +kernel
theorem dX3_executeNext_72 : decode cX3_executeNext 72 = .ok (.iload_n 3, 1) := by decide +kernel
theorem dX3_executeNext_73 : decode cX3_executeNext 73 = .ok (.iload 4, 2) := by decide +kernel
theorem dX3_executeNext_75 : decode cX3_executeNext 75 = .ok (.iload 5, 2) := by decide +kernel
theorem dX3_executeNext_77 : decode cX3_executeNext 77 = .ok (.invokestatic 169, 3) := by decide +kernel
theorem dX3_executeNext_80 : decode cX3_executeNext 80 = .ok (.goto 31, 3) := by decide +kernel
theorem dX3_executeNext_83 : decode cX3_executeNext 83 = .ok (.iload_n 3, 1) := by decide +kernel
theorem dX3_executeNext_84 : decode cX3_executeNext 84 = .ok (.bipush 6, 2) := by decide +kernel
theorem dX3_executeNext_86 : decode cX3_executeNext 86 = .ok (.if_icmp .gt 16, 3) := by decide +kernel
theorem dX3_executeNext_89 : decode cX3_executeNext 89 = .ok (.aload_n 0, 1) := by decide +kernel
theorem dX3_executeNext_90 : decode cX3_executeNext 90 = .ok (.aload_n 1, 1) := by decide +kernel
theorem dX3_executeNext_91 : decode cX3_executeNext 91 = .ok (.iload_n 3, 1) := by decide +kernel
theorem dX3_executeNext_92 : decode cX3_executeNext 92 = .ok (.iload 4, 2) := by decide +kernel
theorem dX3_executeNext_94 : decode cX3_executeNext 94 = .ok (.iload 5, 2) := by decide +kernel
theorem dX3_executeNext_96 : decode cX3_executeNext 96 = .ok (.invokevirtual 173, 3) := by decide +kernel
theorem dX3_executeNext_99 : decode cX3_executeNext 99 = .ok (.goto 12, 3) := by decide +kernel
theorem dX3_executeNext_102 : decode cX3_executeNext 102 = .ok (.aload_n 1, 1) := by decide +kernel
theorem dX3_executeNext_103 : decode cX3_executeNext 103 = .ok (.iload_n 3, 1) := by decide +kernel
theorem dX3_executeNext_104 : decode cX3_executeNext 104 = .ok (.iload 4, 2) := by decide +kernel
theorem dX3_executeNext_106 : decode cX3_executeNext 106 = .ok (.iload 5, 2) := by decide +kernel
theorem dX3_executeNext_108 : decode cX3_executeNext 108 = .ok (.invokestatic 177, 3) := by decide +kernel
theorem dX3_executeNext_111 : decode cX3_executeNext 111 = .ok (.return_, 1) := by decide +kernel
theorem dX3_calculate_0 : decode cX3_calculate 0 = .ok (.iload_n 2, 1) := by decide +kernel
theorem dX3_calculate_1 : decode cX3_calculate 1 = .ok (.iconst 3, 1) := by decide +kernel
theorem dX3_calculate_2 : decode cX3_calculate 2 = .ok (.iand, 1) := by decide +kernel
theorem dX3_calculate_3 : decode cX3_calculate 3 = .ok (.istore 4, 2) := by decide +kernel
theorem dX3_calculate_5 : decode cX3_calculate 5 = .ok (.aload_n 0, 1) := by decide +kernel
theorem dX3_calculate_6 : decode cX3_calculate 6 = .ok (.iload_n 3, 1) := by decide +kernel
theorem dX3_calculate_7 : decode cX3_calculate 7 = .ok (.iconst 3, 1) := by decide +kernel
theorem dX3_calculate_8 : decode cX3_calculate 8 = .ok (.iand, 1) := by decide +kernel
theorem dX3_calculate_9 : decode cX3_calculate 9 = .ok (.iaload, 1) := by decide +kernel
theorem dX3_calculate_10 : decode cX3_calculate 10 = .ok (.istore 5, 2) := by decide +kernel
theorem dX3_calculate_12 : decode cX3_calculate 12 = .ok (.iload_n 1, 1) := by decide +kernel
theorem dX3_calculate_13 : decode cX3_calculate 13 = .ok (.tableswitch 65 0 2 #[27, 35, 50], 27) := by decide +kernel
theorem dX3_calculate_40 : decode cX3_calculate 40 = .ok (.aload_n 0, 1) := by decide +kernel
theorem dX3_calculate_41 : decode cX3_calculate 41 = .ok (.iload 4, 2) := by decide +kernel
theorem dX3_calculate_43 : decode cX3_calculate 43 = .ok (.iload_n 3, 1) := by decide +kernel
theorem dX3_calculate_44 : decode cX3_calculate 44 = .ok (.iastore, 1) := by decide +kernel
theorem dX3_calculate_45 : decode cX3_calculate 45 = .ok (.goto 45, 3) := by decide +kernel
theorem dX3_calculate_48 : decode cX3_calculate 48 = .ok (.aload_n 0, 1) := by decide +kernel
theorem dX3_calculate_49 : decode cX3_calculate 49 = .ok (.iload 4, 2) := by decide +kernel
theorem dX3_calculate_51 : decode cX3_calculate 51 = .ok (.aload_n 0, 1) := by decide +kernel
theorem dX3_calculate_52 : decode cX3_calculate 52 = .ok (.iload 4, 2) := by decide +kernel
theorem dX3_calculate_54 : decode cX3_calculate 54 = .ok (.iaload, 1) := by decide +kernel
theorem dX3_calculate_55 : decode cX3_calculate 55 = .ok (.iload 5, 2) := by decide +kernel
theorem dX3_calculate_57 : decode cX3_calculate 57 = .ok (.iadd, 1) := by decide +kernel
theorem dX3_calculate_58 : decode cX3_calculate 58 = .ok (.i2s, 1) := by decide +kernel
theorem dX3_calculate_59 : decode cX3_calculate 59 = .ok (.iastore, 1) := by decide +kernel
theorem dX3_calculate_60 : decode cX3_calculate 60 = .ok (.goto 30, 3) := by decide +kernel
theorem dX3_calculate_63 : decode cX3_calculate 63 = .ok (.aload_n 0, 1) := by decide +kernel
theorem dX3_calculate_64 : decode cX3_calculate 64 = .ok (.iload 4, 2) := by decide +kernel
theorem dX3_calculate_66 : decode cX3_calculate 66 = .ok (.aload_n 0, 1) := by decide +kernel
theorem dX3_calculate_67 : decode cX3_calculate 67 = .ok (.iload 4, 2) := by decide +kernel
theorem dX3_calculate_69 : decode cX3_calculate 69 = .ok (.iaload, 1) := by decide +kernel
theorem dX3_calculate_70 : decode cX3_calculate 70 = .ok (.iload 5, 2) := by decide +kernel
theorem dX3_calculate_72 : decode cX3_calculate 72 = .ok (.isub, 1) := by decide +kernel
theorem dX3_calculate_73 : decode cX3_calculate 73 = .ok (.i2s, 1) := by decide +kernel
theorem dX3_calculate_74 : decode cX3_calculate 74 = .ok (.iastore, 1) := by decide +kernel
theorem dX3_calculate_75 : decode cX3_calculate 75 = .ok (.goto 15, 3) := by decide +kernel
theorem dX3_calculate_78 : decode cX3_calculate 78 = .ok (.aload_n 0, 1) := by decide +kernel
theorem dX3_calculate_79 : decode cX3_calculate 79 = .ok (.iload 4, 2) := by decide +kernel
theorem dX3_calculate_81 : decode cX3_calculate 81 = .ok (.aload_n 0, 1) := by decide +kernel
theorem dX3_calculate_82 : decode cX3_calculate 82 = .ok (.iload 4, 2) := by decide +kernel
theorem dX3_calculate_84 : decode cX3_calculate 84 = .ok (.iaload, 1) := by decide +kernel
theorem dX3_calculate_85 : decode cX3_calculate 85 = .ok (.iload 5, 2) := by decide +kernel
theorem dX3_calculate_87 : decode cX3_calculate 87 = .ok (.imul, 1) := by decide +kernel
theorem dX3_calculate_88 : decode cX3_calculate 88 = .ok (.i2s, 1) := by decide +kernel
theorem dX3_calculate_89 : decode cX3_calculate 89 = .ok (.iastore, 1) := by decide +kernel
theorem dX3_calculate_90 : decode cX3_calculate 90 = .ok (.return_, 1) := by decide +kernel
set_option maxRecDepth 20000 in
theorem ggX3_reachMemory_X0_beginLoad : GoodIn wsX3_reachMemory wsX0_beginLoad := goodIn_r _ [8, 9, 10, 11, 12, 13, 14, 15, 16, 17, 18, 19, 20, 21, 22, 23] (by decide +kernel) (by decide +kernel)
set_option maxRecDepth 20000 in
theorem gX3_reachMemory_X0_beginLoad : GoodIn wsX3_reachMemory (wsV RX3 180 RX0 yX0_beginLoad wsX0_beginLoad) := goodIn_app (goodIn_of _ (by decide +kernel)) ggX3_reachMemory_X0_beginLoad
theorem dX3_reachMemory_0 : decode cX3_reachMemory 0 = .ok (.iload_n 3, 1) := by decide +kernel
theorem dX3_reachMemory_1 : decode cX3_reachMemory 1 = .ok (.iconst 3, 1) := by decide +kernel
theorem dX3_reachMemory_2 : decode cX3_reachMemory 2 = .ok (.iand, 1) := by decide +kernel
theorem dX3_reachMemory_3 : decode cX3_reachMemory 3 = .ok (.istore 5, 2) := by decide +kernel
theorem dX3_reachMemory_5 : decode cX3_reachMemory 5 = .ok (.aload_n 1, 1) := by decide +kernel
theorem dX3_reachMemory_6 : decode cX3_reachMemory 6 = .ok (.getfield 140, 3) := by decide +kernel
theorem dX3_reachMemory_9 : decode cX3_reachMemory 9 = .ok (.iload 4, 2) := by decide +kernel
theorem dX3_reachMemory_11 : decode cX3_reachMemory 11 = .ok (.iconst 3, 1) := by decide +kernel
theorem dX3_reachMemory_12 : decode cX3_reachMemory 12 = .ok (.iand, 1) := by decide +kernel
theorem dX3_reachMemory_13 : decode cX3_reachMemory 13 = .ok (.iaload, 1) := by decide +kernel
theorem dX3_reachMemory_14 : decode cX3_reachMemory 14 = .ok (.bipush 31, 2) := by decide +kernel
theorem dX3_reachMemory_16 : decode cX3_reachMemory 16 = .ok (.iand, 1) := by decide +kernel
theorem dX3_reachMemory_17 : decode cX3_reachMemory 17 = .ok (.istore 6, 2) := by decide +kernel
theorem dX3_reachMemory_19 : decode cX3_reachMemory 19 = .ok (.iload_n 2, 1) := by decide +kernel
theorem dX3_reachMemory_20 : decode cX3_reachMemory 20 = .ok (.iconst 4, 1) := by decide +kernel
theorem dX3_reachMemory_21 : decode cX3_reachMemory 21 = .ok (.if_icmp .ne 25, 3) := by decide +kernel
theorem dX3_reachMemory_24 : decode cX3_reachMemory 24 = .ok (.aload_n 1, 1) := by decide +kernel
theorem dX3_reachMemory_25 : decode cX3_reachMemory 25 = .ok (.iload 5, 2) := by decide +kernel
theorem dX3_reachMemory_27 : decode cX3_reachMemory 27 = .ok (.iload 6, 2) := by decide +kernel
theorem dX3_reachMemory_29 : decode cX3_reachMemory 29 = .ok (.aload_n 0, 1) := by decide +kernel
theorem dX3_reachMemory_30 : decode cX3_reachMemory 30 = .ok (.getfield 62, 3) := by decide +kernel
theorem dX3_reachMemory_33 : decode cX3_reachMemory 33 = .ok (.iconst 1, 1) := by decide +kernel
theorem dX3_reachMemory_34 : decode cX3_reachMemory 34 = .ok (.iadd, 1) := by decide +kernel
theorem dX3_reachMemory_35 : decode cX3_reachMemory 35 = .ok (.aload_n 0, 1) := by decide +kernel
theorem dX3_reachMemory_36 : decode cX3_reachMemory 36 = .ok (.getfield 34, 3) := by decide +kernel
theorem dX3_reachMemory_39 : decode cX3_reachMemory 39 = .ok (.iconst 0, 1) := by decide +kernel
theorem dX3_reachMemory_40 : decode cX3_reachMemory 40 = .ok (.iaload, 1) := by decide +kernel
theorem dX3_reachMemory_41 : decode cX3_reachMemory 41 = .ok (.iadd, 1) := by decide +kernel
theorem dX3_reachMemory_42 : decode cX3_reachMemory 42 = .ok (.invokevirtual 180, 3) := by decide +kernel
theorem dX3_reachMemory_45 : decode cX3_reachMemory 45 = .ok (.return_, 1) := by decide +kernel
theorem dX3_reachMemory_46 : decode cX3_reachMemory 46 = .ok (.aload_n 0, 1) := by decide +kernel
theorem dX3_reachMemory_47 : decode cX3_reachMemory 47 = .ok (.getfield 28, 3) := by decide +kernel
theorem dX3_reachMemory_50 : decode cX3_reachMemory 50 = .ok (.iload 6, 2) := by decide +kernel
theorem dX3_reachMemory_52 : decode cX3_reachMemory 52 = .ok (.iaload, 1) := by decide +kernel
theorem dX3_reachMemory_53 : decode cX3_reachMemory 53 = .ok (.istore 7, 2) := by decide +kernel
theorem dX3_reachMemory_55 : decode cX3_reachMemory 55 = .ok (.aload_n 0, 1) := by decide +kernel
theorem dX3_reachMemory_56 : decode cX3_reachMemory 56 = .ok (.getfield 28, 3) := by decide +kernel
theorem dX3_reachMemory_59 : decode cX3_reachMemory 59 = .ok (.iload 6, 2) := by decide +kernel
theorem dX3_reachMemory_61 : decode cX3_reachMemory 61 = .ok (.aload_n 1, 1) := by decide +kernel
theorem dX3_reachMemory_62 : decode cX3_reachMemory 62 = .ok (.getfield 140, 3) := by decide +kernel
theorem dX3_reachMemory_65 : decode cX3_reachMemory 65 = .ok (.iload 5, 2) := by decide +kernel
theorem dX3_reachMemory_67 : decode cX3_reachMemory 67 = .ok (.iaload, 1) := by decide +kernel
theorem dX3_reachMemory_68 : decode cX3_reachMemory 68 = .ok (.iastore, 1) := by decide +kernel
theorem dX3_reachMemory_69 : decode cX3_reachMemory 69 = .ok (.iload_n 2, 1) := by decide +kernel
theorem dX3_reachMemory_70 : decode cX3_reachMemory 70 = .ok (.bipush 6, 2) := by decide +kernel
theorem dX3_reachMemory_72 : decode cX3_reachMemory 72 = .ok (.if_icmp .ne 12, 3) := by decide +kernel
theorem dX3_reachMemory_75 : decode cX3_reachMemory 75 = .ok (.aload_n 1, 1) := by decide +kernel
theorem dX3_reachMemory_76 : decode cX3_reachMemory 76 = .ok (.getfield 140, 3) := by decide +kernel
theorem dX3_reachMemory_79 : decode cX3_reachMemory 79 = .ok (.iload 5, 2) := by decide +kernel
theorem dX3_reachMemory_81 : decode cX3_reachMemory 81 = .ok (.iload 7, 2) := by decide +kernel
theorem dX3_reachMemory_83 : decode cX3_reachMemory 83 = .ok (.iastore, 1) := by decide +kernel
theorem dX3_reachMemory_84 : decode cX3_reachMemory 84 = .ok (.return_, 1) := by decide +kernel
theorem dX3_steer_0 : decode cX3_steer 0 = .ok (.aload_n 0, 1) := by decide +kernel
theorem dX3_steer_1 : decode cX3_steer 1 = .ok (.getfield 140, 3) := by decide +kernel
theorem dX3_steer_4 : decode cX3_steer 4 = .ok (.iload_n 2, 1) := by decide +kernel
theorem dX3_steer_5 : decode cX3_steer 5 = .ok (.iconst 3, 1) := by decide +kernel
theorem dX3_steer_6 : decode cX3_steer 6 = .ok (.iand, 1) := by decide +kernel
theorem dX3_steer_7 : decode cX3_steer 7 = .ok (.iaload, 1) := by decide +kernel
theorem dX3_steer_8 : decode cX3_steer 8 = .ok (.istore 4, 2) := by decide +kernel
theorem dX3_steer_10 : decode cX3_steer 10 = .ok (.iload_n 1, 1) := by decide +kernel
theorem dX3_steer_11 : decode cX3_steer 11 = .ok (.tableswitch 85 7 10 #[29, 37, 57, 77], 29) := by decide +kernel
theorem dX3_steer_40 : decode cX3_steer 40 = .ok (.aload_n 0, 1) := by decide +kernel
theorem dX3_steer_41 : decode cX3_steer 41 = .ok (.iload_n 2, 1) := by decide +kernel
theorem dX3_steer_42 : decode cX3_steer 42 = .ok (.putfield 118, 3) := by decide +kernel
theorem dX3_steer_45 : decode cX3_steer 45 = .ok (.goto 56, 3) := by decide +kernel
theorem dX3_steer_48 : decode cX3_steer 48 = .ok (.aload_n 0, 1) := by decide +kernel
theorem dX3_steer_49 : decode cX3_steer 49 = .ok (.iload 4, 2) := by decide +kernel
theorem dX3_steer_51 : decode cX3_steer 51 = .ok (.ifCond .ne 7, 3) := by decide +kernel
theorem dX3_steer_54 : decode cX3_steer 54 = .ok (.iload_n 3, 1) := by decide +kernel
theorem dX3_steer_55 : decode cX3_steer 55 = .ok (.goto 7, 3) := by decide +kernel
theorem dX3_steer_58 : decode cX3_steer 58 = .ok (.aload_n 0, 1) := by decide +kernel
theorem dX3_steer_59 : decode cX3_steer 59 = .ok (.getfield 118, 3) := by decide +kernel
theorem dX3_steer_62 : decode cX3_steer 62 = .ok (.putfield 118, 3) := by decide +kernel
theorem dX3_steer_65 : decode cX3_steer 65 = .ok (.goto 36, 3) := by decide +kernel
theorem dX3_steer_68 : decode cX3_steer 68 = .ok (.aload_n 0, 1) := by decide +kernel
theorem dX3_steer_69 : decode cX3_steer 69 = .ok (.iload 4, 2) := by decide +kernel
theorem dX3_steer_71 : decode cX3_steer 71 = .ok (.ifCond .ge 7, 3) := by decide +kernel
theorem dX3_steer_74 : decode cX3_steer 74 = .ok (.iload_n 3, 1) := by decide +kernel
theorem dX3_steer_75 : decode cX3_steer 75 = .ok (.goto 7, 3) := by decide +kernel
theorem dX3_steer_78 : decode cX3_steer 78 = .ok (.aload_n 0, 1) := by decide +kernel
theorem dX3_steer_79 : decode cX3_steer 79 = .ok (.getfield 118, 3) := by decide +kernel
theorem dX3_steer_82 : decode cX3_steer 82 = .ok (.putfield 118, 3) := by decide +kernel
theorem dX3_steer_85 : decode cX3_steer 85 = .ok (.goto 16, 3) := by decide +kernel
theorem dX3_steer_88 : decode cX3_steer 88 = .ok (.aload_n 0, 1) := by decide +kernel
theorem dX3_steer_89 : decode cX3_steer 89 = .ok (.iconst 3, 1) := by decide +kernel
theorem dX3_steer_90 : decode cX3_steer 90 = .ok (.putfield 102, 3) := by decide +kernel
theorem dX3_steer_93 : decode cX3_steer 93 = .ok (.goto 8, 3) := by decide +kernel
theorem dX3_steer_96 : decode cX3_steer 96 = .ok (.aload_n 0, 1) := by decide +kernel
theorem dX3_steer_97 : decode cX3_steer 97 = .ok (.iconst 0, 1) := by decide +kernel
theorem dX3_steer_98 : decode cX3_steer 98 = .ok (.putfield 102, 3) := by decide +kernel
theorem dX3_steer_101 : decode cX3_steer 101 = .ok (.return_, 1) := by decide +kernel
set_option maxRecDepth 20000 in
theorem ggX4_init_X2_init : GoodIn wsX4_init wsX2_init := goodIn_r _ [12, 13, 2, 3, 14, 15, 16, 17, 18, 19, 20, 21, 28, 29] (by decide +kernel) (by decide +kernel)
set_option maxRecDepth 20000 in
theorem gX4_init_X2_init : GoodIn wsX4_init (wsX2_init) := ggX4_init_X2_init
theorem dX4_init_0 : decode cX4_init 0 = .ok (.aload_n 0, 1) := by decide +kernel
theorem dX4_init_1 : decode cX4_init 1 = .ok (.invokespecial 3, 3) := by decide +kernel
theorem dX4_init_4 : decode cX4_init 4 = .ok (.aload_n 0, 1) := by decide +kernel
theorem dX4_init_5 : decode cX4_init 5 = .ok (.bipush 100, 2) := by decide +kernel
theorem dX4_init_7 : decode cX4_init 7 = .ok (.newarray .char, 2) := by decide +kernel
theorem dX4_init_9 : decode cX4_init 9 = .ok (.putfield 11, 3) := by decide +kernel
theorem dX4_init_12 : decode cX4_init 12 = .ok (.aload_n 0, 1) := by decide +kernel
theorem dX4_init_13 : decode cX4_init 13 = .ok (.new 15, 3) := by decide +kernel
theorem dX4_init_16 : decode cX4_init 16 = .ok (.dup, 1) := by decide +kernel
theorem dX4_init_17 : decode cX4_init 17 = .ok (.invokespecial 17, 3) := by decide +kernel
theorem dX4_init_20 : decode cX4_init 20 = .ok (.putfield 18, 3) := by decide +kernel
theorem dX4_init_23 : decode cX4_init 23 = .ok (.return_, 1) := by decide +kernel
theorem dX4_add_0 : decode cX4_add 0 = .ok (.aload_n 0, 1) := by decide +kernel
theorem dX4_add_1 : decode cX4_add 1 = .ok (.getfield 22, 3) := by decide +kernel
theorem dX4_add_4 : decode cX4_add 4 = .ok (.bipush 100, 2) := by decide +kernel
theorem dX4_add_6 : decode cX4_add 6 = .ok (.if_icmp .ge 23, 3) := by decide +kernel
theorem dX4_add_9 : decode cX4_add 9 = .ok (.aload_n 0, 1) := by decide +kernel
theorem dX4_add_10 : decode cX4_add 10 = .ok (.getfield 11, 3) := by decide +kernel
theorem dX4_add_13 : decode cX4_add 13 = .ok (.aload_n 0, 1) := by decide +kernel
theorem dX4_add_14 : decode cX4_add 14 = .ok (.getfield 22, 3) := by decide +kernel
theorem dX4_add_17 : decode cX4_add 17 = .ok (.iload_n 1, 1) := by decide +kernel
theorem dX4_add_18 : decode cX4_add 18 = .ok (.castore, 1) := by decide +kernel
theorem dX4_add_19 : decode cX4_add 19 = .ok (.aload_n 0, 1) := by decide +kernel
theorem dX4_add_20 : decode cX4_add 20 = .ok (.dup, 1) := by decide +kernel
theorem dX4_add_21 : decode cX4_add 21 = .ok (.getfield 22, 3) := by decide +kernel
theorem dX4_add_24 : decode cX4_add 24 = .ok (.iconst 1, 1) := by decide +kernel
theorem dX4_add_25 : decode cX4_add 25 = .ok (.iadd, 1) := by decide +kernel
theorem dX4_add_26 : decode cX4_add 26 = .ok (.putfield 22, 3) := by decide +kernel
theorem dX4_add_29 : decode cX4_add 29 = .ok (.return_, 1) := by decide +kernel
set_option maxRecDepth 20000 in
theorem ggX4_findFault_X4_readInstruction : GoodIn wsX4_findFault wsX4_readInstruction := goodIn_r _ [9, 1, 3, 2, 10, 11, 12, 13, 14, 15, 16, 17, 18, 19, 20, 21, 22, 23, 24, 25, 26, 27, 28, 29, 30, 31, 32, 33, 34, 35, 36, 37, 38, 39, 40, 41, 42, 43, 44, 45, 46, 47, 48, 49, 50, 51, 52, 53, 54, 55, 56, 57, 58, 59, 60, 61, 62, 63, 64, 65, 66, 67, 68, 69, 70, 71, 72, 73, 74, 75, 76, 77, 78, 79, 80, 81, 82, 83, 84, 85, 86, 87, 88, 89, 90, 91, 92, 93, 94, 95, 96, 97, 98, 99, 100, 101, 102, 8, 103, 104, 4, 105, 106, 107, 108, 109, 110, 111, 112, 113, 114, 115, 116, 117, 118, 119, 120, 121, 122, 123, 124, 125, 126, 127, 128, 129, 130, 131, 132, 133, 134, 135, 136, 137, 138, 139, 140, 141, 142, 143, 144, 145, 146, 147, 148, 149] (by decide +kernel) (by decide +kernel)
set_option maxRecDepth 20000 in
theorem gX4_findFault_X4_readInstruction : GoodIn wsX4_findFault (wsV RX4 32 RX4 yX4_readInstruction wsX4_readInstruction) := goodIn_app (goodIn_of _ (by decide +kernel)) ggX4_findFault_X4_readInstruction
set_option maxRecDepth 20000 in
theorem ggX4_findFault_X4_readSign : GoodIn wsX4_findFault wsX4_readSign := goodIn_r _ [132, 1, 3, 10, 142, 143, 144, 145, 146, 147] (by decide +kernel) (by decide +kernel)
set_option maxRecDepth 20000 in
theorem gX4_findFault_X4_readSign : GoodIn wsX4_findFault (wsV RX4 36 RX4 yX4_readSign wsX4_readSign) := goodIn_app (goodIn_of _ (by decide +kernel)) ggX4_findFault_X4_readSign
theorem dX4_findFault_0 : decode cX4_findFault 0 = .ok (.aload_n 0, 1) := by decide +kernel
theorem dX4_findFault_1 : decode cX4_findFault 1 = .ok (.iconst 0, 1) := by decide +kernel
theorem dX4_findFault_2 : decode cX4_findFault 2 = .ok (.putfield 26, 3) := by decide +kernel
theorem dX4_findFault_5 : decode cX4_findFault 5 = .ok (.aload_n 0, 1) := by decide +kernel
theorem dX4_findFault_6 : decode cX4_findFault 6 = .ok (.iconst 0, 1) := by decide +kernel
theorem dX4_findFault_7 : decode cX4_findFault 7 = .ok (.putfield 29, 3) := by decide +kernel
theorem dX4_findFault_10 : decode cX4_findFault 10 = .ok (.aload_n 0, 1) := by decide +kernel
theorem dX4_findFault_11 : decode cX4_findFault 11 = .ok (.invokevirtual 32, 3) := by decide +kernel
theorem dX4_findFault_14 : decode cX4_findFault 14 = .ok (.istore_n 1, 1) := by decide +kernel
theorem dX4_findFault_15 : decode cX4_findFault 15 = .ok (.iconst 0, 1) := by decide +kernel
theorem dX4_findFault_16 : decode cX4_findFault 16 = .ok (.istore_n 2, 1) := by decide +kernel
theorem dX4_findFault_17 : decode cX4_findFault 17 = .ok (.iload_n 2, 1) := by decide +kernel
theorem dX4_findFault_18 : decode cX4_findFault 18 = .ok (.bipush 100, 2) := by decide +kernel
theorem dX4_findFault_20 : decode cX4_findFault 20 = .ok (.if_icmp .ge 46, 3) := by decide +kernel
theorem dX4_findFault_23 : decode cX4_findFault 23 = .ok (.iload_n 1, 1) := by decide +kernel
theorem dX4_findFault_24 : decode cX4_findFault 24 = .ok (.ifCond .eq 42, 3) := by decide +kernel
theorem dX4_findFault_27 : decode cX4_findFault 27 = .ok (.aload_n 0, 1) := by decide +kernel
theorem dX4_findFault_28 : decode cX4_findFault 28 = .ok (.getfield 26, 3) := by decide +kernel
theorem dX4_findFault_31 : decode cX4_findFault 31 = .ok (.aload_n 0, 1) := by decide +kernel
theorem dX4_findFault_32 : decode cX4_findFault 32 = .ok (.getfield 22, 3) := by decide +kernel
theorem dX4_findFault_35 : decode cX4_findFault 35 = .ok (.if_icmp .ge 31, 3) := by decide +kernel
theorem dX4_findFault_38 : decode cX4_findFault 38 = .ok (.aload_n 0, 1) := by decide +kernel
theorem dX4_findFault_39 : decode cX4_findFault 39 = .ok (.bipush 59, 2) := by decide +kernel
theorem dX4_findFault_41 : decode cX4_findFault 41 = .ok (.invokevirtual 36, 3) := by decide +kernel
theorem dX4_findFault_44 : decode cX4_findFault 44 = .ok (.ifCond .eq 14, 3) := by decide +kernel
theorem dX4_findFault_47 : decode cX4_findFault 47 = .ok (.aload_n 0, 1) := by decide +kernel
theorem dX4_findFault_48 : decode cX4_findFault 48 = .ok (.invokevirtual 32, 3) := by decide +kernel
theorem dX4_findFault_51 : decode cX4_findFault 51 = .ok (.ifCond .eq 7, 3) := by decide +kernel
theorem dX4_findFault_54 : decode cX4_findFault 54 = .ok (.iconst 1, 1) := by decide +kernel
theorem dX4_findFault_55 : decode cX4_findFault 55 = .ok (.goto 4, 3) := by decide +kernel
theorem dX4_findFault_58 : decode cX4_findFault 58 = .ok (.iconst 0, 1) := by decide +kernel
theorem dX4_findFault_59 : decode cX4_findFault 59 = .ok (.istore_n 1, 1) := by decide +kernel
theorem dX4_findFault_60 : decode cX4_findFault 60 = .ok (.iinc 2 1, 3) := by decide +kernel
theorem dX4_findFault_63 : decode cX4_findFault 63 = .ok (.goto (-46), 3) := by decide +kernel
theorem dX4_findFault_66 : decode cX4_findFault 66 = .ok (.iload_n 1, 1) := by decide +kernel
theorem dX4_findFault_67 : decode cX4_findFault 67 = .ok (.ifCond .eq 8, 3) := by decide +kernel
theorem dX4_findFault_70 : decode cX4_findFault 70 = .ok (.ldc 40, 2) := by decide +kernel
theorem dX4_findFault_72 : decode cX4_findFault 72 = .ok (.goto 7, 3) := by decide +kernel
theorem dX4_findFault_75 : decode cX4_findFault 75 = .ok (.aload_n 0, 1) := by decide +kernel
theorem dX4_findFault_76 : decode cX4_findFault 76 = .ok (.getfield 26, 3) := by decide +kernel
theorem dX4_findFault_79 : decode cX4_findFault 79 = .ok (.ireturn, 1) := by decide +kernel
set_option maxRecDepth 20000 in
theorem ggX4_readInstruction_J0_indexOf_0f7a4 : GoodIn wsX4_readInstruction wsJ0_indexOf_0f7a4 := goodIn_r _ [9, 10, 11, 12, 8, 13, 14, 15, 16, 17, 18, 19, 20, 21, 22, 23, 24, 25, 26, 27, 28, 29, 30, 31, 32, 33, 34, 35, 36, 37, 38, 39, 40, 41, 42, 43, 44, 45, 46, 47, 48, 49, 50, 51, 52, 53, 54, 55, 56, 57, 58, 59, 60, 61, 62, 63, 64, 65, 66, 67, 68, 69, 70, 71, 72, 73, 74, 75, 76, 77, 78, 79, 80, 81, 82, 83, 84, 85, 86, 87, 88, 89, 90, 91, 92, 93] (by decide +kernel) (by decide +kernel)
set_option maxRecDepth 20000 in
theorem gX4_readInstruction_J0_indexOf_0f7a4 : GoodIn wsX4_readInstruction (wsV RX4 43 RJ0 yJ0_indexOf_0f7a4 wsJ0_indexOf_0f7a4) := goodIn_app (goodIn_of _ (by decide +kernel)) ggX4_readInstruction_J0_indexOf_0f7a4
set_option maxRecDepth 20000 in
theorem ggX4_readInstruction_X4_beginRow : GoodIn wsX4_readInstruction wsX4_beginRow := goodIn_r _ [98, 99, 3, 100, 101, 138, 139, 140, 141, 142, 143, 144, 145] (by decide +kernel) (by decide +kernel)
set_option maxRecDepth 20000 in
theorem gX4_readInstruction_X4_beginRow : GoodIn wsX4_readInstruction (wsV RX4 49 RX4 yX4_beginRow wsX4_beginRow) := goodIn_app (goodIn_of _ (by decide +kernel)) ggX4_readInstruction_X4_beginRow
set_option maxRecDepth 20000 in
theorem ggX4_readInstruction_X4_readOperands : GoodIn wsX4_readInstruction wsX4_readOperands := goodIn_r _ [105, 106, 107, 108, 97, 109, 110, 111, 112, 113, 1, 2, 4, 114, 115, 116, 117, 118, 119, 120, 121, 122, 123, 124, 101, 99, 3, 125, 126, 127, 128, 129, 130, 131, 132, 133, 134, 135, 136, 137, 38, 35, 39, 138, 139, 140, 141, 142, 143, 144, 145] (by decide +kernel) (by decide +kernel)
set_option maxRecDepth 20000 in
theorem gX4_readInstruction_X4_readOperands : GoodIn wsX4_readInstruction (wsV RX4 53 RX4 yX4_readOperands wsX4_readOperands) := goodIn_app (goodIn_of _ (by decide +kernel)) ggX4_readInstruction_X4_readOperands
theorem dX4_readInstruction_0 : decode cX4_readInstruction 0 = .ok (.aload_n 0, 1) := by decide +kernel
theorem dX4_readInstruction_1 : decode cX4_readInstruction 1 = .ok (.getfield 26, 3) := by decide +kernel
theorem dX4_readInstruction_4 : decode cX4_readInstruction 4 = .ok (.aload_n 0, 1) := by decide +kernel
theorem dX4_readInstruction_5 : decode cX4_readInstruction 5 = .ok (.getfield 22, 3) := by decide +kernel
theorem dX4_readInstruction_8 : decode cX4_readInstruction 8 = .ok (.if_icmp .ge 12, 3) := by decide +kernel
theorem dX4_readInstruction_11 : decode cX4_readInstruction 11 = .ok (.aload_n 0, 1) := by decide +kernel
theorem dX4_readInstruction_12 : decode cX4_readInstruction 12 = .ok (.getfield 29, 3) := by decide +kernel
theorem dX4_readInstruction_15 : decode cX4_readInstruction 15 = .ok (.bipush 50, 2) := by decide +kernel
theorem dX4_readInstruction_17 : decode cX4_readInstruction 17 = .ok (.if_icmp .lt 5, 3) := by decide +kernel
theorem dX4_readInstruction_20 : decode cX4_readInstruction 20 = .ok (.iconst 0, 1) := by decide +kernel
theorem dX4_readInstruction_21 : decode cX4_readInstruction 21 = .ok (.ireturn, 1) := by decide +kernel
theorem dX4_readInstruction_22 : decode cX4_readInstruction 22 = .ok (.ldc 41, 2) := by decide +kernel
theorem dX4_readInstruction_24 : decode cX4_readInstruction 24 = .ok (.aload_n 0, 1) := by decide +kernel
theorem dX4_readInstruction_25 : decode cX4_readInstruction 25 = .ok (.getfield 11, 3) := by decide +kernel
theorem dX4_readInstruction_28 : decode cX4_readInstruction 28 = .ok (.aload_n 0, 1) := by decide +kernel
theorem dX4_readInstruction_29 : decode cX4_readInstruction 29 = .ok (.getfield 26, 3) := by decide +kernel
theorem dX4_readInstruction_32 : decode cX4_readInstruction 32 = .ok (.caload, 1) := by decide +kernel
theorem dX4_readInstruction_33 : decode cX4_readInstruction 33 = .ok (.invokevirtual 43, 3) := by decide +kernel
theorem dX4_readInstruction_36 : decode cX4_readInstruction 36 = .ok (.istore_n 1, 1) := by decide +kernel
theorem dX4_readInstruction_37 : decode cX4_readInstruction 37 = .ok (.iload_n 1, 1) := by decide +kernel
theorem dX4_readInstruction_38 : decode cX4_readInstruction 38 = .ok (.ifCond .ge 5, 3) := by decide +kernel
theorem dX4_readInstruction_41 : decode cX4_readInstruction 41 = .ok (.iconst 0, 1) := by decide +kernel
theorem dX4_readInstruction_42 : decode cX4_readInstruction 42 = .ok (.ireturn, 1) := by decide +kernel
theorem dX4_readInstruction_43 : decode cX4_readInstruction 43 = .ok (.aload_n 0, 1) := by decide +kernel
theorem dX4_readInstruction_44 : decode cX4_readInstruction 44 = .ok (.dup, 1) := by decide +kernel
theorem dX4_readInstruction_45 : decode cX4_readInstruction 45 = .ok (.getfield 26, 3) := by decide +kernel
theorem dX4_readInstruction_48 : decode cX4_readInstruction 48 = .ok (.iconst 1, 1) := by decide +kernel
theorem dX4_readInstruction_49 : decode cX4_readInstruction 49 = .ok (.iadd, 1) := by decide +kernel
theorem dX4_readInstruction_50 : decode cX4_readInstruction 50 = .ok (.putfield 26, 3) := by decide +kernel
theorem dX4_readInstruction_53 : decode cX4_readInstruction 53 = .ok (.aload_n 0, 1) := by decide +kernel
theorem dX4_readInstruction_54 : decode cX4_readInstruction 54 = .ok (.iload_n 1, 1) := by decide +kernel
theorem dX4_readInstruction_55 : decode cX4_readInstruction 55 = .ok (.invokevirtual 49, 3) := by decide +kernel
theorem dX4_readInstruction_58 : decode cX4_readInstruction 58 = .ok (.aload_n 0, 1) := by decide +kernel
theorem dX4_readInstruction_59 : decode cX4_readInstruction 59 = .ok (.iload_n 1, 1) := by decide +kernel
theorem dX4_readInstruction_60 : decode cX4_readInstruction 60 = .ok (.invokevirtual 53, 3) := by decide +kernel
theorem dX4_readInstruction_63 : decode cX4_readInstruction 63 = .ok (.ifCond .ne 5, 3) := by decide +kernel
theorem dX4_readInstruction_66 : decode cX4_readInstruction 66 = .ok (.iconst 0, 1) := by decide +kernel
theorem dX4_readInstruction_67 : decode cX4_readInstruction 67 = .ok (.ireturn, 1) := by decide +kernel
theorem dX4_readInstruction_68 : decode cX4_readInstruction 68 = .ok (.aload_n 0, 1) := by decide +kernel
theorem dX4_readInstruction_69 : decode cX4_readInstruction 69 = .ok (.dup, 1) := by decide +kernel
theorem dX4_readInstruction_70 : decode cX4_readInstruction 70 = .ok (.getfield 29, 3) := by decide +kernel
theorem dX4_readInstruction_73 : decode cX4_readInstruction 73 = .ok (.iconst 1, 1) := by decide +kernel
theorem dX4_readInstruction_74 : decode cX4_readInstruction 74 = .ok (.iadd, 1) := by decide +kernel
theorem dX4_readInstruction_75 : decode cX4_readInstruction 75 = .ok (.putfield 29, 3) := by decide +kernel
theorem dX4_readInstruction_78 : decode cX4_readInstruction 78 = .ok (.iconst 1, 1) := by decide +kernel
theorem dX4_readInstruction_79 : decode cX4_readInstruction 79 = .ok (.ireturn, 1) := by decide +kernel
theorem dX4_beginRow_0 : decode cX4_beginRow 0 = .ok (.aload_n 0, 1) := by decide +kernel
theorem dX4_beginRow_1 : decode cX4_beginRow 1 = .ok (.getfield 18, 3) := by decide +kernel
theorem dX4_beginRow_4 : decode cX4_beginRow 4 = .ok (.getfield 57, 3) := by decide +kernel
theorem dX4_beginRow_7 : decode cX4_beginRow 7 = .ok (.aload_n 0, 1) := by decide +kernel
theorem dX4_beginRow_8 : decode cX4_beginRow 8 = .ok (.getfield 29, 3) := by decide +kernel
theorem dX4_beginRow_11 : decode cX4_beginRow 11 = .ok (.iload_n 1, 1) := by decide +kernel
theorem dX4_beginRow_12 : decode cX4_beginRow 12 = .ok (.iastore, 1) := by decide +kernel
theorem dX4_beginRow_13 : decode cX4_beginRow 13 = .ok (.aload_n 0, 1) := by decide +kernel
theorem dX4_beginRow_14 : decode cX4_beginRow 14 = .ok (.getfield 18, 3) := by decide +kernel
theorem dX4_beginRow_17 : decode cX4_beginRow 17 = .ok (.getfield 61, 3) := by decide +kernel
theorem dX4_beginRow_20 : decode cX4_beginRow 20 = .ok (.aload_n 0, 1) := by decide +kernel
theorem dX4_beginRow_21 : decode cX4_beginRow 21 = .ok (.getfield 29, 3) := by decide +kernel
theorem dX4_beginRow_24 : decode cX4_beginRow 24 = .ok (.iconst 2, 1) := by decide +kernel
theorem dX4_beginRow_25 : decode cX4_beginRow 25 = .ok (.imul, 1) := by decide +kernel
theorem dX4_beginRow_26 : decode cX4_beginRow 26 = .ok (.ldc 40, 2) := by decide +kernel
theorem dX4_beginRow_28 : decode cX4_beginRow 28 = .ok (.iastore, 1) := by decide +kernel
theorem dX4_beginRow_29 : decode cX4_beginRow 29 = .ok (.aload_n 0, 1) := by decide +kernel
theorem dX4_beginRow_30 : decode cX4_beginRow 30 = .ok (.getfield 18, 3) := by decide +kernel
theorem dX4_beginRow_33 : decode cX4_beginRow 33 = .ok (.getfield 61, 3) := by decide +kernel
theorem dX4_beginRow_36 : decode cX4_beginRow 36 = .ok (.aload_n 0, 1) := by decide +kernel
theorem dX4_beginRow_37 : decode cX4_beginRow 37 = .ok (.getfield 29, 3) := by decide +kernel
theorem dX4_beginRow_40 : decode cX4_beginRow 40 = .ok (.iconst 2, 1) := by decide +kernel
theorem dX4_beginRow_41 : decode cX4_beginRow 41 = .ok (.imul, 1) := by decide +kernel
theorem dX4_beginRow_42 : decode cX4_beginRow 42 = .ok (.iconst 1, 1) := by decide +kernel
theorem dX4_beginRow_43 : decode cX4_beginRow 43 = .ok (.iadd, 1) := by decide +kernel
theorem dX4_beginRow_44 : decode cX4_beginRow 44 = .ok (.ldc 40, 2) := by decide +kernel
theorem dX4_beginRow_46 : decode cX4_beginRow 46 = .ok (.iastore, 1) := by decide +kernel
theorem dX4_beginRow_47 : decode cX4_beginRow 47 = .ok (.aload_n 0, 1) := by decide +kernel
theorem dX4_beginRow_48 : decode cX4_beginRow 48 = .ok (.iconst 0, 1) := by decide +kernel
theorem dX4_beginRow_49 : decode cX4_beginRow 49 = .ok (.putfield 64, 3) := by decide +kernel
theorem dX4_beginRow_52 : decode cX4_beginRow 52 = .ok (.return_, 1) := by decide +kernel
set_option maxRecDepth 20000 in
theorem ggX4_readOperands_X4_readRegister : GoodIn wsX4_readOperands wsX4_readRegister := goodIn_r _ [5, 6, 7, 8, 4, 9, 10, 11, 12, 13, 14, 15, 16, 17, 18, 19, 20, 21, 22, 23, 24, 25, 26, 43, 44, 45, 46, 47, 48, 49, 50] (by decide +kernel) (by decide +kernel)
set_option maxRecDepth 20000 in
theorem gX4_readOperands_X4_readRegister : GoodIn wsX4_readOperands (wsV RX4 67 RX4 yX4_readRegister wsX4_readRegister) := goodIn_app (goodIn_of _ (by decide +kernel)) ggX4_readOperands_X4_readRegister
set_option maxRecDepth 20000 in
theorem ggX4_readOperands_X4_readSign : GoodIn wsX4_readOperands wsX4_readSign := goodIn_r _ [30, 10, 11, 12, 43, 44, 45, 46, 47, 48] (by decide +kernel) (by decide +kernel)
set_option maxRecDepth 20000 in
theorem gX4_readOperands_X4_readSign : GoodIn wsX4_readOperands (wsV RX4 36 RX4 yX4_readSign wsX4_readSign) := goodIn_app (goodIn_of _ (by decide +kernel)) ggX4_readOperands_X4_readSign
set_option maxRecDepth 20000 in
theorem ggX4_readOperands_X4_readNumber : GoodIn wsX4_readOperands wsX4_readNumber := goodIn_r _ [34, 27, 28, 29, 4, 30, 10, 11, 12, 6, 7, 8, 9, 13, 14, 15, 16, 17, 18, 19, 20, 21, 22, 23, 24, 25, 26, 43, 44, 45, 46, 47, 48, 49, 50] (by decide +kernel) (by decide +kernel)
set_option maxRecDepth 20000 in
theorem gX4_readOperands_X4_readNumber : GoodIn wsX4_readOperands (wsV RX4 70 RX4 yX4_readNumber wsX4_readNumber) := goodIn_app (goodIn_of _ (by decide +kernel)) ggX4_readOperands_X4_readNumber
set_option maxRecDepth 20000 in
theorem ggX4_readOperands_X4_readPlace : GoodIn wsX4_readOperands wsX4_readPlace := goodIn_r _ [38, 39, 40, 41, 42, 6, 7, 8, 4, 9, 10, 11, 12, 13, 14, 15, 16, 17, 18, 19, 20, 21, 22, 23, 24, 25, 26, 43, 44, 45, 46, 47, 48, 49, 50] (by decide +kernel) (by decide +kernel)
set_option maxRecDepth 20000 in
theorem gX4_readOperands_X4_readPlace : GoodIn wsX4_readOperands (wsV RX4 73 RX4 yX4_readPlace wsX4_readPlace) := goodIn_app (goodIn_of _ (by decide +kernel)) ggX4_readOperands_X4_readPlace
theorem dX4_readOperands_0 : decode cX4_readOperands 0 = .ok (.iload_n 1, 1) := by decide +kernel
theorem dX4_readOperands_1 : decode cX4_readOperands 1 = .ok (.tableswitch 128 0 11 #[63, 128, 128, 128, 128, 128, 128, 92, 97, 97, 126, 126], 63) := by decide +kernel
theorem dX4_readOperands_64 : decode cX4_readOperands 64 = .ok (.aload_n 0, 1) := by decide +kernel
theorem dX4_readOperands_65 : decode cX4_readOperands 65 = .ok (.invokevirtual 67, 3) := by decide +kernel
theorem dX4_readOperands_68 : decode cX4_readOperands 68 = .ok (.ifCond .eq 23, 3) := by decide +kernel
theorem dX4_readOperands_71 : decode cX4_readOperands 71 = .ok (.aload_n 0, 1) := by decide +kernel
theorem dX4_readOperands_72 : decode cX4_readOperands 72 = .ok (.bipush 61, 2) := by decide +kernel
theorem dX4_readOperands_74 : decode cX4_readOperands 74 = .ok (.invokevirtual 36, 3) := by decide +kernel
theorem dX4_readOperands_77 : decode cX4_readOperands 77 = .ok (.ifCond .eq 14, 3) := by decide +kernel
theorem dX4_readOperands_80 : decode cX4_readOperands 80 = .ok (.aload_n 0, 1) := by decide +kernel
theorem dX4_readOperands_81 : decode cX4_readOperands 81 = .ok (.invokevirtual 70, 3) := by decide +kernel
theorem dX4_readOperands_84 : decode cX4_readOperands 84 = .ok (.ifCond .eq 7, 3) := by decide +kernel
theorem dX4_readOperands_87 : decode cX4_readOperands 87 = .ok (.iconst 1, 1) := by decide +kernel
theorem dX4_readOperands_88 : decode cX4_readOperands 88 = .ok (.goto 4, 3) := by decide +kernel
theorem dX4_readOperands_91 : decode cX4_readOperands 91 = .ok (.iconst 0, 1) := by decide +kernel
theorem dX4_readOperands_92 : decode cX4_readOperands 92 = .ok (.ireturn, 1) := by decide +kernel
theorem dX4_readOperands_93 : decode cX4_readOperands 93 = .ok (.aload_n 0, 1) := by decide +kernel
theorem dX4_readOperands_94 : decode cX4_readOperands 94 = .ok (.invokevirtual 73, 3) := by decide +kernel
theorem dX4_readOperands_97 : decode cX4_readOperands 97 = .ok (.ireturn, 1) := by decide +kernel
theorem dX4_readOperands_98 : decode cX4_readOperands 98 = .ok (.aload_n 0, 1) := by decide +kernel
theorem dX4_readOperands_99 : decode cX4_readOperands 99 = .ok (.invokevirtual 67, 3) := by decide +kernel
theorem dX4_readOperands_102 : decode cX4_readOperands 102 = .ok (.ifCond .eq 23, 3) := by decide +kernel
theorem dX4_readOperands_105 : decode cX4_readOperands 105 = .ok (.aload_n 0, 1) := by decide +kernel
theorem dX4_readOperands_106 : decode cX4_readOperands 106 = .ok (.bipush 62, 2) := by decide +kernel
theorem dX4_readOperands_108 : decode cX4_readOperands 108 = .ok (.invokevirtual 36, 3) := by decide +kernel
theorem dX4_readOperands_111 : decode cX4_readOperands 111 = .ok (.ifCond .eq 14, 3) := by decide +kernel
theorem dX4_readOperands_114 : decode cX4_readOperands 114 = .ok (.aload_n 0, 1) := by decide +kernel
theorem dX4_readOperands_115 : decode cX4_readOperands 115 = .ok (.invokevirtual 73, 3) := by decide +kernel
theorem dX4_readOperands_118 : decode cX4_readOperands 118 = .ok (.ifCond .eq 7, 3) := by decide +kernel
theorem dX4_readOperands_121 : decode cX4_readOperands 121 = .ok (.iconst 1, 1) := by decide +kernel
theorem dX4_readOperands_122 : decode cX4_readOperands 122 = .ok (.goto 4, 3) := by decide +kernel
theorem dX4_readOperands_125 : decode cX4_readOperands 125 = .ok (.iconst 0, 1) := by decide +kernel
theorem dX4_readOperands_126 : decode cX4_readOperands 126 = .ok (.ireturn, 1) := by decide +kernel
theorem dX4_readOperands_127 : decode cX4_readOperands 127 = .ok (.iconst 1, 1) := by decide +kernel
theorem dX4_readOperands_128 : decode cX4_readOperands 128 = .ok (.ireturn, 1) := by decide +kernel
theorem dX4_readOperands_129 : decode cX4_readOperands 129 = .ok (.aload_n 0, 1) := by decide +kernel
theorem dX4_readOperands_130 : decode cX4_readOperands 130 = .ok (.invokevirtual 67, 3) := by decide +kernel
theorem dX4_readOperands_133 : decode cX4_readOperands 133 = .ok (.ifCond .eq 14, 3) := by decide +kernel
theorem dX4_readOperands_136 : decode cX4_readOperands 136 = .ok (.aload_n 0, 1) := by decide +kernel
theorem dX4_readOperands_137 : decode cX4_readOperands 137 = .ok (.invokevirtual 67, 3) := by decide +kernel
theorem dX4_readOperands_140 : decode cX4_readOperands 140 = .ok (.ifCond .eq 7, 3) := by decide +kernel
theorem dX4_readOperands_143 : decode cX4_readOperands 143 = .ok (.iconst 1, 1) := by decide +kernel
theorem dX4_readOperands_144 : decode cX4_readOperands 144 = .ok (.goto 4, 3) := by decide +kernel
theorem dX4_readOperands_147 : decode cX4_readOperands 147 = .ok (.iconst 0, 1) := by decide +kernel
theorem dX4_readOperands_148 : decode cX4_readOperands 148 = .ok (.ireturn, 1) := by decide +kernel
theorem dX4_readSign_0 : decode cX4_readSign 0 = .ok (.aload_n 0, 1) := by decide +kernel
theorem dX4_readSign_1 : decode cX4_readSign 1 = .ok (.getfield 26, 3) := by decide +kernel
theorem dX4_readSign_4 : decode cX4_readSign 4 = .ok (.aload_n 0, 1) := by decide +kernel
theorem dX4_readSign_5 : decode cX4_readSign 5 = .ok (.getfield 22, 3) := by decide +kernel
theorem dX4_readSign_8 : decode cX4_readSign 8 = .ok (.if_icmp .ge 16, 3) := by decide +kernel
theorem dX4_readSign_11 : decode cX4_readSign 11 = .ok (.aload_n 0, 1) := by decide +kernel
theorem dX4_readSign_12 : decode cX4_readSign 12 = .ok (.getfield 11, 3) := by decide +kernel
theorem dX4_readSign_15 : decode cX4_readSign 15 = .ok (.aload_n 0, 1) := by decide +kernel
theorem dX4_readSign_16 : decode cX4_readSign 16 = .ok (.getfield 26, 3) := by decide +kernel
theorem dX4_readSign_19 : decode cX4_readSign 19 = .ok (.caload, 1) := by decide +kernel
theorem dX4_readSign_20 : decode cX4_readSign 20 = .ok (.iload_n 1, 1) := by decide +kernel
theorem dX4_readSign_21 : decode cX4_readSign 21 = .ok (.if_icmp .eq 5, 3) := by decide +kernel
theorem dX4_readSign_24 : decode cX4_readSign 24 = .ok (.iconst 0, 1) := by decide +kernel
theorem dX4_readSign_25 : decode cX4_readSign 25 = .ok (.ireturn, 1) := by decide +kernel
theorem dX4_readSign_26 : decode cX4_readSign 26 = .ok (.aload_n 0, 1) := by decide +kernel
theorem dX4_readSign_27 : decode cX4_readSign 27 = .ok (.dup, 1) := by decide +kernel
theorem dX4_readSign_28 : decode cX4_readSign 28 = .ok (.getfield 26, 3) := by decide +kernel
theorem dX4_readSign_31 : decode cX4_readSign 31 = .ok (.iconst 1, 1) := by decide +kernel
theorem dX4_readSign_32 : decode cX4_readSign 32 = .ok (.iadd, 1) := by decide +kernel
theorem dX4_readSign_33 : decode cX4_readSign 33 = .ok (.putfield 26, 3) := by decide +kernel
theorem dX4_readSign_36 : decode cX4_readSign 36 = .ok (.iconst 1, 1) := by decide +kernel
theorem dX4_readSign_37 : decode cX4_readSign 37 = .ok (.ireturn, 1) := by decide +kernel
set_option maxRecDepth 20000 in
theorem ggX4_isDigit_X6_isWithin : GoodIn wsX4_isDigit wsX6_isWithin := goodIn_r _ [6] (by decide +kernel) (by decide +kernel)
set_option maxRecDepth 20000 in
theorem gX4_isDigit_X6_isWithin_n76 : GoodIn wsX4_isDigit (wsX6_isWithin) := ggX4_isDigit_X6_isWithin
theorem dX4_isDigit_0 : decode cX4_isDigit 0 = .ok (.aload_n 0, 1) := by decide +kernel
theorem dX4_isDigit_1 : decode cX4_isDigit 1 = .ok (.getfield 26, 3) := by decide +kernel
theorem dX4_isDigit_4 : decode cX4_isDigit 4 = .ok (.aload_n 0, 1) := by decide +kernel
theorem dX4_isDigit_5 : decode cX4_isDigit 5 = .ok (.getfield 22, 3) := by decide +kernel
theorem dX4_isDigit_8 : decode cX4_isDigit 8 = .ok (.if_icmp .ge 27, 3) := by decide +kernel
theorem dX4_isDigit_11 : decode cX4_isDigit 11 = .ok (.aload_n 0, 1) := by decide +kernel
theorem dX4_isDigit_12 : decode cX4_isDigit 12 = .ok (.getfield 11, 3) := by decide +kernel
theorem dX4_isDigit_15 : decode cX4_isDigit 15 = .ok (.aload_n 0, 1) := by decide +kernel
theorem dX4_isDigit_16 : decode cX4_isDigit 16 = .ok (.getfield 26, 3) := by decide +kernel
theorem dX4_isDigit_19 : decode cX4_isDigit 19 = .ok (.caload, 1) := by decide +kernel
theorem dX4_isDigit_20 : decode cX4_isDigit 20 = .ok (.bipush 48, 2) := by decide +kernel
theorem dX4_isDigit_22 : decode cX4_isDigit 22 = .ok (.isub, 1) := by decide +kernel
theorem dX4_isDigit_23 : decode cX4_isDigit 23 = .ok (.iload_n 1, 1) := by decide +kernel
theorem dX4_isDigit_24 : decode cX4_isDigit 24 = .ok (.iload_n 2, 1) := by decide +kernel
theorem dX4_isDigit_25 : decode cX4_isDigit 25 = .ok (.invokestatic 76, 3) := by decide +kernel
theorem dX4_isDigit_28 : decode cX4_isDigit 28 = .ok (.ifCond .eq 7, 3) := by decide +kernel
theorem dX4_isDigit_31 : decode cX4_isDigit 31 = .ok (.iconst 1, 1) := by decide +kernel
theorem dX4_isDigit_32 : decode cX4_isDigit 32 = .ok (.goto 4, 3) := by decide +kernel
theorem dX4_isDigit_35 : decode cX4_isDigit 35 = .ok (.iconst 0, 1) := by decide +kernel
theorem dX4_isDigit_36 : decode cX4_isDigit 36 = .ok (.ireturn, 1) := by decide +kernel
theorem dX4_takeDigit_0 : decode cX4_takeDigit 0 = .ok (.aload_n 0, 1) := by decide +kernel
theorem dX4_takeDigit_1 : decode cX4_takeDigit 1 = .ok (.getfield 26, 3) := by decide +kernel
theorem dX4_takeDigit_4 : decode cX4_takeDigit 4 = .ok (.aload_n 0, 1) := by decide +kernel
theorem dX4_takeDigit_5 : decode cX4_takeDigit 5 = .ok (.getfield 22, 3) := by decide +kernel
theorem dX4_takeDigit_8 : decode cX4_takeDigit 8 = .ok (.if_icmp .lt 5, 3) := by decide +kernel
theorem dX4_takeDigit_11 : decode cX4_takeDigit 11 = .ok (.iconst 0, 1) := by decide +kernel
theorem dX4_takeDigit_12 : decode cX4_takeDigit 12 = .ok (.ireturn, 1) := by decide +kernel
theorem dX4_takeDigit_13 : decode cX4_takeDigit 13 = .ok (.aload_n 0, 1) := by decide +kernel
theorem dX4_takeDigit_14 : decode cX4_takeDigit 14 = .ok (.getfield 11, 3) := by decide +kernel
theorem dX4_takeDigit_17 : decode cX4_takeDigit 17 = .ok (.aload_n 0, 1) := by decide +kernel
theorem dX4_takeDigit_18 : decode cX4_takeDigit 18 = .ok (.getfield 26, 3) := by decide +kernel
theorem dX4_takeDigit_21 : decode cX4_takeDigit 21 = .ok (.caload, 1) := by decide +kernel
theorem dX4_takeDigit_22 : decode cX4_takeDigit 22 = .ok (.bipush 48, 2) := by decide +kernel
theorem dX4_takeDigit_24 : decode cX4_takeDigit 24 = .ok (.isub, 1) := by decide +kernel
theorem dX4_takeDigit_25 : decode cX4_takeDigit 25 = .ok (.istore_n 1, 1) := by decide +kernel
theorem dX4_takeDigit_26 : decode cX4_takeDigit 26 = .ok (.aload_n 0, 1) := by decide +kernel
theorem dX4_takeDigit_27 : decode cX4_takeDigit 27 = .ok (.dup, 1) := by decide +kernel
theorem dX4_takeDigit_28 : decode cX4_takeDigit 28 = .ok (.getfield 26, 3) := by decide +kernel
theorem dX4_takeDigit_31 : decode cX4_takeDigit 31 = .ok (.iconst 1, 1) := by decide +kernel
theorem dX4_takeDigit_32 : decode cX4_takeDigit 32 = .ok (.iadd, 1) := by decide +kernel
theorem dX4_takeDigit_33 : decode cX4_takeDigit 33 = .ok (.putfield 26, 3) := by decide +kernel
theorem dX4_takeDigit_36 : decode cX4_takeDigit 36 = .ok (.iload_n 1, 1) := by decide +kernel
theorem dX4_takeDigit_37 : decode cX4_takeDigit 37 = .ok (.ireturn, 1) := by decide +kernel
set_option maxRecDepth 20000 in
theorem ggX4_readRegister_X4_isDigit : GoodIn wsX4_readRegister wsX4_isDigit := goodIn_r _ [5, 6, 7, 8, 9, 10, 11, 23, 24, 25, 26, 27, 28] (by decide +kernel) (by decide +kernel)
set_option maxRecDepth 20000 in
theorem gX4_readRegister_X4_isDigit : GoodIn wsX4_readRegister (wsV RX4 80 RX4 yX4_isDigit wsX4_isDigit) := goodIn_app (goodIn_of _ (by decide +kernel)) ggX4_readRegister_X4_isDigit
set_option maxRecDepth 20000 in
theorem ggX4_readRegister_X4_takeDigit : GoodIn wsX4_readRegister wsX4_takeDigit := goodIn_r _ [15, 6, 7, 8, 23, 24, 25, 26, 27, 28] (by decide +kernel) (by decide +kernel)
set_option maxRecDepth 20000 in
theorem gX4_readRegister_X4_takeDigit : GoodIn wsX4_readRegister (wsV RX4 84 RX4 yX4_takeDigit wsX4_takeDigit) := goodIn_app (goodIn_of _ (by decide +kernel)) ggX4_readRegister_X4_takeDigit
set_option maxRecDepth 20000 in
theorem ggX4_readRegister_X4_keepOperand : GoodIn wsX4_readRegister wsX4_keepOperand := goodIn_r _ [19, 20, 21, 22, 23, 24, 25, 26, 27, 28, 29, 30] (by decide +kernel) (by decide +kernel)
set_option maxRecDepth 20000 in
theorem gX4_readRegister_X4_keepOperand : GoodIn wsX4_readRegister (wsV RX4 88 RX4 yX4_keepOperand wsX4_keepOperand) := goodIn_app (goodIn_of _ (by decide +kernel)) ggX4_readRegister_X4_keepOperand
theorem dX4_readRegister_0 : decode cX4_readRegister 0 = .ok (.aload_n 0, 1) := by decide +kernel
theorem dX4_readRegister_1 : decode cX4_readRegister 1 = .ok (.iconst 0, 1) := by decide +kernel
theorem dX4_readRegister_2 : decode cX4_readRegister 2 = .ok (.iconst 3, 1) := by decide +kernel
theorem dX4_readRegister_3 : decode cX4_readRegister 3 = .ok (.invokevirtual 80, 3) := by decide +kernel
theorem dX4_readRegister_6 : decode cX4_readRegister 6 = .ok (.ifCond .ne 5, 3) := by decide +kernel
theorem dX4_readRegister_9 : decode cX4_readRegister 9 = .ok (.iconst 0, 1) := by decide +kernel
theorem dX4_readRegister_10 : decode cX4_readRegister 10 = .ok (.ireturn, 1) := by decide +kernel
theorem dX4_readRegister_11 : decode cX4_readRegister 11 = .ok (.aload_n 0, 1) := by decide +kernel
theorem dX4_readRegister_12 : decode cX4_readRegister 12 = .ok (.aload_n 0, 1) := by decide +kernel
theorem dX4_readRegister_13 : decode cX4_readRegister 13 = .ok (.invokevirtual 84, 3) := by decide +kernel
theorem dX4_readRegister_16 : decode cX4_readRegister 16 = .ok (.invokevirtual 88, 3) := by decide +kernel
theorem dX4_readRegister_19 : decode cX4_readRegister 19 = .ok (.iconst 1, 1) := by decide +kernel
theorem dX4_readRegister_20 : decode cX4_readRegister 20 = .ok (.ireturn, 1) := by decide +kernel
set_option maxRecDepth 20000 in
theorem ggX4_readNumber_X4_readSign : GoodIn wsX4_readNumber wsX4_readSign := goodIn_r _ [5, 6, 7, 8, 27, 28, 29, 30, 31, 32] (by decide +kernel) (by decide +kernel)
set_option maxRecDepth 20000 in
theorem gX4_readNumber_X4_readSign : GoodIn wsX4_readNumber (wsV RX4 36 RX4 yX4_readSign wsX4_readSign) := goodIn_app (goodIn_of _ (by decide +kernel)) ggX4_readNumber_X4_readSign
set_option maxRecDepth 20000 in
theorem ggX4_readNumber_X4_isDigit : GoodIn wsX4_readNumber wsX4_isDigit := goodIn_r _ [12, 6, 7, 8, 13, 14, 15, 27, 28, 29, 30, 31, 32] (by decide +kernel) (by decide +kernel)
set_option maxRecDepth 20000 in
theorem gX4_readNumber_X4_isDigit : GoodIn wsX4_readNumber (wsV RX4 80 RX4 yX4_isDigit wsX4_isDigit) := goodIn_app (goodIn_of _ (by decide +kernel)) ggX4_readNumber_X4_isDigit
set_option maxRecDepth 20000 in
theorem ggX4_readNumber_X4_takeDigit : GoodIn wsX4_readNumber wsX4_takeDigit := goodIn_r _ [19, 6, 7, 8, 27, 28, 29, 30, 31, 32] (by decide +kernel) (by decide +kernel)
set_option maxRecDepth 20000 in
theorem gX4_readNumber_X4_takeDigit : GoodIn wsX4_readNumber (wsV RX4 84 RX4 yX4_takeDigit wsX4_takeDigit) := goodIn_app (goodIn_of _ (by decide +kernel)) ggX4_readNumber_X4_takeDigit
set_option maxRecDepth 20000 in
theorem ggX4_readNumber_X4_keepOperand : GoodIn wsX4_readNumber wsX4_keepOperand := goodIn_r _ [23, 24, 25, 26, 27, 28, 29, 30, 31, 32, 33, 34] (by decide +kernel) (by decide +kernel)
set_option maxRecDepth 20000 in
theorem gX4_readNumber_X4_keepOperand : GoodIn wsX4_readNumber (wsV RX4 88 RX4 yX4_keepOperand wsX4_keepOperand) := goodIn_app (goodIn_of _ (by decide +kernel)) ggX4_readNumber_X4_keepOperand
theorem dX4_readNumber_0 : decode cX4_readNumber 0 = .ok (.aload_n 0, 1) := by decide +kernel
theorem dX4_readNumber_1 : decode cX4_readNumber 1 = .ok (.bipush 45, 2) := by decide +kernel
theorem dX4_readNumber_3 : decode cX4_readNumber 3 = .ok (.invokevirtual 36, 3) := by decide +kernel
theorem dX4_readNumber_6 : decode cX4_readNumber 6 = .ok (.istore_n 1, 1) := by decide +kernel
theorem dX4_readNumber_7 : decode cX4_readNumber 7 = .ok (.aload_n 0, 1) := by decide +kernel
theorem dX4_readNumber_8 : decode cX4_readNumber 8 = .ok (.iload_n 1, 1) := by decide +kernel
theorem dX4_readNumber_9 : decode cX4_readNumber 9 = .ok (.ifCond .eq 7, 3) := by decide +kernel
theorem dX4_readNumber_12 : decode cX4_readNumber 12 = .ok (.iconst 1, 1) := by decide +kernel
theorem dX4_readNumber_13 : decode cX4_readNumber 13 = .ok (.goto 4, 3) := by decide +kernel
theorem dX4_readNumber_16 : decode cX4_readNumber 16 = .ok (.iconst 0, 1) := by decide +kernel
theorem dX4_readNumber_17 : decode cX4_readNumber 17 = .ok (.bipush 9, 2) := by decide +kernel
theorem dX4_readNumber_19 : decode cX4_readNumber 19 = .ok (.invokevirtual 80, 3) := by decide +kernel
theorem dX4_readNumber_22 : decode cX4_readNumber 22 = .ok (.ifCond .ne 5, 3) := by decide +kernel
theorem dX4_readNumber_25 : decode cX4_readNumber 25 = .ok (.iconst 0, 1) := by decide +kernel
theorem dX4_readNumber_26 : decode cX4_readNumber 26 = .ok (.ireturn, 1) := by decide +kernel
theorem dX4_readNumber_27 : decode cX4_readNumber 27 = .ok (.aload_n 0, 1) := by decide +kernel
theorem dX4_readNumber_28 : decode cX4_readNumber 28 = .ok (.invokevirtual 84, 3) := by decide +kernel
theorem dX4_readNumber_31 : decode cX4_readNumber 31 = .ok (.istore_n 2, 1) := by decide +kernel
theorem dX4_readNumber_32 : decode cX4_readNumber 32 = .ok (.iload_n 2, 1) := by decide +kernel
theorem dX4_readNumber_33 : decode cX4_readNumber 33 = .ok (.ifCond .eq 23, 3) := by decide +kernel
theorem dX4_readNumber_36 : decode cX4_readNumber 36 = .ok (.aload_n 0, 1) := by decide +kernel
theorem dX4_readNumber_37 : decode cX4_readNumber 37 = .ok (.iconst 0, 1) := by decide +kernel
theorem dX4_readNumber_38 : decode cX4_readNumber 38 = .ok (.bipush 9, 2) := by decide +kernel
theorem dX4_readNumber_40 : decode cX4_readNumber 40 = .ok (.invokevirtual 80, 3) := by decide +kernel
theorem dX4_readNumber_43 : decode cX4_readNumber 43 = .ok (.ifCond .eq 13, 3) := by decide +kernel
theorem dX4_readNumber_46 : decode cX4_readNumber 46 = .ok (.iload_n 2, 1) := by decide +kernel
theorem dX4_readNumber_47 : decode cX4_readNumber 47 = .ok (.bipush 10, 2) := by decide +kernel
theorem dX4_readNumber_49 : decode cX4_readNumber 49 = .ok (.imul, 1) := by decide +kernel
theorem dX4_readNumber_50 : decode cX4_readNumber 50 = .ok (.aload_n 0, 1) := by decide +kernel
theorem dX4_readNumber_51 : decode cX4_readNumber 51 = .ok (.invokevirtual 84, 3) := by decide +kernel
theorem dX4_readNumber_54 : decode cX4_readNumber 54 = .ok (.iadd, 1) := by decide +kernel
theorem dX4_readNumber_55 : decode cX4_readNumber 55 = .ok (.istore_n 2, 1) := by decide +kernel
theorem dX4_readNumber_56 : decode cX4_readNumber 56 = .ok (.aload_n 0, 1) := by decide +kernel
theorem dX4_readNumber_57 : decode cX4_readNumber 57 = .ok (.iload_n 1, 1) := by decide +kernel
theorem dX4_readNumber_58 : decode cX4_readNumber 58 = .ok (.ifCond .eq 8, 3) := by decide +kernel
theorem dX4_readNumber_61 : decode cX4_readNumber 61 = .ok (.iload_n 2, 1) := by decide +kernel
theorem dX4_readNumber_62 : decode cX4_readNumber 62 = .ok (.ineg, 1) := by decide +kernel
theorem dX4_readNumber_63 : decode cX4_readNumber 63 = .ok (.goto 4, 3) := by decide +kernel
theorem dX4_readNumber_66 : decode cX4_readNumber 66 = .ok (.iload_n 2, 1) := by decide +kernel
theorem dX4_readNumber_67 : decode cX4_readNumber 67 = .ok (.invokevirtual 88, 3) := by decide +kernel
theorem dX4_readNumber_70 : decode cX4_readNumber 70 = .ok (.iconst 1, 1) := by decide +kernel
theorem dX4_readNumber_71 : decode cX4_readNumber 71 = .ok (.ireturn, 1) := by decide +kernel
set_option maxRecDepth 20000 in
theorem ggX4_readPlace_X4_isDigit : GoodIn wsX4_readPlace wsX4_isDigit := goodIn_r _ [9, 10, 11, 12, 13, 14, 15, 27, 28, 29, 30, 31, 32] (by decide +kernel) (by decide +kernel)
set_option maxRecDepth 20000 in
theorem gX4_readPlace_X4_isDigit : GoodIn wsX4_readPlace (wsV RX4 80 RX4 yX4_isDigit wsX4_isDigit) := goodIn_app (goodIn_of _ (by decide +kernel)) ggX4_readPlace_X4_isDigit
set_option maxRecDepth 20000 in
theorem ggX4_readPlace_X4_takeDigit : GoodIn wsX4_readPlace wsX4_takeDigit := goodIn_r _ [19, 10, 11, 12, 27, 28, 29, 30, 31, 32] (by decide +kernel) (by decide +kernel)
set_option maxRecDepth 20000 in
theorem gX4_readPlace_X4_takeDigit : GoodIn wsX4_readPlace (wsV RX4 84 RX4 yX4_takeDigit wsX4_takeDigit) := goodIn_app (goodIn_of _ (by decide +kernel)) ggX4_readPlace_X4_takeDigit
set_option maxRecDepth 20000 in
theorem ggX4_readPlace_X4_keepOperand : GoodIn wsX4_readPlace wsX4_keepOperand := goodIn_r _ [23, 24, 25, 26, 27, 28, 29, 30, 31, 32, 33, 34] (by decide +kernel) (by decide +kernel)
set_option maxRecDepth 20000 in
theorem gX4_readPlace_X4_keepOperand : GoodIn wsX4_readPlace (wsV RX4 88 RX4 yX4_keepOperand wsX4_keepOperand) := goodIn_app (goodIn_of _ (by decide +kernel)) ggX4_readPlace_X4_keepOperand
theorem dX4_readPlace_0 : decode cX4_readPlace 0 = .ok (.aload_n 0, 1) := by decide +kernel
theorem dX4_readPlace_1 : decode cX4_readPlace 1 = .ok (.iconst 0, 1) := by decide +kernel
theorem dX4_readPlace_2 : decode cX4_readPlace 2 = .ok (.bipush 9, 2) := by decide +kernel
theorem dX4_readPlace_4 : decode cX4_readPlace 4 = .ok (.invokevirtual 80, 3) := by decide +kernel
theorem dX4_readPlace_7 : decode cX4_readPlace 7 = .ok (.ifCond .ne 5, 3) := by decide +kernel
theorem dX4_readPlace_10 : decode cX4_readPlace 10 = .ok (.iconst 0, 1) := by decide +kernel
theorem dX4_readPlace_11 : decode cX4_readPlace 11 = .ok (.ireturn, 1) := by decide +kernel
theorem dX4_readPlace_12 : decode cX4_readPlace 12 = .ok (.aload_n 0, 1) := by decide +kernel
theorem dX4_readPlace_13 : decode cX4_readPlace 13 = .ok (.invokevirtual 84, 3) := by decide +kernel
theorem dX4_readPlace_16 : decode cX4_readPlace 16 = .ok (.istore_n 1, 1) := by decide +kernel
theorem dX4_readPlace_17 : decode cX4_readPlace 17 = .ok (.bipush 9, 2) := by decide +kernel
theorem dX4_readPlace_19 : decode cX4_readPlace 19 = .ok (.bipush 47, 2) := by decide +kernel
theorem dX4_readPlace_21 : decode cX4_readPlace 21 = .ok (.iload_n 1, 1) := by decide +kernel
theorem dX4_readPlace_22 : decode cX4_readPlace 22 = .ok (.bipush 10, 2) := by decide +kernel
theorem dX4_readPlace_24 : decode cX4_readPlace 24 = .ok (.imul, 1) := by decide +kernel
theorem dX4_readPlace_25 : decode cX4_readPlace 25 = .ok (.isub, 1) := by decide +kernel
theorem dX4_readPlace_26 : decode cX4_readPlace 26 = .ok (.invokestatic 91, 3) := by decide +kernel
theorem dX4_readPlace_29 : decode cX4_readPlace 29 = .ok (.istore_n 2, 1) := by decide +kernel
theorem dX4_readPlace_30 : decode cX4_readPlace 30 = .ok (.iload_n 1, 1) := by decide +kernel
theorem dX4_readPlace_31 : decode cX4_readPlace 31 = .ok (.ifCond .eq 22, 3) := by decide +kernel
theorem dX4_readPlace_34 : decode cX4_readPlace 34 = .ok (.aload_n 0, 1) := by decide +kernel
theorem dX4_readPlace_35 : decode cX4_readPlace 35 = .ok (.iconst 0, 1) := by decide +kernel
theorem dX4_readPlace_36 : decode cX4_readPlace 36 = .ok (.iload_n 2, 1) := by decide +kernel
theorem dX4_readPlace_37 : decode cX4_readPlace 37 = .ok (.invokevirtual 80, 3) := by decide +kernel
theorem dX4_readPlace_40 : decode cX4_readPlace 40 = .ok (.ifCond .eq 13, 3) := by decide +kernel
theorem dX4_readPlace_43 : decode cX4_readPlace 43 = .ok (.iload_n 1, 1) := by decide +kernel
theorem dX4_readPlace_44 : decode cX4_readPlace 44 = .ok (.bipush 10, 2) := by decide +kernel
theorem dX4_readPlace_46 : decode cX4_readPlace 46 = .ok (.imul, 1) := by decide +kernel
theorem dX4_readPlace_47 : decode cX4_readPlace 47 = .ok (.aload_n 0, 1) := by decide +kernel
theorem dX4_readPlace_48 : decode cX4_readPlace 48 = .ok (.invokevirtual 84, 3) := by decide +kernel
theorem dX4_readPlace_51 : decode cX4_readPlace 51 = .ok (.iadd, 1) := by decide +kernel
theorem dX4_readPlace_52 : decode cX4_readPlace 52 = .ok (.istore_n 1, 1) := by decide +kernel
theorem dX4_readPlace_53 : decode cX4_readPlace 53 = .ok (.aload_n 0, 1) := by decide +kernel
theorem dX4_readPlace_54 : decode cX4_readPlace 54 = .ok (.iload_n 1, 1) := by decide +kernel
theorem dX4_readPlace_55 : decode cX4_readPlace 55 = .ok (.invokevirtual 88, 3) := by decide +kernel
theorem dX4_readPlace_58 : decode cX4_readPlace 58 = .ok (.iconst 1, 1) := by decide +kernel
theorem dX4_readPlace_59 : decode cX4_readPlace 59 = .ok (.ireturn, 1) := by decide +kernel
theorem dX4_keepOperand_0 : decode cX4_keepOperand 0 = .ok (.aload_n 0, 1) := by decide +kernel
theorem dX4_keepOperand_1 : decode cX4_keepOperand 1 = .ok (.getfield 64, 3) := by decide +kernel
theorem dX4_keepOperand_4 : decode cX4_keepOperand 4 = .ok (.iconst 2, 1) := by decide +kernel
theorem dX4_keepOperand_5 : decode cX4_keepOperand 5 = .ok (.if_icmp .ge 33, 3) := by decide +kernel
theorem dX4_keepOperand_8 : decode cX4_keepOperand 8 = .ok (.aload_n 0, 1) := by decide +kernel
theorem dX4_keepOperand_9 : decode cX4_keepOperand 9 = .ok (.getfield 18, 3) := by decide +kernel
theorem dX4_keepOperand_12 : decode cX4_keepOperand 12 = .ok (.getfield 61, 3) := by decide +kernel
theorem dX4_keepOperand_15 : decode cX4_keepOperand 15 = .ok (.aload_n 0, 1) := by decide +kernel
theorem dX4_keepOperand_16 : decode cX4_keepOperand 16 = .ok (.getfield 29, 3) := by decide +kernel
theorem dX4_keepOperand_19 : decode cX4_keepOperand 19 = .ok (.iconst 2, 1) := by decide +kernel
theorem dX4_keepOperand_20 : decode cX4_keepOperand 20 = .ok (.imul, 1) := by decide +kernel
theorem dX4_keepOperand_21 : decode cX4_keepOperand 21 = .ok (.aload_n 0, 1) := by decide +kernel
theorem dX4_keepOperand_22 : decode cX4_keepOperand 22 = .ok (.getfield 64, 3) := by decide +kernel
theorem dX4_keepOperand_25 : decode cX4_keepOperand 25 = .ok (.iadd, 1) := by decide +kernel
theorem dX4_keepOperand_26 : decode cX4_keepOperand 26 = .ok (.iload_n 1, 1) := by decide +kernel
theorem dX4_keepOperand_27 : decode cX4_keepOperand 27 = .ok (.iastore, 1) := by decide +kernel
theorem dX4_keepOperand_28 : decode cX4_keepOperand 28 = .ok (.aload_n 0, 1) := by decide +kernel
theorem dX4_keepOperand_29 : decode cX4_keepOperand 29 = .ok (.dup, 1) := by decide +kernel
theorem dX4_keepOperand_30 : decode cX4_keepOperand 30 = .ok (.getfield 64, 3) := by decide +kernel
theorem dX4_keepOperand_33 : decode cX4_keepOperand 33 = .ok (.iconst 1, 1) := by decide +kernel
theorem dX4_keepOperand_34 : decode cX4_keepOperand 34 = .ok (.iadd, 1) := by decide +kernel
theorem dX4_keepOperand_35 : decode cX4_keepOperand 35 = .ok (.putfield 64, 3) := by decide +kernel
theorem dX4_keepOperand_38 : decode cX4_keepOperand 38 = .ok (.return_, 1) := by decide +kernel
theorem dX5_init_0 : decode cX5_init 0 = .ok (.aload_n 0, 1) := by decide +kernel
theorem dX5_init_1 : decode cX5_init 1 = .ok (.invokespecial 3, 3) := by decide +kernel
theorem dX5_init_4 : decode cX5_init 4 = .ok (.aload_n 0, 1) := by decide +kernel
theorem dX5_init_5 : decode cX5_init 5 = .ok (.bipush 48, 2) := by decide +kernel
theorem dX5_init_7 : decode cX5_init 7 = .ok (.newarray .int, 2) := by decide +kernel
theorem dX5_init_9 : decode cX5_init 9 = .ok (.putfield 11, 3) := by decide +kernel
theorem dX5_init_12 : decode cX5_init 12 = .ok (.return_, 1) := by decide +kernel
theorem dX5_note_0 : decode cX5_note 0 = .ok (.aload_n 0, 1) := by decide +kernel
theorem dX5_note_1 : decode cX5_note 1 = .ok (.getfield 15, 3) := by decide +kernel
theorem dX5_note_4 : decode cX5_note 4 = .ok (.iconst 3, 1) := by decide +kernel
theorem dX5_note_5 : decode cX5_note 5 = .ok (.imul, 1) := by decide +kernel
theorem dX5_note_6 : decode cX5_note 6 = .ok (.istore 4, 2) := by decide +kernel
theorem dX5_note_8 : decode cX5_note 8 = .ok (.aload_n 0, 1) := by decide +kernel
theorem dX5_note_9 : decode cX5_note 9 = .ok (.getfield 11, 3) := by decide +kernel
theorem dX5_note_12 : decode cX5_note 12 = .ok (.iload 4, 2) := by decide +kernel
theorem dX5_note_14 : decode cX5_note 14 = .ok (.iload_n 1, 1) := by decide +kernel
theorem dX5_note_15 : decode cX5_note 15 = .ok (.iastore, 1) := by decide +kernel
theorem dX5_note_16 : decode cX5_note 16 = .ok (.aload_n 0, 1) := by decide +kernel
theorem dX5_note_17 : decode cX5_note 17 = .ok (.getfield 11, 3) := by decide +kernel
theorem dX5_note_20 : decode cX5_note 20 = .ok (.iload 4, 2) := by decide +kernel
theorem dX5_note_22 : decode cX5_note 22 = .ok (.iconst 1, 1) := by decide +kernel
theorem dX5_note_23 : decode cX5_note 23 = .ok (.iadd, 1) := by decide +kernel
theorem dX5_note_24 : decode cX5_note 24 = .ok (.iload_n 2, 1) := by decide +kernel
theorem dX5_note_25 : decode cX5_note 25 = .ok (.iastore, 1) := by decide +kernel
theorem dX5_note_26 : decode cX5_note 26 = .ok (.aload_n 0, 1) := by decide +kernel
theorem dX5_note_27 : decode cX5_note 27 = .ok (.getfield 11, 3) := by decide +kernel
theorem dX5_note_30 : decode cX5_note 30 = .ok (.iload 4, 2) := by decide +kernel
theorem dX5_note_32 : decode cX5_note 32 = .ok (.iconst 2, 1) := by decide +kernel
theorem dX5_note_33 : decode cX5_note 33 = .ok (.iadd, 1) := by decide +kernel
theorem dX5_note_34 : decode cX5_note 34 = .ok (.iload_n 3, 1) := by decide +kernel
theorem dX5_note_35 : decode cX5_note 35 = .ok (.iastore, 1) := by decide +kernel
theorem dX5_note_36 : decode cX5_note 36 = .ok (.aload_n 0, 1) := by decide +kernel
theorem dX5_note_37 : decode cX5_note 37 = .ok (.aload_n 0, 1) := by decide +kernel
theorem dX5_note_38 : decode cX5_note 38 = .ok (.getfield 15, 3) := by decide +kernel
theorem dX5_note_41 : decode cX5_note 41 = .ok (.iconst 1, 1) := by decide +kernel
theorem dX5_note_42 : decode cX5_note 42 = .ok (.iadd, 1) := by decide +kernel
theorem dX5_note_43 : decode cX5_note 43 = .ok (.bipush 16, 2) := by decide +kernel
theorem dX5_note_45 : decode cX5_note 45 = .ok (.irem, 1) := by decide +kernel
theorem dX5_note_46 : decode cX5_note 46 = .ok (.putfield 15, 3) := by decide +kernel
theorem dX5_note_49 : decode cX5_note 49 = .ok (.aload_n 0, 1) := by decide +kernel
theorem dX5_note_50 : decode cX5_note 50 = .ok (.aload_n 0, 1) := by decide +kernel
theorem dX5_note_51 : decode cX5_note 51 = .ok (.getfield 19, 3) := by decide +kernel
theorem dX5_note_54 : decode cX5_note 54 = .ok (.iconst 1, 1) := by decide +kernel
theorem dX5_note_55 : decode cX5_note 55 = .ok (.iadd, 1) := by decide +kernel
theorem dX5_note_56 : decode cX5_note 56 = .ok (.bipush 16, 2) := by decide +kernel
theorem dX5_note_58 : decode cX5_note 58 = .ok (.invokestatic 22, 3) := by decide +kernel
theorem dX5_note_61 : decode cX5_note 61 = .ok (.putfield 19, 3) := by decide +kernel
theorem dX5_note_64 : decode cX5_note 64 = .ok (.return_, 1) := by decide +kernel
theorem dX5_lookUp_0 : decode cX5_lookUp 0 = .ok (.iload_n 1, 1) := by decide +kernel
theorem dX5_lookUp_1 : decode cX5_lookUp 1 = .ok (.aload_n 0, 1) := by decide +kernel
theorem dX5_lookUp_2 : decode cX5_lookUp 2 = .ok (.getfield 19, 3) := by decide +kernel
theorem dX5_lookUp_5 : decode cX5_lookUp 5 = .ok (.if_icmp .lt 6, 3) := by decide +kernel
theorem dX5_lookUp_8 : decode cX5_lookUp 8 = .ok (.ldc 28, 2) := by decide +kernel
theorem dX5_lookUp_10 : decode cX5_lookUp 10 = .ok (.ireturn, 1) := by decide +kernel
theorem dX5_lookUp_11 : decode cX5_lookUp 11 = .ok (.aload_n 0, 1) := by decide +kernel
theorem dX5_lookUp_12 : decode cX5_lookUp 12 = .ok (.getfield 15, 3) := by decide +kernel
theorem dX5_lookUp_15 : decode cX5_lookUp 15 = .ok (.bipush 16, 2) := by decide +kernel
theorem dX5_lookUp_17 : decode cX5_lookUp 17 = .ok (.iadd, 1) := by decide +kernel
theorem dX5_lookUp_18 : decode cX5_lookUp 18 = .ok (.iconst 1, 1) := by decide +kernel
theorem dX5_lookUp_19 : decode cX5_lookUp 19 = .ok (.isub, 1) := by decide +kernel
theorem dX5_lookUp_20 : decode cX5_lookUp 20 = .ok (.iload_n 1, 1) := by decide +kernel
theorem dX5_lookUp_21 : decode cX5_lookUp 21 = .ok (.isub, 1) := by decide +kernel
theorem dX5_lookUp_22 : decode cX5_lookUp 22 = .ok (.bipush 16, 2) := by decide +kernel
theorem dX5_lookUp_24 : decode cX5_lookUp 24 = .ok (.irem, 1) := by decide +kernel
theorem dX5_lookUp_25 : decode cX5_lookUp 25 = .ok (.istore_n 3, 1) := by decide +kernel
theorem dX5_lookUp_26 : decode cX5_lookUp 26 = .ok (.aload_n 0, 1) := by decide +kernel
theorem dX5_lookUp_27 : decode cX5_lookUp 27 = .ok (.getfield 11, 3) := by decide +kernel
theorem dX5_lookUp_30 : decode cX5_lookUp 30 = .ok (.iload_n 3, 1) := by decide +kernel
theorem dX5_lookUp_31 : decode cX5_lookUp 31 = .ok (.iconst 3, 1) := by decide +kernel
theorem dX5_lookUp_32 : decode cX5_lookUp 32 = .ok (.imul, 1) := by decide +kernel
theorem dX5_lookUp_33 : decode cX5_lookUp 33 = .ok (.iload_n 2, 1) := by decide +kernel
theorem dX5_lookUp_34 : decode cX5_lookUp 34 = .ok (.iadd, 1) := by decide +kernel
theorem dX5_lookUp_35 : decode cX5_lookUp 35 = .ok (.iaload, 1) := by decide +kernel
theorem dX5_lookUp_36 : decode cX5_lookUp 36 = .ok (.ireturn, 1) := by decide +kernel
theorem dX5_copyFrom_0 : decode cX5_copyFrom 0 = .ok (.aload_n 1, 1) := by decide +kernel
theorem dX5_copyFrom_1 : decode cX5_copyFrom 1 = .ok (.getfield 11, 3) := by decide +kernel
theorem dX5_copyFrom_4 : decode cX5_copyFrom 4 = .ok (.iconst 0, 1) := by decide +kernel
theorem dX5_copyFrom_5 : decode cX5_copyFrom 5 = .ok (.aload_n 0, 1) := by decide +kernel
theorem dX5_copyFrom_6 : decode cX5_copyFrom 6 = .ok (.getfield 11, 3) := by decide +kernel
theorem dX5_copyFrom_9 : decode cX5_copyFrom 9 = .ok (.iconst 0, 1) := by decide +kernel
theorem dX5_copyFrom_10 : decode cX5_copyFrom 10 = .ok (.bipush 48, 2) := by decide +kernel
theorem dX5_copyFrom_12 : decode cX5_copyFrom 12 = .ok (.invokestatic 29, 3) := by decide +kernel
theorem dX5_copyFrom_15 : decode cX5_copyFrom 15 = .ok (.aload_n 0, 1) := by decide +kernel
theorem dX5_copyFrom_16 : decode cX5_copyFrom 16 = .ok (.aload_n 1, 1) := by decide +kernel
theorem dX5_copyFrom_17 : decode cX5_copyFrom 17 = .ok (.getfield 15, 3) := by decide +kernel
theorem dX5_copyFrom_20 : decode cX5_copyFrom 20 = .ok (.putfield 15, 3) := by decide +kernel
theorem dX5_copyFrom_23 : decode cX5_copyFrom 23 = .ok (.aload_n 0, 1) := by decide +kernel
theorem dX5_copyFrom_24 : decode cX5_copyFrom 24 = .ok (.aload_n 1, 1) := by decide +kernel
theorem dX5_copyFrom_25 : decode cX5_copyFrom 25 = .ok (.getfield 19, 3) := by decide +kernel
theorem dX5_copyFrom_28 : decode cX5_copyFrom 28 = .ok (.putfield 19, 3) := by decide +kernel
theorem dX5_copyFrom_31 : decode cX5_copyFrom 31 = .ok (.return_, 1) := by decide +kernel
set_option maxRecDepth 20000 in
theorem ggX6_init_X3_init : GoodIn wsX6_init wsX3_init := goodIn_r _ [19, 20, 2, 3, 21, 22, 23, 24, 25, 26, 27, 28, 29, 30, 31, 32, 33, 34, 35, 36, 37, 38, 39, 40, 41, 42, 43, 44, 45, 46, 47, 48, 49, 50, 51, 52, 53, 54, 55, 56, 57, 58, 74, 75, 76, 77, 78, 79, 80, 81, 82, 96, 97, 98, 99, 100, 101, 102, 103, 104, 105, 106, 107, 108, 109, 110, 111] (by decide +kernel) (by decide +kernel)
set_option maxRecDepth 20000 in
theorem gX6_init_X3_init : GoodIn wsX6_init (wsX3_init) := ggX6_init_X3_init
set_option maxRecDepth 20000 in
theorem ggX6_init_X1_init : GoodIn wsX6_init wsX1_init := goodIn_r _ [61, 62, 2, 3, 63, 64, 5, 6, 65, 18, 19, 20, 21, 22, 23, 24, 25, 26, 27, 28, 29, 30, 31, 32, 33, 34, 35, 36, 37, 38, 39, 40, 41, 42, 43, 44, 45, 46, 47, 48, 49, 50, 51, 52, 53, 54, 55, 56, 57, 58, 87, 88, 89, 74, 75, 76, 77, 78, 79, 80, 81, 82, 96, 97, 98, 99, 100, 101, 102, 103, 104, 105, 106, 107, 108, 109, 110, 111] (by decide +kernel) (by decide +kernel)
set_option maxRecDepth 20000 in
theorem gX6_init_X1_init : GoodIn wsX6_init (wsX1_init) := ggX6_init_X1_init
set_option maxRecDepth 20000 in
theorem ggX6_init_X4_init : GoodIn wsX6_init wsX4_init := goodIn_r _ [67, 68, 2, 3, 69, 70, 71, 24, 25, 72, 73, 39, 40, 41, 27, 42, 43, 44, 45, 46, 47, 48, 90, 91, 92, 93, 94, 95, 96, 97] (by decide +kernel) (by decide +kernel)
set_option maxRecDepth 20000 in
theorem gX6_init_X4_init_n28 : GoodIn wsX6_init (wsX4_init) := ggX6_init_X4_init
theorem dX6_init_0 : decode cX6_init 0 = .ok (.aload_n 0, 1) := by decide +kernel
theorem dX6_init_1 : decode cX6_init 1 = .ok (.invokespecial 1, 3) := by decide +kernel
theorem dX6_init_4 : decode cX6_init 4 = .ok (.aload_n 0, 1) := by decide +kernel
theorem dX6_init_5 : decode cX6_init 5 = .ok (.new 7, 3) := by decide +kernel
theorem dX6_init_8 : decode cX6_init 8 = .ok (.dup, 1) := by decide +kernel
theorem dX6_init_9 : decode cX6_init 9 = .ok (.invokespecial 9, 3) := by decide +kernel
theorem dX6_init_12 : decode cX6_init 12 = .ok (.putfield 10, 3) := by decide +kernel
theorem dX6_init_15 : decode cX6_init 15 = .ok (.aload_n 0, 1) := by decide +kernel
theorem dX6_init_16 : decode cX6_init 16 = .ok (.new 7, 3) := by decide +kernel
theorem dX6_init_19 : decode cX6_init 19 = .ok (.dup, 1) := by decide +kernel
theorem dX6_init_20 : decode cX6_init 20 = .ok (.invokespecial 9, 3) := by decide +kernel
theorem dX6_init_23 : decode cX6_init 23 = .ok (.putfield 16, 3) := by decide +kernel
theorem dX6_init_26 : decode cX6_init 26 = .ok (.aload_n 0, 1) := by decide +kernel
theorem dX6_init_27 : decode cX6_init 27 = .ok (.new 19, 3) := by decide +kernel
theorem dX6_init_30 : decode cX6_init 30 = .ok (.dup, 1) := by decide +kernel
theorem dX6_init_31 : decode cX6_init 31 = .ok (.invokespecial 21, 3) := by decide +kernel
theorem dX6_init_34 : decode cX6_init 34 = .ok (.putfield 22, 3) := by decide +kernel
theorem dX6_init_37 : decode cX6_init 37 = .ok (.aload_n 0, 1) := by decide +kernel
theorem dX6_init_38 : decode cX6_init 38 = .ok (.new 26, 3) := by decide +kernel
theorem dX6_init_41 : decode cX6_init 41 = .ok (.dup, 1) := by decide +kernel
theorem dX6_init_42 : decode cX6_init 42 = .ok (.invokespecial 28, 3) := by decide +kernel
theorem dX6_init_45 : decode cX6_init 45 = .ok (.putfield 29, 3) := by decide +kernel
theorem dX6_init_48 : decode cX6_init 48 = .ok (.return_, 1) := by decide +kernel
set_option maxRecDepth 20000 in
theorem ggX6_assemble_X6_isPlace : GoodIn wsX6_assemble wsX6_isPlace := goodIn_r _ [11, 12, 13, 10, 14] (by decide +kernel) (by decide +kernel)
set_option maxRecDepth 20000 in
theorem gX6_assemble_X6_isPlace : GoodIn wsX6_assemble (va_wsS RX6 33 yX6_isPlace wsX6_isPlace) := goodIn_app (goodIn_of _ (by decide +kernel)) ggX6_assemble_X6_isPlace
set_option maxRecDepth 20000 in
theorem ggX6_assemble_X4_findFault : GoodIn wsX6_assemble wsX4_findFault := goodIn_r _ [19, 20, 21, 22, 23, 24, 25, 26, 18, 27, 28, 29, 30, 31, 32, 33, 34, 35, 36, 37, 38, 39, 40, 41, 42, 43, 44, 45, 46, 47, 48, 49, 50, 51, 52, 53, 54, 55, 56, 57, 58, 59, 60, 61, 62, 63, 64, 65, 66, 67, 68, 69, 70, 71, 72, 73, 74, 75, 76, 77, 78, 79, 80, 81, 82, 83, 84, 85, 86, 87, 88, 89, 90, 91, 92, 93, 94, 95, 96, 97, 98, 99, 100, 101, 102, 103, 104, 105, 106, 107, 108, 109, 110, 111, 112, 113, 114, 115, 116, 117, 118, 119, 120, 121, 122, 123, 124, 125, 126, 127, 128, 129, 130, 131, 132, 133, 134, 135, 13, 10, 14, 136, 137, 138, 139, 140, 141, 142, 143, 144, 145, 146, 147, 148, 149, 150, 151, 152, 153, 154, 155, 156, 223, 224, 225, 226, 227, 228, 238, 239] (by decide +kernel) (by decide +kernel)
set_option maxRecDepth 20000 in
theorem gX6_assemble_X4_findFault : GoodIn wsX6_assemble (wsV RX6 38 RX4 yX4_findFault wsX4_findFault) := goodIn_app (goodIn_of _ (by decide +kernel)) ggX6_assemble_X4_findFault
set_option maxRecDepth 20000 in
theorem ggX6_assemble_X1_remember : GoodIn wsX6_assemble wsX1_remember := goodIn_r _ [161, 162, 163, 164, 165, 62, 59, 63, 166, 167, 168, 169, 170, 171, 172, 173, 174, 175, 176, 177, 178, 179, 180, 181, 182, 183, 184, 185, 186, 187, 188, 189, 190, 191, 192, 193, 194, 195, 196, 197, 198, 199, 200, 201, 202, 203, 204, 205, 206, 207, 208, 209, 210, 211, 212, 213, 214, 215, 216, 217, 240, 241, 242, 229, 230, 231, 232, 233, 234, 235, 236, 237, 243, 244, 245, 246, 247, 248, 249, 250, 251, 252, 253, 238, 239, 254, 255, 256] (by decide +kernel) (by decide +kernel)
set_option maxRecDepth 20000 in
theorem gX6_assemble_X1_remember : GoodIn wsX6_assemble (wsV RX6 49 RX1 yX1_remember wsX1_remember) := goodIn_app (goodIn_of _ (by decide +kernel)) ggX6_assemble_X1_remember
set_option maxRecDepth 20000 in
theorem ggX6_assemble_X2_copyRows : GoodIn wsX6_assemble wsX2_copyRows := goodIn_r _ [205, 206, 207, 175, 176, 177, 208, 238, 239] (by decide +kernel) (by decide +kernel)
set_option maxRecDepth 20000 in
theorem gX6_assemble_X2_copyRows : GoodIn wsX6_assemble (wsV RX6 60 RX2 yX2_copyRows wsX2_copyRows) := goodIn_app (goodIn_of _ (by decide +kernel)) ggX6_assemble_X2_copyRows
theorem dX6_assemble_0 : decode cX6_assemble 0 = .ok (.iload_n 1, 1) := by decide +kernel
theorem dX6_assemble_1 : decode cX6_assemble 1 = .ok (.invokestatic 33, 3) := by decide +kernel
theorem dX6_assemble_4 : decode cX6_assemble 4 = .ok (.ifCond .ne 6, 3) := by decide +kernel
theorem dX6_assemble_7 : decode cX6_assemble 7 = .ok (.ldc 37, 2) := by decide +kernel
theorem dX6_assemble_9 : decode cX6_assemble 9 = .ok (.ireturn, 1) := by decide +kernel
theorem dX6_assemble_10 : decode cX6_assemble 10 = .ok (.aload_n 0, 1) := by decide +kernel
theorem dX6_assemble_11 : decode cX6_assemble 11 = .ok (.getfield 29, 3) := by decide +kernel
theorem dX6_assemble_14 : decode cX6_assemble 14 = .ok (.invokevirtual 38, 3) := by decide +kernel
theorem dX6_assemble_17 : decode cX6_assemble 17 = .ok (.ldc 42, 2) := by decide +kernel
theorem dX6_assemble_19 : decode cX6_assemble 19 = .ok (.if_icmp .eq 6, 3) := by decide +kernel
theorem dX6_assemble_22 : decode cX6_assemble 22 = .ok (.ldc 43, 2) := by decide +kernel
theorem dX6_assemble_24 : decode cX6_assemble 24 = .ok (.ireturn, 1) := by decide +kernel
theorem dX6_assemble_25 : decode cX6_assemble 25 = .ok (.aload_n 0, 1) := by decide +kernel
theorem dX6_assemble_26 : decode cX6_assemble 26 = .ok (.getfield 29, 3) := by decide +kernel
theorem dX6_assemble_29 : decode cX6_assemble 29 = .ok (.getfield 44, 3) := by decide +kernel
theorem dX6_assemble_32 : decode cX6_assemble 32 = .ok (.istore_n 2, 1) := by decide +kernel
theorem dX6_assemble_33 : decode cX6_assemble 33 = .ok (.iload_n 1, 1) := by decide +kernel
theorem dX6_assemble_34 : decode cX6_assemble 34 = .ok (.iload_n 2, 1) := by decide +kernel
theorem dX6_assemble_35 : decode cX6_assemble 35 = .ok (.iadd, 1) := by decide +kernel
theorem dX6_assemble_36 : decode cX6_assemble 36 = .ok (.bipush 48, 2) := by decide +kernel
theorem dX6_assemble_38 : decode cX6_assemble 38 = .ok (.if_icmp .le 6, 3) := by decide +kernel
theorem dX6_assemble_41 : decode cX6_assemble 41 = .ok (.ldc 48, 2) := by decide +kernel
theorem dX6_assemble_43 : decode cX6_assemble 43 = .ok (.ireturn, 1) := by decide +kernel
theorem dX6_assemble_44 : decode cX6_assemble 44 = .ok (.aload_n 0, 1) := by decide +kernel
theorem dX6_assemble_45 : decode cX6_assemble 45 = .ok (.getfield 22, 3) := by decide +kernel
theorem dX6_assemble_48 : decode cX6_assemble 48 = .ok (.aload_n 0, 1) := by decide +kernel
theorem dX6_assemble_49 : decode cX6_assemble 49 = .ok (.getfield 10, 3) := by decide +kernel
theorem dX6_assemble_52 : decode cX6_assemble 52 = .ok (.invokevirtual 49, 3) := by decide +kernel
theorem dX6_assemble_55 : decode cX6_assemble 55 = .ok (.aload_n 0, 1) := by decide +kernel
theorem dX6_assemble_56 : decode cX6_assemble 56 = .ok (.getfield 10, 3) := by decide +kernel
theorem dX6_assemble_59 : decode cX6_assemble 59 = .ok (.getfield 53, 3) := by decide +kernel
theorem dX6_assemble_62 : decode cX6_assemble 62 = .ok (.aload_n 0, 1) := by decide +kernel
theorem dX6_assemble_63 : decode cX6_assemble 63 = .ok (.getfield 29, 3) := by decide +kernel
theorem dX6_assemble_66 : decode cX6_assemble 66 = .ok (.getfield 57, 3) := by decide +kernel
theorem dX6_assemble_69 : decode cX6_assemble 69 = .ok (.iload_n 2, 1) := by decide +kernel
theorem dX6_assemble_70 : decode cX6_assemble 70 = .ok (.iload_n 1, 1) := by decide +kernel
theorem dX6_assemble_71 : decode cX6_assemble 71 = .ok (.invokevirtual 60, 3) := by decide +kernel
theorem dX6_assemble_74 : decode cX6_assemble 74 = .ok (.iload_n 2, 1) := by decide +kernel
theorem dX6_assemble_75 : decode cX6_assemble 75 = .ok (.ireturn, 1) := by decide +kernel
set_option maxRecDepth 20000 in
theorem ggX6_start_X6_isThread : GoodIn wsX6_start wsX6_isThread := goodIn_r _ [7, 8, 9, 6, 10] (by decide +kernel) (by decide +kernel)
set_option maxRecDepth 20000 in
theorem gX6_start_X6_isThread : GoodIn wsX6_start (va_wsS RX6 66 yX6_isThread wsX6_isThread) := goodIn_app (goodIn_of _ (by decide +kernel)) ggX6_start_X6_isThread
set_option maxRecDepth 20000 in
theorem ggX6_start_X6_isPlace : GoodIn wsX6_start wsX6_isPlace := goodIn_r _ [13, 8, 9, 6, 10] (by decide +kernel) (by decide +kernel)
set_option maxRecDepth 20000 in
theorem gX6_start_X6_isPlace : GoodIn wsX6_start (va_wsS RX6 33 yX6_isPlace wsX6_isPlace) := goodIn_app (goodIn_of _ (by decide +kernel)) ggX6_start_X6_isPlace
set_option maxRecDepth 20000 in
theorem ggX6_start_X1_remember : GoodIn wsX6_start wsX1_remember := goodIn_r _ [18, 19, 20, 21, 22, 23, 24, 25, 26, 27, 28, 29, 30, 31, 32, 33, 34, 35, 36, 37, 38, 39, 40, 41, 42, 43, 44, 45, 46, 47, 48, 49, 50, 51, 52, 53, 54, 55, 56, 57, 58, 59, 60, 61, 62, 63, 64, 65, 66, 67, 68, 69, 70, 71, 72, 73, 74, 75, 76, 77, 110, 111, 112, 90, 91, 92, 93, 94, 95, 96, 97, 98, 99, 100, 101, 102, 103, 104, 105, 106, 107, 108, 109, 113, 114, 115, 116, 117] (by decide +kernel) (by decide +kernel)
set_option maxRecDepth 20000 in
theorem gX6_start_X1_remember : GoodIn wsX6_start (wsV RX6 49 RX1 yX1_remember wsX1_remember) := goodIn_app (goodIn_of _ (by decide +kernel)) ggX6_start_X1_remember
set_option maxRecDepth 20000 in
theorem ggX6_start_X0_startAt : GoodIn wsX6_start wsX0_startAt := goodIn_r _ [81, 49, 51, 52, 56, 59, 82, 83, 84, 85, 99, 100, 101, 102, 103, 104, 105, 106, 107, 108, 109] (by decide +kernel) (by decide +kernel)
set_option maxRecDepth 20000 in
theorem gX6_start_X0_startAt : GoodIn wsX6_start (wsV RX6 78 RX0 yX0_startAt wsX0_startAt) := goodIn_app (goodIn_of _ (by decide +kernel)) ggX6_start_X0_startAt
theorem dX6_start_0 : decode cX6_start 0 = .ok (.iload_n 1, 1) := by decide +kernel
theorem dX6_start_1 : decode cX6_start 1 = .ok (.invokestatic 66, 3) := by decide +kernel
theorem dX6_start_4 : decode cX6_start 4 = .ok (.ifCond .eq 10, 3) := by decide +kernel
theorem dX6_start_7 : decode cX6_start 7 = .ok (.iload_n 2, 1) := by decide +kernel
theorem dX6_start_8 : decode cX6_start 8 = .ok (.invokestatic 33, 3) := by decide +kernel
theorem dX6_start_11 : decode cX6_start 11 = .ok (.ifCond .ne 6, 3) := by decide +kernel
theorem dX6_start_14 : decode cX6_start 14 = .ok (.ldc 37, 2) := by decide +kernel
theorem dX6_start_16 : decode cX6_start 16 = .ok (.ireturn, 1) := by decide +kernel
theorem dX6_start_17 : decode cX6_start 17 = .ok (.aload_n 0, 1) := by decide +kernel
theorem dX6_start_18 : decode cX6_start 18 = .ok (.getfield 22, 3) := by decide +kernel
theorem dX6_start_21 : decode cX6_start 21 = .ok (.aload_n 0, 1) := by decide +kernel
theorem dX6_start_22 : decode cX6_start 22 = .ok (.getfield 10, 3) := by decide +kernel
theorem dX6_start_25 : decode cX6_start 25 = .ok (.invokevirtual 49, 3) := by decide +kernel
theorem dX6_start_28 : decode cX6_start 28 = .ok (.aload_n 0, 1) := by decide +kernel
theorem dX6_start_29 : decode cX6_start 29 = .ok (.getfield 10, 3) := by decide +kernel
theorem dX6_start_32 : decode cX6_start 32 = .ok (.getfield 69, 3) := by decide +kernel
theorem dX6_start_35 : decode cX6_start 35 = .ok (.iload_n 1, 1) := by decide +kernel
theorem dX6_start_36 : decode cX6_start 36 = .ok (.aaload, 1) := by decide +kernel
theorem dX6_start_37 : decode cX6_start 37 = .ok (.getfield 73, 3) := by decide +kernel
theorem dX6_start_40 : decode cX6_start 40 = .ok (.istore_n 3, 1) := by decide +kernel
theorem dX6_start_41 : decode cX6_start 41 = .ok (.aload_n 0, 1) := by decide +kernel
theorem dX6_start_42 : decode cX6_start 42 = .ok (.getfield 10, 3) := by decide +kernel
theorem dX6_start_45 : decode cX6_start 45 = .ok (.getfield 69, 3) := by decide +kernel
theorem dX6_start_48 : decode cX6_start 48 = .ok (.iload_n 1, 1) := by decide +kernel
theorem dX6_start_49 : decode cX6_start 49 = .ok (.aaload, 1) := by decide +kernel
theorem dX6_start_50 : decode cX6_start 50 = .ok (.iload_n 2, 1) := by decide +kernel
theorem dX6_start_51 : decode cX6_start 51 = .ok (.invokevirtual 78, 3) := by decide +kernel
theorem dX6_start_54 : decode cX6_start 54 = .ok (.iload_n 3, 1) := by decide +kernel
theorem dX6_start_55 : decode cX6_start 55 = .ok (.ireturn, 1) := by decide +kernel
set_option maxRecDepth 20000 in
theorem ggX6_halt_X6_isThread : GoodIn wsX6_halt wsX6_isThread := goodIn_r _ [7, 8, 9, 6, 10] (by decide +kernel) (by decide +kernel)
set_option maxRecDepth 20000 in
theorem gX6_halt_X6_isThread : GoodIn wsX6_halt (va_wsS RX6 66 yX6_isThread wsX6_isThread) := goodIn_app (goodIn_of _ (by decide +kernel)) ggX6_halt_X6_isThread
set_option maxRecDepth 20000 in
theorem ggX6_halt_X1_remember : GoodIn wsX6_halt wsX1_remember := goodIn_r _ [15, 16, 17, 18, 19, 20, 21, 22, 23, 24, 25, 26, 27, 28, 29, 30, 31, 32, 33, 34, 35, 36, 37, 38, 39, 40, 41, 42, 43, 44, 45, 46, 47, 48, 49, 50, 51, 52, 53, 54, 55, 56, 57, 58, 59, 60, 61, 62, 63, 64, 65, 66, 67, 68, 69, 70, 71, 72, 73, 74, 103, 104, 105, 83, 84, 85, 86, 87, 88, 89, 90, 91, 92, 93, 94, 95, 96, 97, 98, 99, 100, 101, 102, 106, 107, 108, 109, 110] (by decide +kernel) (by decide +kernel)
set_option maxRecDepth 20000 in
theorem gX6_halt_X1_remember : GoodIn wsX6_halt (wsV RX6 49 RX1 yX1_remember wsX1_remember) := goodIn_app (goodIn_of _ (by decide +kernel)) ggX6_halt_X1_remember
set_option maxRecDepth 20000 in
theorem ggX6_halt_X0_haltNow : GoodIn wsX6_halt wsX0_haltNow := goodIn_r _ [78, 48, 56, 92, 93, 94, 95, 96, 97, 98, 99, 100, 101, 102] (by decide +kernel) (by decide +kernel)
set_option maxRecDepth 20000 in
theorem gX6_halt_X0_haltNow : GoodIn wsX6_halt (wsV RX6 82 RX0 yX0_haltNow wsX0_haltNow) := goodIn_app (goodIn_of _ (by decide +kernel)) ggX6_halt_X0_haltNow
theorem dX6_halt_0 : decode cX6_halt 0 = .ok (.iload_n 1, 1) := by decide +kernel
theorem dX6_halt_1 : decode cX6_halt 1 = .ok (.invokestatic 66, 3) := by decide +kernel
theorem dX6_halt_4 : decode cX6_halt 4 = .ok (.ifCond .ne 6, 3) := by decide +kernel
theorem dX6_halt_7 : decode cX6_halt 7 = .ok (.ldc 37, 2) := by decide +kernel
theorem dX6_halt_9 : decode cX6_halt 9 = .ok (.ireturn, 1) := by decide +kernel
theorem dX6_halt_10 : decode cX6_halt 10 = .ok (.aload_n 0, 1) := by decide +kernel
theorem dX6_halt_11 : decode cX6_halt 11 = .ok (.getfield 22, 3) := by decide +kernel
theorem dX6_halt_14 : decode cX6_halt 14 = .ok (.aload_n 0, 1) := by decide +kernel
theorem dX6_halt_15 : decode cX6_halt 15 = .ok (.getfield 10, 3) := by decide +kernel
theorem dX6_halt_18 : decode cX6_halt 18 = .ok (.invokevirtual 49, 3) := by decide +kernel
theorem dX6_halt_21 : decode cX6_halt 21 = .ok (.aload_n 0, 1) := by decide +kernel
theorem dX6_halt_22 : decode cX6_halt 22 = .ok (.getfield 10, 3) := by decide +kernel
theorem dX6_halt_25 : decode cX6_halt 25 = .ok (.getfield 69, 3) := by decide +kernel
theorem dX6_halt_28 : decode cX6_halt 28 = .ok (.iload_n 1, 1) := by decide +kernel
theorem dX6_halt_29 : decode cX6_halt 29 = .ok (.aaload, 1) := by decide +kernel
theorem dX6_halt_30 : decode cX6_halt 30 = .ok (.getfield 73, 3) := by decide +kernel
theorem dX6_halt_33 : decode cX6_halt 33 = .ok (.istore_n 2, 1) := by decide +kernel
theorem dX6_halt_34 : decode cX6_halt 34 = .ok (.aload_n 0, 1) := by decide +kernel
theorem dX6_halt_35 : decode cX6_halt 35 = .ok (.getfield 10, 3) := by decide +kernel
theorem dX6_halt_38 : decode cX6_halt 38 = .ok (.getfield 69, 3) := by decide +kernel
theorem dX6_halt_41 : decode cX6_halt 41 = .ok (.iload_n 1, 1) := by decide +kernel
theorem dX6_halt_42 : decode cX6_halt 42 = .ok (.aaload, 1) := by decide +kernel
theorem dX6_halt_43 : decode cX6_halt 43 = .ok (.invokevirtual 82, 3) := by decide +kernel
theorem dX6_halt_46 : decode cX6_halt 46 = .ok (.iload_n 2, 1) := by decide +kernel
theorem dX6_halt_47 : decode cX6_halt 47 = .ok (.ireturn, 1) := by decide +kernel
set_option maxRecDepth 20000 in
theorem ggX6_setRegister_X6_isThread : GoodIn wsX6_setRegister wsX6_isThread := goodIn_r _ [8, 9, 10, 7, 11] (by decide +kernel) (by decide +kernel)
set_option maxRecDepth 20000 in
theorem gX6_setRegister_X6_isThread : GoodIn wsX6_setRegister (va_wsS RX6 66 yX6_isThread wsX6_isThread) := goodIn_app (goodIn_of _ (by decide +kernel)) ggX6_setRegister_X6_isThread
set_option maxRecDepth 20000 in
theorem ggX6_setRegister_X6_isRegister : GoodIn wsX6_setRegister wsX6_isRegister := goodIn_r _ [14, 9, 10, 7, 11] (by decide +kernel) (by decide +kernel)
set_option maxRecDepth 20000 in
theorem gX6_setRegister_X6_isRegister : GoodIn wsX6_setRegister (va_wsS RX6 85 yX6_isRegister wsX6_isRegister) := goodIn_app (goodIn_of _ (by decide +kernel)) ggX6_setRegister_X6_isRegister
set_option maxRecDepth 20000 in
theorem ggX6_setRegister_X6_isValue : GoodIn wsX6_setRegister wsX6_isValue := goodIn_r _ [17, 9, 10, 7, 11] (by decide +kernel) (by decide +kernel)
set_option maxRecDepth 20000 in
theorem gX6_setRegister_X6_isValue : GoodIn wsX6_setRegister (va_wsS RX6 88 yX6_isValue wsX6_isValue) := goodIn_app (goodIn_of _ (by decide +kernel)) ggX6_setRegister_X6_isValue
set_option maxRecDepth 20000 in
theorem ggX6_setRegister_X1_remember : GoodIn wsX6_setRegister wsX1_remember := goodIn_r _ [22, 23, 24, 25, 26, 27, 28, 29, 30, 31, 32, 33, 34, 35, 36, 37, 38, 39, 40, 41, 42, 43, 44, 45, 46, 47, 48, 49, 50, 51, 52, 53, 54, 55, 56, 57, 58, 59, 60, 61, 62, 63, 64, 65, 66, 67, 68, 69, 70, 71, 72, 73, 74, 75, 76, 77, 78, 79, 80, 81, 109, 110, 111, 89, 90, 91, 92, 93, 94, 95, 96, 97, 98, 99, 100, 101, 102, 103, 104, 105, 106, 107, 108, 112, 113, 114, 115, 116] (by decide +kernel) (by decide +kernel)
set_option maxRecDepth 20000 in
theorem gX6_setRegister_X1_remember : GoodIn wsX6_setRegister (wsV RX6 49 RX1 yX1_remember wsX1_remember) := goodIn_app (goodIn_of _ (by decide +kernel)) ggX6_setRegister_X1_remember
set_option maxRecDepth 20000 in
theorem ggX6_setRegister_X6_replace : GoodIn wsX6_setRegister wsX6_replace := goodIn_r _ [84] (by decide +kernel) (by decide +kernel)
set_option maxRecDepth 20000 in
theorem gX6_setRegister_X6_replace : GoodIn wsX6_setRegister (va_wsS RX6 96 yX6_replace wsX6_replace) := goodIn_app (goodIn_of _ (by decide +kernel)) ggX6_setRegister_X6_replace
theorem dX6_setRegister_0 : decode cX6_setRegister 0 = .ok (.iload_n 1, 1) := by decide +kernel
theorem dX6_setRegister_1 : decode cX6_setRegister 1 = .ok (.invokestatic 66, 3) := by decide +kernel
theorem dX6_setRegister_4 : decode cX6_setRegister 4 = .ok (.ifCond .eq 10, 3) := by decide +kernel
theorem dX6_setRegister_7 : decode cX6_setRegister 7 = .ok (.iload_n 2, 1) := by decide +kernel
theorem dX6_setRegister_8 : decode cX6_setRegister 8 = .ok (.invokestatic 85, 3) := by decide +kernel
theorem dX6_setRegister_11 : decode cX6_setRegister 11 = .ok (.ifCond .ne 6, 3) := by decide +kernel
theorem dX6_setRegister_14 : decode cX6_setRegister 14 = .ok (.ldc 37, 2) := by decide +kernel
theorem dX6_setRegister_16 : decode cX6_setRegister 16 = .ok (.ireturn, 1) := by decide +kernel
theorem dX6_setRegister_17 : decode cX6_setRegister 17 = .ok (.iload_n 3, 1) := by decide +kernel
theorem dX6_setRegister_18 : decode cX6_setRegister 18 = .ok (.invokestatic 88, 3) := by decide +kernel
theorem dX6_setRegister_21 : decode cX6_setRegister 21 = .ok (.ifCond .ne 6, 3) := by decide +kernel
theorem dX6_setRegister_24 : decode cX6_setRegister 24 = .ok (.ldc 91, 2) := by decide +kernel
theorem dX6_setRegister_26 : decode cX6_setRegister 26 = .ok (.ireturn, 1) := by decide +kernel
theorem dX6_setRegister_27 : decode cX6_setRegister 27 = .ok (.aload_n 0, 1) := by decide +kernel
theorem dX6_setRegister_28 : decode cX6_setRegister 28 = .ok (.getfield 22, 3) := by decide +kernel
theorem dX6_setRegister_31 : decode cX6_setRegister 31 = .ok (.aload_n 0, 1) := by decide +kernel
theorem dX6_setRegister_32 : decode cX6_setRegister 32 = .ok (.getfield 10, 3) := by decide +kernel
theorem dX6_setRegister_35 : decode cX6_setRegister 35 = .ok (.invokevirtual 49, 3) := by decide +kernel
theorem dX6_setRegister_38 : decode cX6_setRegister 38 = .ok (.aload_n 0, 1) := by decide +kernel
theorem dX6_setRegister_39 : decode cX6_setRegister 39 = .ok (.getfield 10, 3) := by decide +kernel
theorem dX6_setRegister_42 : decode cX6_setRegister 42 = .ok (.getfield 69, 3) := by decide +kernel
theorem dX6_setRegister_45 : decode cX6_setRegister 45 = .ok (.iload_n 1, 1) := by decide +kernel
theorem dX6_setRegister_46 : decode cX6_setRegister 46 = .ok (.aaload, 1) := by decide +kernel
theorem dX6_setRegister_47 : decode cX6_setRegister 47 = .ok (.getfield 92, 3) := by decide +kernel
theorem dX6_setRegister_50 : decode cX6_setRegister 50 = .ok (.iload_n 2, 1) := by decide +kernel
theorem dX6_setRegister_51 : decode cX6_setRegister 51 = .ok (.iload_n 3, 1) := by decide +kernel
theorem dX6_setRegister_52 : decode cX6_setRegister 52 = .ok (.invokestatic 96, 3) := by decide +kernel
theorem dX6_setRegister_55 : decode cX6_setRegister 55 = .ok (.ireturn, 1) := by decide +kernel
set_option maxRecDepth 20000 in
theorem ggX6_setWord_X6_isWord : GoodIn wsX6_setWord wsX6_isWord := goodIn_r _ [8, 9, 10, 7, 11] (by decide +kernel) (by decide +kernel)
set_option maxRecDepth 20000 in
theorem gX6_setWord_X6_isWord : GoodIn wsX6_setWord (va_wsS RX6 100 yX6_isWord wsX6_isWord) := goodIn_app (goodIn_of _ (by decide +kernel)) ggX6_setWord_X6_isWord
set_option maxRecDepth 20000 in
theorem ggX6_setWord_X6_isValue : GoodIn wsX6_setWord wsX6_isValue := goodIn_r _ [14, 9, 10, 7, 11] (by decide +kernel) (by decide +kernel)
set_option maxRecDepth 20000 in
theorem gX6_setWord_X6_isValue : GoodIn wsX6_setWord (va_wsS RX6 88 yX6_isValue wsX6_isValue) := goodIn_app (goodIn_of _ (by decide +kernel)) ggX6_setWord_X6_isValue
set_option maxRecDepth 20000 in
theorem ggX6_setWord_X1_remember : GoodIn wsX6_setWord wsX1_remember := goodIn_r _ [19, 20, 21, 22, 23, 24, 25, 26, 27, 28, 29, 30, 31, 32, 33, 34, 35, 36, 37, 38, 39, 40, 41, 42, 43, 44, 45, 46, 47, 48, 49, 50, 51, 52, 53, 54, 55, 56, 57, 58, 59, 60, 61, 62, 63, 64, 65, 66, 67, 68, 69, 70, 71, 72, 73, 74, 75, 76, 77, 78, 95, 96, 97, 86, 87, 88, 89, 90, 91, 92, 93, 94, 98, 99, 100, 101, 102, 103, 104, 105, 106, 107, 108, 109, 110, 111, 112, 113] (by decide +kernel) (by decide +kernel)
set_option maxRecDepth 20000 in
theorem gX6_setWord_X1_remember : GoodIn wsX6_setWord (wsV RX6 49 RX1 yX1_remember wsX1_remember) := goodIn_app (goodIn_of _ (by decide +kernel)) ggX6_setWord_X1_remember
set_option maxRecDepth 20000 in
theorem ggX6_setWord_X6_replace : GoodIn wsX6_setWord wsX6_replace := goodIn_r _ [81] (by decide +kernel) (by decide +kernel)
set_option maxRecDepth 20000 in
theorem gX6_setWord_X6_replace : GoodIn wsX6_setWord (va_wsS RX6 96 yX6_replace wsX6_replace) := goodIn_app (goodIn_of _ (by decide +kernel)) ggX6_setWord_X6_replace
theorem dX6_setWord_0 : decode cX6_setWord 0 = .ok (.iload_n 1, 1) := by decide +kernel
theorem dX6_setWord_1 : decode cX6_setWord 1 = .ok (.invokestatic 100, 3) := by decide +kernel
theorem dX6_setWord_4 : decode cX6_setWord 4 = .ok (.ifCond .ne 6, 3) := by decide +kernel
theorem dX6_setWord_7 : decode cX6_setWord 7 = .ok (.ldc 37, 2) := by decide +kernel
theorem dX6_setWord_9 : decode cX6_setWord 9 = .ok (.ireturn, 1) := by decide +kernel
theorem dX6_setWord_10 : decode cX6_setWord 10 = .ok (.iload_n 2, 1) := by decide +kernel
theorem dX6_setWord_11 : decode cX6_setWord 11 = .ok (.invokestatic 88, 3) := by decide +kernel
theorem dX6_setWord_14 : decode cX6_setWord 14 = .ok (.ifCond .ne 6, 3) := by decide +kernel
theorem dX6_setWord_17 : decode cX6_setWord 17 = .ok (.ldc 91, 2) := by decide +kernel
theorem dX6_setWord_19 : decode cX6_setWord 19 = .ok (.ireturn, 1) := by decide +kernel
theorem dX6_setWord_20 : decode cX6_setWord 20 = .ok (.aload_n 0, 1) := by decide +kernel
theorem dX6_setWord_21 : decode cX6_setWord 21 = .ok (.getfield 22, 3) := by decide +kernel
theorem dX6_setWord_24 : decode cX6_setWord 24 = .ok (.aload_n 0, 1) := by decide +kernel
theorem dX6_setWord_25 : decode cX6_setWord 25 = .ok (.getfield 10, 3) := by decide +kernel
theorem dX6_setWord_28 : decode cX6_setWord 28 = .ok (.invokevirtual 49, 3) := by decide +kernel
theorem dX6_setWord_31 : decode cX6_setWord 31 = .ok (.aload_n 0, 1) := by decide +kernel
theorem dX6_setWord_32 : decode cX6_setWord 32 = .ok (.getfield 10, 3) := by decide +kernel
theorem dX6_setWord_35 : decode cX6_setWord 35 = .ok (.getfield 103, 3) := by decide +kernel
theorem dX6_setWord_38 : decode cX6_setWord 38 = .ok (.iload_n 1, 1) := by decide +kernel
theorem dX6_setWord_39 : decode cX6_setWord 39 = .ok (.iload_n 2, 1) := by decide +kernel
theorem dX6_setWord_40 : decode cX6_setWord 40 = .ok (.invokestatic 96, 3) := by decide +kernel
theorem dX6_setWord_43 : decode cX6_setWord 43 = .ok (.ireturn, 1) := by decide +kernel
set_option maxRecDepth 20000 in
theorem ggX6_setSlot_X6_isSlot : GoodIn wsX6_setSlot wsX6_isSlot := goodIn_r _ [7, 8, 9, 6, 10] (by decide +kernel) (by decide +kernel)
set_option maxRecDepth 20000 in
theorem gX6_setSlot_X6_isSlot : GoodIn wsX6_setSlot (va_wsS RX6 106 yX6_isSlot wsX6_isSlot) := goodIn_app (goodIn_of _ (by decide +kernel)) ggX6_setSlot_X6_isSlot
set_option maxRecDepth 20000 in
theorem ggX6_setSlot_X6_isThread : GoodIn wsX6_setSlot wsX6_isThread := goodIn_r _ [13, 8, 9, 6, 10] (by decide +kernel) (by decide +kernel)
set_option maxRecDepth 20000 in
theorem gX6_setSlot_X6_isThread : GoodIn wsX6_setSlot (va_wsS RX6 66 yX6_isThread wsX6_isThread) := goodIn_app (goodIn_of _ (by decide +kernel)) ggX6_setSlot_X6_isThread
set_option maxRecDepth 20000 in
theorem ggX6_setSlot_X1_remember : GoodIn wsX6_setSlot wsX1_remember := goodIn_r _ [18, 19, 20, 21, 22, 23, 24, 25, 26, 27, 28, 29, 30, 31, 32, 33, 34, 35, 36, 37, 38, 39, 40, 41, 42, 43, 44, 45, 46, 47, 48, 49, 50, 51, 52, 53, 54, 55, 56, 57, 58, 59, 60, 61, 62, 63, 64, 65, 66, 67, 68, 69, 70, 71, 72, 73, 74, 75, 76, 77, 94, 95, 96, 85, 86, 87, 88, 89, 90, 91, 92, 93, 97, 98, 99, 100, 101, 102, 103, 104, 105, 106, 107, 108, 109, 110, 111, 112] (by decide +kernel) (by decide +kernel)
set_option maxRecDepth 20000 in
theorem gX6_setSlot_X1_remember : GoodIn wsX6_setSlot (wsV RX6 49 RX1 yX1_remember wsX1_remember) := goodIn_app (goodIn_of _ (by decide +kernel)) ggX6_setSlot_X1_remember
set_option maxRecDepth 20000 in
theorem ggX6_setSlot_X6_replace : GoodIn wsX6_setSlot wsX6_replace := goodIn_r _ [80] (by decide +kernel) (by decide +kernel)
set_option maxRecDepth 20000 in
theorem gX6_setSlot_X6_replace : GoodIn wsX6_setSlot (va_wsS RX6 96 yX6_replace wsX6_replace) := goodIn_app (goodIn_of _ (by decide +kernel)) ggX6_setSlot_X6_replace
theorem dX6_setSlot_0 : decode cX6_setSlot 0 = .ok (.iload_n 1, 1) := by decide +kernel
theorem dX6_setSlot_1 : decode cX6_setSlot 1 = .ok (.invokestatic 106, 3) := by decide +kernel
theorem dX6_setSlot_4 : decode cX6_setSlot 4 = .ok (.ifCond .eq 10, 3) := by decide +kernel
theorem dX6_setSlot_7 : decode cX6_setSlot 7 = .ok (.iload_n 2, 1) := by decide +kernel
theorem dX6_setSlot_8 : decode cX6_setSlot 8 = .ok (.invokestatic 66, 3) := by decide +kernel
theorem dX6_setSlot_11 : decode cX6_setSlot 11 = .ok (.ifCond .ne 6, 3) := by decide +kernel
theorem dX6_setSlot_14 : decode cX6_setSlot 14 = .ok (.ldc 37, 2) := by decide +kernel
theorem dX6_setSlot_16 : decode cX6_setSlot 16 = .ok (.ireturn, 1) := by decide +kernel
theorem dX6_setSlot_17 : decode cX6_setSlot 17 = .ok (.aload_n 0, 1) := by decide +kernel
theorem dX6_setSlot_18 : decode cX6_setSlot 18 = .ok (.getfield 22, 3) := by decide +kernel
theorem dX6_setSlot_21 : decode cX6_setSlot 21 = .ok (.aload_n 0, 1) := by decide +kernel
theorem dX6_setSlot_22 : decode cX6_setSlot 22 = .ok (.getfield 10, 3) := by decide +kernel
theorem dX6_setSlot_25 : decode cX6_setSlot 25 = .ok (.invokevirtual 49, 3) := by decide +kernel
theorem dX6_setSlot_28 : decode cX6_setSlot 28 = .ok (.aload_n 0, 1) := by decide +kernel
theorem dX6_setSlot_29 : decode cX6_setSlot 29 = .ok (.getfield 10, 3) := by decide +kernel
theorem dX6_setSlot_32 : decode cX6_setSlot 32 = .ok (.getfield 109, 3) := by decide +kernel
theorem dX6_setSlot_35 : decode cX6_setSlot 35 = .ok (.iload_n 1, 1) := by decide +kernel
theorem dX6_setSlot_36 : decode cX6_setSlot 36 = .ok (.iload_n 2, 1) := by decide +kernel
theorem dX6_setSlot_37 : decode cX6_setSlot 37 = .ok (.invokestatic 96, 3) := by decide +kernel
theorem dX6_setSlot_40 : decode cX6_setSlot 40 = .ok (.ireturn, 1) := by decide +kernel
set_option maxRecDepth 20000 in
theorem ggX6_set_X6_isSetting : GoodIn wsX6_set wsX6_isSetting := goodIn_r _ [8, 9, 10, 7, 11] (by decide +kernel) (by decide +kernel)
set_option maxRecDepth 20000 in
theorem gX6_set_X6_isSetting : GoodIn wsX6_set (va_wsS RX6 112 yX6_isSetting wsX6_isSetting) := goodIn_app (goodIn_of _ (by decide +kernel)) ggX6_set_X6_isSetting
set_option maxRecDepth 20000 in
theorem ggX6_set_X6_isWithin : GoodIn wsX6_set wsX6_isWithin := goodIn_r _ [11] (by decide +kernel) (by decide +kernel)
set_option maxRecDepth 20000 in
theorem gX6_set_X6_isWithin : GoodIn wsX6_set (va_wsS RX6 115 yX6_isWithin wsX6_isWithin) := goodIn_app (goodIn_of _ (by decide +kernel)) ggX6_set_X6_isWithin
set_option maxRecDepth 20000 in
theorem ggX6_set_X1_remember : GoodIn wsX6_set wsX1_remember := goodIn_r _ [16, 17, 18, 19, 20, 21, 22, 23, 24, 25, 26, 27, 28, 29, 30, 31, 32, 33, 34, 35, 36, 37, 38, 39, 40, 41, 42, 43, 44, 45, 46, 47, 48, 49, 50, 51, 52, 53, 54, 55, 56, 57, 58, 59, 60, 61, 62, 63, 64, 65, 66, 67, 68, 69, 70, 71, 72, 73, 74, 75, 92, 93, 94, 83, 84, 85, 86, 87, 88, 89, 90, 91, 95, 96, 97, 98, 99, 100, 101, 102, 103, 104, 105, 106, 107, 108, 109, 110] (by decide +kernel) (by decide +kernel)
set_option maxRecDepth 20000 in
theorem gX6_set_X1_remember : GoodIn wsX6_set (wsV RX6 49 RX1 yX1_remember wsX1_remember) := goodIn_app (goodIn_of _ (by decide +kernel)) ggX6_set_X1_remember
set_option maxRecDepth 20000 in
theorem ggX6_set_X6_replace : GoodIn wsX6_set wsX6_replace := goodIn_r _ [78] (by decide +kernel) (by decide +kernel)
set_option maxRecDepth 20000 in
theorem gX6_set_X6_replace : GoodIn wsX6_set (va_wsS RX6 96 yX6_replace wsX6_replace) := goodIn_app (goodIn_of _ (by decide +kernel)) ggX6_set_X6_replace
theorem dX6_set_0 : decode cX6_set 0 = .ok (.iload_n 1, 1) := by decide +kernel
theorem dX6_set_1 : decode cX6_set 1 = .ok (.invokestatic 112, 3) := by decide +kernel
theorem dX6_set_4 : decode cX6_set 4 = .ok (.ifCond .ne 6, 3) := by decide +kernel
theorem dX6_set_7 : decode cX6_set 7 = .ok (.ldc 37, 2) := by decide +kernel
theorem dX6_set_9 : decode cX6_set 9 = .ok (.ireturn, 1) := by decide +kernel
theorem dX6_set_10 : decode cX6_set 10 = .ok (.iload_n 2, 1) := by decide +kernel
theorem dX6_set_11 : decode cX6_set 11 = .ok (.iconst 0, 1) := by decide +kernel
theorem dX6_set_12 : decode cX6_set 12 = .ok (.iload_n 1, 1) := by decide +kernel
theorem dX6_set_13 : decode cX6_set 13 = .ok (.ifCond .ne 8, 3) := by decide +kernel
theorem dX6_set_16 : decode cX6_set 16 = .ok (.bipush 20, 2) := by decide +kernel
theorem dX6_set_18 : decode cX6_set 18 = .ok (.goto 4, 3) := by decide +kernel
theorem dX6_set_21 : decode cX6_set 21 = .ok (.iconst 2, 1) := by decide +kernel
theorem dX6_set_22 : decode cX6_set 22 = .ok (.invokestatic 115, 3) := by decide +kernel
theorem dX6_set_25 : decode cX6_set 25 = .ok (.ifCond .ne 6, 3) := by decide +kernel
theorem dX6_set_28 : decode cX6_set 28 = .ok (.ldc 91, 2) := by decide +kernel
theorem dX6_set_30 : decode cX6_set 30 = .ok (.ireturn, 1) := by decide +kernel
theorem dX6_set_31 : decode cX6_set 31 = .ok (.aload_n 0, 1) := by decide +kernel
theorem dX6_set_32 : decode cX6_set 32 = .ok (.getfield 22, 3) := by decide +kernel
theorem dX6_set_35 : decode cX6_set 35 = .ok (.aload_n 0, 1) := by decide +kernel
theorem dX6_set_36 : decode cX6_set 36 = .ok (.getfield 10, 3) := by decide +kernel
theorem dX6_set_39 : decode cX6_set 39 = .ok (.invokevirtual 49, 3) := by decide +kernel
theorem dX6_set_42 : decode cX6_set 42 = .ok (.aload_n 0, 1) := by decide +kernel
theorem dX6_set_43 : decode cX6_set 43 = .ok (.getfield 10, 3) := by decide +kernel
theorem dX6_set_46 : decode cX6_set 46 = .ok (.getfield 119, 3) := by decide +kernel
theorem dX6_set_49 : decode cX6_set 49 = .ok (.iload_n 1, 1) := by decide +kernel
theorem dX6_set_50 : decode cX6_set 50 = .ok (.iload_n 2, 1) := by decide +kernel
theorem dX6_set_51 : decode cX6_set 51 = .ok (.invokestatic 96, 3) := by decide +kernel
theorem dX6_set_54 : decode cX6_set 54 = .ok (.ireturn, 1) := by decide +kernel
set_option maxRecDepth 20000 in
theorem ggX6_setBreakpoint_X6_isPlace : GoodIn wsX6_setBreakpoint wsX6_isPlace := goodIn_r _ [7, 8, 9, 6, 10] (by decide +kernel) (by decide +kernel)
set_option maxRecDepth 20000 in
theorem gX6_setBreakpoint_X6_isPlace : GoodIn wsX6_setBreakpoint (va_wsS RX6 33 yX6_isPlace wsX6_isPlace) := goodIn_app (goodIn_of _ (by decide +kernel)) ggX6_setBreakpoint_X6_isPlace
set_option maxRecDepth 20000 in
theorem ggX6_setBreakpoint_X1_remember : GoodIn wsX6_setBreakpoint wsX1_remember := goodIn_r _ [15, 16, 17, 18, 19, 20, 21, 22, 23, 24, 25, 26, 27, 28, 29, 30, 31, 32, 33, 34, 35, 36, 37, 38, 39, 40, 41, 42, 43, 44, 45, 46, 47, 48, 49, 50, 51, 52, 53, 54, 55, 56, 57, 58, 59, 60, 61, 62, 63, 64, 65, 66, 67, 68, 69, 70, 71, 72, 73, 74, 92, 93, 94, 83, 84, 85, 86, 87, 88, 89, 90, 91, 95, 96, 97, 98, 99, 100, 101, 102, 103, 104, 105, 106, 107, 108, 109, 110] (by decide +kernel) (by decide +kernel)
set_option maxRecDepth 20000 in
theorem gX6_setBreakpoint_X1_remember : GoodIn wsX6_setBreakpoint (wsV RX6 49 RX1 yX1_remember wsX1_remember) := goodIn_app (goodIn_of _ (by decide +kernel)) ggX6_setBreakpoint_X1_remember
set_option maxRecDepth 20000 in
theorem ggX6_setBreakpoint_X3_countBreakpoints : GoodIn wsX6_setBreakpoint wsX3_countBreakpoints := goodIn_r _ [78, 30, 83, 84, 85, 86, 87, 88, 89, 90, 91] (by decide +kernel) (by decide +kernel)
set_option maxRecDepth 20000 in
theorem gX6_setBreakpoint_X3_countBreakpoints : GoodIn wsX6_setBreakpoint (wsV RX6 125 RX3 yX3_countBreakpoints wsX3_countBreakpoints) := goodIn_app (goodIn_of _ (by decide +kernel)) ggX6_setBreakpoint_X3_countBreakpoints
theorem dX6_setBreakpoint_0 : decode cX6_setBreakpoint 0 = .ok (.iload_n 1, 1) := by decide +kernel
theorem dX6_setBreakpoint_1 : decode cX6_setBreakpoint 1 = .ok (.invokestatic 33, 3) := by decide +kernel
theorem dX6_setBreakpoint_4 : decode cX6_setBreakpoint 4 = .ok (.ifCond .ne 6, 3) := by decide +kernel
theorem dX6_setBreakpoint_7 : decode cX6_setBreakpoint 7 = .ok (.ldc 37, 2) := by decide +kernel
theorem dX6_setBreakpoint_9 : decode cX6_setBreakpoint 9 = .ok (.ireturn, 1) := by decide +kernel
theorem dX6_setBreakpoint_10 : decode cX6_setBreakpoint 10 = .ok (.aload_n 0, 1) := by decide +kernel
theorem dX6_setBreakpoint_11 : decode cX6_setBreakpoint 11 = .ok (.getfield 22, 3) := by decide +kernel
theorem dX6_setBreakpoint_14 : decode cX6_setBreakpoint 14 = .ok (.aload_n 0, 1) := by decide +kernel
theorem dX6_setBreakpoint_15 : decode cX6_setBreakpoint 15 = .ok (.getfield 10, 3) := by decide +kernel
theorem dX6_setBreakpoint_18 : decode cX6_setBreakpoint 18 = .ok (.invokevirtual 49, 3) := by decide +kernel
theorem dX6_setBreakpoint_21 : decode cX6_setBreakpoint 21 = .ok (.aload_n 0, 1) := by decide +kernel
theorem dX6_setBreakpoint_22 : decode cX6_setBreakpoint 22 = .ok (.getfield 10, 3) := by decide +kernel
theorem dX6_setBreakpoint_25 : decode cX6_setBreakpoint 25 = .ok (.getfield 122, 3) := by decide +kernel
theorem dX6_setBreakpoint_28 : decode cX6_setBreakpoint 28 = .ok (.iload_n 1, 1) := by decide +kernel
theorem dX6_setBreakpoint_29 : decode cX6_setBreakpoint 29 = .ok (.iload_n 2, 1) := by decide +kernel
theorem dX6_setBreakpoint_30 : decode cX6_setBreakpoint 30 = .ok (.ifCond .eq 7, 3) := by decide +kernel
theorem dX6_setBreakpoint_33 : decode cX6_setBreakpoint 33 = .ok (.iconst 1, 1) := by decide +kernel
theorem dX6_setBreakpoint_34 : decode cX6_setBreakpoint 34 = .ok (.goto 4, 3) := by decide +kernel
theorem dX6_setBreakpoint_37 : decode cX6_setBreakpoint 37 = .ok (.iconst 0, 1) := by decide +kernel
theorem dX6_setBreakpoint_38 : decode cX6_setBreakpoint 38 = .ok (.iastore, 1) := by decide +kernel
theorem dX6_setBreakpoint_39 : decode cX6_setBreakpoint 39 = .ok (.aload_n 0, 1) := by decide +kernel
theorem dX6_setBreakpoint_40 : decode cX6_setBreakpoint 40 = .ok (.getfield 10, 3) := by decide +kernel
theorem dX6_setBreakpoint_43 : decode cX6_setBreakpoint 43 = .ok (.invokevirtual 125, 3) := by decide +kernel
theorem dX6_setBreakpoint_46 : decode cX6_setBreakpoint 46 = .ok (.ireturn, 1) := by decide +kernel
set_option maxRecDepth 20000 in
theorem ggX6_run_X6_isWithin : GoodIn wsX6_run wsX6_isWithin := goodIn_r _ [7] (by decide +kernel) (by decide +kernel)
set_option maxRecDepth 20000 in
theorem gX6_run_X6_isWithin : GoodIn wsX6_run (va_wsS RX6 115 yX6_isWithin wsX6_isWithin) := goodIn_app (goodIn_of _ (by decide +kernel)) ggX6_run_X6_isWithin
set_option maxRecDepth 20000 in
theorem ggX6_run_X1_remember : GoodIn wsX6_run wsX1_remember := goodIn_r _ [12, 13, 14, 15, 16, 17, 18, 19, 20, 21, 22, 23, 24, 25, 26, 27, 28, 29, 30, 31, 32, 33, 34, 35, 36, 37, 38, 39, 40, 41, 42, 43, 44, 45, 46, 47, 48, 49, 50, 51, 52, 53, 54, 55, 56, 57, 58, 59, 60, 61, 62, 63, 64, 65, 66, 67, 68, 69, 70, 71, 173, 174, 175, 176, 177, 178, 179, 180, 181, 182, 183, 184, 185, 186, 187, 188, 189, 190, 191, 192, 193, 194, 195, 196, 197, 198, 199, 200] (by decide +kernel) (by decide +kernel)
set_option maxRecDepth 20000 in
theorem gX6_run_X1_remember : GoodIn wsX6_run (wsV RX6 49 RX1 yX1_remember wsX1_remember) := goodIn_app (goodIn_of _ (by decide +kernel)) ggX6_run_X1_remember
set_option maxRecDepth 20000 in
theorem ggX6_run_X3_runToBreakpoint : GoodIn wsX6_run wsX3_runToBreakpoint := goodIn_r _ [75, 76, 77, 78, 23, 79, 25, 80, 81, 82, 83, 27, 84, 85, 86, 87, 34, 88, 89, 90, 91, 92, 36, 93, 94, 95, 96, 97, 98, 99, 41, 100, 45, 49, 101, 102, 103, 104, 33, 105, 106, 107, 108, 109, 110, 111, 112, 113, 114, 115, 6, 116, 4, 5, 7, 117, 118, 119, 120, 121, 122, 37, 123, 124, 125, 126, 32, 127, 128, 129, 130, 131, 132, 133, 134, 135, 136, 137, 138, 53, 54, 139, 140, 18, 141, 142, 143, 144, 145, 35, 146, 147, 148, 66, 149, 70, 68, 71, 150, 17, 19, 151, 152, 153, 154, 26, 155, 156, 157, 158, 159, 160, 161, 162, 163, 164, 165, 47, 48, 166, 167, 168, 176, 177, 178, 179, 180, 181, 182, 183, 184, 185, 186, 187, 188, 189, 190, 191, 192, 193, 194, 195, 198, 199, 200, 196, 197] (by decide +kernel) (by decide +kernel)
set_option maxRecDepth 20000 in
theorem gX6_run_X3_runToBreakpoint : GoodIn wsX6_run (wsV RX6 128 RX3 yX3_runToBreakpoint wsX3_runToBreakpoint) := goodIn_app (goodIn_of _ (by decide +kernel)) ggX6_run_X3_runToBreakpoint
theorem dX6_run_0 : decode cX6_run 0 = .ok (.iload_n 1, 1) := by decide +kernel
theorem dX6_run_1 : decode cX6_run 1 = .ok (.iconst 1, 1) := by decide +kernel
theorem dX6_run_2 : decode cX6_run 2 = .ok (.sipush 200, 3) := by decide +kernel
theorem dX6_run_5 : decode cX6_run 5 = .ok (.invokestatic 115, 3) := by decide +kernel
theorem dX6_run_8 : decode cX6_run 8 = .ok (.ifCond .ne 6, 3) := by decide +kernel
theorem dX6_run_11 : decode cX6_run 11 = .ok (.ldc 91, 2) := by decide +kernel
theorem dX6_run_13 : decode cX6_run 13 = .ok (.ireturn, 1) := by decide +kernel
theorem dX6_run_14 : decode cX6_run 14 = .ok (.aload_n 0, 1) := by decide +kernel
theorem dX6_run_15 : decode cX6_run 15 = .ok (.getfield 22, 3) := by decide +kernel
theorem dX6_run_18 : decode cX6_run 18 = .ok (.aload_n 0, 1) := by decide +kernel
theorem dX6_run_19 : decode cX6_run 19 = .ok (.getfield 10, 3) := by decide +kernel
theorem dX6_run_22 : decode cX6_run 22 = .ok (.invokevirtual 49, 3) := by decide +kernel
theorem dX6_run_25 : decode cX6_run 25 = .ok (.aload_n 0, 1) := by decide +kernel
theorem dX6_run_26 : decode cX6_run 26 = .ok (.getfield 10, 3) := by decide +kernel
theorem dX6_run_29 : decode cX6_run 29 = .ok (.iload_n 1, 1) := by decide +kernel
theorem dX6_run_30 : decode cX6_run 30 = .ok (.invokevirtual 128, 3) := by decide +kernel
theorem dX6_run_33 : decode cX6_run 33 = .ok (.ireturn, 1) := by decide +kernel
set_option maxRecDepth 20000 in
theorem ggX6_append_X6_isWithin : GoodIn wsX6_append wsX6_isWithin := goodIn_r _ [7] (by decide +kernel) (by decide +kernel)
set_option maxRecDepth 20000 in
theorem gX6_append_X6_isWithin : GoodIn wsX6_append (va_wsS RX6 115 yX6_isWithin wsX6_isWithin) := goodIn_app (goodIn_of _ (by decide +kernel)) ggX6_append_X6_isWithin
set_option maxRecDepth 20000 in
theorem ggX6_append_X4_add : GoodIn wsX6_append wsX4_add := goodIn_r _ [12, 13, 14, 19, 20, 21, 22, 23, 24] (by decide +kernel) (by decide +kernel)
set_option maxRecDepth 20000 in
theorem gX6_append_X4_add : GoodIn wsX6_append (wsV RX6 135 RX4 yX4_add wsX4_add) := goodIn_app (goodIn_of _ (by decide +kernel)) ggX6_append_X4_add
theorem dX6_append_0 : decode cX6_append 0 = .ok (.iload_n 1, 1) := by decide +kernel
theorem dX6_append_1 : decode cX6_append 1 = .ok (.bipush 32, 2) := by decide +kernel
theorem dX6_append_3 : decode cX6_append 3 = .ok (.bipush 126, 2) := by decide +kernel
theorem dX6_append_5 : decode cX6_append 5 = .ok (.invokestatic 115, 3) := by decide +kernel
theorem dX6_append_8 : decode cX6_append 8 = .ok (.ifCond .ne 6, 3) := by decide +kernel
theorem dX6_append_11 : decode cX6_append 11 = .ok (.ldc 91, 2) := by decide +kernel
theorem dX6_append_13 : decode cX6_append 13 = .ok (.ireturn, 1) := by decide +kernel
theorem dX6_append_14 : decode cX6_append 14 = .ok (.aload_n 0, 1) := by decide +kernel
theorem dX6_append_15 : decode cX6_append 15 = .ok (.getfield 29, 3) := by decide +kernel
theorem dX6_append_18 : decode cX6_append 18 = .ok (.getfield 132, 3) := by decide +kernel
theorem dX6_append_21 : decode cX6_append 21 = .ok (.bipush 100, 2) := by decide +kernel
theorem dX6_append_23 : decode cX6_append 23 = .ok (.if_icmp .lt 6, 3) := by decide +kernel
theorem dX6_append_26 : decode cX6_append 26 = .ok (.ldc 48, 2) := by decide +kernel
theorem dX6_append_28 : decode cX6_append 28 = .ok (.ireturn, 1) := by decide +kernel
theorem dX6_append_29 : decode cX6_append 29 = .ok (.aload_n 0, 1) := by decide +kernel
theorem dX6_append_30 : decode cX6_append 30 = .ok (.getfield 29, 3) := by decide +kernel
theorem dX6_append_33 : decode cX6_append 33 = .ok (.iload_n 1, 1) := by decide +kernel
theorem dX6_append_34 : decode cX6_append 34 = .ok (.i2c, 1) := by decide +kernel
theorem dX6_append_35 : decode cX6_append 35 = .ok (.invokevirtual 135, 3) := by decide +kernel
theorem dX6_append_38 : decode cX6_append 38 = .ok (.aload_n 0, 1) := by decide +kernel
theorem dX6_append_39 : decode cX6_append 39 = .ok (.getfield 29, 3) := by decide +kernel
theorem dX6_append_42 : decode cX6_append 42 = .ok (.getfield 132, 3) := by decide +kernel
theorem dX6_append_45 : decode cX6_append 45 = .ok (.ireturn, 1) := by decide +kernel
theorem dX6_clearText_0 : decode cX6_clearText 0 = .ok (.aload_n 0, 1) := by decide +kernel
theorem dX6_clearText_1 : decode cX6_clearText 1 = .ok (.getfield 29, 3) := by decide +kernel
theorem dX6_clearText_4 : decode cX6_clearText 4 = .ok (.getfield 132, 3) := by decide +kernel
theorem dX6_clearText_7 : decode cX6_clearText 7 = .ok (.istore_n 1, 1) := by decide +kernel
theorem dX6_clearText_8 : decode cX6_clearText 8 = .ok (.aload_n 0, 1) := by decide +kernel
theorem dX6_clearText_9 : decode cX6_clearText 9 = .ok (.getfield 29, 3) := by decide +kernel
theorem dX6_clearText_12 : decode cX6_clearText 12 = .ok (.iconst 0, 1) := by decide +kernel
theorem dX6_clearText_13 : decode cX6_clearText 13 = .ok (.putfield 132, 3) := by decide +kernel
theorem dX6_clearText_16 : decode cX6_clearText 16 = .ok (.iload_n 1, 1) := by decide +kernel
theorem dX6_clearText_17 : decode cX6_clearText 17 = .ok (.ireturn, 1) := by decide +kernel
set_option maxRecDepth 20000 in
theorem ggX6_fault_X4_findFault : GoodIn wsX6_fault wsX4_findFault := goodIn_r _ [6, 7, 8, 9, 10, 11, 12, 13, 5, 14, 15, 16, 17, 18, 19, 20, 21, 22, 23, 24, 25, 26, 27, 28, 29, 30, 31, 32, 33, 34, 35, 36, 37, 38, 39, 40, 41, 42, 43, 44, 45, 46, 47, 48, 49, 50, 51, 52, 53, 54, 55, 56, 57, 58, 59, 60, 61, 62, 63, 64, 65, 66, 67, 68, 69, 70, 71, 72, 73, 74, 75, 76, 77, 78, 79, 80, 81, 82, 83, 84, 85, 86, 87, 88, 89, 90, 91, 92, 93, 94, 95, 96, 97, 98, 99, 100, 101, 102, 103, 104, 105, 106, 107, 108, 109, 110, 111, 112, 113, 114, 115, 116, 117, 118, 119, 120, 121, 122, 123, 124, 125, 126, 127, 128, 129, 130, 131, 132, 133, 134, 135, 136, 137, 138, 139, 140, 141, 142, 143, 144, 145, 146, 151, 152, 153, 154, 155, 156, 157, 158] (by decide +kernel) (by decide +kernel)
set_option maxRecDepth 20000 in
theorem gX6_fault_X4_findFault : GoodIn wsX6_fault (wsV RX6 38 RX4 yX4_findFault wsX4_findFault) := goodIn_app (goodIn_of _ (by decide +kernel)) ggX6_fault_X4_findFault
theorem dX6_fault_0 : decode cX6_fault 0 = .ok (.aload_n 0, 1) := by decide +kernel
theorem dX6_fault_1 : decode cX6_fault 1 = .ok (.getfield 29, 3) := by decide +kernel
theorem dX6_fault_4 : decode cX6_fault 4 = .ok (.invokevirtual 38, 3) := by decide +kernel
theorem dX6_fault_7 : decode cX6_fault 7 = .ok (.ireturn, 1) := by decide +kernel
set_option maxRecDepth 20000 in
theorem ggX6_undo_X1_restore : GoodIn wsX6_undo wsX1_restore := goodIn_r _ [7, 8, 9, 10, 11, 12, 13, 14, 15, 16, 17, 18, 19, 20, 21, 22, 23, 24, 25, 26, 27, 28, 29, 30, 31, 32, 33, 34, 35, 36, 37, 38, 39, 40, 41, 42, 43, 44, 45, 46, 47, 48, 49, 50, 51, 52, 53, 54, 55, 56, 57, 58, 59, 60, 61, 62, 63, 68, 69, 70, 71, 72, 73, 74, 75, 76, 77, 78, 79, 80, 81, 82, 83, 84, 85, 86, 87, 88, 89, 90, 91, 92, 93, 94, 95] (by decide +kernel) (by decide +kernel)
set_option maxRecDepth 20000 in
theorem gX6_undo_X1_restore : GoodIn wsX6_undo (wsV RX6 139 RX1 yX1_restore wsX1_restore) := goodIn_app (goodIn_of _ (by decide +kernel)) ggX6_undo_X1_restore
theorem dX6_undo_0 : decode cX6_undo 0 = .ok (.aload_n 0, 1) := by decide +kernel
theorem dX6_undo_1 : decode cX6_undo 1 = .ok (.getfield 22, 3) := by decide +kernel
theorem dX6_undo_4 : decode cX6_undo 4 = .ok (.aload_n 0, 1) := by decide +kernel
theorem dX6_undo_5 : decode cX6_undo 5 = .ok (.getfield 10, 3) := by decide +kernel
theorem dX6_undo_8 : decode cX6_undo 8 = .ok (.invokevirtual 139, 3) := by decide +kernel
theorem dX6_undo_11 : decode cX6_undo 11 = .ok (.ireturn, 1) := by decide +kernel
set_option maxRecDepth 20000 in
theorem ggX6_state_X6_isThread : GoodIn wsX6_state wsX6_isThread := goodIn_r _ [6, 7, 8, 5, 9] (by decide +kernel) (by decide +kernel)
set_option maxRecDepth 20000 in
theorem gX6_state_X6_isThread : GoodIn wsX6_state (va_wsS RX6 66 yX6_isThread wsX6_isThread) := goodIn_app (goodIn_of _ (by decide +kernel)) ggX6_state_X6_isThread
theorem dX6_state_0 : decode cX6_state 0 = .ok (.iload_n 1, 1) := by decide +kernel
theorem dX6_state_1 : decode cX6_state 1 = .ok (.invokestatic 66, 3) := by decide +kernel
theorem dX6_state_4 : decode cX6_state 4 = .ok (.ifCond .eq 18, 3) := by decide +kernel
theorem dX6_state_7 : decode cX6_state 7 = .ok (.aload_n 0, 1) := by decide +kernel
theorem dX6_state_8 : decode cX6_state 8 = .ok (.getfield 10, 3) := by decide +kernel
theorem dX6_state_11 : decode cX6_state 11 = .ok (.getfield 69, 3) := by decide +kernel
theorem dX6_state_14 : decode cX6_state 14 = .ok (.iload_n 1, 1) := by decide +kernel
theorem dX6_state_15 : decode cX6_state 15 = .ok (.aaload, 1) := by decide +kernel
theorem dX6_state_16 : decode cX6_state 16 = .ok (.getfield 73, 3) := by decide +kernel
theorem dX6_state_19 : decode cX6_state 19 = .ok (.goto 5, 3) := by decide +kernel
theorem dX6_state_22 : decode cX6_state 22 = .ok (.ldc 37, 2) := by decide +kernel
theorem dX6_state_24 : decode cX6_state 24 = .ok (.ireturn, 1) := by decide +kernel
set_option maxRecDepth 20000 in
theorem ggX6_programCounter_X6_isThread : GoodIn wsX6_programCounter wsX6_isThread := goodIn_r _ [6, 7, 8, 5, 9] (by decide +kernel) (by decide +kernel)
set_option maxRecDepth 20000 in
theorem gX6_programCounter_X6_isThread : GoodIn wsX6_programCounter (va_wsS RX6 66 yX6_isThread wsX6_isThread) := goodIn_app (goodIn_of _ (by decide +kernel)) ggX6_programCounter_X6_isThread
theorem dX6_programCounter_0 : decode cX6_programCounter 0 = .ok (.iload_n 1, 1) := by decide +kernel
theorem dX6_programCounter_1 : decode cX6_programCounter 1 = .ok (.invokestatic 66, 3) := by decide +kernel
theorem dX6_programCounter_4 : decode cX6_programCounter 4 = .ok (.ifCond .eq 18, 3) := by decide +kernel
theorem dX6_programCounter_7 : decode cX6_programCounter 7 = .ok (.aload_n 0, 1) := by decide +kernel
theorem dX6_programCounter_8 : decode cX6_programCounter 8 = .ok (.getfield 10, 3) := by decide +kernel
theorem dX6_programCounter_11 : decode cX6_programCounter 11 = .ok (.getfield 69, 3) := by decide +kernel
theorem dX6_programCounter_14 : decode cX6_programCounter 14 = .ok (.iload_n 1, 1) := by decide +kernel
theorem dX6_programCounter_15 : decode cX6_programCounter 15 = .ok (.aaload, 1) := by decide +kernel
theorem dX6_programCounter_16 : decode cX6_programCounter 16 = .ok (.getfield 143, 3) := by decide +kernel
theorem dX6_programCounter_19 : decode cX6_programCounter 19 = .ok (.goto 5, 3) := by decide +kernel
theorem dX6_programCounter_22 : decode cX6_programCounter 22 = .ok (.ldc 37, 2) := by decide +kernel
theorem dX6_programCounter_24 : decode cX6_programCounter 24 = .ok (.ireturn, 1) := by decide +kernel
set_option maxRecDepth 20000 in
theorem ggX6_register_X6_isThread : GoodIn wsX6_register wsX6_isThread := goodIn_r _ [6, 7, 8, 5, 9] (by decide +kernel) (by decide +kernel)
set_option maxRecDepth 20000 in
theorem gX6_register_X6_isThread : GoodIn wsX6_register (va_wsS RX6 66 yX6_isThread wsX6_isThread) := goodIn_app (goodIn_of _ (by decide +kernel)) ggX6_register_X6_isThread
set_option maxRecDepth 20000 in
theorem ggX6_register_X6_isRegister : GoodIn wsX6_register wsX6_isRegister := goodIn_r _ [12, 7, 8, 5, 9] (by decide +kernel) (by decide +kernel)
set_option maxRecDepth 20000 in
theorem gX6_register_X6_isRegister : GoodIn wsX6_register (va_wsS RX6 85 yX6_isRegister wsX6_isRegister) := goodIn_app (goodIn_of _ (by decide +kernel)) ggX6_register_X6_isRegister
theorem dX6_register_0 : decode cX6_register 0 = .ok (.iload_n 1, 1) := by decide +kernel
theorem dX6_register_1 : decode cX6_register 1 = .ok (.invokestatic 66, 3) := by decide +kernel
theorem dX6_register_4 : decode cX6_register 4 = .ok (.ifCond .eq 10, 3) := by decide +kernel
theorem dX6_register_7 : decode cX6_register 7 = .ok (.iload_n 2, 1) := by decide +kernel
theorem dX6_register_8 : decode cX6_register 8 = .ok (.invokestatic 85, 3) := by decide +kernel
theorem dX6_register_11 : decode cX6_register 11 = .ok (.ifCond .ne 6, 3) := by decide +kernel
theorem dX6_register_14 : decode cX6_register 14 = .ok (.ldc 37, 2) := by decide +kernel
theorem dX6_register_16 : decode cX6_register 16 = .ok (.ireturn, 1) := by decide +kernel
theorem dX6_register_17 : decode cX6_register 17 = .ok (.aload_n 0, 1) := by decide +kernel
theorem dX6_register_18 : decode cX6_register 18 = .ok (.getfield 10, 3) := by decide +kernel
theorem dX6_register_21 : decode cX6_register 21 = .ok (.getfield 69, 3) := by decide +kernel
theorem dX6_register_24 : decode cX6_register 24 = .ok (.iload_n 1, 1) := by decide +kernel
theorem dX6_register_25 : decode cX6_register 25 = .ok (.aaload, 1) := by decide +kernel
theorem dX6_register_26 : decode cX6_register 26 = .ok (.getfield 92, 3) := by decide +kernel
theorem dX6_register_29 : decode cX6_register 29 = .ok (.iload_n 2, 1) := by decide +kernel
theorem dX6_register_30 : decode cX6_register 30 = .ok (.iaload, 1) := by decide +kernel
theorem dX6_register_31 : decode cX6_register 31 = .ok (.ireturn, 1) := by decide +kernel
set_option maxRecDepth 20000 in
theorem ggX6_word_X6_isWord : GoodIn wsX6_word wsX6_isWord := goodIn_r _ [6, 7, 8, 5, 9] (by decide +kernel) (by decide +kernel)
set_option maxRecDepth 20000 in
theorem gX6_word_X6_isWord : GoodIn wsX6_word (va_wsS RX6 100 yX6_isWord wsX6_isWord) := goodIn_app (goodIn_of _ (by decide +kernel)) ggX6_word_X6_isWord
theorem dX6_word_0 : decode cX6_word 0 = .ok (.iload_n 1, 1) := by decide +kernel
theorem dX6_word_1 : decode cX6_word 1 = .ok (.invokestatic 100, 3) := by decide +kernel
theorem dX6_word_4 : decode cX6_word 4 = .ok (.ifCond .eq 15, 3) := by decide +kernel
theorem dX6_word_7 : decode cX6_word 7 = .ok (.aload_n 0, 1) := by decide +kernel
theorem dX6_word_8 : decode cX6_word 8 = .ok (.getfield 10, 3) := by decide +kernel
theorem dX6_word_11 : decode cX6_word 11 = .ok (.getfield 103, 3) := by decide +kernel
theorem dX6_word_14 : decode cX6_word 14 = .ok (.iload_n 1, 1) := by decide +kernel
theorem dX6_word_15 : decode cX6_word 15 = .ok (.iaload, 1) := by decide +kernel
theorem dX6_word_16 : decode cX6_word 16 = .ok (.goto 5, 3) := by decide +kernel
theorem dX6_word_19 : decode cX6_word 19 = .ok (.ldc 37, 2) := by decide +kernel
theorem dX6_word_21 : decode cX6_word 21 = .ok (.ireturn, 1) := by decide +kernel
set_option maxRecDepth 20000 in
theorem ggX6_operation_X6_isPlace : GoodIn wsX6_operation wsX6_isPlace := goodIn_r _ [6, 7, 8, 5, 9] (by decide +kernel) (by decide +kernel)
set_option maxRecDepth 20000 in
theorem gX6_operation_X6_isPlace : GoodIn wsX6_operation (va_wsS RX6 33 yX6_isPlace wsX6_isPlace) := goodIn_app (goodIn_of _ (by decide +kernel)) ggX6_operation_X6_isPlace
theorem dX6_operation_0 : decode cX6_operation 0 = .ok (.iload_n 1, 1) := by decide +kernel
theorem dX6_operation_1 : decode cX6_operation 1 = .ok (.invokestatic 33, 3) := by decide +kernel
theorem dX6_operation_4 : decode cX6_operation 4 = .ok (.ifCond .eq 18, 3) := by decide +kernel
theorem dX6_operation_7 : decode cX6_operation 7 = .ok (.aload_n 0, 1) := by decide +kernel
theorem dX6_operation_8 : decode cX6_operation 8 = .ok (.getfield 10, 3) := by decide +kernel
theorem dX6_operation_11 : decode cX6_operation 11 = .ok (.getfield 53, 3) := by decide +kernel
theorem dX6_operation_14 : decode cX6_operation 14 = .ok (.getfield 146, 3) := by decide +kernel
theorem dX6_operation_17 : decode cX6_operation 17 = .ok (.iload_n 1, 1) := by decide +kernel
theorem dX6_operation_18 : decode cX6_operation 18 = .ok (.iaload, 1) := by decide +kernel
theorem dX6_operation_19 : decode cX6_operation 19 = .ok (.goto 5, 3) := by decide +kernel
theorem dX6_operation_22 : decode cX6_operation 22 = .ok (.ldc 37, 2) := by decide +kernel
theorem dX6_operation_24 : decode cX6_operation 24 = .ok (.ireturn, 1) := by decide +kernel
set_option maxRecDepth 20000 in
theorem ggX6_operand_X6_isPlace : GoodIn wsX6_operand wsX6_isPlace := goodIn_r _ [7, 8, 9, 6, 10] (by decide +kernel) (by decide +kernel)
set_option maxRecDepth 20000 in
theorem gX6_operand_X6_isPlace : GoodIn wsX6_operand (va_wsS RX6 33 yX6_isPlace wsX6_isPlace) := goodIn_app (goodIn_of _ (by decide +kernel)) ggX6_operand_X6_isPlace
set_option maxRecDepth 20000 in
theorem ggX6_operand_X6_isWithin : GoodIn wsX6_operand wsX6_isWithin := goodIn_r _ [10] (by decide +kernel) (by decide +kernel)
set_option maxRecDepth 20000 in
theorem gX6_operand_X6_isWithin : GoodIn wsX6_operand (va_wsS RX6 115 yX6_isWithin wsX6_isWithin) := goodIn_app (goodIn_of _ (by decide +kernel)) ggX6_operand_X6_isWithin
theorem dX6_operand_0 : decode cX6_operand 0 = .ok (.iload_n 1, 1) := by decide +kernel
theorem dX6_operand_1 : decode cX6_operand 1 = .ok (.invokestatic 33, 3) := by decide +kernel
theorem dX6_operand_4 : decode cX6_operand 4 = .ok (.ifCond .ne 6, 3) := by decide +kernel
theorem dX6_operand_7 : decode cX6_operand 7 = .ok (.ldc 37, 2) := by decide +kernel
theorem dX6_operand_9 : decode cX6_operand 9 = .ok (.ireturn, 1) := by decide +kernel
theorem dX6_operand_10 : decode cX6_operand 10 = .ok (.iload_n 2, 1) := by decide +kernel
theorem dX6_operand_11 : decode cX6_operand 11 = .ok (.iconst 0, 1) := by decide +kernel
theorem dX6_operand_12 : decode cX6_operand 12 = .ok (.iconst 1, 1) := by decide +kernel
theorem dX6_operand_13 : decode cX6_operand 13 = .ok (.invokestatic 115, 3) := by decide +kernel
theorem dX6_operand_16 : decode cX6_operand 16 = .ok (.ifCond .ne 6, 3) := by decide +kernel
theorem dX6_operand_19 : decode cX6_operand 19 = .ok (.ldc 91, 2) := by decide +kernel
theorem dX6_operand_21 : decode cX6_operand 21 = .ok (.ireturn, 1) := by decide +kernel
theorem dX6_operand_22 : decode cX6_operand 22 = .ok (.aload_n 0, 1) := by decide +kernel
theorem dX6_operand_23 : decode cX6_operand 23 = .ok (.getfield 10, 3) := by decide +kernel
theorem dX6_operand_26 : decode cX6_operand 26 = .ok (.getfield 53, 3) := by decide +kernel
theorem dX6_operand_29 : decode cX6_operand 29 = .ok (.getfield 149, 3) := by decide +kernel
theorem dX6_operand_32 : decode cX6_operand 32 = .ok (.iload_n 1, 1) := by decide +kernel
theorem dX6_operand_33 : decode cX6_operand 33 = .ok (.iconst 2, 1) := by decide +kernel
theorem dX6_operand_34 : decode cX6_operand 34 = .ok (.imul, 1) := by decide +kernel
theorem dX6_operand_35 : decode cX6_operand 35 = .ok (.iload_n 2, 1) := by decide +kernel
theorem dX6_operand_36 : decode cX6_operand 36 = .ok (.iadd, 1) := by decide +kernel
theorem dX6_operand_37 : decode cX6_operand 37 = .ok (.iaload, 1) := by decide +kernel
theorem dX6_operand_38 : decode cX6_operand 38 = .ok (.ireturn, 1) := by decide +kernel
set_option maxRecDepth 20000 in
theorem ggX6_slot_X6_isSlot : GoodIn wsX6_slot wsX6_isSlot := goodIn_r _ [6, 7, 8, 5, 9] (by decide +kernel) (by decide +kernel)
set_option maxRecDepth 20000 in
theorem gX6_slot_X6_isSlot : GoodIn wsX6_slot (va_wsS RX6 106 yX6_isSlot wsX6_isSlot) := goodIn_app (goodIn_of _ (by decide +kernel)) ggX6_slot_X6_isSlot
theorem dX6_slot_0 : decode cX6_slot 0 = .ok (.iload_n 1, 1) := by decide +kernel
theorem dX6_slot_1 : decode cX6_slot 1 = .ok (.invokestatic 106, 3) := by decide +kernel
theorem dX6_slot_4 : decode cX6_slot 4 = .ok (.ifCond .eq 15, 3) := by decide +kernel
theorem dX6_slot_7 : decode cX6_slot 7 = .ok (.aload_n 0, 1) := by decide +kernel
theorem dX6_slot_8 : decode cX6_slot 8 = .ok (.getfield 10, 3) := by decide +kernel
theorem dX6_slot_11 : decode cX6_slot 11 = .ok (.getfield 109, 3) := by decide +kernel
theorem dX6_slot_14 : decode cX6_slot 14 = .ok (.iload_n 1, 1) := by decide +kernel
theorem dX6_slot_15 : decode cX6_slot 15 = .ok (.iaload, 1) := by decide +kernel
theorem dX6_slot_16 : decode cX6_slot 16 = .ok (.goto 5, 3) := by decide +kernel
theorem dX6_slot_19 : decode cX6_slot 19 = .ok (.ldc 37, 2) := by decide +kernel
theorem dX6_slot_21 : decode cX6_slot 21 = .ok (.ireturn, 1) := by decide +kernel
set_option maxRecDepth 20000 in
theorem ggX6_setting_X6_isSetting : GoodIn wsX6_setting wsX6_isSetting := goodIn_r _ [6, 7, 8, 5, 9] (by decide +kernel) (by decide +kernel)
set_option maxRecDepth 20000 in
theorem gX6_setting_X6_isSetting : GoodIn wsX6_setting (va_wsS RX6 112 yX6_isSetting wsX6_isSetting) := goodIn_app (goodIn_of _ (by decide +kernel)) ggX6_setting_X6_isSetting
theorem dX6_setting_0 : decode cX6_setting 0 = .ok (.iload_n 1, 1) := by decide +kernel
theorem dX6_setting_1 : decode cX6_setting 1 = .ok (.invokestatic 112, 3) := by decide +kernel
theorem dX6_setting_4 : decode cX6_setting 4 = .ok (.ifCond .eq 15, 3) := by decide +kernel
theorem dX6_setting_7 : decode cX6_setting 7 = .ok (.aload_n 0, 1) := by decide +kernel
theorem dX6_setting_8 : decode cX6_setting 8 = .ok (.getfield 10, 3) := by decide +kernel
theorem dX6_setting_11 : decode cX6_setting 11 = .ok (.getfield 119, 3) := by decide +kernel
theorem dX6_setting_14 : decode cX6_setting 14 = .ok (.iload_n 1, 1) := by decide +kernel
theorem dX6_setting_15 : decode cX6_setting 15 = .ok (.iaload, 1) := by decide +kernel
theorem dX6_setting_16 : decode cX6_setting 16 = .ok (.goto 5, 3) := by decide +kernel
theorem dX6_setting_19 : decode cX6_setting 19 = .ok (.ldc 37, 2) := by decide +kernel
theorem dX6_setting_21 : decode cX6_setting 21 = .ok (.ireturn, 1) := by decide +kernel
set_option maxRecDepth 20000 in
theorem ggX6_breakpoint_X6_isPlace : GoodIn wsX6_breakpoint wsX6_isPlace := goodIn_r _ [6, 7, 8, 5, 9] (by decide +kernel) (by decide +kernel)
set_option maxRecDepth 20000 in
theorem gX6_breakpoint_X6_isPlace : GoodIn wsX6_breakpoint (va_wsS RX6 33 yX6_isPlace wsX6_isPlace) := goodIn_app (goodIn_of _ (by decide +kernel)) ggX6_breakpoint_X6_isPlace
theorem dX6_breakpoint_0 : decode cX6_breakpoint 0 = .ok (.iload_n 1, 1) := by decide +kernel
theorem dX6_breakpoint_1 : decode cX6_breakpoint 1 = .ok (.invokestatic 33, 3) := by decide +kernel
theorem dX6_breakpoint_4 : decode cX6_breakpoint 4 = .ok (.ifCond .eq 15, 3) := by decide +kernel
theorem dX6_breakpoint_7 : decode cX6_breakpoint 7 = .ok (.aload_n 0, 1) := by decide +kernel
theorem dX6_breakpoint_8 : decode cX6_breakpoint 8 = .ok (.getfield 10, 3) := by decide +kernel
theorem dX6_breakpoint_11 : decode cX6_breakpoint 11 = .ok (.getfield 122, 3) := by decide +kernel
theorem dX6_breakpoint_14 : decode cX6_breakpoint 14 = .ok (.iload_n 1, 1) := by decide +kernel
theorem dX6_breakpoint_15 : decode cX6_breakpoint 15 = .ok (.iaload, 1) := by decide +kernel
theorem dX6_breakpoint_16 : decode cX6_breakpoint 16 = .ok (.goto 5, 3) := by decide +kernel
theorem dX6_breakpoint_19 : decode cX6_breakpoint 19 = .ok (.ldc 37, 2) := by decide +kernel
theorem dX6_breakpoint_21 : decode cX6_breakpoint 21 = .ok (.ireturn, 1) := by decide +kernel
theorem dX6_cycle_0 : decode cX6_cycle 0 = .ok (.aload_n 0, 1) := by decide +kernel
theorem dX6_cycle_1 : decode cX6_cycle 1 = .ok (.getfield 10, 3) := by decide +kernel
theorem dX6_cycle_4 : decode cX6_cycle 4 = .ok (.getfield 152, 3) := by decide +kernel
theorem dX6_cycle_7 : decode cX6_cycle 7 = .ok (.ireturn, 1) := by decide +kernel
theorem dX6_idle_0 : decode cX6_idle 0 = .ok (.aload_n 0, 1) := by decide +kernel
theorem dX6_idle_1 : decode cX6_idle 1 = .ok (.getfield 10, 3) := by decide +kernel
theorem dX6_idle_4 : decode cX6_idle 4 = .ok (.getfield 155, 3) := by decide +kernel
theorem dX6_idle_7 : decode cX6_idle 7 = .ok (.ireturn, 1) := by decide +kernel
set_option maxRecDepth 20000 in
theorem ggX6_executed_X6_isThread : GoodIn wsX6_executed wsX6_isThread := goodIn_r _ [6, 7, 8, 5, 9] (by decide +kernel) (by decide +kernel)
set_option maxRecDepth 20000 in
theorem gX6_executed_X6_isThread : GoodIn wsX6_executed (va_wsS RX6 66 yX6_isThread wsX6_isThread) := goodIn_app (goodIn_of _ (by decide +kernel)) ggX6_executed_X6_isThread
theorem dX6_executed_0 : decode cX6_executed 0 = .ok (.iload_n 1, 1) := by decide +kernel
theorem dX6_executed_1 : decode cX6_executed 1 = .ok (.invokestatic 66, 3) := by decide +kernel
theorem dX6_executed_4 : decode cX6_executed 4 = .ok (.ifCond .eq 18, 3) := by decide +kernel
theorem dX6_executed_7 : decode cX6_executed 7 = .ok (.aload_n 0, 1) := by decide +kernel
theorem dX6_executed_8 : decode cX6_executed 8 = .ok (.getfield 10, 3) := by decide +kernel
theorem dX6_executed_11 : decode cX6_executed 11 = .ok (.getfield 69, 3) := by decide +kernel
theorem dX6_executed_14 : decode cX6_executed 14 = .ok (.iload_n 1, 1) := by decide +kernel
theorem dX6_executed_15 : decode cX6_executed 15 = .ok (.aaload, 1) := by decide +kernel
theorem dX6_executed_16 : decode cX6_executed 16 = .ok (.getfield 158, 3) := by decide +kernel
theorem dX6_executed_19 : decode cX6_executed 19 = .ok (.goto 5, 3) := by decide +kernel
theorem dX6_executed_22 : decode cX6_executed 22 = .ok (.ldc 37, 2) := by decide +kernel
theorem dX6_executed_24 : decode cX6_executed 24 = .ok (.ireturn, 1) := by decide +kernel
set_option maxRecDepth 20000 in
theorem ggX6_lent_X6_isThread : GoodIn wsX6_lent wsX6_isThread := goodIn_r _ [6, 7, 8, 5, 9] (by decide +kernel) (by decide +kernel)
set_option maxRecDepth 20000 in
theorem gX6_lent_X6_isThread : GoodIn wsX6_lent (va_wsS RX6 66 yX6_isThread wsX6_isThread) := goodIn_app (goodIn_of _ (by decide +kernel)) ggX6_lent_X6_isThread
theorem dX6_lent_0 : decode cX6_lent 0 = .ok (.iload_n 1, 1) := by decide +kernel
theorem dX6_lent_1 : decode cX6_lent 1 = .ok (.invokestatic 66, 3) := by decide +kernel
theorem dX6_lent_4 : decode cX6_lent 4 = .ok (.ifCond .eq 18, 3) := by decide +kernel
theorem dX6_lent_7 : decode cX6_lent 7 = .ok (.aload_n 0, 1) := by decide +kernel
theorem dX6_lent_8 : decode cX6_lent 8 = .ok (.getfield 10, 3) := by decide +kernel
theorem dX6_lent_11 : decode cX6_lent 11 = .ok (.getfield 69, 3) := by decide +kernel
theorem dX6_lent_14 : decode cX6_lent 14 = .ok (.iload_n 1, 1) := by decide +kernel
theorem dX6_lent_15 : decode cX6_lent 15 = .ok (.aaload, 1) := by decide +kernel
theorem dX6_lent_16 : decode cX6_lent 16 = .ok (.getfield 161, 3) := by decide +kernel
theorem dX6_lent_19 : decode cX6_lent 19 = .ok (.goto 5, 3) := by decide +kernel
theorem dX6_lent_22 : decode cX6_lent 22 = .ok (.ldc 37, 2) := by decide +kernel
theorem dX6_lent_24 : decode cX6_lent 24 = .ok (.ireturn, 1) := by decide +kernel
set_option maxRecDepth 20000 in
theorem ggX6_starved_X6_isThread : GoodIn wsX6_starved wsX6_isThread := goodIn_r _ [6, 7, 8, 5, 9] (by decide +kernel) (by decide +kernel)
set_option maxRecDepth 20000 in
theorem gX6_starved_X6_isThread : GoodIn wsX6_starved (va_wsS RX6 66 yX6_isThread wsX6_isThread) := goodIn_app (goodIn_of _ (by decide +kernel)) ggX6_starved_X6_isThread
theorem dX6_starved_0 : decode cX6_starved 0 = .ok (.iload_n 1, 1) := by decide +kernel
theorem dX6_starved_1 : decode cX6_starved 1 = .ok (.invokestatic 66, 3) := by decide +kernel
theorem dX6_starved_4 : decode cX6_starved 4 = .ok (.ifCond .eq 18, 3) := by decide +kernel
theorem dX6_starved_7 : decode cX6_starved 7 = .ok (.aload_n 0, 1) := by decide +kernel
theorem dX6_starved_8 : decode cX6_starved 8 = .ok (.getfield 10, 3) := by decide +kernel
theorem dX6_starved_11 : decode cX6_starved 11 = .ok (.getfield 69, 3) := by decide +kernel
theorem dX6_starved_14 : decode cX6_starved 14 = .ok (.iload_n 1, 1) := by decide +kernel
theorem dX6_starved_15 : decode cX6_starved 15 = .ok (.aaload, 1) := by decide +kernel
theorem dX6_starved_16 : decode cX6_starved 16 = .ok (.getfield 164, 3) := by decide +kernel
theorem dX6_starved_19 : decode cX6_starved 19 = .ok (.goto 5, 3) := by decide +kernel
theorem dX6_starved_22 : decode cX6_starved 22 = .ok (.ldc 37, 2) := by decide +kernel
theorem dX6_starved_24 : decode cX6_starved 24 = .ok (.ireturn, 1) := by decide +kernel
set_option maxRecDepth 20000 in
theorem ggX6_trace_X6_isWithin : GoodIn wsX6_trace wsX6_isWithin := goodIn_r _ [6] (by decide +kernel) (by decide +kernel)
set_option maxRecDepth 20000 in
theorem gX6_trace_X6_isWithin : GoodIn wsX6_trace (va_wsS RX6 115 yX6_isWithin wsX6_isWithin) := goodIn_app (goodIn_of _ (by decide +kernel)) ggX6_trace_X6_isWithin
set_option maxRecDepth 20000 in
theorem ggX6_trace_X5_lookUp : GoodIn wsX6_trace wsX5_lookUp := goodIn_r _ [11, 12, 13, 14, 15, 29, 30, 31] (by decide +kernel) (by decide +kernel)
set_option maxRecDepth 20000 in
theorem gX6_trace_X5_lookUp : GoodIn wsX6_trace (wsV RX6 173 RX5 yX5_lookUp wsX5_lookUp) := goodIn_app (goodIn_of _ (by decide +kernel)) ggX6_trace_X5_lookUp
theorem dX6_trace_0 : decode cX6_trace 0 = .ok (.iload_n 1, 1) := by decide +kernel
theorem dX6_trace_1 : decode cX6_trace 1 = .ok (.ifCond .lt 12, 3) := by decide +kernel
theorem dX6_trace_4 : decode cX6_trace 4 = .ok (.iload_n 2, 1) := by decide +kernel
theorem dX6_trace_5 : decode cX6_trace 5 = .ok (.iconst 0, 1) := by decide +kernel
theorem dX6_trace_6 : decode cX6_trace 6 = .ok (.iconst 2, 1) := by decide +kernel
theorem dX6_trace_7 : decode cX6_trace 7 = .ok (.invokestatic 115, 3) := by decide +kernel
theorem dX6_trace_10 : decode cX6_trace 10 = .ok (.ifCond .ne 6, 3) := by decide +kernel
theorem dX6_trace_13 : decode cX6_trace 13 = .ok (.ldc 91, 2) := by decide +kernel
theorem dX6_trace_15 : decode cX6_trace 15 = .ok (.ireturn, 1) := by decide +kernel
theorem dX6_trace_16 : decode cX6_trace 16 = .ok (.aload_n 0, 1) := by decide +kernel
theorem dX6_trace_17 : decode cX6_trace 17 = .ok (.getfield 10, 3) := by decide +kernel
theorem dX6_trace_20 : decode cX6_trace 20 = .ok (.getfield 169, 3) := by decide +kernel
theorem dX6_trace_23 : decode cX6_trace 23 = .ok (.iload_n 1, 1) := by decide +kernel
theorem dX6_trace_24 : decode cX6_trace 24 = .ok (.iload_n 2, 1) := by decide +kernel
theorem dX6_trace_25 : decode cX6_trace 25 = .ok (.invokevirtual 173, 3) := by decide +kernel
theorem dX6_trace_28 : decode cX6_trace 28 = .ok (.ireturn, 1) := by decide +kernel
theorem dX6_use_0 : decode cX6_use 0 = .ok (.aload_n 0, 1) := by decide +kernel
theorem dX6_use_1 : decode cX6_use 1 = .ok (.getfield 10, 3) := by decide +kernel
theorem dX6_use_4 : decode cX6_use 4 = .ok (.getfield 152, 3) := by decide +kernel
theorem dX6_use_7 : decode cX6_use 7 = .ok (.ifCond .ne 5, 3) := by decide +kernel
theorem dX6_use_10 : decode cX6_use 10 = .ok (.fconst 0, 1) := by decide +kernel
theorem dX6_use_11 : decode cX6_use 11 = .ok (.freturn, 1) := by decide +kernel
theorem dX6_use_12 : decode cX6_use 12 = .ok (.aload_n 0, 1) := by decide +kernel
theorem dX6_use_13 : decode cX6_use 13 = .ok (.getfield 10, 3) := by decide +kernel
theorem dX6_use_16 : decode cX6_use 16 = .ok (.getfield 152, 3) := by decide +kernel
theorem dX6_use_19 : decode cX6_use 19 = .ok (.aload_n 0, 1) := by decide +kernel
theorem dX6_use_20 : decode cX6_use 20 = .ok (.getfield 10, 3) := by decide +kernel
theorem dX6_use_23 : decode cX6_use 23 = .ok (.getfield 155, 3) := by decide +kernel
theorem dX6_use_26 : decode cX6_use 26 = .ok (.isub, 1) := by decide +kernel
theorem dX6_use_27 : decode cX6_use 27 = .ok (.i2f, 1) := by decide +kernel
theorem dX6_use_28 : decode cX6_use 28 = .ok (.aload_n 0, 1) := by decide +kernel
theorem dX6_use_29 : decode cX6_use 29 = .ok (.getfield 10, 3) := by decide +kernel
theorem dX6_use_32 : decode cX6_use 32 = .ok (.getfield 152, 3) := by decide +kernel
theorem dX6_use_35 : decode cX6_use 35 = .ok (.i2f, 1) := by decide +kernel
theorem dX6_use_36 : decode cX6_use 36 = .ok (.fdiv, 1) := by decide +kernel
theorem dX6_use_37 : decode cX6_use 37 = .ok (.freturn, 1) := by decide +kernel
set_option maxRecDepth 20000 in
theorem ggX6_nextThread_X3_findIssuer : GoodIn wsX6_nextThread wsX3_findIssuer := goodIn_r _ [6, 7, 8, 9, 10, 11, 5, 12, 13, 14, 15, 16, 17, 18, 19, 20, 21, 22, 23, 24, 25, 26, 27, 28, 29, 30, 31, 32, 33, 34, 35, 36, 37, 38, 39, 40, 45, 46, 47, 48, 49, 50, 51, 52, 53, 54, 55, 56, 57, 58, 59, 60, 61, 62, 63, 64] (by decide +kernel) (by decide +kernel)
set_option maxRecDepth 20000 in
theorem gX6_nextThread_X3_findIssuer : GoodIn wsX6_nextThread (wsV RX6 177 RX3 yX3_findIssuer wsX3_findIssuer) := goodIn_app (goodIn_of _ (by decide +kernel)) ggX6_nextThread_X3_findIssuer
theorem dX6_nextThread_0 : decode cX6_nextThread 0 = .ok (.aload_n 0, 1) := by decide +kernel
theorem dX6_nextThread_1 : decode cX6_nextThread 1 = .ok (.getfield 10, 3) := by decide +kernel
theorem dX6_nextThread_4 : decode cX6_nextThread 4 = .ok (.invokevirtual 177, 3) := by decide +kernel
theorem dX6_nextThread_7 : decode cX6_nextThread 7 = .ok (.ireturn, 1) := by decide +kernel
set_option maxRecDepth 20000 in
theorem ggX6_cyclesLeft_X6_tryOut : GoodIn wsX6_cyclesLeft wsX6_tryOut := goodIn_r _ [6, 7, 1, 8, 9, 10, 11, 12, 13, 14, 15, 16, 17, 18, 19, 20, 21, 22, 23, 24, 25, 26, 27, 28, 29, 30, 31, 32, 33, 34, 35, 36, 37, 38, 39, 40, 41, 42, 43, 44, 45, 46, 47, 48, 49, 50, 51, 52, 53, 54, 55, 56, 57, 58, 59, 60, 61, 62, 63, 64, 65, 66, 67, 68, 69, 70, 71, 72, 73, 74, 75, 76, 77, 78, 79, 80, 81, 82, 83, 84, 85, 86, 87, 88, 89, 90, 91, 92, 93, 94, 95, 96, 97, 98, 99, 100, 101, 102, 103, 104, 105, 106, 107, 108, 109, 110, 111, 112, 113, 114, 115, 116, 117, 118, 119, 120, 121, 122, 123, 5, 124, 125, 126, 127, 128, 129, 130, 131, 132, 133, 134, 135, 136, 137, 138, 139, 140, 141, 142, 143, 144, 145, 146, 147, 148, 149, 150, 151, 152, 153, 154, 155, 156, 157, 158, 159, 160, 161, 162, 163, 164, 165, 166, 167, 168, 169, 170, 171, 172, 173, 174, 175, 176, 177, 178, 179, 180, 181, 182, 183, 184, 185, 186, 187] (by decide +kernel) (by decide +kernel)
set_option maxRecDepth 20000 in
theorem gX6_cyclesLeft_X6_tryOut : GoodIn wsX6_cyclesLeft (wsV RX6 180 RX6 yX6_tryOut wsX6_tryOut) := goodIn_app (goodIn_of _ (by decide +kernel)) ggX6_cyclesLeft_X6_tryOut
theorem dX6_cyclesLeft_0 : decode cX6_cyclesLeft 0 = .ok (.aload_n 0, 1) := by decide +kernel
theorem dX6_cyclesLeft_1 : decode cX6_cyclesLeft 1 = .ok (.aload_n 0, 1) := by decide +kernel
theorem dX6_cyclesLeft_2 : decode cX6_cyclesLeft 2 = .ok (.getfield 10, 3) := by decide +kernel
theorem dX6_cyclesLeft_5 : decode cX6_cyclesLeft 5 = .ok (.getfield 119, 3) := by decide +kernel
theorem dX6_cyclesLeft_8 : decode cX6_cyclesLeft 8 = .ok (.iconst 0, 1) := by decide +kernel
theorem dX6_cyclesLeft_9 : decode cX6_cyclesLeft 9 = .ok (.iaload, 1) := by decide +kernel
theorem dX6_cyclesLeft_10 : decode cX6_cyclesLeft 10 = .ok (.aload_n 0, 1) := by decide +kernel
theorem dX6_cyclesLeft_11 : decode cX6_cyclesLeft 11 = .ok (.getfield 10, 3) := by decide +kernel
theorem dX6_cyclesLeft_14 : decode cX6_cyclesLeft 14 = .ok (.getfield 119, 3) := by decide +kernel
theorem dX6_cyclesLeft_17 : decode cX6_cyclesLeft 17 = .ok (.iconst 1, 1) := by decide +kernel
theorem dX6_cyclesLeft_18 : decode cX6_cyclesLeft 18 = .ok (.iaload, 1) := by decide +kernel
theorem dX6_cyclesLeft_19 : decode cX6_cyclesLeft 19 = .ok (.invokevirtual 180, 3) := by decide +kernel
theorem dX6_cyclesLeft_22 : decode cX6_cyclesLeft 22 = .ok (.ireturn, 1) := by decide +kernel
set_option maxRecDepth 20000 in
theorem ggX6_cyclesIf_X6_isWithin : GoodIn wsX6_cyclesIf wsX6_isWithin := goodIn_r _ [5] (by decide +kernel) (by decide +kernel)
set_option maxRecDepth 20000 in
theorem gX6_cyclesIf_X6_isWithin : GoodIn wsX6_cyclesIf (va_wsS RX6 115 yX6_isWithin wsX6_isWithin) := goodIn_app (goodIn_of _ (by decide +kernel)) ggX6_cyclesIf_X6_isWithin
set_option maxRecDepth 20000 in
theorem ggX6_cyclesIf_X6_tryOut : GoodIn wsX6_cyclesIf wsX6_tryOut := goodIn_r _ [9, 10, 11, 12, 13, 14, 15, 16, 17, 18, 19, 20, 21, 22, 23, 24, 25, 26, 27, 28, 29, 30, 31, 32, 33, 34, 35, 36, 37, 38, 39, 40, 41, 42, 43, 44, 45, 46, 47, 48, 49, 50, 51, 52, 53, 54, 55, 56, 57, 58, 59, 60, 61, 62, 63, 64, 65, 66, 67, 68, 69, 70, 71, 72, 73, 74, 75, 76, 77, 78, 79, 80, 81, 82, 83, 84, 85, 86, 87, 88, 89, 90, 91, 92, 93, 94, 95, 96, 97, 98, 99, 100, 101, 102, 103, 104, 105, 106, 107, 108, 109, 110, 111, 112, 113, 114, 115, 116, 117, 118, 119, 120, 121, 122, 123, 124, 125, 126, 127, 4, 128, 2, 3, 5, 129, 130, 131, 132, 133, 134, 135, 136, 137, 138, 139, 140, 141, 142, 143, 144, 145, 146, 147, 148, 149, 150, 151, 152, 153, 154, 155, 156, 157, 158, 159, 160, 161, 162, 163, 164, 165, 166, 167, 168, 169, 170, 171, 172, 173, 174, 175, 176, 177, 178, 179, 180, 181, 182, 183, 184, 185, 186, 187, 188] (by decide +kernel) (by decide +kernel)
set_option maxRecDepth 20000 in
theorem gX6_cyclesIf_X6_tryOut : GoodIn wsX6_cyclesIf (wsV RX6 180 RX6 yX6_tryOut wsX6_tryOut) := goodIn_app (goodIn_of _ (by decide +kernel)) ggX6_cyclesIf_X6_tryOut
theorem dX6_cyclesIf_0 : decode cX6_cyclesIf 0 = .ok (.iload_n 1, 1) := by decide +kernel
theorem dX6_cyclesIf_1 : decode cX6_cyclesIf 1 = .ok (.iconst 0, 1) := by decide +kernel
theorem dX6_cyclesIf_2 : decode cX6_cyclesIf 2 = .ok (.bipush 20, 2) := by decide +kernel
theorem dX6_cyclesIf_4 : decode cX6_cyclesIf 4 = .ok (.invokestatic 115, 3) := by decide +kernel
theorem dX6_cyclesIf_7 : decode cX6_cyclesIf 7 = .ok (.ifCond .eq 12, 3) := by decide +kernel
theorem dX6_cyclesIf_10 : decode cX6_cyclesIf 10 = .ok (.iload_n 2, 1) := by decide +kernel
theorem dX6_cyclesIf_11 : decode cX6_cyclesIf 11 = .ok (.iconst 0, 1) := by decide +kernel
theorem dX6_cyclesIf_12 : decode cX6_cyclesIf 12 = .ok (.iconst 2, 1) := by decide +kernel
theorem dX6_cyclesIf_13 : decode cX6_cyclesIf 13 = .ok (.invokestatic 115, 3) := by decide +kernel
theorem dX6_cyclesIf_16 : decode cX6_cyclesIf 16 = .ok (.ifCond .ne 6, 3) := by decide +kernel
theorem dX6_cyclesIf_19 : decode cX6_cyclesIf 19 = .ok (.ldc 91, 2) := by decide +kernel
theorem dX6_cyclesIf_21 : decode cX6_cyclesIf 21 = .ok (.ireturn, 1) := by decide +kernel
theorem dX6_cyclesIf_22 : decode cX6_cyclesIf 22 = .ok (.aload_n 0, 1) := by decide +kernel
theorem dX6_cyclesIf_23 : decode cX6_cyclesIf 23 = .ok (.iload_n 1, 1) := by decide +kernel
theorem dX6_cyclesIf_24 : decode cX6_cyclesIf 24 = .ok (.iload_n 2, 1) := by decide +kernel
theorem dX6_cyclesIf_25 : decode cX6_cyclesIf 25 = .ok (.invokevirtual 180, 3) := by decide +kernel
theorem dX6_cyclesIf_28 : decode cX6_cyclesIf 28 = .ok (.ireturn, 1) := by decide +kernel
set_option maxRecDepth 20000 in
theorem ggX6_bestLend_X6_tryOut : GoodIn wsX6_bestLend wsX6_tryOut := goodIn_r _ [7, 8, 2, 9, 10, 11, 12, 13, 14, 15, 16, 17, 18, 19, 20, 21, 22, 23, 24, 25, 26, 27, 28, 29, 30, 31, 32, 33, 34, 35, 36, 37, 38, 39, 40, 41, 42, 43, 44, 45, 46, 47, 48, 49, 50, 51, 52, 53, 54, 55, 56, 57, 58, 59, 60, 61, 62, 63, 64, 65, 66, 67, 68, 69, 70, 71, 72, 73, 74, 75, 76, 77, 78, 79, 80, 81, 82, 83, 84, 85, 86, 87, 88, 89, 90, 91, 92, 93, 94, 95, 96, 97, 98, 99, 100, 101, 102, 103, 104, 105, 106, 107, 108, 109, 110, 111, 112, 113, 114, 115, 116, 117, 118, 119, 120, 121, 122, 123, 124, 6, 125, 126, 127, 128, 129, 130, 131, 132, 133, 134, 135, 136, 137, 138, 139, 140, 141, 142, 143, 144, 145, 146, 147, 148, 149, 150, 151, 152, 153, 154, 155, 156, 157, 158, 159, 160, 161, 162, 163, 164, 165, 166, 167, 168, 169, 170, 171, 172, 173, 174, 175, 176, 177, 178, 179, 180, 181, 182, 183, 184, 185, 186, 187, 188] (by decide +kernel) (by decide +kernel)
set_option maxRecDepth 20000 in
theorem gX6_bestLend_X6_tryOut : GoodIn wsX6_bestLend (wsV RX6 180 RX6 yX6_tryOut wsX6_tryOut) := goodIn_app (goodIn_of _ (by decide +kernel)) ggX6_bestLend_X6_tryOut
theorem dX6_bestLend_0 : decode cX6_bestLend 0 = .ok (.ldc 42, 2) := by decide +kernel
theorem dX6_bestLend_2 : decode cX6_bestLend 2 = .ok (.istore_n 1, 1) := by decide +kernel
theorem dX6_bestLend_3 : decode cX6_bestLend 3 = .ok (.sipush 501, 3) := by decide +kernel
theorem dX6_bestLend_6 : decode cX6_bestLend 6 = .ok (.istore_n 2, 1) := by decide +kernel
theorem dX6_bestLend_7 : decode cX6_bestLend 7 = .ok (.iconst 0, 1) := by decide +kernel
theorem dX6_bestLend_8 : decode cX6_bestLend 8 = .ok (.istore_n 3, 1) := by decide +kernel
theorem dX6_bestLend_9 : decode cX6_bestLend 9 = .ok (.iload_n 3, 1) := by decide +kernel
theorem dX6_bestLend_10 : decode cX6_bestLend 10 = .ok (.iconst 2, 1) := by decide +kernel
theorem dX6_bestLend_11 : decode cX6_bestLend 11 = .ok (.if_icmp .gt 43, 3) := by decide +kernel
theorem dX6_bestLend_14 : decode cX6_bestLend 14 = .ok (.aload_n 0, 1) := by decide +kernel
theorem dX6_bestLend_15 : decode cX6_bestLend 15 = .ok (.aload_n 0, 1) := by decide +kernel
theorem dX6_bestLend_16 : decode cX6_bestLend 16 = .ok (.getfield 10, 3) := by decide +kernel
theorem dX6_bestLend_19 : decode cX6_bestLend 19 = .ok (.getfield 119, 3) := by decide +kernel
theorem dX6_bestLend_22 : decode cX6_bestLend 22 = .ok (.iconst 0, 1) := by decide +kernel
theorem dX6_bestLend_23 : decode cX6_bestLend 23 = .ok (.iaload, 1) := by decide +kernel
theorem dX6_bestLend_24 : decode cX6_bestLend 24 = .ok (.iload_n 3, 1) := by decide +kernel
theorem dX6_bestLend_25 : decode cX6_bestLend 25 = .ok (.invokevirtual 180, 3) := by decide +kernel
theorem dX6_bestLend_28 : decode cX6_bestLend 28 = .ok (.istore 4, 2) := by decide +kernel
theorem dX6_bestLend_30 : decode cX6_bestLend 30 = .ok (.iload 4, 2) := by decide +kernel
theorem dX6_bestLend_32 : decode cX6_bestLend 32 = .ok (.ldc 42, 2) := by decide +kernel
theorem dX6_bestLend_34 : decode cX6_bestLend 34 = .ok (.if_icmp .eq 14, 3) := by decide +kernel
theorem dX6_bestLend_37 : decode cX6_bestLend 37 = .ok (.iload 4, 2) := by decide +kernel
theorem dX6_bestLend_39 : decode cX6_bestLend 39 = .ok (.iload_n 2, 1) := by decide +kernel
theorem dX6_bestLend_40 : decode cX6_bestLend 40 = .ok (.if_icmp .ge 8, 3) := by decide +kernel
theorem dX6_bestLend_43 : decode cX6_bestLend 43 = .ok (.iload_n 3, 1) := by decide +kernel
theorem dX6_bestLend_44 : decode cX6_bestLend 44 = .ok (.istore_n 1, 1) := by decide +kernel
theorem dX6_bestLend_45 : decode cX6_bestLend 45 = .ok (.iload 4, 2) := by decide +kernel
theorem dX6_bestLend_47 : decode cX6_bestLend 47 = .ok (.istore_n 2, 1) := by decide +kernel
theorem dX6_bestLend_48 : decode cX6_bestLend 48 = .ok (.iinc 3 1, 3) := by decide +kernel
theorem dX6_bestLend_51 : decode cX6_bestLend 51 = .ok (.goto (-42), 3) := by decide +kernel
theorem dX6_bestLend_54 : decode cX6_bestLend 54 = .ok (.iload_n 1, 1) := by decide +kernel
theorem dX6_bestLend_55 : decode cX6_bestLend 55 = .ok (.ireturn, 1) := by decide +kernel
set_option maxRecDepth 20000 in
theorem ggX6_finalWord_X6_isWord : GoodIn wsX6_finalWord wsX6_isWord := goodIn_r _ [8, 9, 10, 7, 11] (by decide +kernel) (by decide +kernel)
set_option maxRecDepth 20000 in
theorem gX6_finalWord_X6_isWord : GoodIn wsX6_finalWord (va_wsS RX6 100 yX6_isWord wsX6_isWord) := goodIn_app (goodIn_of _ (by decide +kernel)) ggX6_finalWord_X6_isWord
set_option maxRecDepth 20000 in
theorem ggX6_finalWord_X6_tryOut : GoodIn wsX6_finalWord wsX6_tryOut := goodIn_r _ [15, 4, 2, 16, 17, 18, 19, 20, 21, 22, 23, 24, 25, 26, 27, 28, 29, 30, 31, 32, 33, 34, 35, 36, 37, 38, 39, 40, 41, 42, 43, 44, 45, 46, 47, 48, 49, 50, 51, 52, 53, 54, 55, 56, 57, 58, 59, 60, 61, 62, 63, 64, 65, 66, 67, 68, 69, 70, 71, 72, 73, 74, 75, 76, 77, 78, 79, 80, 81, 82, 83, 84, 85, 86, 87, 88, 89, 90, 91, 92, 93, 94, 95, 96, 97, 98, 99, 100, 101, 102, 103, 104, 105, 106, 107, 108, 109, 110, 111, 112, 113, 114, 115, 116, 117, 118, 119, 120, 121, 122, 123, 124, 125, 126, 127, 128, 129, 130, 131, 7, 132, 9, 10, 11, 133, 134, 135, 136, 137, 138, 139, 140, 141, 142, 143, 144, 145, 146, 147, 148, 149, 150, 151, 152, 153, 154, 155, 156, 157, 158, 159, 160, 161, 162, 163, 164, 165, 166, 167, 168, 169, 170, 171, 172, 173, 174, 175, 176, 177, 178, 179, 180, 181, 182, 183, 184, 185, 186, 187, 188, 189, 190, 191, 192] (by decide +kernel) (by decide +kernel)
set_option maxRecDepth 20000 in
theorem gX6_finalWord_X6_tryOut : GoodIn wsX6_finalWord (wsV RX6 180 RX6 yX6_tryOut wsX6_tryOut) := goodIn_app (goodIn_of _ (by decide +kernel)) ggX6_finalWord_X6_tryOut
theorem dX6_finalWord_0 : decode cX6_finalWord 0 = .ok (.iload_n 1, 1) := by decide +kernel
theorem dX6_finalWord_1 : decode cX6_finalWord 1 = .ok (.invokestatic 100, 3) := by decide +kernel
theorem dX6_finalWord_4 : decode cX6_finalWord 4 = .ok (.ifCond .ne 6, 3) := by decide +kernel
theorem dX6_finalWord_7 : decode cX6_finalWord 7 = .ok (.ldc 37, 2) := by decide +kernel
theorem dX6_finalWord_9 : decode cX6_finalWord 9 = .ok (.ireturn, 1) := by decide +kernel
theorem dX6_finalWord_10 : decode cX6_finalWord 10 = .ok (.aload_n 0, 1) := by decide +kernel
theorem dX6_finalWord_11 : decode cX6_finalWord 11 = .ok (.aload_n 0, 1) := by decide +kernel
theorem dX6_finalWord_12 : decode cX6_finalWord 12 = .ok (.getfield 10, 3) := by decide +kernel
theorem dX6_finalWord_15 : decode cX6_finalWord 15 = .ok (.getfield 119, 3) := by decide +kernel
theorem dX6_finalWord_18 : decode cX6_finalWord 18 = .ok (.iconst 0, 1) := by decide +kernel
theorem dX6_finalWord_19 : decode cX6_finalWord 19 = .ok (.iaload, 1) := by decide +kernel
theorem dX6_finalWord_20 : decode cX6_finalWord 20 = .ok (.aload_n 0, 1) := by decide +kernel
theorem dX6_finalWord_21 : decode cX6_finalWord 21 = .ok (.getfield 10, 3) := by decide +kernel
theorem dX6_finalWord_24 : decode cX6_finalWord 24 = .ok (.getfield 119, 3) := by decide +kernel
theorem dX6_finalWord_27 : decode cX6_finalWord 27 = .ok (.iconst 1, 1) := by decide +kernel
theorem dX6_finalWord_28 : decode cX6_finalWord 28 = .ok (.iaload, 1) := by decide +kernel
theorem dX6_finalWord_29 : decode cX6_finalWord 29 = .ok (.invokevirtual 180, 3) := by decide +kernel
theorem dX6_finalWord_32 : decode cX6_finalWord 32 = .ok (.istore_n 2, 1) := by decide +kernel
theorem dX6_finalWord_33 : decode cX6_finalWord 33 = .ok (.iload_n 2, 1) := by decide +kernel
theorem dX6_finalWord_34 : decode cX6_finalWord 34 = .ok (.ldc 42, 2) := by decide +kernel
theorem dX6_finalWord_36 : decode cX6_finalWord 36 = .ok (.if_icmp .ne 8, 3) := by decide +kernel
theorem dX6_finalWord_39 : decode cX6_finalWord 39 = .ok (.ldc 42, 2) := by decide +kernel
theorem dX6_finalWord_41 : decode cX6_finalWord 41 = .ok (.goto 12, 3) := by decide +kernel
theorem dX6_finalWord_44 : decode cX6_finalWord 44 = .ok (.aload_n 0, 1) := by decide +kernel
theorem dX6_finalWord_45 : decode cX6_finalWord 45 = .ok (.getfield 16, 3) := by decide +kernel
theorem dX6_finalWord_48 : decode cX6_finalWord 48 = .ok (.getfield 103, 3) := by decide +kernel
theorem dX6_finalWord_51 : decode cX6_finalWord 51 = .ok (.iload_n 1, 1) := by decide +kernel
theorem dX6_finalWord_52 : decode cX6_finalWord 52 = .ok (.iaload, 1) := by decide +kernel
theorem dX6_finalWord_53 : decode cX6_finalWord 53 = .ok (.ireturn, 1) := by decide +kernel
set_option maxRecDepth 20000 in
theorem ggX6_tryOut_X3_copyFrom : GoodIn wsX6_tryOut wsX3_copyFrom := goodIn_r _ [7, 8, 9, 10, 11, 12, 13, 14, 15, 16, 17, 18, 19, 20, 21, 22, 23, 24, 25, 26, 27, 28, 29, 30, 31, 32, 33, 34, 35, 36, 37, 38, 39, 40, 41, 42, 43, 44, 45, 46, 47, 48, 49, 50, 51, 52, 53, 54, 159, 160, 161, 162, 163, 164, 165, 166, 167, 168, 169, 170, 171, 172, 173, 174, 175, 176, 177, 178, 179, 180, 181, 182, 183] (by decide +kernel) (by decide +kernel)
set_option maxRecDepth 20000 in
theorem gX6_tryOut_X3_copyFrom : GoodIn wsX6_tryOut (wsV RX6 183 RX3 yX3_copyFrom wsX3_copyFrom) := goodIn_app (goodIn_of _ (by decide +kernel)) ggX6_tryOut_X3_copyFrom
set_option maxRecDepth 20000 in
theorem ggX6_tryOut_X3_runToEnd : GoodIn wsX6_tryOut wsX3_runToEnd := goodIn_r _ [58, 59, 60, 61, 62, 6, 63, 8, 64, 65, 66, 67, 20, 19, 68, 69, 70, 71, 15, 72, 73, 74, 24, 75, 28, 32, 76, 77, 78, 79, 80, 81, 82, 83, 84, 85, 86, 87, 17, 88, 89, 90, 91, 92, 93, 94, 95, 16, 96, 97, 98, 99, 100, 101, 102, 103, 104, 105, 106, 107, 108, 109, 110, 111, 112, 113, 36, 37, 114, 115, 116, 117, 118, 119, 120, 121, 122, 123, 124, 125, 126, 127, 18, 128, 129, 130, 49, 131, 53, 51, 54, 132, 133, 134, 135, 136, 137, 138, 9, 139, 140, 141, 142, 143, 144, 145, 146, 147, 148, 149, 150, 151, 30, 31, 152, 153, 154, 159, 160, 161, 162, 163, 164, 165, 166, 167, 168, 169, 170, 171, 172, 173, 174, 175, 176, 177, 178, 181, 182, 183, 179, 180] (by decide +kernel) (by decide +kernel)
set_option maxRecDepth 20000 in
theorem gX6_tryOut_X3_runToEnd : GoodIn wsX6_tryOut (wsV RX6 186 RX3 yX3_runToEnd wsX3_runToEnd) := goodIn_app (goodIn_of _ (by decide +kernel)) ggX6_tryOut_X3_runToEnd
theorem dX6_tryOut_0 : decode cX6_tryOut 0 = .ok (.aload_n 0, 1) := by decide +kernel
theorem dX6_tryOut_1 : decode cX6_tryOut 1 = .ok (.getfield 16, 3) := by decide +kernel
theorem dX6_tryOut_4 : decode cX6_tryOut 4 = .ok (.aload_n 0, 1) := by decide +kernel
theorem dX6_tryOut_5 : decode cX6_tryOut 5 = .ok (.getfield 10, 3) := by decide +kernel
theorem dX6_tryOut_8 : decode cX6_tryOut 8 = .ok (.invokevirtual 183, 3) := by decide +kernel
theorem dX6_tryOut_11 : decode cX6_tryOut 11 = .ok (.aload_n 0, 1) := by decide +kernel
theorem dX6_tryOut_12 : decode cX6_tryOut 12 = .ok (.getfield 16, 3) := by decide +kernel
theorem dX6_tryOut_15 : decode cX6_tryOut 15 = .ok (.getfield 119, 3) := by decide +kernel
theorem dX6_tryOut_18 : decode cX6_tryOut 18 = .ok (.iconst 0, 1) := by decide +kernel
theorem dX6_tryOut_19 : decode cX6_tryOut 19 = .ok (.iload_n 1, 1) := by decide +kernel
theorem dX6_tryOut_20 : decode cX6_tryOut 20 = .ok (.iastore, 1) := by decide +kernel
theorem dX6_tryOut_21 : decode cX6_tryOut 21 = .ok (.aload_n 0, 1) := by decide +kernel
theorem dX6_tryOut_22 : decode cX6_tryOut 22 = .ok (.getfield 16, 3) := by decide +kernel
theorem dX6_tryOut_25 : decode cX6_tryOut 25 = .ok (.getfield 119, 3) := by decide +kernel
theorem dX6_tryOut_28 : decode cX6_tryOut 28 = .ok (.iconst 1, 1) := by decide +kernel
theorem dX6_tryOut_29 : decode cX6_tryOut 29 = .ok (.iload_n 2, 1) := by decide +kernel
theorem dX6_tryOut_30 : decode cX6_tryOut 30 = .ok (.iastore, 1) := by decide +kernel
theorem dX6_tryOut_31 : decode cX6_tryOut 31 = .ok (.aload_n 0, 1) := by decide +kernel
theorem dX6_tryOut_32 : decode cX6_tryOut 32 = .ok (.getfield 16, 3) := by decide +kernel
theorem dX6_tryOut_35 : decode cX6_tryOut 35 = .ok (.invokevirtual 186, 3) := by decide +kernel
theorem dX6_tryOut_38 : decode cX6_tryOut 38 = .ok (.ireturn, 1) := by decide +kernel
theorem dX6_replace_0 : decode cX6_replace 0 = .ok (.aload_n 0, 1) := by decide +kernel
theorem dX6_replace_1 : decode cX6_replace 1 = .ok (.iload_n 1, 1) := by decide +kernel
theorem dX6_replace_2 : decode cX6_replace 2 = .ok (.iaload, 1) := by decide +kernel
theorem dX6_replace_3 : decode cX6_replace 3 = .ok (.istore_n 3, 1) := by decide +kernel
theorem dX6_replace_4 : decode cX6_replace 4 = .ok (.aload_n 0, 1) := by decide +kernel
theorem dX6_replace_5 : decode cX6_replace 5 = .ok (.iload_n 1, 1) := by decide +kernel
theorem dX6_replace_6 : decode cX6_replace 6 = .ok (.iload_n 2, 1) := by decide +kernel
theorem dX6_replace_7 : decode cX6_replace 7 = .ok (.iastore, 1) := by decide +kernel
theorem dX6_replace_8 : decode cX6_replace 8 = .ok (.iload_n 3, 1) := by decide +kernel
theorem dX6_replace_9 : decode cX6_replace 9 = .ok (.ireturn, 1) := by decide +kernel
theorem dX6_isWithin_0 : decode cX6_isWithin 0 = .ok (.iload_n 0, 1) := by decide +kernel
theorem dX6_isWithin_1 : decode cX6_isWithin 1 = .ok (.iload_n 1, 1) := by decide +kernel
theorem dX6_isWithin_2 : decode cX6_isWithin 2 = .ok (.if_icmp .lt 12, 3) := by decide +kernel
theorem dX6_isWithin_5 : decode cX6_isWithin 5 = .ok (.iload_n 0, 1) := by decide +kernel
theorem dX6_isWithin_6 : decode cX6_isWithin 6 = .ok (.iload_n 2, 1) := by decide +kernel
theorem dX6_isWithin_7 : decode cX6_isWithin 7 = .ok (.if_icmp .gt 7, 3) := by decide +kernel
theorem dX6_isWithin_10 : decode cX6_isWithin 10 = .ok (.iconst 1, 1) := by decide +kernel
theorem dX6_isWithin_11 : decode cX6_isWithin 11 = .ok (.goto 4, 3) := by decide +kernel
theorem dX6_isWithin_14 : decode cX6_isWithin 14 = .ok (.iconst 0, 1) := by decide +kernel
theorem dX6_isWithin_15 : decode cX6_isWithin 15 = .ok (.ireturn, 1) := by decide +kernel
set_option maxRecDepth 20000 in
theorem ggX6_isThread_X6_isWithin : GoodIn wsX6_isThread wsX6_isWithin := goodIn_r _ [4] (by decide +kernel) (by decide +kernel)
set_option maxRecDepth 20000 in
theorem gX6_isThread_X6_isWithin : GoodIn wsX6_isThread (va_wsS RX6 115 yX6_isWithin wsX6_isWithin) := goodIn_app (goodIn_of _ (by decide +kernel)) ggX6_isThread_X6_isWithin
theorem dX6_isThread_0 : decode cX6_isThread 0 = .ok (.iload_n 0, 1) := by decide +kernel
theorem dX6_isThread_1 : decode cX6_isThread 1 = .ok (.iconst 0, 1) := by decide +kernel
theorem dX6_isThread_2 : decode cX6_isThread 2 = .ok (.iconst 3, 1) := by decide +kernel
theorem dX6_isThread_3 : decode cX6_isThread 3 = .ok (.invokestatic 115, 3) := by decide +kernel
theorem dX6_isThread_6 : decode cX6_isThread 6 = .ok (.ireturn, 1) := by decide +kernel
set_option maxRecDepth 20000 in
theorem ggX6_isRegister_X6_isWithin : GoodIn wsX6_isRegister wsX6_isWithin := goodIn_r _ [4] (by decide +kernel) (by decide +kernel)
set_option maxRecDepth 20000 in
theorem gX6_isRegister_X6_isWithin : GoodIn wsX6_isRegister (va_wsS RX6 115 yX6_isWithin wsX6_isWithin) := goodIn_app (goodIn_of _ (by decide +kernel)) ggX6_isRegister_X6_isWithin
theorem dX6_isRegister_0 : decode cX6_isRegister 0 = .ok (.iload_n 0, 1) := by decide +kernel
theorem dX6_isRegister_1 : decode cX6_isRegister 1 = .ok (.iconst 0, 1) := by decide +kernel
theorem dX6_isRegister_2 : decode cX6_isRegister 2 = .ok (.iconst 3, 1) := by decide +kernel
theorem dX6_isRegister_3 : decode cX6_isRegister 3 = .ok (.invokestatic 115, 3) := by decide +kernel
theorem dX6_isRegister_6 : decode cX6_isRegister 6 = .ok (.ireturn, 1) := by decide +kernel
set_option maxRecDepth 20000 in
theorem ggX6_isPlace_X6_isWithin : GoodIn wsX6_isPlace wsX6_isWithin := goodIn_r _ [4] (by decide +kernel) (by decide +kernel)
set_option maxRecDepth 20000 in
theorem gX6_isPlace_X6_isWithin : GoodIn wsX6_isPlace (va_wsS RX6 115 yX6_isWithin wsX6_isWithin) := goodIn_app (goodIn_of _ (by decide +kernel)) ggX6_isPlace_X6_isWithin
theorem dX6_isPlace_0 : decode cX6_isPlace 0 = .ok (.iload_n 0, 1) := by decide +kernel
theorem dX6_isPlace_1 : decode cX6_isPlace 1 = .ok (.iconst 0, 1) := by decide +kernel
theorem dX6_isPlace_2 : decode cX6_isPlace 2 = .ok (.bipush 47, 2) := by decide +kernel
theorem dX6_isPlace_4 : decode cX6_isPlace 4 = .ok (.invokestatic 115, 3) := by decide +kernel
theorem dX6_isPlace_7 : decode cX6_isPlace 7 = .ok (.ireturn, 1) := by decide +kernel
set_option maxRecDepth 20000 in
theorem ggX6_isWord_X6_isWithin : GoodIn wsX6_isWord wsX6_isWithin := goodIn_r _ [4] (by decide +kernel) (by decide +kernel)
set_option maxRecDepth 20000 in
theorem gX6_isWord_X6_isWithin : GoodIn wsX6_isWord (va_wsS RX6 115 yX6_isWithin wsX6_isWithin) := goodIn_app (goodIn_of _ (by decide +kernel)) ggX6_isWord_X6_isWithin
theorem dX6_isWord_0 : decode cX6_isWord 0 = .ok (.iload_n 0, 1) := by decide +kernel
theorem dX6_isWord_1 : decode cX6_isWord 1 = .ok (.iconst 0, 1) := by decide +kernel
theorem dX6_isWord_2 : decode cX6_isWord 2 = .ok (.bipush 31, 2) := by decide +kernel
theorem dX6_isWord_4 : decode cX6_isWord 4 = .ok (.invokestatic 115, 3) := by decide +kernel
theorem dX6_isWord_7 : decode cX6_isWord 7 = .ok (.ireturn, 1) := by decide +kernel
set_option maxRecDepth 20000 in
theorem ggX6_isSlot_X6_isWithin : GoodIn wsX6_isSlot wsX6_isWithin := goodIn_r _ [4] (by decide +kernel) (by decide +kernel)
set_option maxRecDepth 20000 in
theorem gX6_isSlot_X6_isWithin : GoodIn wsX6_isSlot (va_wsS RX6 115 yX6_isWithin wsX6_isWithin) := goodIn_app (goodIn_of _ (by decide +kernel)) ggX6_isSlot_X6_isWithin
theorem dX6_isSlot_0 : decode cX6_isSlot 0 = .ok (.iload_n 0, 1) := by decide +kernel
theorem dX6_isSlot_1 : decode cX6_isSlot 1 = .ok (.iconst 0, 1) := by decide +kernel
theorem dX6_isSlot_2 : decode cX6_isSlot 2 = .ok (.bipush 7, 2) := by decide +kernel
theorem dX6_isSlot_4 : decode cX6_isSlot 4 = .ok (.invokestatic 115, 3) := by decide +kernel
theorem dX6_isSlot_7 : decode cX6_isSlot 7 = .ok (.ireturn, 1) := by decide +kernel
set_option maxRecDepth 20000 in
theorem ggX6_isSetting_X6_isWithin : GoodIn wsX6_isSetting wsX6_isWithin := goodIn_r _ [4] (by decide +kernel) (by decide +kernel)
set_option maxRecDepth 20000 in
theorem gX6_isSetting_X6_isWithin : GoodIn wsX6_isSetting (va_wsS RX6 115 yX6_isWithin wsX6_isWithin) := goodIn_app (goodIn_of _ (by decide +kernel)) ggX6_isSetting_X6_isWithin
theorem dX6_isSetting_0 : decode cX6_isSetting 0 = .ok (.iload_n 0, 1) := by decide +kernel
theorem dX6_isSetting_1 : decode cX6_isSetting 1 = .ok (.iconst 0, 1) := by decide +kernel
theorem dX6_isSetting_2 : decode cX6_isSetting 2 = .ok (.iconst 1, 1) := by decide +kernel
theorem dX6_isSetting_3 : decode cX6_isSetting 3 = .ok (.invokestatic 115, 3) := by decide +kernel
theorem dX6_isSetting_6 : decode cX6_isSetting 6 = .ok (.ireturn, 1) := by decide +kernel
set_option maxRecDepth 20000 in
theorem ggX6_isValue_X6_isWithin : GoodIn wsX6_isValue wsX6_isWithin := goodIn_r _ [4] (by decide +kernel) (by decide +kernel)
set_option maxRecDepth 20000 in
theorem gX6_isValue_X6_isWithin : GoodIn wsX6_isValue (va_wsS RX6 115 yX6_isWithin wsX6_isWithin) := goodIn_app (goodIn_of _ (by decide +kernel)) ggX6_isValue_X6_isWithin
theorem dX6_isValue_0 : decode cX6_isValue 0 = .ok (.iload_n 0, 1) := by decide +kernel
theorem dX6_isValue_1 : decode cX6_isValue 1 = .ok (.sipush (-32768), 3) := by decide +kernel
theorem dX6_isValue_4 : decode cX6_isValue 4 = .ok (.sipush 32767, 3) := by decide +kernel
theorem dX6_isValue_7 : decode cX6_isValue 7 = .ok (.invokestatic 115, 3) := by decide +kernel
theorem dX6_isValue_10 : decode cX6_isValue 10 = .ok (.ireturn, 1) := by decide +kernel
set_option maxRecDepth 20000 in
theorem ggX7_init_X7_at : GoodIn wsX7_init wsX7_at := goodIn_r _ [12] (by decide +kernel) (by decide +kernel)
set_option maxRecDepth 20000 in
theorem gX7_init_X7_at : GoodIn wsX7_init (va_wsS RX7 22 yX7_at wsX7_at) := goodIn_app (goodIn_of _ (by decide +kernel)) ggX7_init_X7_at
theorem dX7_init_0 : decode cX7_init 0 = .ok (.aload_n 0, 1) := by decide +kernel
theorem dX7_init_1 : decode cX7_init 1 = .ok (.invokespecial 1, 3) := by decide +kernel
theorem dX7_init_4 : decode cX7_init 4 = .ok (.aload_n 0, 1) := by decide +kernel
theorem dX7_init_5 : decode cX7_init 5 = .ok (.sipush 341, 3) := by decide +kernel
theorem dX7_init_8 : decode cX7_init 8 = .ok (.newarray .int, 2) := by decide +kernel
theorem dX7_init_10 : decode cX7_init 10 = .ok (.putfield 7, 3) := by decide +kernel
theorem dX7_init_13 : decode cX7_init 13 = .ok (.aload_n 0, 1) := by decide +kernel
theorem dX7_init_14 : decode cX7_init 14 = .ok (.sipush 341, 3) := by decide +kernel
theorem dX7_init_17 : decode cX7_init 17 = .ok (.newarray .int, 2) := by decide +kernel
theorem dX7_init_19 : decode cX7_init 19 = .ok (.putfield 13, 3) := by decide +kernel
theorem dX7_init_22 : decode cX7_init 22 = .ok (.aload_n 0, 1) := by decide +kernel
theorem dX7_init_23 : decode cX7_init 23 = .ok (.sipush 1364, 3) := by decide +kernel
theorem dX7_init_26 : decode cX7_init 26 = .ok (.newarray .int, 2) := by decide +kernel
theorem dX7_init_28 : decode cX7_init 28 = .ok (.putfield 16, 3) := by decide +kernel
theorem dX7_init_31 : decode cX7_init 31 = .ok (.aload_n 0, 1) := by decide +kernel
theorem dX7_init_32 : decode cX7_init 32 = .ok (.bipush 100, 2) := by decide +kernel
theorem dX7_init_34 : decode cX7_init 34 = .ok (.newarray .int, 2) := by decide +kernel
theorem dX7_init_36 : decode cX7_init 36 = .ok (.putfield 19, 3) := by decide +kernel
theorem dX7_init_39 : decode cX7_init 39 = .ok (.iconst 0, 1) := by decide +kernel
theorem dX7_init_40 : decode cX7_init 40 = .ok (.istore_n 1, 1) := by decide +kernel
theorem dX7_init_41 : decode cX7_init 41 = .ok (.iload_n 1, 1) := by decide +kernel
theorem dX7_init_42 : decode cX7_init 42 = .ok (.bipush 48, 2) := by decide +kernel
theorem dX7_init_44 : decode cX7_init 44 = .ok (.if_icmp .ge 22, 3) := by decide +kernel
theorem dX7_init_47 : decode cX7_init 47 = .ok (.aload_n 0, 1) := by decide +kernel
theorem dX7_init_48 : decode cX7_init 48 = .ok (.getfield 7, 3) := by decide +kernel
theorem dX7_init_51 : decode cX7_init 51 = .ok (.bipush 56, 2) := by decide +kernel
theorem dX7_init_53 : decode cX7_init 53 = .ok (.iconst 3, 1) := by decide +kernel
theorem dX7_init_54 : decode cX7_init 54 = .ok (.iload_n 1, 1) := by decide +kernel
theorem dX7_init_55 : decode cX7_init 55 = .ok (.imul, 1) := by decide +kernel
theorem dX7_init_56 : decode cX7_init 56 = .ok (.iadd, 1) := by decide +kernel
theorem dX7_init_57 : decode cX7_init 57 = .ok (.bipush 11, 2) := by decide +kernel
theorem dX7_init_59 : decode cX7_init 59 = .ok (.iastore, 1) := by decide +kernel
theorem dX7_init_60 : decode cX7_init 60 = .ok (.iinc 1 1, 3) := by decide +kernel
theorem dX7_init_63 : decode cX7_init 63 = .ok (.goto (-22), 3) := by decide +kernel
theorem dX7_init_66 : decode cX7_init 66 = .ok (.iconst 0, 1) := by decide +kernel
theorem dX7_init_67 : decode cX7_init 67 = .ok (.istore_n 1, 1) := by decide +kernel
theorem dX7_init_68 : decode cX7_init 68 = .ok (.iload_n 1, 1) := by decide +kernel
theorem dX7_init_69 : decode cX7_init 69 = .ok (.bipush 8, 2) := by decide +kernel
theorem dX7_init_71 : decode cX7_init 71 = .ok (.if_icmp .ge 22, 3) := by decide +kernel
theorem dX7_init_74 : decode cX7_init 74 = .ok (.aload_n 0, 1) := by decide +kernel
theorem dX7_init_75 : decode cX7_init 75 = .ok (.getfield 7, 3) := by decide +kernel
theorem dX7_init_78 : decode cX7_init 78 = .ok (.sipush 234, 3) := by decide +kernel
theorem dX7_init_81 : decode cX7_init 81 = .ok (.iload_n 1, 1) := by decide +kernel
theorem dX7_init_82 : decode cX7_init 82 = .ok (.iadd, 1) := by decide +kernel
theorem dX7_init_83 : decode cX7_init 83 = .ok (.iload_n 1, 1) := by decide +kernel
theorem dX7_init_84 : decode cX7_init 84 = .ok (.iconst 4, 1) := by decide +kernel
theorem dX7_init_85 : decode cX7_init 85 = .ok (.irem, 1) := by decide +kernel
theorem dX7_init_86 : decode cX7_init 86 = .ok (.iastore, 1) := by decide +kernel
theorem dX7_init_87 : decode cX7_init 87 = .ok (.iinc 1 1, 3) := by decide +kernel
theorem dX7_init_90 : decode cX7_init 90 = .ok (.goto (-22), 3) := by decide +kernel
theorem dX7_init_93 : decode cX7_init 93 = .ok (.iconst 0, 1) := by decide +kernel
theorem dX7_init_94 : decode cX7_init 94 = .ok (.istore_n 1, 1) := by decide +kernel
theorem dX7_init_95 : decode cX7_init 95 = .ok (.iload_n 1, 1) := by decide +kernel
theorem dX7_init_96 : decode cX7_init 96 = .ok (.iconst 4, 1) := by decide +kernel
theorem dX7_init_97 : decode cX7_init 97 = .ok (.if_icmp .ge 21, 3) := by decide +kernel
theorem dX7_init_100 : decode cX7_init 100 = .ok (.aload_n 0, 1) := by decide +kernel
theorem dX7_init_101 : decode cX7_init 101 = .ok (.getfield 7, 3) := by decide +kernel
theorem dX7_init_104 : decode cX7_init 104 = .ok (.iload_n 1, 1) := by decide +kernel
theorem dX7_init_105 : decode cX7_init 105 = .ok (.bipush 9, 2) := by decide +kernel
theorem dX7_init_107 : decode cX7_init 107 = .ok (.invokestatic 22, 3) := by decide +kernel
theorem dX7_init_110 : decode cX7_init 110 = .ok (.iconst (-1), 1) := by decide +kernel
theorem dX7_init_111 : decode cX7_init 111 = .ok (.iastore, 1) := by decide +kernel
theorem dX7_init_112 : decode cX7_init 112 = .ok (.iinc 1 1, 3) := by decide +kernel
theorem dX7_init_115 : decode cX7_init 115 = .ok (.goto (-20), 3) := by decide +kernel
theorem dX7_init_118 : decode cX7_init 118 = .ok (.aload_n 0, 1) := by decide +kernel
theorem dX7_init_119 : decode cX7_init 119 = .ok (.getfield 7, 3) := by decide +kernel
theorem dX7_init_122 : decode cX7_init 122 = .ok (.sipush 242, 3) := by decide +kernel
theorem dX7_init_125 : decode cX7_init 125 = .ok (.iconst 3, 1) := by decide +kernel
theorem dX7_init_126 : decode cX7_init 126 = .ok (.iastore, 1) := by decide +kernel
theorem dX7_init_127 : decode cX7_init 127 = .ok (.return_, 1) := by decide +kernel
theorem dX7_in_0 : decode cX7_in 0 = .ok (.iload_n 0, 1) := by decide +kernel
theorem dX7_in_1 : decode cX7_in 1 = .ok (.iload_n 1, 1) := by decide +kernel
theorem dX7_in_2 : decode cX7_in 2 = .ok (.if_icmp .lt 12, 3) := by decide +kernel
theorem dX7_in_5 : decode cX7_in 5 = .ok (.iload_n 0, 1) := by decide +kernel
theorem dX7_in_6 : decode cX7_in 6 = .ok (.iload_n 2, 1) := by decide +kernel
theorem dX7_in_7 : decode cX7_in 7 = .ok (.if_icmp .gt 7, 3) := by decide +kernel
theorem dX7_in_10 : decode cX7_in 10 = .ok (.iconst 1, 1) := by decide +kernel
theorem dX7_in_11 : decode cX7_in 11 = .ok (.goto 4, 3) := by decide +kernel
theorem dX7_in_14 : decode cX7_in 14 = .ok (.iconst 0, 1) := by decide +kernel
theorem dX7_in_15 : decode cX7_in 15 = .ok (.ireturn, 1) := by decide +kernel
theorem dX7_at_0 : decode cX7_at 0 = .ok (.bipush 14, 2) := by decide +kernel
theorem dX7_at_2 : decode cX7_at 2 = .ok (.iload_n 0, 1) := by decide +kernel
theorem dX7_at_3 : decode cX7_at 3 = .ok (.imul, 1) := by decide +kernel
theorem dX7_at_4 : decode cX7_at 4 = .ok (.iload_n 1, 1) := by decide +kernel
theorem dX7_at_5 : decode cX7_at 5 = .ok (.iadd, 1) := by decide +kernel
theorem dX7_at_6 : decode cX7_at 6 = .ok (.ireturn, 1) := by decide +kernel
set_option maxRecDepth 20000 in
theorem ggX7_isThread_X7_in : GoodIn wsX7_isThread wsX7_in := goodIn_r _ [4] (by decide +kernel) (by decide +kernel)
set_option maxRecDepth 20000 in
theorem gX7_isThread_X7_in : GoodIn wsX7_isThread (va_wsS RX7 26 yX7_in wsX7_in) := goodIn_app (goodIn_of _ (by decide +kernel)) ggX7_isThread_X7_in
theorem dX7_isThread_0 : decode cX7_isThread 0 = .ok (.iload_n 0, 1) := by decide +kernel
theorem dX7_isThread_1 : decode cX7_isThread 1 = .ok (.iconst 0, 1) := by decide +kernel
theorem dX7_isThread_2 : decode cX7_isThread 2 = .ok (.iconst 3, 1) := by decide +kernel
theorem dX7_isThread_3 : decode cX7_isThread 3 = .ok (.invokestatic 26, 3) := by decide +kernel
theorem dX7_isThread_6 : decode cX7_isThread 6 = .ok (.ireturn, 1) := by decide +kernel
set_option maxRecDepth 20000 in
theorem ggX7_isPlace_X7_in : GoodIn wsX7_isPlace wsX7_in := goodIn_r _ [4] (by decide +kernel) (by decide +kernel)
set_option maxRecDepth 20000 in
theorem gX7_isPlace_X7_in : GoodIn wsX7_isPlace (va_wsS RX7 26 yX7_in wsX7_in) := goodIn_app (goodIn_of _ (by decide +kernel)) ggX7_isPlace_X7_in
theorem dX7_isPlace_0 : decode cX7_isPlace 0 = .ok (.iload_n 0, 1) := by decide +kernel
theorem dX7_isPlace_1 : decode cX7_isPlace 1 = .ok (.iconst 0, 1) := by decide +kernel
theorem dX7_isPlace_2 : decode cX7_isPlace 2 = .ok (.bipush 47, 2) := by decide +kernel
theorem dX7_isPlace_4 : decode cX7_isPlace 4 = .ok (.invokestatic 26, 3) := by decide +kernel
theorem dX7_isPlace_7 : decode cX7_isPlace 7 = .ok (.ireturn, 1) := by decide +kernel
set_option maxRecDepth 20000 in
theorem ggX7_isShort_X7_in : GoodIn wsX7_isShort wsX7_in := goodIn_r _ [4] (by decide +kernel) (by decide +kernel)
set_option maxRecDepth 20000 in
theorem gX7_isShort_X7_in : GoodIn wsX7_isShort (va_wsS RX7 26 yX7_in wsX7_in) := goodIn_app (goodIn_of _ (by decide +kernel)) ggX7_isShort_X7_in
theorem dX7_isShort_0 : decode cX7_isShort 0 = .ok (.iload_n 0, 1) := by decide +kernel
theorem dX7_isShort_1 : decode cX7_isShort 1 = .ok (.sipush (-32768), 3) := by decide +kernel
theorem dX7_isShort_4 : decode cX7_isShort 4 = .ok (.sipush 32767, 3) := by decide +kernel
theorem dX7_isShort_7 : decode cX7_isShort 7 = .ok (.invokestatic 26, 3) := by decide +kernel
theorem dX7_isShort_10 : decode cX7_isShort 10 = .ok (.ireturn, 1) := by decide +kernel
theorem dX7_putAside_0 : decode cX7_putAside 0 = .ok (.iconst 0, 1) := by decide +kernel
theorem dX7_putAside_1 : decode cX7_putAside 1 = .ok (.istore_n 1, 1) := by decide +kernel
theorem dX7_putAside_2 : decode cX7_putAside 2 = .ok (.iload_n 1, 1) := by decide +kernel
theorem dX7_putAside_3 : decode cX7_putAside 3 = .ok (.sipush 341, 3) := by decide +kernel
theorem dX7_putAside_6 : decode cX7_putAside 6 = .ok (.if_icmp .ge 21, 3) := by decide +kernel
theorem dX7_putAside_9 : decode cX7_putAside 9 = .ok (.aload_n 0, 1) := by decide +kernel
theorem dX7_putAside_10 : decode cX7_putAside 10 = .ok (.getfield 13, 3) := by decide +kernel
theorem dX7_putAside_13 : decode cX7_putAside 13 = .ok (.iload_n 1, 1) := by decide +kernel
theorem dX7_putAside_14 : decode cX7_putAside 14 = .ok (.aload_n 0, 1) := by decide +kernel
theorem dX7_putAside_15 : decode cX7_putAside 15 = .ok (.getfield 7, 3) := by decide +kernel
theorem dX7_putAside_18 : decode cX7_putAside 18 = .ok (.iload_n 1, 1) := by decide +kernel
theorem dX7_putAside_19 : decode cX7_putAside 19 = .ok (.iaload, 1) := by decide +kernel
theorem dX7_putAside_20 : decode cX7_putAside 20 = .ok (.iastore, 1) := by decide +kernel
theorem dX7_putAside_21 : decode cX7_putAside 21 = .ok (.iinc 1 1, 3) := by decide +kernel
theorem dX7_putAside_24 : decode cX7_putAside 24 = .ok (.goto (-22), 3) := by decide +kernel
theorem dX7_putAside_27 : decode cX7_putAside 27 = .ok (.return_, 1) := by decide +kernel
theorem dX7_putBack_0 : decode cX7_putBack 0 = .ok (.iconst 0, 1) := by decide +kernel
theorem dX7_putBack_1 : decode cX7_putBack 1 = .ok (.istore_n 1, 1) := by decide +kernel
theorem dX7_putBack_2 : decode cX7_putBack 2 = .ok (.iload_n 1, 1) := by decide +kernel
theorem dX7_putBack_3 : decode cX7_putBack 3 = .ok (.sipush 341, 3) := by decide +kernel
theorem dX7_putBack_6 : decode cX7_putBack 6 = .ok (.if_icmp .ge 21, 3) := by decide +kernel
theorem dX7_putBack_9 : decode cX7_putBack 9 = .ok (.aload_n 0, 1) := by decide +kernel
theorem dX7_putBack_10 : decode cX7_putBack 10 = .ok (.getfield 7, 3) := by decide +kernel
theorem dX7_putBack_13 : decode cX7_putBack 13 = .ok (.iload_n 1, 1) := by decide +kernel
theorem dX7_putBack_14 : decode cX7_putBack 14 = .ok (.aload_n 0, 1) := by decide +kernel
theorem dX7_putBack_15 : decode cX7_putBack 15 = .ok (.getfield 13, 3) := by decide +kernel
theorem dX7_putBack_18 : decode cX7_putBack 18 = .ok (.iload_n 1, 1) := by decide +kernel
theorem dX7_putBack_19 : decode cX7_putBack 19 = .ok (.iaload, 1) := by decide +kernel
theorem dX7_putBack_20 : decode cX7_putBack 20 = .ok (.iastore, 1) := by decide +kernel
theorem dX7_putBack_21 : decode cX7_putBack 21 = .ok (.iinc 1 1, 3) := by decide +kernel
theorem dX7_putBack_24 : decode cX7_putBack 24 = .ok (.goto (-22), 3) := by decide +kernel
theorem dX7_putBack_27 : decode cX7_putBack 27 = .ok (.return_, 1) := by decide +kernel
theorem dX7_records_0 : decode cX7_records 0 = .ok (.aload_n 0, 1) := by decide +kernel
theorem dX7_records_1 : decode cX7_records 1 = .ok (.getfield 30, 3) := by decide +kernel
theorem dX7_records_4 : decode cX7_records 4 = .ok (.iconst 4, 1) := by decide +kernel
theorem dX7_records_5 : decode cX7_records 5 = .ok (.if_icmp .ne 44, 3) := by decide +kernel
theorem dX7_records_8 : decode cX7_records 8 = .ok (.iconst 0, 1) := by decide +kernel
theorem dX7_records_9 : decode cX7_records 9 = .ok (.istore_n 1, 1) := by decide +kernel
theorem dX7_records_10 : decode cX7_records 10 = .ok (.iload_n 1, 1) := by decide +kernel
theorem dX7_records_11 : decode cX7_records 11 = .ok (.sipush 1023, 3) := by decide +kernel
theorem dX7_records_14 : decode cX7_records 14 = .ok (.if_icmp .ge 25, 3) := by decide +kernel
theorem dX7_records_17 : decode cX7_records 17 = .ok (.aload_n 0, 1) := by decide +kernel
theorem dX7_records_18 : decode cX7_records 18 = .ok (.getfield 16, 3) := by decide +kernel
theorem dX7_records_21 : decode cX7_records 21 = .ok (.iload_n 1, 1) := by decide +kernel
theorem dX7_records_22 : decode cX7_records 22 = .ok (.aload_n 0, 1) := by decide +kernel
theorem dX7_records_23 : decode cX7_records 23 = .ok (.getfield 16, 3) := by decide +kernel
theorem dX7_records_26 : decode cX7_records 26 = .ok (.sipush 341, 3) := by decide +kernel
theorem dX7_records_29 : decode cX7_records 29 = .ok (.iload_n 1, 1) := by decide +kernel
theorem dX7_records_30 : decode cX7_records 30 = .ok (.iadd, 1) := by decide +kernel
theorem dX7_records_31 : decode cX7_records 31 = .ok (.iaload, 1) := by decide +kernel
theorem dX7_records_32 : decode cX7_records 32 = .ok (.iastore, 1) := by decide +kernel
theorem dX7_records_33 : decode cX7_records 33 = .ok (.iinc 1 1, 3) := by decide +kernel
theorem dX7_records_36 : decode cX7_records 36 = .ok (.goto (-26), 3) := by decide +kernel
theorem dX7_records_39 : decode cX7_records 39 = .ok (.aload_n 0, 1) := by decide +kernel
theorem dX7_records_40 : decode cX7_records 40 = .ok (.dup, 1) := by decide +kernel
theorem dX7_records_41 : decode cX7_records 41 = .ok (.getfield 30, 3) := by decide +kernel
theorem dX7_records_44 : decode cX7_records 44 = .ok (.iconst 1, 1) := by decide +kernel
theorem dX7_records_45 : decode cX7_records 45 = .ok (.isub, 1) := by decide +kernel
theorem dX7_records_46 : decode cX7_records 46 = .ok (.putfield 30, 3) := by decide +kernel
theorem dX7_records_49 : decode cX7_records 49 = .ok (.iconst 0, 1) := by decide +kernel
theorem dX7_records_50 : decode cX7_records 50 = .ok (.istore_n 1, 1) := by decide +kernel
theorem dX7_records_51 : decode cX7_records 51 = .ok (.iload_n 1, 1) := by decide +kernel
theorem dX7_records_52 : decode cX7_records 52 = .ok (.sipush 341, 3) := by decide +kernel
theorem dX7_records_55 : decode cX7_records 55 = .ok (.if_icmp .ge 30, 3) := by decide +kernel
theorem dX7_records_58 : decode cX7_records 58 = .ok (.aload_n 0, 1) := by decide +kernel
theorem dX7_records_59 : decode cX7_records 59 = .ok (.getfield 16, 3) := by decide +kernel
theorem dX7_records_62 : decode cX7_records 62 = .ok (.sipush 341, 3) := by decide +kernel
theorem dX7_records_65 : decode cX7_records 65 = .ok (.aload_n 0, 1) := by decide +kernel
theorem dX7_records_66 : decode cX7_records 66 = .ok (.getfield 30, 3) := by decide +kernel
theorem dX7_records_69 : decode cX7_records 69 = .ok (.imul, 1) := by decide +kernel
theorem dX7_records_70 : decode cX7_records 70 = .ok (.iload_n 1, 1) := by decide +kernel
theorem dX7_records_71 : decode cX7_records 71 = .ok (.iadd, 1) := by decide +kernel
theorem dX7_records_72 : decode cX7_records 72 = .ok (.aload_n 0, 1) := by decide +kernel
theorem dX7_records_73 : decode cX7_records 73 = .ok (.getfield 7, 3) := by decide +kernel
theorem dX7_records_76 : decode cX7_records 76 = .ok (.iload_n 1, 1) := by decide +kernel
theorem dX7_records_77 : decode cX7_records 77 = .ok (.iaload, 1) := by decide +kernel
theorem dX7_records_78 : decode cX7_records 78 = .ok (.iastore, 1) := by decide +kernel
theorem dX7_records_79 : decode cX7_records 79 = .ok (.iinc 1 1, 3) := by decide +kernel
theorem dX7_records_82 : decode cX7_records 82 = .ok (.goto (-31), 3) := by decide +kernel
theorem dX7_records_85 : decode cX7_records 85 = .ok (.aload_n 0, 1) := by decide +kernel
theorem dX7_records_86 : decode cX7_records 86 = .ok (.dup, 1) := by decide +kernel
theorem dX7_records_87 : decode cX7_records 87 = .ok (.getfield 30, 3) := by decide +kernel
theorem dX7_records_90 : decode cX7_records 90 = .ok (.iconst 1, 1) := by decide +kernel
theorem dX7_records_91 : decode cX7_records 91 = .ok (.iadd, 1) := by decide +kernel
theorem dX7_records_92 : decode cX7_records 92 = .ok (.putfield 30, 3) := by decide +kernel
theorem dX7_records_95 : decode cX7_records 95 = .ok (.return_, 1) := by decide +kernel
set_option maxRecDepth 20000 in
theorem ggX7_register0_X7_at : GoodIn wsX7_register0 wsX7_at := goodIn_r _ [5] (by decide +kernel) (by decide +kernel)
set_option maxRecDepth 20000 in
theorem gX7_register0_X7_at : GoodIn wsX7_register0 (va_wsS RX7 22 yX7_at wsX7_at) := goodIn_app (goodIn_of _ (by decide +kernel)) ggX7_register0_X7_at
theorem dX7_register0_0 : decode cX7_register0 0 = .ok (.aload_n 0, 1) := by decide +kernel
theorem dX7_register0_1 : decode cX7_register0 1 = .ok (.getfield 7, 3) := by decide +kernel
theorem dX7_register0_4 : decode cX7_register0 4 = .ok (.iload_n 1, 1) := by decide +kernel
theorem dX7_register0_5 : decode cX7_register0 5 = .ok (.iconst 2, 1) := by decide +kernel
theorem dX7_register0_6 : decode cX7_register0 6 = .ok (.iload_n 2, 1) := by decide +kernel
theorem dX7_register0_7 : decode cX7_register0 7 = .ok (.iadd, 1) := by decide +kernel
theorem dX7_register0_8 : decode cX7_register0 8 = .ok (.invokestatic 22, 3) := by decide +kernel
theorem dX7_register0_11 : decode cX7_register0 11 = .ok (.iaload, 1) := by decide +kernel
theorem dX7_register0_12 : decode cX7_register0 12 = .ok (.ireturn, 1) := by decide +kernel
set_option maxRecDepth 20000 in
theorem ggX7_puts_X7_at : GoodIn wsX7_puts wsX7_at := goodIn_r _ [5] (by decide +kernel) (by decide +kernel)
set_option maxRecDepth 20000 in
theorem gX7_puts_X7_at : GoodIn wsX7_puts (va_wsS RX7 22 yX7_at wsX7_at) := goodIn_app (goodIn_of _ (by decide +kernel)) ggX7_puts_X7_at
theorem dX7_puts_0 : decode cX7_puts 0 = .ok (.aload_n 0, 1) := by decide +kernel
theorem dX7_puts_1 : decode cX7_puts 1 = .ok (.getfield 7, 3) := by decide +kernel
theorem dX7_puts_4 : decode cX7_puts 4 = .ok (.iload_n 1, 1) := by decide +kernel
theorem dX7_puts_5 : decode cX7_puts 5 = .ok (.iconst 2, 1) := by decide +kernel
theorem dX7_puts_6 : decode cX7_puts 6 = .ok (.iload_n 2, 1) := by decide +kernel
theorem dX7_puts_7 : decode cX7_puts 7 = .ok (.iadd, 1) := by decide +kernel
theorem dX7_puts_8 : decode cX7_puts 8 = .ok (.invokestatic 22, 3) := by decide +kernel
theorem dX7_puts_11 : decode cX7_puts 11 = .ok (.iload_n 3, 1) := by decide +kernel
theorem dX7_puts_12 : decode cX7_puts 12 = .ok (.i2s, 1) := by decide +kernel
theorem dX7_puts_13 : decode cX7_puts 13 = .ok (.iastore, 1) := by decide +kernel
theorem dX7_puts_14 : decode cX7_puts 14 = .ok (.return_, 1) := by decide +kernel
set_option maxRecDepth 20000 in
theorem ggX7_jumps_X7_at : GoodIn wsX7_jumps wsX7_at := goodIn_r _ [5] (by decide +kernel) (by decide +kernel)
set_option maxRecDepth 20000 in
theorem gX7_jumps_X7_at : GoodIn wsX7_jumps (va_wsS RX7 22 yX7_at wsX7_at) := goodIn_app (goodIn_of _ (by decide +kernel)) ggX7_jumps_X7_at
theorem dX7_jumps_0 : decode cX7_jumps 0 = .ok (.aload_n 0, 1) := by decide +kernel
theorem dX7_jumps_1 : decode cX7_jumps 1 = .ok (.getfield 7, 3) := by decide +kernel
theorem dX7_jumps_4 : decode cX7_jumps 4 = .ok (.iload_n 1, 1) := by decide +kernel
theorem dX7_jumps_5 : decode cX7_jumps 5 = .ok (.iconst 1, 1) := by decide +kernel
theorem dX7_jumps_6 : decode cX7_jumps 6 = .ok (.invokestatic 22, 3) := by decide +kernel
theorem dX7_jumps_9 : decode cX7_jumps 9 = .ok (.iload_n 3, 1) := by decide +kernel
theorem dX7_jumps_10 : decode cX7_jumps 10 = .ok (.ifCond .eq 7, 3) := by decide +kernel
theorem dX7_jumps_13 : decode cX7_jumps 13 = .ok (.iload_n 2, 1) := by decide +kernel
theorem dX7_jumps_14 : decode cX7_jumps 14 = .ok (.goto 13, 3) := by decide +kernel
theorem dX7_jumps_17 : decode cX7_jumps 17 = .ok (.aload_n 0, 1) := by decide +kernel
theorem dX7_jumps_18 : decode cX7_jumps 18 = .ok (.getfield 7, 3) := by decide +kernel
theorem dX7_jumps_21 : decode cX7_jumps 21 = .ok (.iload_n 1, 1) := by decide +kernel
theorem dX7_jumps_22 : decode cX7_jumps 22 = .ok (.iconst 1, 1) := by decide +kernel
theorem dX7_jumps_23 : decode cX7_jumps 23 = .ok (.invokestatic 22, 3) := by decide +kernel
theorem dX7_jumps_26 : decode cX7_jumps 26 = .ok (.iaload, 1) := by decide +kernel
theorem dX7_jumps_27 : decode cX7_jumps 27 = .ok (.iastore, 1) := by decide +kernel
theorem dX7_jumps_28 : decode cX7_jumps 28 = .ok (.return_, 1) := by decide +kernel
set_option maxRecDepth 20000 in
theorem ggX7_does_X7_in : GoodIn wsX7_does wsX7_in := goodIn_r _ [5] (by decide +kernel) (by decide +kernel)
set_option maxRecDepth 20000 in
theorem gX7_does_X7_in : GoodIn wsX7_does (va_wsS RX7 26 yX7_in wsX7_in) := goodIn_app (goodIn_of _ (by decide +kernel)) ggX7_does_X7_in
set_option maxRecDepth 20000 in
theorem ggX7_does_X7_register0 : GoodIn wsX7_does wsX7_register0 := goodIn_r _ [9, 1, 10, 11, 4, 12, 21, 22, 23, 24, 25, 26, 27, 28, 29, 30, 31] (by decide +kernel) (by decide +kernel)
set_option maxRecDepth 20000 in
theorem gX7_does_X7_register0 : GoodIn wsX7_does (wsV RX7 34 RX7 yX7_register0 wsX7_register0) := goodIn_app (goodIn_of _ (by decide +kernel)) ggX7_does_X7_register0
set_option maxRecDepth 20000 in
theorem ggX7_does_X7_puts : GoodIn wsX7_does wsX7_puts := goodIn_r _ [16, 1, 10, 11, 4, 12, 21, 22, 23, 24, 25, 26, 27, 28, 29, 30, 31] (by decide +kernel) (by decide +kernel)
set_option maxRecDepth 20000 in
theorem gX7_does_X7_puts : GoodIn wsX7_does (wsV RX7 37 RX7 yX7_puts wsX7_puts) := goodIn_app (goodIn_of _ (by decide +kernel)) ggX7_does_X7_puts
set_option maxRecDepth 20000 in
theorem ggX7_does_X7_at : GoodIn wsX7_does wsX7_at := goodIn_r _ [12] (by decide +kernel) (by decide +kernel)
set_option maxRecDepth 20000 in
theorem gX7_does_X7_at : GoodIn wsX7_does (va_wsS RX7 22 yX7_at wsX7_at) := goodIn_app (goodIn_of _ (by decide +kernel)) ggX7_does_X7_at
set_option maxRecDepth 20000 in
theorem ggX7_does_X7_jumps : GoodIn wsX7_does wsX7_jumps := goodIn_r _ [20, 1, 10, 11, 4, 12, 21, 22, 23, 24, 25, 26, 27, 28, 29, 30, 31] (by decide +kernel) (by decide +kernel)
set_option maxRecDepth 20000 in
theorem gX7_does_X7_jumps : GoodIn wsX7_does (wsV RX7 41 RX7 yX7_jumps wsX7_jumps) := goodIn_app (goodIn_of _ (by decide +kernel)) ggX7_does_X7_jumps
theorem dX7_does_0 : decode cX7_does 0 = .ok (.iload 4, 2) := by decide +kernel
theorem dX7_does_2 : decode cX7_does 2 = .ok (.iconst 0, 1) := by decide +kernel
theorem dX7_does_3 : decode cX7_does 3 = .ok (.iconst 3, 1) := by decide +kernel
theorem dX7_does_4 : decode cX7_does 4 = .ok (.invokestatic 26, 3) := by decide +kernel
theorem dX7_does_7 : decode cX7_does 7 = .ok (.ifCond .eq 20, 3) := by decide +kernel
theorem dX7_does_10 : decode cX7_does 10 = .ok (.sipush 200, 3) := by decide +kernel
theorem dX7_does_13 : decode cX7_does 13 = .ok (.aload_n 0, 1) := by decide +kernel
theorem dX7_does_14 : decode cX7_does 14 = .ok (.iload_n 1, 1) := by decide +kernel
theorem dX7_does_15 : decode cX7_does 15 = .ok (.iload 4, 2) := by decide +kernel
theorem dX7_does_17 : decode cX7_does 17 = .ok (.invokevirtual 34, 3) := by decide +kernel
theorem dX7_does_20 : decode cX7_does 20 = .ok (.bipush 31, 2) := by decide +kernel
theorem dX7_does_22 : decode cX7_does 22 = .ok (.iand, 1) := by decide +kernel
theorem dX7_does_23 : decode cX7_does 23 = .ok (.iadd, 1) := by decide +kernel
theorem dX7_does_24 : decode cX7_does 24 = .ok (.goto 6, 3) := by decide +kernel
theorem dX7_does_27 : decode cX7_does 27 = .ok (.sipush 200, 3) := by decide +kernel
theorem dX7_does_30 : decode cX7_does 30 = .ok (.istore 5, 2) := by decide +kernel
theorem dX7_does_32 : decode cX7_does 32 = .ok (.iload_n 2, 1) := by decide +kernel
theorem dX7_does_33 : decode cX7_does 33 = .ok (.tableswitch 329 0 10 #[59, 70, 93, 116, 139, 208, 224, 257, 267, 291, 315], 59) := by decide +kernel
theorem dX7_does_92 : decode cX7_does 92 = .ok (.aload_n 0, 1) := by decide +kernel
theorem dX7_does_93 : decode cX7_does 93 = .ok (.iload_n 1, 1) := by decide +kernel
theorem dX7_does_94 : decode cX7_does 94 = .ok (.iload_n 3, 1) := by decide +kernel
theorem dX7_does_95 : decode cX7_does 95 = .ok (.iload 4, 2) := by decide +kernel
theorem dX7_does_97 : decode cX7_does 97 = .ok (.invokevirtual 37, 3) := by decide +kernel
theorem dX7_does_100 : decode cX7_does 100 = .ok (.goto 273, 3) := by decide +kernel
theorem dX7_does_103 : decode cX7_does 103 = .ok (.aload_n 0, 1) := by decide +kernel
theorem dX7_does_104 : decode cX7_does 104 = .ok (.iload_n 1, 1) := by decide +kernel
theorem dX7_does_105 : decode cX7_does 105 = .ok (.iload_n 3, 1) := by decide +kernel
theorem dX7_does_106 : decode cX7_does 106 = .ok (.aload_n 0, 1) := by decide +kernel
theorem dX7_does_107 : decode cX7_does 107 = .ok (.iload_n 1, 1) := by decide +kernel
theorem dX7_does_108 : decode cX7_does 108 = .ok (.iload_n 3, 1) := by decide +kernel
theorem dX7_does_109 : decode cX7_does 109 = .ok (.invokevirtual 34, 3) := by decide +kernel
theorem dX7_does_112 : decode cX7_does 112 = .ok (.aload_n 0, 1) := by decide +kernel
theorem dX7_does_113 : decode cX7_does 113 = .ok (.iload_n 1, 1) := by decide +kernel
theorem dX7_does_114 : decode cX7_does 114 = .ok (.iload 4, 2) := by decide +kernel
theorem dX7_does_116 : decode cX7_does 116 = .ok (.invokevirtual 34, 3) := by decide +kernel
theorem dX7_does_119 : decode cX7_does 119 = .ok (.iadd, 1) := by decide +kernel
theorem dX7_does_120 : decode cX7_does 120 = .ok (.invokevirtual 37, 3) := by decide +kernel
theorem dX7_does_123 : decode cX7_does 123 = .ok (.goto 250, 3) := by decide +kernel
theorem dX7_does_126 : decode cX7_does 126 = .ok (.aload_n 0, 1) := by decide +kernel
theorem dX7_does_127 : decode cX7_does 127 = .ok (.iload_n 1, 1) := by decide +kernel
theorem dX7_does_128 : decode cX7_does 128 = .ok (.iload_n 3, 1) := by decide +kernel
theorem dX7_does_129 : decode cX7_does 129 = .ok (.aload_n 0, 1) := by decide +kernel
theorem dX7_does_130 : decode cX7_does 130 = .ok (.iload_n 1, 1) := by decide +kernel
theorem dX7_does_131 : decode cX7_does 131 = .ok (.iload_n 3, 1) := by decide +kernel
theorem dX7_does_132 : decode cX7_does 132 = .ok (.invokevirtual 34, 3) := by decide +kernel
theorem dX7_does_135 : decode cX7_does 135 = .ok (.aload_n 0, 1) := by decide +kernel
theorem dX7_does_136 : decode cX7_does 136 = .ok (.iload_n 1, 1) := by decide +kernel
theorem dX7_does_137 : decode cX7_does 137 = .ok (.iload 4, 2) := by decide +kernel
theorem dX7_does_139 : decode cX7_does 139 = .ok (.invokevirtual 34, 3) := by decide +kernel
theorem dX7_does_142 : decode cX7_does 142 = .ok (.isub, 1) := by decide +kernel
theorem dX7_does_143 : decode cX7_does 143 = .ok (.invokevirtual 37, 3) := by decide +kernel
theorem dX7_does_146 : decode cX7_does 146 = .ok (.goto 227, 3) := by decide +kernel
theorem dX7_does_149 : decode cX7_does 149 = .ok (.aload_n 0, 1) := by decide +kernel
theorem dX7_does_150 : decode cX7_does 150 = .ok (.iload_n 1, 1) := by decide +kernel
theorem dX7_does_151 : decode cX7_does 151 = .ok (.iload_n 3, 1) := by decide +kernel
theorem dX7_does_152 : decode cX7_does 152 = .ok (.aload_n 0, 1) := by decide +kernel
theorem dX7_does_153 : decode cX7_does 153 = .ok (.iload_n 1, 1) := by decide +kernel
theorem dX7_does_154 : decode cX7_does 154 = .ok (.iload_n 3, 1) := by decide +kernel
theorem dX7_does_155 : decode cX7_does 155 = .ok (.invokevirtual 34, 3) := by decide +kernel
theorem dX7_does_158 : decode cX7_does 158 = .ok (.aload_n 0, 1) := by decide +kernel
theorem dX7_does_159 : decode cX7_does 159 = .ok (.iload_n 1, 1) := by decide +kernel
theorem dX7_does_160 : decode cX7_does 160 = .ok (.iload 4, 2) := by decide +kernel
theorem dX7_does_162 : decode cX7_does 162 = .ok (.invokevirtual 34, 3) := by decide +kernel
theorem dX7_does_165 : decode cX7_does 165 = .ok (.imul, 1) := by decide +kernel
theorem dX7_does_166 : decode cX7_does 166 = .ok (.invokevirtual 37, 3) := by decide +kernel
theorem dX7_does_169 : decode cX7_does 169 = .ok (.goto 204, 3) := by decide +kernel
theorem dX7_does_172 : decode cX7_does 172 = .ok (.aload_n 0, 1) := by decide +kernel
theorem dX7_does_173 : decode cX7_does 173 = .ok (.getfield 7, 3) := by decide +kernel
theorem dX7_does_176 : decode cX7_does 176 = .ok (.iload_n 1, 1) := by decide +kernel
theorem dX7_does_177 : decode cX7_does 177 = .ok (.iconst 0, 1) := by decide +kernel
theorem dX7_does_178 : decode cX7_does 178 = .ok (.invokestatic 22, 3) := by decide +kernel
theorem dX7_does_181 : decode cX7_does 181 = .ok (.iconst 2, 1) := by decide +kernel
theorem dX7_does_182 : decode cX7_does 182 = .ok (.iastore, 1) := by decide +kernel
theorem dX7_does_183 : decode cX7_does 183 = .ok (.aload_n 0, 1) := by decide +kernel
theorem dX7_does_184 : decode cX7_does 184 = .ok (.getfield 7, 3) := by decide +kernel
theorem dX7_does_187 : decode cX7_does 187 = .ok (.iload_n 1, 1) := by decide +kernel
theorem dX7_does_188 : decode cX7_does 188 = .ok (.bipush 6, 2) := by decide +kernel
theorem dX7_does_190 : decode cX7_does 190 = .ok (.invokestatic 22, 3) := by decide +kernel
theorem dX7_does_193 : decode cX7_does 193 = .ok (.iload_n 3, 1) := by decide +kernel
theorem dX7_does_194 : decode cX7_does 194 = .ok (.iastore, 1) := by decide +kernel
theorem dX7_does_195 : decode cX7_does 195 = .ok (.aload_n 0, 1) := by decide +kernel
theorem dX7_does_196 : decode cX7_does 196 = .ok (.getfield 7, 3) := by decide +kernel
theorem dX7_does_199 : decode cX7_does 199 = .ok (.iload_n 1, 1) := by decide +kernel
theorem dX7_does_200 : decode cX7_does 200 = .ok (.bipush 7, 2) := by decide +kernel
theorem dX7_does_202 : decode cX7_does 202 = .ok (.invokestatic 22, 3) := by decide +kernel
theorem dX7_does_205 : decode cX7_does 205 = .ok (.iload 5, 2) := by decide +kernel
theorem dX7_does_207 : decode cX7_does 207 = .ok (.iastore, 1) := by decide +kernel
theorem dX7_does_208 : decode cX7_does 208 = .ok (.aload_n 0, 1) := by decide +kernel
theorem dX7_does_209 : decode cX7_does 209 = .ok (.getfield 7, 3) := by decide +kernel
theorem dX7_does_212 : decode cX7_does 212 = .ok (.iload_n 1, 1) := by decide +kernel
theorem dX7_does_213 : decode cX7_does 213 = .ok (.bipush 8, 2) := by decide +kernel
theorem dX7_does_215 : decode cX7_does 215 = .ok (.invokestatic 22, 3) := by decide +kernel
theorem dX7_does_218 : decode cX7_does 218 = .ok (.aload_n 0, 1) := by decide +kernel
theorem dX7_does_219 : decode cX7_does 219 = .ok (.getfield 7, 3) := by decide +kernel
theorem dX7_does_222 : decode cX7_does 222 = .ok (.sipush 232, 3) := by decide +kernel
theorem dX7_does_225 : decode cX7_does 225 = .ok (.iaload, 1) := by decide +kernel
theorem dX7_does_226 : decode cX7_does 226 = .ok (.iconst 1, 1) := by decide +kernel
theorem dX7_does_227 : decode cX7_does 227 = .ok (.iadd, 1) := by decide +kernel
theorem dX7_does_228 : decode cX7_does 228 = .ok (.aload_n 0, 1) := by decide +kernel
theorem dX7_does_229 : decode cX7_does 229 = .ok (.getfield 7, 3) := by decide +kernel
theorem dX7_does_232 : decode cX7_does 232 = .ok (.sipush 242, 3) := by decide +kernel
theorem dX7_does_235 : decode cX7_does 235 = .ok (.iaload, 1) := by decide +kernel
theorem dX7_does_236 : decode cX7_does 236 = .ok (.iadd, 1) := by decide +kernel
theorem dX7_does_237 : decode cX7_does 237 = .ok (.iastore, 1) := by decide +kernel
theorem dX7_does_238 : decode cX7_does 238 = .ok (.goto 135, 3) := by decide +kernel
theorem dX7_does_241 : decode cX7_does 241 = .ok (.aload_n 0, 1) := by decide +kernel
theorem dX7_does_242 : decode cX7_does 242 = .ok (.getfield 7, 3) := by decide +kernel
theorem dX7_does_245 : decode cX7_does 245 = .ok (.iload 5, 2) := by decide +kernel
theorem dX7_does_247 : decode cX7_does 247 = .ok (.aload_n 0, 1) := by decide +kernel
theorem dX7_does_248 : decode cX7_does 248 = .ok (.iload_n 1, 1) := by decide +kernel
theorem dX7_does_249 : decode cX7_does 249 = .ok (.iload_n 3, 1) := by decide +kernel
theorem dX7_does_250 : decode cX7_does 250 = .ok (.invokevirtual 34, 3) := by decide +kernel
theorem dX7_does_253 : decode cX7_does 253 = .ok (.iastore, 1) := by decide +kernel
theorem dX7_does_254 : decode cX7_does 254 = .ok (.goto 119, 3) := by decide +kernel
theorem dX7_does_257 : decode cX7_does 257 = .ok (.aload_n 0, 1) := by decide +kernel
theorem dX7_does_258 : decode cX7_does 258 = .ok (.iload_n 1, 1) := by decide +kernel
theorem dX7_does_259 : decode cX7_does 259 = .ok (.iload_n 3, 1) := by decide +kernel
theorem dX7_does_260 : decode cX7_does 260 = .ok (.invokevirtual 34, 3) := by decide +kernel
theorem dX7_does_263 : decode cX7_does 263 = .ok (.istore 6, 2) := by decide +kernel
theorem dX7_does_265 : decode cX7_does 265 = .ok (.aload_n 0, 1) := by decide +kernel
theorem dX7_does_266 : decode cX7_does 266 = .ok (.iload_n 1, 1) := by decide +kernel
theorem dX7_does_267 : decode cX7_does 267 = .ok (.iload_n 3, 1) := by decide +kernel
theorem dX7_does_268 : decode cX7_does 268 = .ok (.aload_n 0, 1) := by decide +kernel
theorem dX7_does_269 : decode cX7_does 269 = .ok (.getfield 7, 3) := by decide +kernel
theorem dX7_does_272 : decode cX7_does 272 = .ok (.iload 5, 2) := by decide +kernel
theorem dX7_does_274 : decode cX7_does 274 = .ok (.iaload, 1) := by decide +kernel
theorem dX7_does_275 : decode cX7_does 275 = .ok (.invokevirtual 37, 3) := by decide +kernel
theorem dX7_does_278 : decode cX7_does 278 = .ok (.aload_n 0, 1) := by decide +kernel
theorem dX7_does_279 : decode cX7_does 279 = .ok (.getfield 7, 3) := by decide +kernel
theorem dX7_does_282 : decode cX7_does 282 = .ok (.iload 5, 2) := by decide +kernel
theorem dX7_does_284 : decode cX7_does 284 = .ok (.iload 6, 2) := by decide +kernel
theorem dX7_does_286 : decode cX7_does 286 = .ok (.iastore, 1) := by decide +kernel
theorem dX7_does_287 : decode cX7_does 287 = .ok (.goto 86, 3) := by decide +kernel
theorem dX7_does_290 : decode cX7_does 290 = .ok (.aload_n 0, 1) := by decide +kernel
theorem dX7_does_291 : decode cX7_does 291 = .ok (.iload_n 1, 1) := by decide +kernel
theorem dX7_does_292 : decode cX7_does 292 = .ok (.iload_n 3, 1) := by decide +kernel
theorem dX7_does_293 : decode cX7_does 293 = .ok (.iconst 1, 1) := by decide +kernel
theorem dX7_does_294 : decode cX7_does 294 = .ok (.invokevirtual 41, 3) := by decide +kernel
theorem dX7_does_297 : decode cX7_does 297 = .ok (.goto 76, 3) := by decide +kernel
theorem dX7_does_300 : decode cX7_does 300 = .ok (.aload_n 0, 1) := by decide +kernel
theorem dX7_does_301 : decode cX7_does 301 = .ok (.iload_n 1, 1) := by decide +kernel
theorem dX7_does_302 : decode cX7_does 302 = .ok (.iload 4, 2) := by decide +kernel
theorem dX7_does_304 : decode cX7_does 304 = .ok (.aload_n 0, 1) := by decide +kernel
theorem dX7_does_305 : decode cX7_does 305 = .ok (.iload_n 1, 1) := by decide +kernel
theorem dX7_does_306 : decode cX7_does 306 = .ok (.iload_n 3, 1) := by decide +kernel
theorem dX7_does_307 : decode cX7_does 307 = .ok (.invokevirtual 34, 3) := by decide +kernel
theorem dX7_does_310 : decode cX7_does 310 = .ok (.ifCond .ne 7, 3) := by decide +kernel
theorem dX7_does_313 : decode cX7_does 313 = .ok (.iconst 1, 1) := by decide +kernel
theorem dX7_does_314 : decode cX7_does 314 = .ok (.goto 4, 3) := by decide +kernel
theorem dX7_does_317 : decode cX7_does 317 = .ok (.iconst 0, 1) := by decide +kernel
theorem dX7_does_318 : decode cX7_does 318 = .ok (.invokevirtual 41, 3) := by decide +kernel
theorem dX7_does_321 : decode cX7_does 321 = .ok (.goto 52, 3) := by decide +kernel
theorem dX7_does_324 : decode cX7_does 324 = .ok (.aload_n 0, 1) := by decide +kernel
theorem dX7_does_325 : decode cX7_does 325 = .ok (.iload_n 1, 1) := by decide +kernel
theorem dX7_does_326 : decode cX7_does 326 = .ok (.iload 4, 2) := by decide +kernel
theorem dX7_does_328 : decode cX7_does 328 = .ok (.aload_n 0, 1) := by decide +kernel
theorem dX7_does_329 : decode cX7_does 329 = .ok (.iload_n 1, 1) := by decide +kernel
theorem dX7_does_330 : decode cX7_does 330 = .ok (.iload_n 3, 1) := by decide +kernel
theorem dX7_does_331 : decode cX7_does 331 = .ok (.invokevirtual 34, 3) := by decide +kernel
theorem dX7_does_334 : decode cX7_does 334 = .ok (.ifCond .ge 7, 3) := by decide +kernel
theorem dX7_does_337 : decode cX7_does 337 = .ok (.iconst 1, 1) := by decide +kernel
theorem dX7_does_338 : decode cX7_does 338 = .ok (.goto 4, 3) := by decide +kernel
theorem dX7_does_341 : decode cX7_does 341 = .ok (.iconst 0, 1) := by decide +kernel
theorem dX7_does_342 : decode cX7_does 342 = .ok (.invokevirtual 41, 3) := by decide +kernel
theorem dX7_does_345 : decode cX7_does 345 = .ok (.goto 28, 3) := by decide +kernel
theorem dX7_does_348 : decode cX7_does 348 = .ok (.aload_n 0, 1) := by decide +kernel
theorem dX7_does_349 : decode cX7_does 349 = .ok (.getfield 7, 3) := by decide +kernel
theorem dX7_does_352 : decode cX7_does 352 = .ok (.iload_n 1, 1) := by decide +kernel
theorem dX7_does_353 : decode cX7_does 353 = .ok (.iconst 0, 1) := by decide +kernel
theorem dX7_does_354 : decode cX7_does 354 = .ok (.invokestatic 22, 3) := by decide +kernel
theorem dX7_does_357 : decode cX7_does 357 = .ok (.iconst 3, 1) := by decide +kernel
theorem dX7_does_358 : decode cX7_does 358 = .ok (.iastore, 1) := by decide +kernel
theorem dX7_does_359 : decode cX7_does 359 = .ok (.goto 14, 3) := by decide +kernel
theorem dX7_does_362 : decode cX7_does 362 = .ok (.aload_n 0, 1) := by decide +kernel
theorem dX7_does_363 : decode cX7_does 363 = .ok (.getfield 7, 3) := by decide +kernel
theorem dX7_does_366 : decode cX7_does 366 = .ok (.iload_n 1, 1) := by decide +kernel
theorem dX7_does_367 : decode cX7_does 367 = .ok (.iconst 0, 1) := by decide +kernel
theorem dX7_does_368 : decode cX7_does 368 = .ok (.invokestatic 22, 3) := by decide +kernel
theorem dX7_does_371 : decode cX7_does 371 = .ok (.iconst 0, 1) := by decide +kernel
theorem dX7_does_372 : decode cX7_does 372 = .ok (.iastore, 1) := by decide +kernel
theorem dX7_does_373 : decode cX7_does 373 = .ok (.return_, 1) := by decide +kernel
theorem dX7_traces_0 : decode cX7_traces 0 = .ok (.bipush 47, 2) := by decide +kernel
theorem dX7_traces_2 : decode cX7_traces 2 = .ok (.istore_n 3, 1) := by decide +kernel
theorem dX7_traces_3 : decode cX7_traces 3 = .ok (.iload_n 3, 1) := by decide +kernel
theorem dX7_traces_4 : decode cX7_traces 4 = .ok (.iconst 2, 1) := by decide +kernel
theorem dX7_traces_5 : decode cX7_traces 5 = .ok (.if_icmp .le 31, 3) := by decide +kernel
theorem dX7_traces_8 : decode cX7_traces 8 = .ok (.aload_n 0, 1) := by decide +kernel
theorem dX7_traces_9 : decode cX7_traces 9 = .ok (.getfield 7, 3) := by decide +kernel
theorem dX7_traces_12 : decode cX7_traces 12 = .ok (.sipush 293, 3) := by decide +kernel
theorem dX7_traces_15 : decode cX7_traces 15 = .ok (.iload_n 3, 1) := by decide +kernel
theorem dX7_traces_16 : decode cX7_traces 16 = .ok (.iadd, 1) := by decide +kernel
theorem dX7_traces_17 : decode cX7_traces 17 = .ok (.aload_n 0, 1) := by decide +kernel
theorem dX7_traces_18 : decode cX7_traces 18 = .ok (.getfield 7, 3) := by decide +kernel
theorem dX7_traces_21 : decode cX7_traces 21 = .ok (.sipush 293, 3) := by decide +kernel
theorem dX7_traces_24 : decode cX7_traces 24 = .ok (.iload_n 3, 1) := by decide +kernel
theorem dX7_traces_25 : decode cX7_traces 25 = .ok (.iadd, 1) := by decide +kernel
theorem dX7_traces_26 : decode cX7_traces 26 = .ok (.iconst 3, 1) := by decide +kernel
theorem dX7_traces_27 : decode cX7_traces 27 = .ok (.isub, 1) := by decide +kernel
theorem dX7_traces_28 : decode cX7_traces 28 = .ok (.iaload, 1) := by decide +kernel
theorem dX7_traces_29 : decode cX7_traces 29 = .ok (.iastore, 1) := by decide +kernel
theorem dX7_traces_30 : decode cX7_traces 30 = .ok (.iinc 3 (-1), 3) := by decide +kernel
theorem dX7_traces_33 : decode cX7_traces 33 = .ok (.goto (-30), 3) := by decide +kernel
theorem dX7_traces_36 : decode cX7_traces 36 = .ok (.aload_n 0, 1) := by decide +kernel
theorem dX7_traces_37 : decode cX7_traces 37 = .ok (.getfield 7, 3) := by decide +kernel
theorem dX7_traces_40 : decode cX7_traces 40 = .ok (.sipush 293, 3) := by decide +kernel
theorem dX7_traces_43 : decode cX7_traces 43 = .ok (.aload_n 0, 1) := by decide +kernel
theorem dX7_traces_44 : decode cX7_traces 44 = .ok (.getfield 7, 3) := by decide +kernel
theorem dX7_traces_47 : decode cX7_traces 47 = .ok (.sipush 232, 3) := by decide +kernel
theorem dX7_traces_50 : decode cX7_traces 50 = .ok (.iaload, 1) := by decide +kernel
theorem dX7_traces_51 : decode cX7_traces 51 = .ok (.iastore, 1) := by decide +kernel
theorem dX7_traces_52 : decode cX7_traces 52 = .ok (.aload_n 0, 1) := by decide +kernel
theorem dX7_traces_53 : decode cX7_traces 53 = .ok (.getfield 7, 3) := by decide +kernel
theorem dX7_traces_56 : decode cX7_traces 56 = .ok (.sipush 294, 3) := by decide +kernel
theorem dX7_traces_59 : decode cX7_traces 59 = .ok (.iload_n 1, 1) := by decide +kernel
theorem dX7_traces_60 : decode cX7_traces 60 = .ok (.iastore, 1) := by decide +kernel
theorem dX7_traces_61 : decode cX7_traces 61 = .ok (.aload_n 0, 1) := by decide +kernel
theorem dX7_traces_62 : decode cX7_traces 62 = .ok (.getfield 7, 3) := by decide +kernel
theorem dX7_traces_65 : decode cX7_traces 65 = .ok (.sipush 295, 3) := by decide +kernel
theorem dX7_traces_68 : decode cX7_traces 68 = .ok (.iload_n 2, 1) := by decide +kernel
theorem dX7_traces_69 : decode cX7_traces 69 = .ok (.iastore, 1) := by decide +kernel
theorem dX7_traces_70 : decode cX7_traces 70 = .ok (.aload_n 0, 1) := by decide +kernel
theorem dX7_traces_71 : decode cX7_traces 71 = .ok (.getfield 7, 3) := by decide +kernel
theorem dX7_traces_74 : decode cX7_traces 74 = .ok (.sipush 292, 3) := by decide +kernel
theorem dX7_traces_77 : decode cX7_traces 77 = .ok (.dup2, 1) := by decide +kernel
theorem dX7_traces_78 : decode cX7_traces 78 = .ok (.iaload, 1) := by decide +kernel
theorem dX7_traces_79 : decode cX7_traces 79 = .ok (.aload_n 0, 1) := by decide +kernel
theorem dX7_traces_80 : decode cX7_traces 80 = .ok (.getfield 7, 3) := by decide +kernel
theorem dX7_traces_83 : decode cX7_traces 83 = .ok (.sipush 292, 3) := by decide +kernel
theorem dX7_traces_86 : decode cX7_traces 86 = .ok (.iaload, 1) := by decide +kernel
theorem dX7_traces_87 : decode cX7_traces 87 = .ok (.bipush 16, 2) := by decide +kernel
theorem dX7_traces_89 : decode cX7_traces 89 = .ok (.if_icmp .ge 7, 3) := by decide +kernel
theorem dX7_traces_92 : decode cX7_traces 92 = .ok (.iconst 1, 1) := by decide +kernel
theorem dX7_traces_93 : decode cX7_traces 93 = .ok (.goto 4, 3) := by decide +kernel
theorem dX7_traces_96 : decode cX7_traces 96 = .ok (.iconst 0, 1) := by decide +kernel
theorem dX7_traces_97 : decode cX7_traces 97 = .ok (.iadd, 1) := by decide +kernel
theorem dX7_traces_98 : decode cX7_traces 98 = .ok (.iastore, 1) := by decide +kernel
theorem dX7_traces_99 : decode cX7_traces 99 = .ok (.return_, 1) := by decide +kernel
set_option maxRecDepth 20000 in
theorem ggX7_executes_X7_at : GoodIn wsX7_executes wsX7_at := goodIn_r _ [5] (by decide +kernel) (by decide +kernel)
set_option maxRecDepth 20000 in
theorem gX7_executes_X7_at : GoodIn wsX7_executes (va_wsS RX7 22 yX7_at wsX7_at) := goodIn_app (goodIn_of _ (by decide +kernel)) ggX7_executes_X7_at
set_option maxRecDepth 20000 in
theorem ggX7_executes_X7_traces : GoodIn wsX7_executes wsX7_traces := goodIn_r _ [9, 1, 29, 30, 31, 32, 33, 34, 35, 36, 37, 38, 39] (by decide +kernel) (by decide +kernel)
set_option maxRecDepth 20000 in
theorem gX7_executes_X7_traces : GoodIn wsX7_executes (wsV RX7 45 RX7 yX7_traces wsX7_traces) := goodIn_app (goodIn_of _ (by decide +kernel)) ggX7_executes_X7_traces
set_option maxRecDepth 20000 in
theorem ggX7_executes_X7_does : GoodIn wsX7_executes wsX7_does := goodIn_r _ [13, 1, 14, 15, 4, 16, 17, 18, 19, 20, 2, 3, 5, 21, 22, 23, 24, 25, 26, 27, 28, 29, 30, 31, 32, 33, 34, 35, 36, 37, 38, 39] (by decide +kernel) (by decide +kernel)
set_option maxRecDepth 20000 in
theorem gX7_executes_X7_does : GoodIn wsX7_executes (wsV RX7 49 RX7 yX7_does wsX7_does) := goodIn_app (goodIn_of _ (by decide +kernel)) ggX7_executes_X7_does
theorem dX7_executes_0 : decode cX7_executes 0 = .ok (.aload_n 0, 1) := by decide +kernel
theorem dX7_executes_1 : decode cX7_executes 1 = .ok (.getfield 7, 3) := by decide +kernel
theorem dX7_executes_4 : decode cX7_executes 4 = .ok (.iload_n 1, 1) := by decide +kernel
theorem dX7_executes_5 : decode cX7_executes 5 = .ok (.iconst 1, 1) := by decide +kernel
theorem dX7_executes_6 : decode cX7_executes 6 = .ok (.invokestatic 22, 3) := by decide +kernel
theorem dX7_executes_9 : decode cX7_executes 9 = .ok (.iaload, 1) := by decide +kernel
theorem dX7_executes_10 : decode cX7_executes 10 = .ok (.istore_n 2, 1) := by decide +kernel
theorem dX7_executes_11 : decode cX7_executes 11 = .ok (.aload_n 0, 1) := by decide +kernel
theorem dX7_executes_12 : decode cX7_executes 12 = .ok (.iload_n 1, 1) := by decide +kernel
theorem dX7_executes_13 : decode cX7_executes 13 = .ok (.iload_n 2, 1) := by decide +kernel
theorem dX7_executes_14 : decode cX7_executes 14 = .ok (.invokevirtual 45, 3) := by decide +kernel
theorem dX7_executes_17 : decode cX7_executes 17 = .ok (.iload_n 2, 1) := by decide +kernel
theorem dX7_executes_18 : decode cX7_executes 18 = .ok (.bipush 48, 2) := by decide +kernel
theorem dX7_executes_20 : decode cX7_executes 20 = .ok (.if_icmp .ne 15, 3) := by decide +kernel
theorem dX7_executes_23 : decode cX7_executes 23 = .ok (.aload_n 0, 1) := by decide +kernel
theorem dX7_executes_24 : decode cX7_executes 24 = .ok (.getfield 7, 3) := by decide +kernel
theorem dX7_executes_27 : decode cX7_executes 27 = .ok (.iload_n 1, 1) := by decide +kernel
theorem dX7_executes_28 : decode cX7_executes 28 = .ok (.iconst 0, 1) := by decide +kernel
theorem dX7_executes_29 : decode cX7_executes 29 = .ok (.invokestatic 22, 3) := by decide +kernel
theorem dX7_executes_32 : decode cX7_executes 32 = .ok (.iconst 0, 1) := by decide +kernel
theorem dX7_executes_33 : decode cX7_executes 33 = .ok (.iastore, 1) := by decide +kernel
theorem dX7_executes_34 : decode cX7_executes 34 = .ok (.return_, 1) := by decide +kernel
theorem dX7_executes_35 : decode cX7_executes 35 = .ok (.aload_n 0, 1) := by decide +kernel
theorem dX7_executes_36 : decode cX7_executes 36 = .ok (.getfield 7, 3) := by decide +kernel
theorem dX7_executes_39 : decode cX7_executes 39 = .ok (.iload_n 1, 1) := by decide +kernel
theorem dX7_executes_40 : decode cX7_executes 40 = .ok (.iconst 1, 1) := by decide +kernel
theorem dX7_executes_41 : decode cX7_executes 41 = .ok (.invokestatic 22, 3) := by decide +kernel
theorem dX7_executes_44 : decode cX7_executes 44 = .ok (.iload_n 2, 1) := by decide +kernel
theorem dX7_executes_45 : decode cX7_executes 45 = .ok (.iconst 1, 1) := by decide +kernel
theorem dX7_executes_46 : decode cX7_executes 46 = .ok (.iadd, 1) := by decide +kernel
theorem dX7_executes_47 : decode cX7_executes 47 = .ok (.iastore, 1) := by decide +kernel
theorem dX7_executes_48 : decode cX7_executes 48 = .ok (.aload_n 0, 1) := by decide +kernel
theorem dX7_executes_49 : decode cX7_executes 49 = .ok (.iload_n 1, 1) := by decide +kernel
theorem dX7_executes_50 : decode cX7_executes 50 = .ok (.aload_n 0, 1) := by decide +kernel
theorem dX7_executes_51 : decode cX7_executes 51 = .ok (.getfield 7, 3) := by decide +kernel
theorem dX7_executes_54 : decode cX7_executes 54 = .ok (.bipush 56, 2) := by decide +kernel
theorem dX7_executes_56 : decode cX7_executes 56 = .ok (.iconst 3, 1) := by decide +kernel
theorem dX7_executes_57 : decode cX7_executes 57 = .ok (.iload_n 2, 1) := by decide +kernel
theorem dX7_executes_58 : decode cX7_executes 58 = .ok (.imul, 1) := by decide +kernel
theorem dX7_executes_59 : decode cX7_executes 59 = .ok (.iadd, 1) := by decide +kernel
theorem dX7_executes_60 : decode cX7_executes 60 = .ok (.iaload, 1) := by decide +kernel
theorem dX7_executes_61 : decode cX7_executes 61 = .ok (.aload_n 0, 1) := by decide +kernel
theorem dX7_executes_62 : decode cX7_executes 62 = .ok (.getfield 7, 3) := by decide +kernel
theorem dX7_executes_65 : decode cX7_executes 65 = .ok (.bipush 56, 2) := by decide +kernel
theorem dX7_executes_67 : decode cX7_executes 67 = .ok (.iconst 3, 1) := by decide +kernel
theorem dX7_executes_68 : decode cX7_executes 68 = .ok (.iload_n 2, 1) := by decide +kernel
theorem dX7_executes_69 : decode cX7_executes 69 = .ok (.imul, 1) := by decide +kernel
theorem dX7_executes_70 : decode cX7_executes 70 = .ok (.iadd, 1) := by decide +kernel
theorem dX7_executes_71 : decode cX7_executes 71 = .ok (.iconst 1, 1) := by decide +kernel
theorem dX7_executes_72 : decode cX7_executes 72 = .ok (.iadd, 1) := by decide +kernel
theorem dX7_executes_73 : decode cX7_executes 73 = .ok (.iaload, 1) := by decide +kernel
theorem dX7_executes_74 : decode cX7_executes 74 = .ok (.aload_n 0, 1) := by decide +kernel
theorem dX7_executes_75 : decode cX7_executes 75 = .ok (.getfield 7, 3) := by decide +kernel
theorem dX7_executes_78 : decode cX7_executes 78 = .ok (.bipush 56, 2) := by decide +kernel
theorem dX7_executes_80 : decode cX7_executes 80 = .ok (.iconst 3, 1) := by decide +kernel
theorem dX7_executes_81 : decode cX7_executes 81 = .ok (.iload_n 2, 1) := by decide +kernel
theorem dX7_executes_82 : decode cX7_executes 82 = .ok (.imul, 1) := by decide +kernel
theorem dX7_executes_83 : decode cX7_executes 83 = .ok (.iadd, 1) := by decide +kernel
theorem dX7_executes_84 : decode cX7_executes 84 = .ok (.iconst 2, 1) := by decide +kernel
theorem dX7_executes_85 : decode cX7_executes 85 = .ok (.iadd, 1) := by decide +kernel
theorem dX7_executes_86 : decode cX7_executes 86 = .ok (.iaload, 1) := by decide +kernel
theorem dX7_executes_87 : decode cX7_executes 87 = .ok (.invokevirtual 49, 3) := by decide +kernel
theorem dX7_executes_90 : decode cX7_executes 90 = .ok (.return_, 1) := by decide +kernel
set_option maxRecDepth 20000 in
theorem ggX7_many_X7_at : GoodIn wsX7_many wsX7_at := goodIn_r _ [5] (by decide +kernel) (by decide +kernel)
set_option maxRecDepth 20000 in
theorem gX7_many_X7_at : GoodIn wsX7_many (va_wsS RX7 22 yX7_at wsX7_at) := goodIn_app (goodIn_of _ (by decide +kernel)) ggX7_many_X7_at
theorem dX7_many_0 : decode cX7_many 0 = .ok (.iconst 0, 1) := by decide +kernel
theorem dX7_many_1 : decode cX7_many 1 = .ok (.istore_n 2, 1) := by decide +kernel
theorem dX7_many_2 : decode cX7_many 2 = .ok (.iconst 0, 1) := by decide +kernel
theorem dX7_many_3 : decode cX7_many 3 = .ok (.istore_n 3, 1) := by decide +kernel
theorem dX7_many_4 : decode cX7_many 4 = .ok (.iload_n 3, 1) := by decide +kernel
theorem dX7_many_5 : decode cX7_many 5 = .ok (.iconst 4, 1) := by decide +kernel
theorem dX7_many_6 : decode cX7_many 6 = .ok (.if_icmp .ge 31, 3) := by decide +kernel
theorem dX7_many_9 : decode cX7_many 9 = .ok (.iload_n 2, 1) := by decide +kernel
theorem dX7_many_10 : decode cX7_many 10 = .ok (.aload_n 0, 1) := by decide +kernel
theorem dX7_many_11 : decode cX7_many 11 = .ok (.getfield 7, 3) := by decide +kernel
theorem dX7_many_14 : decode cX7_many 14 = .ok (.iload_n 3, 1) := by decide +kernel
theorem dX7_many_15 : decode cX7_many 15 = .ok (.iconst 0, 1) := by decide +kernel
theorem dX7_many_16 : decode cX7_many 16 = .ok (.invokestatic 22, 3) := by decide +kernel
theorem dX7_many_19 : decode cX7_many 19 = .ok (.iaload, 1) := by decide +kernel
theorem dX7_many_20 : decode cX7_many 20 = .ok (.iload_n 1, 1) := by decide +kernel
theorem dX7_many_21 : decode cX7_many 21 = .ok (.if_icmp .ne 7, 3) := by decide +kernel
theorem dX7_many_24 : decode cX7_many 24 = .ok (.iconst 1, 1) := by decide +kernel
theorem dX7_many_25 : decode cX7_many 25 = .ok (.goto 4, 3) := by decide +kernel
theorem dX7_many_28 : decode cX7_many 28 = .ok (.iconst 0, 1) := by decide +kernel
theorem dX7_many_29 : decode cX7_many 29 = .ok (.iadd, 1) := by decide +kernel
theorem dX7_many_30 : decode cX7_many 30 = .ok (.istore_n 2, 1) := by decide +kernel
theorem dX7_many_31 : decode cX7_many 31 = .ok (.iinc 3 1, 3) := by decide +kernel
theorem dX7_many_34 : decode cX7_many 34 = .ok (.goto (-30), 3) := by decide +kernel
theorem dX7_many_37 : decode cX7_many 37 = .ok (.iload_n 2, 1) := by decide +kernel
theorem dX7_many_38 : decode cX7_many 38 = .ok (.ireturn, 1) := by decide +kernel
set_option maxRecDepth 20000 in
theorem ggX7_prepares_X7_at : GoodIn wsX7_prepares wsX7_at := goodIn_r _ [5] (by decide +kernel) (by decide +kernel)
set_option maxRecDepth 20000 in
theorem gX7_prepares_X7_at : GoodIn wsX7_prepares (va_wsS RX7 22 yX7_at wsX7_at) := goodIn_app (goodIn_of _ (by decide +kernel)) ggX7_prepares_X7_at
set_option maxRecDepth 20000 in
theorem ggX7_prepares_X7_puts : GoodIn wsX7_prepares wsX7_puts := goodIn_r _ [9, 1, 2, 3, 4, 5, 14, 15, 16, 17, 18, 19, 20, 21, 22, 23, 24] (by decide +kernel) (by decide +kernel)
set_option maxRecDepth 20000 in
theorem gX7_prepares_X7_puts : GoodIn wsX7_prepares (wsV RX7 37 RX7 yX7_puts wsX7_puts) := goodIn_app (goodIn_of _ (by decide +kernel)) ggX7_prepares_X7_puts
set_option maxRecDepth 20000 in
theorem ggX7_prepares_X7_many : GoodIn wsX7_prepares wsX7_many := goodIn_r _ [13, 1, 2, 3, 4, 5, 14, 15, 16, 17, 18, 19, 20, 21, 22, 23, 24] (by decide +kernel) (by decide +kernel)
set_option maxRecDepth 20000 in
theorem gX7_prepares_X7_many : GoodIn wsX7_prepares (wsV RX7 53 RX7 yX7_many wsX7_many) := goodIn_app (goodIn_of _ (by decide +kernel)) ggX7_prepares_X7_many
theorem dX7_prepares_0 : decode cX7_prepares 0 = .ok (.iconst 0, 1) := by decide +kernel
theorem dX7_prepares_1 : decode cX7_prepares 1 = .ok (.istore_n 1, 1) := by decide +kernel
theorem dX7_prepares_2 : decode cX7_prepares 2 = .ok (.iload_n 1, 1) := by decide +kernel
theorem dX7_prepares_3 : decode cX7_prepares 3 = .ok (.iconst 4, 1) := by decide +kernel
theorem dX7_prepares_4 : decode cX7_prepares 4 = .ok (.if_icmp .ge 88, 3) := by decide +kernel
theorem dX7_prepares_7 : decode cX7_prepares 7 = .ok (.aload_n 0, 1) := by decide +kernel
theorem dX7_prepares_8 : decode cX7_prepares 8 = .ok (.getfield 7, 3) := by decide +kernel
theorem dX7_prepares_11 : decode cX7_prepares 11 = .ok (.iload_n 1, 1) := by decide +kernel
theorem dX7_prepares_12 : decode cX7_prepares 12 = .ok (.iconst 0, 1) := by decide +kernel
theorem dX7_prepares_13 : decode cX7_prepares 13 = .ok (.invokestatic 22, 3) := by decide +kernel
theorem dX7_prepares_16 : decode cX7_prepares 16 = .ok (.iaload, 1) := by decide +kernel
theorem dX7_prepares_17 : decode cX7_prepares 17 = .ok (.iconst 2, 1) := by decide +kernel
theorem dX7_prepares_18 : decode cX7_prepares 18 = .ok (.if_icmp .ne 68, 3) := by decide +kernel
theorem dX7_prepares_21 : decode cX7_prepares 21 = .ok (.aload_n 0, 1) := by decide +kernel
theorem dX7_prepares_22 : decode cX7_prepares 22 = .ok (.getfield 7, 3) := by decide +kernel
theorem dX7_prepares_25 : decode cX7_prepares 25 = .ok (.sipush 232, 3) := by decide +kernel
theorem dX7_prepares_28 : decode cX7_prepares 28 = .ok (.iaload, 1) := by decide +kernel
theorem dX7_prepares_29 : decode cX7_prepares 29 = .ok (.aload_n 0, 1) := by decide +kernel
theorem dX7_prepares_30 : decode cX7_prepares 30 = .ok (.getfield 7, 3) := by decide +kernel
theorem dX7_prepares_33 : decode cX7_prepares 33 = .ok (.iload_n 1, 1) := by decide +kernel
theorem dX7_prepares_34 : decode cX7_prepares 34 = .ok (.bipush 8, 2) := by decide +kernel
theorem dX7_prepares_36 : decode cX7_prepares 36 = .ok (.invokestatic 22, 3) := by decide +kernel
theorem dX7_prepares_39 : decode cX7_prepares 39 = .ok (.iaload, 1) := by decide +kernel
theorem dX7_prepares_40 : decode cX7_prepares 40 = .ok (.if_icmp .lt 46, 3) := by decide +kernel
theorem dX7_prepares_43 : decode cX7_prepares 43 = .ok (.aload_n 0, 1) := by decide +kernel
theorem dX7_prepares_44 : decode cX7_prepares 44 = .ok (.iload_n 1, 1) := by decide +kernel
theorem dX7_prepares_45 : decode cX7_prepares 45 = .ok (.aload_n 0, 1) := by decide +kernel
theorem dX7_prepares_46 : decode cX7_prepares 46 = .ok (.getfield 7, 3) := by decide +kernel
theorem dX7_prepares_49 : decode cX7_prepares 49 = .ok (.iload_n 1, 1) := by decide +kernel
theorem dX7_prepares_50 : decode cX7_prepares 50 = .ok (.bipush 6, 2) := by decide +kernel
theorem dX7_prepares_52 : decode cX7_prepares 52 = .ok (.invokestatic 22, 3) := by decide +kernel
theorem dX7_prepares_55 : decode cX7_prepares 55 = .ok (.iaload, 1) := by decide +kernel
theorem dX7_prepares_56 : decode cX7_prepares 56 = .ok (.aload_n 0, 1) := by decide +kernel
theorem dX7_prepares_57 : decode cX7_prepares 57 = .ok (.getfield 7, 3) := by decide +kernel
theorem dX7_prepares_60 : decode cX7_prepares 60 = .ok (.aload_n 0, 1) := by decide +kernel
theorem dX7_prepares_61 : decode cX7_prepares 61 = .ok (.getfield 7, 3) := by decide +kernel
theorem dX7_prepares_64 : decode cX7_prepares 64 = .ok (.iload_n 1, 1) := by decide +kernel
theorem dX7_prepares_65 : decode cX7_prepares 65 = .ok (.bipush 7, 2) := by decide +kernel
theorem dX7_prepares_67 : decode cX7_prepares 67 = .ok (.invokestatic 22, 3) := by decide +kernel
theorem dX7_prepares_70 : decode cX7_prepares 70 = .ok (.iaload, 1) := by decide +kernel
theorem dX7_prepares_71 : decode cX7_prepares 71 = .ok (.iaload, 1) := by decide +kernel
theorem dX7_prepares_72 : decode cX7_prepares 72 = .ok (.invokevirtual 37, 3) := by decide +kernel
theorem dX7_prepares_75 : decode cX7_prepares 75 = .ok (.aload_n 0, 1) := by decide +kernel
theorem dX7_prepares_76 : decode cX7_prepares 76 = .ok (.getfield 7, 3) := by decide +kernel
theorem dX7_prepares_79 : decode cX7_prepares 79 = .ok (.iload_n 1, 1) := by decide +kernel
theorem dX7_prepares_80 : decode cX7_prepares 80 = .ok (.iconst 0, 1) := by decide +kernel
theorem dX7_prepares_81 : decode cX7_prepares 81 = .ok (.invokestatic 22, 3) := by decide +kernel
theorem dX7_prepares_84 : decode cX7_prepares 84 = .ok (.iconst 1, 1) := by decide +kernel
theorem dX7_prepares_85 : decode cX7_prepares 85 = .ok (.iastore, 1) := by decide +kernel
theorem dX7_prepares_86 : decode cX7_prepares 86 = .ok (.iinc 1 1, 3) := by decide +kernel
theorem dX7_prepares_89 : decode cX7_prepares 89 = .ok (.goto (-87), 3) := by decide +kernel
theorem dX7_prepares_92 : decode cX7_prepares 92 = .ok (.aload_n 0, 1) := by decide +kernel
theorem dX7_prepares_93 : decode cX7_prepares 93 = .ok (.iconst 1, 1) := by decide +kernel
theorem dX7_prepares_94 : decode cX7_prepares 94 = .ok (.invokevirtual 53, 3) := by decide +kernel
theorem dX7_prepares_97 : decode cX7_prepares 97 = .ok (.aload_n 0, 1) := by decide +kernel
theorem dX7_prepares_98 : decode cX7_prepares 98 = .ok (.iconst 2, 1) := by decide +kernel
theorem dX7_prepares_99 : decode cX7_prepares 99 = .ok (.invokevirtual 53, 3) := by decide +kernel
theorem dX7_prepares_102 : decode cX7_prepares 102 = .ok (.iadd, 1) := by decide +kernel
theorem dX7_prepares_103 : decode cX7_prepares 103 = .ok (.ifCond .ne 7, 3) := by decide +kernel
theorem dX7_prepares_106 : decode cX7_prepares 106 = .ok (.iconst 1, 1) := by decide +kernel
theorem dX7_prepares_107 : decode cX7_prepares 107 = .ok (.goto 4, 3) := by decide +kernel
theorem dX7_prepares_110 : decode cX7_prepares 110 = .ok (.iconst 0, 1) := by decide +kernel
theorem dX7_prepares_111 : decode cX7_prepares 111 = .ok (.istore_n 1, 1) := by decide +kernel
theorem dX7_prepares_112 : decode cX7_prepares 112 = .ok (.iconst 0, 1) := by decide +kernel
theorem dX7_prepares_113 : decode cX7_prepares 113 = .ok (.istore_n 2, 1) := by decide +kernel
theorem dX7_prepares_114 : decode cX7_prepares 114 = .ok (.iload_n 2, 1) := by decide +kernel
theorem dX7_prepares_115 : decode cX7_prepares 115 = .ok (.iconst 4, 1) := by decide +kernel
theorem dX7_prepares_116 : decode cX7_prepares 116 = .ok (.if_icmp .ge 51, 3) := by decide +kernel
theorem dX7_prepares_119 : decode cX7_prepares 119 = .ok (.aload_n 0, 1) := by decide +kernel
theorem dX7_prepares_120 : decode cX7_prepares 120 = .ok (.getfield 7, 3) := by decide +kernel
theorem dX7_prepares_123 : decode cX7_prepares 123 = .ok (.iload_n 2, 1) := by decide +kernel
theorem dX7_prepares_124 : decode cX7_prepares 124 = .ok (.iconst 0, 1) := by decide +kernel
theorem dX7_prepares_125 : decode cX7_prepares 125 = .ok (.invokestatic 22, 3) := by decide +kernel
theorem dX7_prepares_128 : decode cX7_prepares 128 = .ok (.iload_n 1, 1) := by decide +kernel
theorem dX7_prepares_129 : decode cX7_prepares 129 = .ok (.ifCond .eq 21, 3) := by decide +kernel
theorem dX7_prepares_132 : decode cX7_prepares 132 = .ok (.aload_n 0, 1) := by decide +kernel
theorem dX7_prepares_133 : decode cX7_prepares 133 = .ok (.getfield 7, 3) := by decide +kernel
theorem dX7_prepares_136 : decode cX7_prepares 136 = .ok (.iload_n 2, 1) := by decide +kernel
theorem dX7_prepares_137 : decode cX7_prepares 137 = .ok (.iconst 0, 1) := by decide +kernel
theorem dX7_prepares_138 : decode cX7_prepares 138 = .ok (.invokestatic 22, 3) := by decide +kernel
theorem dX7_prepares_141 : decode cX7_prepares 141 = .ok (.iaload, 1) := by decide +kernel
theorem dX7_prepares_142 : decode cX7_prepares 142 = .ok (.iconst 3, 1) := by decide +kernel
theorem dX7_prepares_143 : decode cX7_prepares 143 = .ok (.if_icmp .ne 7, 3) := by decide +kernel
theorem dX7_prepares_146 : decode cX7_prepares 146 = .ok (.iconst 1, 1) := by decide +kernel
theorem dX7_prepares_147 : decode cX7_prepares 147 = .ok (.goto 13, 3) := by decide +kernel
theorem dX7_prepares_150 : decode cX7_prepares 150 = .ok (.aload_n 0, 1) := by decide +kernel
theorem dX7_prepares_151 : decode cX7_prepares 151 = .ok (.getfield 7, 3) := by decide +kernel
theorem dX7_prepares_154 : decode cX7_prepares 154 = .ok (.iload_n 2, 1) := by decide +kernel
theorem dX7_prepares_155 : decode cX7_prepares 155 = .ok (.iconst 0, 1) := by decide +kernel
theorem dX7_prepares_156 : decode cX7_prepares 156 = .ok (.invokestatic 22, 3) := by decide +kernel
theorem dX7_prepares_159 : decode cX7_prepares 159 = .ok (.iaload, 1) := by decide +kernel
theorem dX7_prepares_160 : decode cX7_prepares 160 = .ok (.iastore, 1) := by decide +kernel
theorem dX7_prepares_161 : decode cX7_prepares 161 = .ok (.iinc 2 1, 3) := by decide +kernel
theorem dX7_prepares_164 : decode cX7_prepares 164 = .ok (.goto (-50), 3) := by decide +kernel
theorem dX7_prepares_167 : decode cX7_prepares 167 = .ok (.return_, 1) := by decide +kernel
set_option maxRecDepth 20000 in
theorem ggX7_isReady_X7_at : GoodIn wsX7_isReady wsX7_at := goodIn_r _ [5] (by decide +kernel) (by decide +kernel)
set_option maxRecDepth 20000 in
theorem gX7_isReady_X7_at : GoodIn wsX7_isReady (va_wsS RX7 22 yX7_at wsX7_at) := goodIn_app (goodIn_of _ (by decide +kernel)) ggX7_isReady_X7_at
theorem dX7_isReady_0 : decode cX7_isReady 0 = .ok (.aload_n 0, 1) := by decide +kernel
theorem dX7_isReady_1 : decode cX7_isReady 1 = .ok (.getfield 7, 3) := by decide +kernel
theorem dX7_isReady_4 : decode cX7_isReady 4 = .ok (.iload_n 1, 1) := by decide +kernel
theorem dX7_isReady_5 : decode cX7_isReady 5 = .ok (.iconst 0, 1) := by decide +kernel
theorem dX7_isReady_6 : decode cX7_isReady 6 = .ok (.invokestatic 22, 3) := by decide +kernel
theorem dX7_isReady_9 : decode cX7_isReady 9 = .ok (.iaload, 1) := by decide +kernel
theorem dX7_isReady_10 : decode cX7_isReady 10 = .ok (.iconst 1, 1) := by decide +kernel
theorem dX7_isReady_11 : decode cX7_isReady 11 = .ok (.if_icmp .ne 7, 3) := by decide +kernel
theorem dX7_isReady_14 : decode cX7_isReady 14 = .ok (.iconst 1, 1) := by decide +kernel
theorem dX7_isReady_15 : decode cX7_isReady 15 = .ok (.goto 4, 3) := by decide +kernel
theorem dX7_isReady_18 : decode cX7_isReady 18 = .ok (.iconst 0, 1) := by decide +kernel
theorem dX7_isReady_19 : decode cX7_isReady 19 = .ok (.ireturn, 1) := by decide +kernel
set_option maxRecDepth 20000 in
theorem ggX7_issuing_X7_isReady : GoodIn wsX7_issuing wsX7_isReady := goodIn_r _ [6, 1, 7, 8, 5, 9, 10, 11, 12, 13, 14, 15, 16, 17, 18, 19, 20] (by decide +kernel) (by decide +kernel)
set_option maxRecDepth 20000 in
theorem gX7_issuing_X7_isReady : GoodIn wsX7_issuing (wsV RX7 57 RX7 yX7_isReady wsX7_isReady) := goodIn_app (goodIn_of _ (by decide +kernel)) ggX7_issuing_X7_isReady
set_option maxRecDepth 20000 in
theorem ggX7_issuing_X7_at : GoodIn wsX7_issuing wsX7_at := goodIn_r _ [9] (by decide +kernel) (by decide +kernel)
set_option maxRecDepth 20000 in
theorem gX7_issuing_X7_at : GoodIn wsX7_issuing (va_wsS RX7 22 yX7_at wsX7_at) := goodIn_app (goodIn_of _ (by decide +kernel)) ggX7_issuing_X7_at
theorem dX7_issuing_0 : decode cX7_issuing 0 = .ok (.aload_n 0, 1) := by decide +kernel
theorem dX7_issuing_1 : decode cX7_issuing 1 = .ok (.getfield 7, 3) := by decide +kernel
theorem dX7_issuing_4 : decode cX7_issuing 4 = .ok (.sipush 234, 3) := by decide +kernel
theorem dX7_issuing_7 : decode cX7_issuing 7 = .ok (.aload_n 0, 1) := by decide +kernel
theorem dX7_issuing_8 : decode cX7_issuing 8 = .ok (.getfield 7, 3) := by decide +kernel
theorem dX7_issuing_11 : decode cX7_issuing 11 = .ok (.sipush 232, 3) := by decide +kernel
theorem dX7_issuing_14 : decode cX7_issuing 14 = .ok (.iaload, 1) := by decide +kernel
theorem dX7_issuing_15 : decode cX7_issuing 15 = .ok (.bipush 8, 2) := by decide +kernel
theorem dX7_issuing_17 : decode cX7_issuing 17 = .ok (.irem, 1) := by decide +kernel
theorem dX7_issuing_18 : decode cX7_issuing 18 = .ok (.iadd, 1) := by decide +kernel
theorem dX7_issuing_19 : decode cX7_issuing 19 = .ok (.iaload, 1) := by decide +kernel
theorem dX7_issuing_20 : decode cX7_issuing 20 = .ok (.istore_n 1, 1) := by decide +kernel
theorem dX7_issuing_21 : decode cX7_issuing 21 = .ok (.aload_n 0, 1) := by decide +kernel
theorem dX7_issuing_22 : decode cX7_issuing 22 = .ok (.iload_n 1, 1) := by decide +kernel
theorem dX7_issuing_23 : decode cX7_issuing 23 = .ok (.invokevirtual 57, 3) := by decide +kernel
theorem dX7_issuing_26 : decode cX7_issuing 26 = .ok (.ifCond .ne 14, 3) := by decide +kernel
theorem dX7_issuing_29 : decode cX7_issuing 29 = .ok (.aload_n 0, 1) := by decide +kernel
theorem dX7_issuing_30 : decode cX7_issuing 30 = .ok (.getfield 7, 3) := by decide +kernel
theorem dX7_issuing_33 : decode cX7_issuing 33 = .ok (.sipush 243, 3) := by decide +kernel
theorem dX7_issuing_36 : decode cX7_issuing 36 = .ok (.iaload, 1) := by decide +kernel
theorem dX7_issuing_37 : decode cX7_issuing 37 = .ok (.ifCond .ne 17, 3) := by decide +kernel
theorem dX7_issuing_40 : decode cX7_issuing 40 = .ok (.aload_n 0, 1) := by decide +kernel
theorem dX7_issuing_41 : decode cX7_issuing 41 = .ok (.iload_n 1, 1) := by decide +kernel
theorem dX7_issuing_42 : decode cX7_issuing 42 = .ok (.invokevirtual 57, 3) := by decide +kernel
theorem dX7_issuing_45 : decode cX7_issuing 45 = .ok (.ifCond .eq 7, 3) := by decide +kernel
theorem dX7_issuing_48 : decode cX7_issuing 48 = .ok (.iload_n 1, 1) := by decide +kernel
theorem dX7_issuing_49 : decode cX7_issuing 49 = .ok (.goto 4, 3) := by decide +kernel
theorem dX7_issuing_52 : decode cX7_issuing 52 = .ok (.iconst (-1), 1) := by decide +kernel
theorem dX7_issuing_53 : decode cX7_issuing 53 = .ok (.ireturn, 1) := by decide +kernel
theorem dX7_issuing_54 : decode cX7_issuing 54 = .ok (.iconst (-1), 1) := by decide +kernel
theorem dX7_issuing_55 : decode cX7_issuing 55 = .ok (.istore_n 2, 1) := by decide +kernel
theorem dX7_issuing_56 : decode cX7_issuing 56 = .ok (.iconst 3, 1) := by decide +kernel
theorem dX7_issuing_57 : decode cX7_issuing 57 = .ok (.istore_n 3, 1) := by decide +kernel
theorem dX7_issuing_58 : decode cX7_issuing 58 = .ok (.iload_n 3, 1) := by decide +kernel
theorem dX7_issuing_59 : decode cX7_issuing 59 = .ok (.ifCond .le 44, 3) := by decide +kernel
theorem dX7_issuing_62 : decode cX7_issuing 62 = .ok (.aload_n 0, 1) := by decide +kernel
theorem dX7_issuing_63 : decode cX7_issuing 63 = .ok (.getfield 7, 3) := by decide +kernel
theorem dX7_issuing_66 : decode cX7_issuing 66 = .ok (.sipush 243, 3) := by decide +kernel
theorem dX7_issuing_69 : decode cX7_issuing 69 = .ok (.iaload, 1) := by decide +kernel
theorem dX7_issuing_70 : decode cX7_issuing 70 = .ok (.iconst 1, 1) := by decide +kernel
theorem dX7_issuing_71 : decode cX7_issuing 71 = .ok (.if_icmp .ne 32, 3) := by decide +kernel
theorem dX7_issuing_74 : decode cX7_issuing 74 = .ok (.iload_n 1, 1) := by decide +kernel
theorem dX7_issuing_75 : decode cX7_issuing 75 = .ok (.iload_n 3, 1) := by decide +kernel
theorem dX7_issuing_76 : decode cX7_issuing 76 = .ok (.iadd, 1) := by decide +kernel
theorem dX7_issuing_77 : decode cX7_issuing 77 = .ok (.iconst 4, 1) := by decide +kernel
theorem dX7_issuing_78 : decode cX7_issuing 78 = .ok (.irem, 1) := by decide +kernel
theorem dX7_issuing_79 : decode cX7_issuing 79 = .ok (.istore 4, 2) := by decide +kernel
theorem dX7_issuing_81 : decode cX7_issuing 81 = .ok (.aload_n 0, 1) := by decide +kernel
theorem dX7_issuing_82 : decode cX7_issuing 82 = .ok (.iload 4, 2) := by decide +kernel
theorem dX7_issuing_84 : decode cX7_issuing 84 = .ok (.invokevirtual 57, 3) := by decide +kernel
theorem dX7_issuing_87 : decode cX7_issuing 87 = .ok (.ifCond .eq 8, 3) := by decide +kernel
theorem dX7_issuing_90 : decode cX7_issuing 90 = .ok (.iload 4, 2) := by decide +kernel
theorem dX7_issuing_92 : decode cX7_issuing 92 = .ok (.goto 4, 3) := by decide +kernel
theorem dX7_issuing_95 : decode cX7_issuing 95 = .ok (.iload_n 2, 1) := by decide +kernel
theorem dX7_issuing_96 : decode cX7_issuing 96 = .ok (.istore_n 2, 1) := by decide +kernel
theorem dX7_issuing_97 : decode cX7_issuing 97 = .ok (.iinc 3 (-1), 3) := by decide +kernel
theorem dX7_issuing_100 : decode cX7_issuing 100 = .ok (.goto (-42), 3) := by decide +kernel
theorem dX7_issuing_103 : decode cX7_issuing 103 = .ok (.iconst 0, 1) := by decide +kernel
theorem dX7_issuing_104 : decode cX7_issuing 104 = .ok (.istore_n 3, 1) := by decide +kernel
theorem dX7_issuing_105 : decode cX7_issuing 105 = .ok (.iload_n 3, 1) := by decide +kernel
theorem dX7_issuing_106 : decode cX7_issuing 106 = .ok (.iconst 4, 1) := by decide +kernel
theorem dX7_issuing_107 : decode cX7_issuing 107 = .ok (.if_icmp .ge 77, 3) := by decide +kernel
theorem dX7_issuing_110 : decode cX7_issuing 110 = .ok (.aload_n 0, 1) := by decide +kernel
theorem dX7_issuing_111 : decode cX7_issuing 111 = .ok (.getfield 7, 3) := by decide +kernel
theorem dX7_issuing_114 : decode cX7_issuing 114 = .ok (.sipush 243, 3) := by decide +kernel
theorem dX7_issuing_117 : decode cX7_issuing 117 = .ok (.iaload, 1) := by decide +kernel
theorem dX7_issuing_118 : decode cX7_issuing 118 = .ok (.iconst 2, 1) := by decide +kernel
theorem dX7_issuing_119 : decode cX7_issuing 119 = .ok (.if_icmp .ne 65, 3) := by decide +kernel
theorem dX7_issuing_122 : decode cX7_issuing 122 = .ok (.aload_n 0, 1) := by decide +kernel
theorem dX7_issuing_123 : decode cX7_issuing 123 = .ok (.iload_n 3, 1) := by decide +kernel
theorem dX7_issuing_124 : decode cX7_issuing 124 = .ok (.invokevirtual 57, 3) := by decide +kernel
theorem dX7_issuing_127 : decode cX7_issuing 127 = .ok (.ifCond .eq 37, 3) := by decide +kernel
theorem dX7_issuing_130 : decode cX7_issuing 130 = .ok (.iload_n 2, 1) := by decide +kernel
theorem dX7_issuing_131 : decode cX7_issuing 131 = .ok (.iconst (-1), 1) := by decide +kernel
theorem dX7_issuing_132 : decode cX7_issuing 132 = .ok (.if_icmp .eq 28, 3) := by decide +kernel
theorem dX7_issuing_135 : decode cX7_issuing 135 = .ok (.aload_n 0, 1) := by decide +kernel
theorem dX7_issuing_136 : decode cX7_issuing 136 = .ok (.getfield 7, 3) := by decide +kernel
theorem dX7_issuing_139 : decode cX7_issuing 139 = .ok (.iload_n 3, 1) := by decide +kernel
theorem dX7_issuing_140 : decode cX7_issuing 140 = .ok (.bipush 9, 2) := by decide +kernel
theorem dX7_issuing_142 : decode cX7_issuing 142 = .ok (.invokestatic 22, 3) := by decide +kernel
theorem dX7_issuing_145 : decode cX7_issuing 145 = .ok (.iaload, 1) := by decide +kernel
theorem dX7_issuing_146 : decode cX7_issuing 146 = .ok (.aload_n 0, 1) := by decide +kernel
theorem dX7_issuing_147 : decode cX7_issuing 147 = .ok (.getfield 7, 3) := by decide +kernel
theorem dX7_issuing_150 : decode cX7_issuing 150 = .ok (.iload_n 2, 1) := by decide +kernel
theorem dX7_issuing_151 : decode cX7_issuing 151 = .ok (.bipush 9, 2) := by decide +kernel
theorem dX7_issuing_153 : decode cX7_issuing 153 = .ok (.invokestatic 22, 3) := by decide +kernel
theorem dX7_issuing_156 : decode cX7_issuing 156 = .ok (.iaload, 1) := by decide +kernel
theorem dX7_issuing_157 : decode cX7_issuing 157 = .ok (.if_icmp .ge 7, 3) := by decide +kernel
theorem dX7_issuing_160 : decode cX7_issuing 160 = .ok (.iconst 1, 1) := by decide +kernel
theorem dX7_issuing_161 : decode cX7_issuing 161 = .ok (.goto 4, 3) := by decide +kernel
theorem dX7_issuing_164 : decode cX7_issuing 164 = .ok (.iconst 0, 1) := by decide +kernel
theorem dX7_issuing_165 : decode cX7_issuing 165 = .ok (.istore 4, 2) := by decide +kernel
theorem dX7_issuing_167 : decode cX7_issuing 167 = .ok (.iload 4, 2) := by decide +kernel
theorem dX7_issuing_169 : decode cX7_issuing 169 = .ok (.ifCond .eq 7, 3) := by decide +kernel
theorem dX7_issuing_172 : decode cX7_issuing 172 = .ok (.iload_n 3, 1) := by decide +kernel
theorem dX7_issuing_173 : decode cX7_issuing 173 = .ok (.goto 4, 3) := by decide +kernel
theorem dX7_issuing_176 : decode cX7_issuing 176 = .ok (.iload_n 2, 1) := by decide +kernel
theorem dX7_issuing_177 : decode cX7_issuing 177 = .ok (.istore_n 2, 1) := by decide +kernel
theorem dX7_issuing_178 : decode cX7_issuing 178 = .ok (.iinc 3 1, 3) := by decide +kernel
theorem dX7_issuing_181 : decode cX7_issuing 181 = .ok (.goto (-76), 3) := by decide +kernel
theorem dX7_issuing_184 : decode cX7_issuing 184 = .ok (.iload_n 2, 1) := by decide +kernel
theorem dX7_issuing_185 : decode cX7_issuing 185 = .ok (.ireturn, 1) := by decide +kernel
set_option maxRecDepth 20000 in
theorem ggX7_cycles_X7_prepares : GoodIn wsX7_cycles wsX7_prepares := goodIn_r _ [6, 1, 7, 8, 5, 9, 10, 11, 12, 13, 14, 15, 16, 17, 49, 50, 51, 52, 53, 54, 55, 56, 57, 58, 59] (by decide +kernel) (by decide +kernel)
set_option maxRecDepth 20000 in
theorem gX7_cycles_X7_prepares : GoodIn wsX7_cycles (wsV RX7 61 RX7 yX7_prepares wsX7_prepares) := goodIn_app (goodIn_of _ (by decide +kernel)) ggX7_cycles_X7_prepares
set_option maxRecDepth 20000 in
theorem ggX7_cycles_X7_issuing : GoodIn wsX7_cycles wsX7_issuing := goodIn_r _ [21, 1, 22, 23, 24, 5, 25, 7, 8, 9, 49, 50, 51, 52, 53, 54, 55, 56, 57, 58, 59] (by decide +kernel) (by decide +kernel)
set_option maxRecDepth 20000 in
theorem gX7_cycles_X7_issuing : GoodIn wsX7_cycles (wsV RX7 64 RX7 yX7_issuing wsX7_issuing) := goodIn_app (goodIn_of _ (by decide +kernel)) ggX7_cycles_X7_issuing
set_option maxRecDepth 20000 in
theorem ggX7_cycles_X7_at : GoodIn wsX7_cycles wsX7_at := goodIn_r _ [9] (by decide +kernel) (by decide +kernel)
set_option maxRecDepth 20000 in
theorem gX7_cycles_X7_at : GoodIn wsX7_cycles (va_wsS RX7 22 yX7_at wsX7_at) := goodIn_app (goodIn_of _ (by decide +kernel)) ggX7_cycles_X7_at
set_option maxRecDepth 20000 in
theorem ggX7_cycles_X7_isReady : GoodIn wsX7_cycles wsX7_isReady := goodIn_r _ [25, 1, 7, 8, 5, 9, 49, 50, 51, 52, 53, 54, 55, 56, 57, 58, 59] (by decide +kernel) (by decide +kernel)
set_option maxRecDepth 20000 in
theorem gX7_cycles_X7_isReady : GoodIn wsX7_cycles (wsV RX7 57 RX7 yX7_isReady wsX7_isReady) := goodIn_app (goodIn_of _ (by decide +kernel)) ggX7_cycles_X7_isReady
set_option maxRecDepth 20000 in
theorem ggX7_cycles_X7_executes : GoodIn wsX7_cycles wsX7_executes := goodIn_r _ [29, 1, 7, 8, 5, 9, 30, 31, 32, 33, 34, 35, 36, 37, 38, 39, 40, 41, 42, 43, 44, 10, 11, 12, 13, 45, 46, 47, 48, 49, 50, 51, 52, 53, 54, 55, 56, 57, 58, 59] (by decide +kernel) (by decide +kernel)
set_option maxRecDepth 20000 in
theorem gX7_cycles_X7_executes : GoodIn wsX7_cycles (wsV RX7 68 RX7 yX7_executes wsX7_executes) := goodIn_app (goodIn_of _ (by decide +kernel)) ggX7_cycles_X7_executes
theorem dX7_cycles_0 : decode cX7_cycles 0 = .ok (.aload_n 0, 1) := by decide +kernel
theorem dX7_cycles_1 : decode cX7_cycles 1 = .ok (.invokevirtual 61, 3) := by decide +kernel
theorem dX7_cycles_4 : decode cX7_cycles 4 = .ok (.aload_n 0, 1) := by decide +kernel
theorem dX7_cycles_5 : decode cX7_cycles 5 = .ok (.getfield 7, 3) := by decide +kernel
theorem dX7_cycles_8 : decode cX7_cycles 8 = .ok (.sipush 234, 3) := by decide +kernel
theorem dX7_cycles_11 : decode cX7_cycles 11 = .ok (.aload_n 0, 1) := by decide +kernel
theorem dX7_cycles_12 : decode cX7_cycles 12 = .ok (.getfield 7, 3) := by decide +kernel
theorem dX7_cycles_15 : decode cX7_cycles 15 = .ok (.sipush 232, 3) := by decide +kernel
theorem dX7_cycles_18 : decode cX7_cycles 18 = .ok (.iaload, 1) := by decide +kernel
theorem dX7_cycles_19 : decode cX7_cycles 19 = .ok (.bipush 8, 2) := by decide +kernel
theorem dX7_cycles_21 : decode cX7_cycles 21 = .ok (.irem, 1) := by decide +kernel
theorem dX7_cycles_22 : decode cX7_cycles 22 = .ok (.iadd, 1) := by decide +kernel
theorem dX7_cycles_23 : decode cX7_cycles 23 = .ok (.iaload, 1) := by decide +kernel
theorem dX7_cycles_24 : decode cX7_cycles 24 = .ok (.istore_n 1, 1) := by decide +kernel
theorem dX7_cycles_25 : decode cX7_cycles 25 = .ok (.aload_n 0, 1) := by decide +kernel
theorem dX7_cycles_26 : decode cX7_cycles 26 = .ok (.invokevirtual 64, 3) := by decide +kernel
theorem dX7_cycles_29 : decode cX7_cycles 29 = .ok (.istore_n 2, 1) := by decide +kernel
theorem dX7_cycles_30 : decode cX7_cycles 30 = .ok (.iconst 0, 1) := by decide +kernel
theorem dX7_cycles_31 : decode cX7_cycles 31 = .ok (.istore_n 3, 1) := by decide +kernel
theorem dX7_cycles_32 : decode cX7_cycles 32 = .ok (.iload_n 3, 1) := by decide +kernel
theorem dX7_cycles_33 : decode cX7_cycles 33 = .ok (.iconst 4, 1) := by decide +kernel
theorem dX7_cycles_34 : decode cX7_cycles 34 = .ok (.if_icmp .ge 111, 3) := by decide +kernel
theorem dX7_cycles_37 : decode cX7_cycles 37 = .ok (.aload_n 0, 1) := by decide +kernel
theorem dX7_cycles_38 : decode cX7_cycles 38 = .ok (.getfield 7, 3) := by decide +kernel
theorem dX7_cycles_41 : decode cX7_cycles 41 = .ok (.iload_n 3, 1) := by decide +kernel
theorem dX7_cycles_42 : decode cX7_cycles 42 = .ok (.bipush 10, 2) := by decide +kernel
theorem dX7_cycles_44 : decode cX7_cycles 44 = .ok (.invokestatic 22, 3) := by decide +kernel
theorem dX7_cycles_47 : decode cX7_cycles 47 = .ok (.aload_n 0, 1) := by decide +kernel
theorem dX7_cycles_48 : decode cX7_cycles 48 = .ok (.iload_n 3, 1) := by decide +kernel
theorem dX7_cycles_49 : decode cX7_cycles 49 = .ok (.invokevirtual 57, 3) := by decide +kernel
theorem dX7_cycles_52 : decode cX7_cycles 52 = .ok (.ifCond .eq 24, 3) := by decide +kernel
theorem dX7_cycles_55 : decode cX7_cycles 55 = .ok (.iload_n 3, 1) := by decide +kernel
theorem dX7_cycles_56 : decode cX7_cycles 56 = .ok (.iload_n 2, 1) := by decide +kernel
theorem dX7_cycles_57 : decode cX7_cycles 57 = .ok (.if_icmp .eq 19, 3) := by decide +kernel
theorem dX7_cycles_60 : decode cX7_cycles 60 = .ok (.aload_n 0, 1) := by decide +kernel
theorem dX7_cycles_61 : decode cX7_cycles 61 = .ok (.getfield 7, 3) := by decide +kernel
theorem dX7_cycles_64 : decode cX7_cycles 64 = .ok (.iload_n 3, 1) := by decide +kernel
theorem dX7_cycles_65 : decode cX7_cycles 65 = .ok (.bipush 10, 2) := by decide +kernel
theorem dX7_cycles_67 : decode cX7_cycles 67 = .ok (.invokestatic 22, 3) := by decide +kernel
theorem dX7_cycles_70 : decode cX7_cycles 70 = .ok (.iaload, 1) := by decide +kernel
theorem dX7_cycles_71 : decode cX7_cycles 71 = .ok (.iconst 1, 1) := by decide +kernel
theorem dX7_cycles_72 : decode cX7_cycles 72 = .ok (.iadd, 1) := by decide +kernel
theorem dX7_cycles_73 : decode cX7_cycles 73 = .ok (.goto 4, 3) := by decide +kernel
theorem dX7_cycles_76 : decode cX7_cycles 76 = .ok (.iconst 0, 1) := by decide +kernel
theorem dX7_cycles_77 : decode cX7_cycles 77 = .ok (.iastore, 1) := by decide +kernel
theorem dX7_cycles_78 : decode cX7_cycles 78 = .ok (.aload_n 0, 1) := by decide +kernel
theorem dX7_cycles_79 : decode cX7_cycles 79 = .ok (.getfield 7, 3) := by decide +kernel
theorem dX7_cycles_82 : decode cX7_cycles 82 = .ok (.iload_n 3, 1) := by decide +kernel
theorem dX7_cycles_83 : decode cX7_cycles 83 = .ok (.bipush 11, 2) := by decide +kernel
theorem dX7_cycles_85 : decode cX7_cycles 85 = .ok (.invokestatic 22, 3) := by decide +kernel
theorem dX7_cycles_88 : decode cX7_cycles 88 = .ok (.aload_n 0, 1) := by decide +kernel
theorem dX7_cycles_89 : decode cX7_cycles 89 = .ok (.getfield 7, 3) := by decide +kernel
theorem dX7_cycles_92 : decode cX7_cycles 92 = .ok (.iload_n 3, 1) := by decide +kernel
theorem dX7_cycles_93 : decode cX7_cycles 93 = .ok (.bipush 10, 2) := by decide +kernel
theorem dX7_cycles_95 : decode cX7_cycles 95 = .ok (.invokestatic 22, 3) := by decide +kernel
theorem dX7_cycles_98 : decode cX7_cycles 98 = .ok (.iaload, 1) := by decide +kernel
theorem dX7_cycles_99 : decode cX7_cycles 99 = .ok (.aload_n 0, 1) := by decide +kernel
theorem dX7_cycles_100 : decode cX7_cycles 100 = .ok (.getfield 7, 3) := by decide +kernel
theorem dX7_cycles_103 : decode cX7_cycles 103 = .ok (.iload_n 3, 1) := by decide +kernel
theorem dX7_cycles_104 : decode cX7_cycles 104 = .ok (.bipush 11, 2) := by decide +kernel
theorem dX7_cycles_106 : decode cX7_cycles 106 = .ok (.invokestatic 22, 3) := by decide +kernel
theorem dX7_cycles_109 : decode cX7_cycles 109 = .ok (.iaload, 1) := by decide +kernel
theorem dX7_cycles_110 : decode cX7_cycles 110 = .ok (.if_icmp .le 17, 3) := by decide +kernel
theorem dX7_cycles_113 : decode cX7_cycles 113 = .ok (.aload_n 0, 1) := by decide +kernel
theorem dX7_cycles_114 : decode cX7_cycles 114 = .ok (.getfield 7, 3) := by decide +kernel
theorem dX7_cycles_117 : decode cX7_cycles 117 = .ok (.iload_n 3, 1) := by decide +kernel
theorem dX7_cycles_118 : decode cX7_cycles 118 = .ok (.bipush 10, 2) := by decide +kernel
theorem dX7_cycles_120 : decode cX7_cycles 120 = .ok (.invokestatic 22, 3) := by decide +kernel
theorem dX7_cycles_123 : decode cX7_cycles 123 = .ok (.iaload, 1) := by decide +kernel
theorem dX7_cycles_124 : decode cX7_cycles 124 = .ok (.goto 14, 3) := by decide +kernel
theorem dX7_cycles_127 : decode cX7_cycles 127 = .ok (.aload_n 0, 1) := by decide +kernel
theorem dX7_cycles_128 : decode cX7_cycles 128 = .ok (.getfield 7, 3) := by decide +kernel
theorem dX7_cycles_131 : decode cX7_cycles 131 = .ok (.iload_n 3, 1) := by decide +kernel
theorem dX7_cycles_132 : decode cX7_cycles 132 = .ok (.bipush 11, 2) := by decide +kernel
theorem dX7_cycles_134 : decode cX7_cycles 134 = .ok (.invokestatic 22, 3) := by decide +kernel
theorem dX7_cycles_137 : decode cX7_cycles 137 = .ok (.iaload, 1) := by decide +kernel
theorem dX7_cycles_138 : decode cX7_cycles 138 = .ok (.iastore, 1) := by decide +kernel
theorem dX7_cycles_139 : decode cX7_cycles 139 = .ok (.iinc 3 1, 3) := by decide +kernel
theorem dX7_cycles_142 : decode cX7_cycles 142 = .ok (.goto (-110), 3) := by decide +kernel
theorem dX7_cycles_145 : decode cX7_cycles 145 = .ok (.iload_n 2, 1) := by decide +kernel
theorem dX7_cycles_146 : decode cX7_cycles 146 = .ok (.iconst (-1), 1) := by decide +kernel
theorem dX7_cycles_147 : decode cX7_cycles 147 = .ok (.if_icmp .ne 18, 3) := by decide +kernel
theorem dX7_cycles_150 : decode cX7_cycles 150 = .ok (.aload_n 0, 1) := by decide +kernel
theorem dX7_cycles_151 : decode cX7_cycles 151 = .ok (.getfield 7, 3) := by decide +kernel
theorem dX7_cycles_154 : decode cX7_cycles 154 = .ok (.sipush 233, 3) := by decide +kernel
theorem dX7_cycles_157 : decode cX7_cycles 157 = .ok (.dup2, 1) := by decide +kernel
theorem dX7_cycles_158 : decode cX7_cycles 158 = .ok (.iaload, 1) := by decide +kernel
theorem dX7_cycles_159 : decode cX7_cycles 159 = .ok (.iconst 1, 1) := by decide +kernel
theorem dX7_cycles_160 : decode cX7_cycles 160 = .ok (.iadd, 1) := by decide +kernel
theorem dX7_cycles_161 : decode cX7_cycles 161 = .ok (.iastore, 1) := by decide +kernel
theorem dX7_cycles_162 : decode cX7_cycles 162 = .ok (.goto 66, 3) := by decide +kernel
theorem dX7_cycles_165 : decode cX7_cycles 165 = .ok (.aload_n 0, 1) := by decide +kernel
theorem dX7_cycles_166 : decode cX7_cycles 166 = .ok (.getfield 7, 3) := by decide +kernel
theorem dX7_cycles_169 : decode cX7_cycles 169 = .ok (.iload_n 2, 1) := by decide +kernel
theorem dX7_cycles_170 : decode cX7_cycles 170 = .ok (.bipush 9, 2) := by decide +kernel
theorem dX7_cycles_172 : decode cX7_cycles 172 = .ok (.invokestatic 22, 3) := by decide +kernel
theorem dX7_cycles_175 : decode cX7_cycles 175 = .ok (.aload_n 0, 1) := by decide +kernel
theorem dX7_cycles_176 : decode cX7_cycles 176 = .ok (.getfield 7, 3) := by decide +kernel
theorem dX7_cycles_179 : decode cX7_cycles 179 = .ok (.sipush 232, 3) := by decide +kernel
theorem dX7_cycles_182 : decode cX7_cycles 182 = .ok (.iaload, 1) := by decide +kernel
theorem dX7_cycles_183 : decode cX7_cycles 183 = .ok (.iastore, 1) := by decide +kernel
theorem dX7_cycles_184 : decode cX7_cycles 184 = .ok (.aload_n 0, 1) := by decide +kernel
theorem dX7_cycles_185 : decode cX7_cycles 185 = .ok (.getfield 7, 3) := by decide +kernel
theorem dX7_cycles_188 : decode cX7_cycles 188 = .ok (.iload_n 2, 1) := by decide +kernel
theorem dX7_cycles_189 : decode cX7_cycles 189 = .ok (.bipush 12, 2) := by decide +kernel
theorem dX7_cycles_191 : decode cX7_cycles 191 = .ok (.invokestatic 22, 3) := by decide +kernel
theorem dX7_cycles_194 : decode cX7_cycles 194 = .ok (.dup2, 1) := by decide +kernel
theorem dX7_cycles_195 : decode cX7_cycles 195 = .ok (.iaload, 1) := by decide +kernel
theorem dX7_cycles_196 : decode cX7_cycles 196 = .ok (.iconst 1, 1) := by decide +kernel
theorem dX7_cycles_197 : decode cX7_cycles 197 = .ok (.iadd, 1) := by decide +kernel
theorem dX7_cycles_198 : decode cX7_cycles 198 = .ok (.iastore, 1) := by decide +kernel
theorem dX7_cycles_199 : decode cX7_cycles 199 = .ok (.aload_n 0, 1) := by decide +kernel
theorem dX7_cycles_200 : decode cX7_cycles 200 = .ok (.getfield 7, 3) := by decide +kernel
theorem dX7_cycles_203 : decode cX7_cycles 203 = .ok (.iload_n 2, 1) := by decide +kernel
theorem dX7_cycles_204 : decode cX7_cycles 204 = .ok (.bipush 13, 2) := by decide +kernel
theorem dX7_cycles_206 : decode cX7_cycles 206 = .ok (.invokestatic 22, 3) := by decide +kernel
theorem dX7_cycles_209 : decode cX7_cycles 209 = .ok (.dup2, 1) := by decide +kernel
theorem dX7_cycles_210 : decode cX7_cycles 210 = .ok (.iaload, 1) := by decide +kernel
theorem dX7_cycles_211 : decode cX7_cycles 211 = .ok (.iload_n 2, 1) := by decide +kernel
theorem dX7_cycles_212 : decode cX7_cycles 212 = .ok (.iload_n 1, 1) := by decide +kernel
theorem dX7_cycles_213 : decode cX7_cycles 213 = .ok (.if_icmp .ne 7, 3) := by decide +kernel
theorem dX7_cycles_216 : decode cX7_cycles 216 = .ok (.iconst 0, 1) := by decide +kernel
theorem dX7_cycles_217 : decode cX7_cycles 217 = .ok (.goto 4, 3) := by decide +kernel
theorem dX7_cycles_220 : decode cX7_cycles 220 = .ok (.iconst 1, 1) := by decide +kernel
theorem dX7_cycles_221 : decode cX7_cycles 221 = .ok (.iadd, 1) := by decide +kernel
theorem dX7_cycles_222 : decode cX7_cycles 222 = .ok (.iastore, 1) := by decide +kernel
theorem dX7_cycles_223 : decode cX7_cycles 223 = .ok (.aload_n 0, 1) := by decide +kernel
theorem dX7_cycles_224 : decode cX7_cycles 224 = .ok (.iload_n 2, 1) := by decide +kernel
theorem dX7_cycles_225 : decode cX7_cycles 225 = .ok (.invokevirtual 68, 3) := by decide +kernel
theorem dX7_cycles_228 : decode cX7_cycles 228 = .ok (.aload_n 0, 1) := by decide +kernel
theorem dX7_cycles_229 : decode cX7_cycles 229 = .ok (.getfield 7, 3) := by decide +kernel
theorem dX7_cycles_232 : decode cX7_cycles 232 = .ok (.sipush 232, 3) := by decide +kernel
theorem dX7_cycles_235 : decode cX7_cycles 235 = .ok (.dup2, 1) := by decide +kernel
theorem dX7_cycles_236 : decode cX7_cycles 236 = .ok (.iaload, 1) := by decide +kernel
theorem dX7_cycles_237 : decode cX7_cycles 237 = .ok (.iconst 1, 1) := by decide +kernel
theorem dX7_cycles_238 : decode cX7_cycles 238 = .ok (.iadd, 1) := by decide +kernel
theorem dX7_cycles_239 : decode cX7_cycles 239 = .ok (.iastore, 1) := by decide +kernel
theorem dX7_cycles_240 : decode cX7_cycles 240 = .ok (.return_, 1) := by decide +kernel
set_option maxRecDepth 20000 in
theorem ggX7_isOver_X7_many : GoodIn wsX7_isOver wsX7_many := goodIn_r _ [5, 6, 7, 8, 4, 9, 10, 11, 12, 13, 14, 15, 16, 17, 18, 19, 20] (by decide +kernel) (by decide +kernel)
set_option maxRecDepth 20000 in
theorem gX7_isOver_X7_many : GoodIn wsX7_isOver (wsV RX7 53 RX7 yX7_many wsX7_many) := goodIn_app (goodIn_of _ (by decide +kernel)) ggX7_isOver_X7_many
theorem dX7_isOver_0 : decode cX7_isOver 0 = .ok (.aload_n 0, 1) := by decide +kernel
theorem dX7_isOver_1 : decode cX7_isOver 1 = .ok (.iconst 0, 1) := by decide +kernel
theorem dX7_isOver_2 : decode cX7_isOver 2 = .ok (.invokevirtual 53, 3) := by decide +kernel
theorem dX7_isOver_5 : decode cX7_isOver 5 = .ok (.iconst 4, 1) := by decide +kernel
theorem dX7_isOver_6 : decode cX7_isOver 6 = .ok (.if_icmp .ne 7, 3) := by decide +kernel
theorem dX7_isOver_9 : decode cX7_isOver 9 = .ok (.iconst 1, 1) := by decide +kernel
theorem dX7_isOver_10 : decode cX7_isOver 10 = .ok (.goto 4, 3) := by decide +kernel
theorem dX7_isOver_13 : decode cX7_isOver 13 = .ok (.iconst 0, 1) := by decide +kernel
theorem dX7_isOver_14 : decode cX7_isOver 14 = .ok (.ireturn, 1) := by decide +kernel
set_option maxRecDepth 20000 in
theorem ggX7_assemble_X7_isPlace : GoodIn wsX7_assemble wsX7_isPlace := goodIn_r _ [14, 15, 16, 13, 17] (by decide +kernel) (by decide +kernel)
set_option maxRecDepth 20000 in
theorem gX7_assemble_X7_isPlace : GoodIn wsX7_assemble (va_wsS RX7 72 yX7_isPlace wsX7_isPlace) := goodIn_app (goodIn_of _ (by decide +kernel)) ggX7_assemble_X7_isPlace
set_option maxRecDepth 20000 in
theorem ggX7_assemble_X7_isFaulty : GoodIn wsX7_assemble wsX7_isFaulty := goodIn_r _ [21, 6, 22, 3, 23, 24, 25, 13, 26, 8, 9, 10, 27, 28, 29, 30, 4, 31, 32, 33, 34, 35, 36, 37, 38, 39, 40, 41, 15, 16, 17, 42, 43, 44, 45, 46, 47, 48, 49, 56, 57, 58, 59, 60, 61, 62, 63, 64, 65, 66] (by decide +kernel) (by decide +kernel)
set_option maxRecDepth 20000 in
theorem gX7_assemble_X7_isFaulty : GoodIn wsX7_assemble (wsV RX7 76 RX7 yX7_isFaulty wsX7_isFaulty) := goodIn_app (goodIn_of _ (by decide +kernel)) ggX7_assemble_X7_isFaulty
set_option maxRecDepth 20000 in
theorem ggX7_assemble_X7_records : GoodIn wsX7_assemble wsX7_records := goodIn_r _ [53, 54, 55, 7, 56, 57, 58, 59, 60, 61, 62, 63, 64, 65, 66] (by decide +kernel) (by decide +kernel)
set_option maxRecDepth 20000 in
theorem gX7_assemble_X7_records : GoodIn wsX7_assemble (wsV RX7 85 RX7 yX7_records wsX7_records) := goodIn_app (goodIn_of _ (by decide +kernel)) ggX7_assemble_X7_records
set_option maxRecDepth 20000 in
theorem ggX7_assemble_X7_instruction : GoodIn wsX7_assemble wsX7_instruction := goodIn_r _ [26, 8, 9, 10, 22, 6, 27, 28, 29, 13, 30, 3, 4, 31, 32, 33, 34, 35, 36, 37, 38, 39, 40, 41, 15, 16, 17, 42, 43, 44, 45, 46, 47, 48, 49, 56, 57, 58, 59, 60, 61, 62, 63, 64, 65, 66] (by decide +kernel) (by decide +kernel)
set_option maxRecDepth 20000 in
theorem gX7_assemble_X7_instruction : GoodIn wsX7_assemble (wsV RX7 91 RX7 yX7_instruction wsX7_instruction) := goodIn_app (goodIn_of _ (by decide +kernel)) ggX7_assemble_X7_instruction
theorem dX7_assemble_0 : decode cX7_assemble 0 = .ok (.iload_n 1, 1) := by decide +kernel
theorem dX7_assemble_1 : decode cX7_assemble 1 = .ok (.invokestatic 72, 3) := by decide +kernel
theorem dX7_assemble_4 : decode cX7_assemble 4 = .ok (.ifCond .ne 6, 3) := by decide +kernel
theorem dX7_assemble_7 : decode cX7_assemble 7 = .ok (.ldc 75, 2) := by decide +kernel
theorem dX7_assemble_9 : decode cX7_assemble 9 = .ok (.ireturn, 1) := by decide +kernel
theorem dX7_assemble_10 : decode cX7_assemble 10 = .ok (.aload_n 0, 1) := by decide +kernel
theorem dX7_assemble_11 : decode cX7_assemble 11 = .ok (.invokevirtual 76, 3) := by decide +kernel
theorem dX7_assemble_14 : decode cX7_assemble 14 = .ok (.ifCond .eq 6, 3) := by decide +kernel
theorem dX7_assemble_17 : decode cX7_assemble 17 = .ok (.ldc 80, 2) := by decide +kernel
theorem dX7_assemble_19 : decode cX7_assemble 19 = .ok (.ireturn, 1) := by decide +kernel
theorem dX7_assemble_20 : decode cX7_assemble 20 = .ok (.iconst 1, 1) := by decide +kernel
theorem dX7_assemble_21 : decode cX7_assemble 21 = .ok (.istore_n 2, 1) := by decide +kernel
theorem dX7_assemble_22 : decode cX7_assemble 22 = .ok (.iconst 0, 1) := by decide +kernel
theorem dX7_assemble_23 : decode cX7_assemble 23 = .ok (.istore_n 3, 1) := by decide +kernel
theorem dX7_assemble_24 : decode cX7_assemble 24 = .ok (.iload_n 3, 1) := by decide +kernel
theorem dX7_assemble_25 : decode cX7_assemble 25 = .ok (.aload_n 0, 1) := by decide +kernel
theorem dX7_assemble_26 : decode cX7_assemble 26 = .ok (.getfield 81, 3) := by decide +kernel
theorem dX7_assemble_29 : decode cX7_assemble 29 = .ok (.if_icmp .ge 28, 3) := by decide +kernel
theorem dX7_assemble_32 : decode cX7_assemble 32 = .ok (.iload_n 2, 1) := by decide +kernel
theorem dX7_assemble_33 : decode cX7_assemble 33 = .ok (.aload_n 0, 1) := by decide +kernel
theorem dX7_assemble_34 : decode cX7_assemble 34 = .ok (.getfield 19, 3) := by decide +kernel
theorem dX7_assemble_37 : decode cX7_assemble 37 = .ok (.iload_n 3, 1) := by decide +kernel
theorem dX7_assemble_38 : decode cX7_assemble 38 = .ok (.iaload, 1) := by decide +kernel
theorem dX7_assemble_39 : decode cX7_assemble 39 = .ok (.bipush 59, 2) := by decide +kernel
theorem dX7_assemble_41 : decode cX7_assemble 41 = .ok (.if_icmp .ne 7, 3) := by decide +kernel
theorem dX7_assemble_44 : decode cX7_assemble 44 = .ok (.iconst 1, 1) := by decide +kernel
theorem dX7_assemble_45 : decode cX7_assemble 45 = .ok (.goto 4, 3) := by decide +kernel
theorem dX7_assemble_48 : decode cX7_assemble 48 = .ok (.iconst 0, 1) := by decide +kernel
theorem dX7_assemble_49 : decode cX7_assemble 49 = .ok (.iadd, 1) := by decide +kernel
theorem dX7_assemble_50 : decode cX7_assemble 50 = .ok (.istore_n 2, 1) := by decide +kernel
theorem dX7_assemble_51 : decode cX7_assemble 51 = .ok (.iinc 3 1, 3) := by decide +kernel
theorem dX7_assemble_54 : decode cX7_assemble 54 = .ok (.goto (-30), 3) := by decide +kernel
theorem dX7_assemble_57 : decode cX7_assemble 57 = .ok (.iload_n 1, 1) := by decide +kernel
theorem dX7_assemble_58 : decode cX7_assemble 58 = .ok (.iload_n 2, 1) := by decide +kernel
theorem dX7_assemble_59 : decode cX7_assemble 59 = .ok (.iadd, 1) := by decide +kernel
theorem dX7_assemble_60 : decode cX7_assemble 60 = .ok (.bipush 48, 2) := by decide +kernel
theorem dX7_assemble_62 : decode cX7_assemble 62 = .ok (.if_icmp .le 6, 3) := by decide +kernel
theorem dX7_assemble_65 : decode cX7_assemble 65 = .ok (.ldc 84, 2) := by decide +kernel
theorem dX7_assemble_67 : decode cX7_assemble 67 = .ok (.ireturn, 1) := by decide +kernel
theorem dX7_assemble_68 : decode cX7_assemble 68 = .ok (.aload_n 0, 1) := by decide +kernel
theorem dX7_assemble_69 : decode cX7_assemble 69 = .ok (.invokevirtual 85, 3) := by decide +kernel
theorem dX7_assemble_72 : decode cX7_assemble 72 = .ok (.aload_n 0, 1) := by decide +kernel
theorem dX7_assemble_73 : decode cX7_assemble 73 = .ok (.iconst 0, 1) := by decide +kernel
theorem dX7_assemble_74 : decode cX7_assemble 74 = .ok (.putfield 88, 3) := by decide +kernel
theorem dX7_assemble_77 : decode cX7_assemble 77 = .ok (.iconst 0, 1) := by decide +kernel
theorem dX7_assemble_78 : decode cX7_assemble 78 = .ok (.istore_n 3, 1) := by decide +kernel
theorem dX7_assemble_79 : decode cX7_assemble 79 = .ok (.iload_n 3, 1) := by decide +kernel
theorem dX7_assemble_80 : decode cX7_assemble 80 = .ok (.iload_n 2, 1) := by decide +kernel
theorem dX7_assemble_81 : decode cX7_assemble 81 = .ok (.if_icmp .ge 78, 3) := by decide +kernel
theorem dX7_assemble_84 : decode cX7_assemble 84 = .ok (.aload_n 0, 1) := by decide +kernel
theorem dX7_assemble_85 : decode cX7_assemble 85 = .ok (.invokevirtual 91, 3) := by decide +kernel
theorem dX7_assemble_88 : decode cX7_assemble 88 = .ok (.aload_n 0, 1) := by decide +kernel
theorem dX7_assemble_89 : decode cX7_assemble 89 = .ok (.dup, 1) := by decide +kernel
theorem dX7_assemble_90 : decode cX7_assemble 90 = .ok (.getfield 88, 3) := by decide +kernel
theorem dX7_assemble_93 : decode cX7_assemble 93 = .ok (.iconst 1, 1) := by decide +kernel
theorem dX7_assemble_94 : decode cX7_assemble 94 = .ok (.iadd, 1) := by decide +kernel
theorem dX7_assemble_95 : decode cX7_assemble 95 = .ok (.putfield 88, 3) := by decide +kernel
theorem dX7_assemble_98 : decode cX7_assemble 98 = .ok (.aload_n 0, 1) := by decide +kernel
theorem dX7_assemble_99 : decode cX7_assemble 99 = .ok (.getfield 7, 3) := by decide +kernel
theorem dX7_assemble_102 : decode cX7_assemble 102 = .ok (.bipush 56, 2) := by decide +kernel
theorem dX7_assemble_104 : decode cX7_assemble 104 = .ok (.iconst 3, 1) := by decide +kernel
theorem dX7_assemble_105 : decode cX7_assemble 105 = .ok (.iload_n 1, 1) := by decide +kernel
theorem dX7_assemble_106 : decode cX7_assemble 106 = .ok (.iload_n 3, 1) := by decide +kernel
theorem dX7_assemble_107 : decode cX7_assemble 107 = .ok (.iadd, 1) := by decide +kernel
theorem dX7_assemble_108 : decode cX7_assemble 108 = .ok (.imul, 1) := by decide +kernel
theorem dX7_assemble_109 : decode cX7_assemble 109 = .ok (.iadd, 1) := by decide +kernel
theorem dX7_assemble_110 : decode cX7_assemble 110 = .ok (.aload_n 0, 1) := by decide +kernel
theorem dX7_assemble_111 : decode cX7_assemble 111 = .ok (.getfield 94, 3) := by decide +kernel
theorem dX7_assemble_114 : decode cX7_assemble 114 = .ok (.iastore, 1) := by decide +kernel
theorem dX7_assemble_115 : decode cX7_assemble 115 = .ok (.aload_n 0, 1) := by decide +kernel
theorem dX7_assemble_116 : decode cX7_assemble 116 = .ok (.getfield 7, 3) := by decide +kernel
theorem dX7_assemble_119 : decode cX7_assemble 119 = .ok (.bipush 56, 2) := by decide +kernel
theorem dX7_assemble_121 : decode cX7_assemble 121 = .ok (.iconst 3, 1) := by decide +kernel
theorem dX7_assemble_122 : decode cX7_assemble 122 = .ok (.iload_n 1, 1) := by decide +kernel
theorem dX7_assemble_123 : decode cX7_assemble 123 = .ok (.iload_n 3, 1) := by decide +kernel
theorem dX7_assemble_124 : decode cX7_assemble 124 = .ok (.iadd, 1) := by decide +kernel
theorem dX7_assemble_125 : decode cX7_assemble 125 = .ok (.imul, 1) := by decide +kernel
theorem dX7_assemble_126 : decode cX7_assemble 126 = .ok (.iadd, 1) := by decide +kernel
theorem dX7_assemble_127 : decode cX7_assemble 127 = .ok (.iconst 1, 1) := by decide +kernel
theorem dX7_assemble_128 : decode cX7_assemble 128 = .ok (.iadd, 1) := by decide +kernel
theorem dX7_assemble_129 : decode cX7_assemble 129 = .ok (.aload_n 0, 1) := by decide +kernel
theorem dX7_assemble_130 : decode cX7_assemble 130 = .ok (.getfield 97, 3) := by decide +kernel
theorem dX7_assemble_133 : decode cX7_assemble 133 = .ok (.iastore, 1) := by decide +kernel
theorem dX7_assemble_134 : decode cX7_assemble 134 = .ok (.aload_n 0, 1) := by decide +kernel
theorem dX7_assemble_135 : decode cX7_assemble 135 = .ok (.getfield 7, 3) := by decide +kernel
theorem dX7_assemble_138 : decode cX7_assemble 138 = .ok (.bipush 56, 2) := by decide +kernel
theorem dX7_assemble_140 : decode cX7_assemble 140 = .ok (.iconst 3, 1) := by decide +kernel
theorem dX7_assemble_141 : decode cX7_assemble 141 = .ok (.iload_n 1, 1) := by decide +kernel
theorem dX7_assemble_142 : decode cX7_assemble 142 = .ok (.iload_n 3, 1) := by decide +kernel
theorem dX7_assemble_143 : decode cX7_assemble 143 = .ok (.iadd, 1) := by decide +kernel
theorem dX7_assemble_144 : decode cX7_assemble 144 = .ok (.imul, 1) := by decide +kernel
theorem dX7_assemble_145 : decode cX7_assemble 145 = .ok (.iadd, 1) := by decide +kernel
theorem dX7_assemble_146 : decode cX7_assemble 146 = .ok (.iconst 2, 1) := by decide +kernel
theorem dX7_assemble_147 : decode cX7_assemble 147 = .ok (.iadd, 1) := by decide +kernel
theorem dX7_assemble_148 : decode cX7_assemble 148 = .ok (.aload_n 0, 1) := by decide +kernel
theorem dX7_assemble_149 : decode cX7_assemble 149 = .ok (.getfield 100, 3) := by decide +kernel
theorem dX7_assemble_152 : decode cX7_assemble 152 = .ok (.iastore, 1) := by decide +kernel
theorem dX7_assemble_153 : decode cX7_assemble 153 = .ok (.iinc 3 1, 3) := by decide +kernel
theorem dX7_assemble_156 : decode cX7_assemble 156 = .ok (.goto (-77), 3) := by decide +kernel
theorem dX7_assemble_159 : decode cX7_assemble 159 = .ok (.iload_n 2, 1) := by decide +kernel
theorem dX7_assemble_160 : decode cX7_assemble 160 = .ok (.ireturn, 1) := by decide +kernel
set_option maxRecDepth 20000 in
theorem ggX7_start_X7_isThread : GoodIn wsX7_start wsX7_isThread := goodIn_r _ [6, 7, 8, 5, 9] (by decide +kernel) (by decide +kernel)
set_option maxRecDepth 20000 in
theorem gX7_start_X7_isThread : GoodIn wsX7_start (va_wsS RX7 103 yX7_isThread wsX7_isThread) := goodIn_app (goodIn_of _ (by decide +kernel)) ggX7_start_X7_isThread
set_option maxRecDepth 20000 in
theorem ggX7_start_X7_isPlace : GoodIn wsX7_start wsX7_isPlace := goodIn_r _ [12, 7, 8, 5, 9] (by decide +kernel) (by decide +kernel)
set_option maxRecDepth 20000 in
theorem gX7_start_X7_isPlace : GoodIn wsX7_start (va_wsS RX7 72 yX7_isPlace wsX7_isPlace) := goodIn_app (goodIn_of _ (by decide +kernel)) ggX7_start_X7_isPlace
set_option maxRecDepth 20000 in
theorem ggX7_start_X7_records : GoodIn wsX7_start wsX7_records := goodIn_r _ [16, 17, 18, 2, 22, 23, 24, 25, 26, 27, 28, 29, 30, 31, 32] (by decide +kernel) (by decide +kernel)
set_option maxRecDepth 20000 in
theorem gX7_start_X7_records : GoodIn wsX7_start (wsV RX7 85 RX7 yX7_records wsX7_records) := goodIn_app (goodIn_of _ (by decide +kernel)) ggX7_start_X7_records
set_option maxRecDepth 20000 in
theorem ggX7_start_X7_at : GoodIn wsX7_start wsX7_at := goodIn_r _ [21] (by decide +kernel) (by decide +kernel)
set_option maxRecDepth 20000 in
theorem gX7_start_X7_at : GoodIn wsX7_start (va_wsS RX7 22 yX7_at wsX7_at) := goodIn_app (goodIn_of _ (by decide +kernel)) ggX7_start_X7_at
theorem dX7_start_0 : decode cX7_start 0 = .ok (.iload_n 1, 1) := by decide +kernel
theorem dX7_start_1 : decode cX7_start 1 = .ok (.invokestatic 103, 3) := by decide +kernel
theorem dX7_start_4 : decode cX7_start 4 = .ok (.ifCond .eq 10, 3) := by decide +kernel
theorem dX7_start_7 : decode cX7_start 7 = .ok (.iload_n 2, 1) := by decide +kernel
theorem dX7_start_8 : decode cX7_start 8 = .ok (.invokestatic 72, 3) := by decide +kernel
theorem dX7_start_11 : decode cX7_start 11 = .ok (.ifCond .ne 6, 3) := by decide +kernel
theorem dX7_start_14 : decode cX7_start 14 = .ok (.ldc 75, 2) := by decide +kernel
theorem dX7_start_16 : decode cX7_start 16 = .ok (.ireturn, 1) := by decide +kernel
theorem dX7_start_17 : decode cX7_start 17 = .ok (.aload_n 0, 1) := by decide +kernel
theorem dX7_start_18 : decode cX7_start 18 = .ok (.invokevirtual 85, 3) := by decide +kernel
theorem dX7_start_21 : decode cX7_start 21 = .ok (.aload_n 0, 1) := by decide +kernel
theorem dX7_start_22 : decode cX7_start 22 = .ok (.getfield 7, 3) := by decide +kernel
theorem dX7_start_25 : decode cX7_start 25 = .ok (.iload_n 1, 1) := by decide +kernel
theorem dX7_start_26 : decode cX7_start 26 = .ok (.iconst 0, 1) := by decide +kernel
theorem dX7_start_27 : decode cX7_start 27 = .ok (.invokestatic 22, 3) := by decide +kernel
theorem dX7_start_30 : decode cX7_start 30 = .ok (.iaload, 1) := by decide +kernel
theorem dX7_start_31 : decode cX7_start 31 = .ok (.istore_n 3, 1) := by decide +kernel
theorem dX7_start_32 : decode cX7_start 32 = .ok (.aload_n 0, 1) := by decide +kernel
theorem dX7_start_33 : decode cX7_start 33 = .ok (.getfield 7, 3) := by decide +kernel
theorem dX7_start_36 : decode cX7_start 36 = .ok (.iload_n 1, 1) := by decide +kernel
theorem dX7_start_37 : decode cX7_start 37 = .ok (.iconst 0, 1) := by decide +kernel
theorem dX7_start_38 : decode cX7_start 38 = .ok (.invokestatic 22, 3) := by decide +kernel
theorem dX7_start_41 : decode cX7_start 41 = .ok (.iconst 1, 1) := by decide +kernel
theorem dX7_start_42 : decode cX7_start 42 = .ok (.iastore, 1) := by decide +kernel
theorem dX7_start_43 : decode cX7_start 43 = .ok (.aload_n 0, 1) := by decide +kernel
theorem dX7_start_44 : decode cX7_start 44 = .ok (.getfield 7, 3) := by decide +kernel
theorem dX7_start_47 : decode cX7_start 47 = .ok (.iload_n 1, 1) := by decide +kernel
theorem dX7_start_48 : decode cX7_start 48 = .ok (.iconst 1, 1) := by decide +kernel
theorem dX7_start_49 : decode cX7_start 49 = .ok (.invokestatic 22, 3) := by decide +kernel
theorem dX7_start_52 : decode cX7_start 52 = .ok (.iload_n 2, 1) := by decide +kernel
theorem dX7_start_53 : decode cX7_start 53 = .ok (.iastore, 1) := by decide +kernel
theorem dX7_start_54 : decode cX7_start 54 = .ok (.iconst 0, 1) := by decide +kernel
theorem dX7_start_55 : decode cX7_start 55 = .ok (.istore 4, 2) := by decide +kernel
theorem dX7_start_57 : decode cX7_start 57 = .ok (.iload 4, 2) := by decide +kernel
theorem dX7_start_59 : decode cX7_start 59 = .ok (.iconst 4, 1) := by decide +kernel
theorem dX7_start_60 : decode cX7_start 60 = .ok (.if_icmp .ge 23, 3) := by decide +kernel
theorem dX7_start_63 : decode cX7_start 63 = .ok (.aload_n 0, 1) := by decide +kernel
theorem dX7_start_64 : decode cX7_start 64 = .ok (.getfield 7, 3) := by decide +kernel
theorem dX7_start_67 : decode cX7_start 67 = .ok (.iload_n 1, 1) := by decide +kernel
theorem dX7_start_68 : decode cX7_start 68 = .ok (.iconst 2, 1) := by decide +kernel
theorem dX7_start_69 : decode cX7_start 69 = .ok (.iload 4, 2) := by decide +kernel
theorem dX7_start_71 : decode cX7_start 71 = .ok (.iadd, 1) := by decide +kernel
theorem dX7_start_72 : decode cX7_start 72 = .ok (.invokestatic 22, 3) := by decide +kernel
theorem dX7_start_75 : decode cX7_start 75 = .ok (.iconst 0, 1) := by decide +kernel
theorem dX7_start_76 : decode cX7_start 76 = .ok (.iastore, 1) := by decide +kernel
theorem dX7_start_77 : decode cX7_start 77 = .ok (.iinc 4 1, 3) := by decide +kernel
theorem dX7_start_80 : decode cX7_start 80 = .ok (.goto (-23), 3) := by decide +kernel
theorem dX7_start_83 : decode cX7_start 83 = .ok (.aload_n 0, 1) := by decide +kernel
theorem dX7_start_84 : decode cX7_start 84 = .ok (.getfield 7, 3) := by decide +kernel
theorem dX7_start_87 : decode cX7_start 87 = .ok (.iload_n 1, 1) := by decide +kernel
theorem dX7_start_88 : decode cX7_start 88 = .ok (.bipush 9, 2) := by decide +kernel
theorem dX7_start_90 : decode cX7_start 90 = .ok (.invokestatic 22, 3) := by decide +kernel
theorem dX7_start_93 : decode cX7_start 93 = .ok (.iconst (-1), 1) := by decide +kernel
theorem dX7_start_94 : decode cX7_start 94 = .ok (.iastore, 1) := by decide +kernel
theorem dX7_start_95 : decode cX7_start 95 = .ok (.aload_n 0, 1) := by decide +kernel
theorem dX7_start_96 : decode cX7_start 96 = .ok (.getfield 7, 3) := by decide +kernel
theorem dX7_start_99 : decode cX7_start 99 = .ok (.iload_n 1, 1) := by decide +kernel
theorem dX7_start_100 : decode cX7_start 100 = .ok (.bipush 10, 2) := by decide +kernel
theorem dX7_start_102 : decode cX7_start 102 = .ok (.invokestatic 22, 3) := by decide +kernel
theorem dX7_start_105 : decode cX7_start 105 = .ok (.iconst 0, 1) := by decide +kernel
theorem dX7_start_106 : decode cX7_start 106 = .ok (.iastore, 1) := by decide +kernel
theorem dX7_start_107 : decode cX7_start 107 = .ok (.iload_n 3, 1) := by decide +kernel
theorem dX7_start_108 : decode cX7_start 108 = .ok (.ireturn, 1) := by decide +kernel
set_option maxRecDepth 20000 in
theorem ggX7_halt_X7_isThread : GoodIn wsX7_halt wsX7_isThread := goodIn_r _ [6, 7, 8, 5, 9] (by decide +kernel) (by decide +kernel)
set_option maxRecDepth 20000 in
theorem gX7_halt_X7_isThread : GoodIn wsX7_halt (va_wsS RX7 103 yX7_isThread wsX7_isThread) := goodIn_app (goodIn_of _ (by decide +kernel)) ggX7_halt_X7_isThread
set_option maxRecDepth 20000 in
theorem ggX7_halt_X7_records : GoodIn wsX7_halt wsX7_records := goodIn_r _ [13, 14, 15, 2, 19, 20, 21, 22, 23, 24, 25, 26, 27, 28, 29] (by decide +kernel) (by decide +kernel)
set_option maxRecDepth 20000 in
theorem gX7_halt_X7_records : GoodIn wsX7_halt (wsV RX7 85 RX7 yX7_records wsX7_records) := goodIn_app (goodIn_of _ (by decide +kernel)) ggX7_halt_X7_records
set_option maxRecDepth 20000 in
theorem ggX7_halt_X7_at : GoodIn wsX7_halt wsX7_at := goodIn_r _ [18] (by decide +kernel) (by decide +kernel)
set_option maxRecDepth 20000 in
theorem gX7_halt_X7_at : GoodIn wsX7_halt (va_wsS RX7 22 yX7_at wsX7_at) := goodIn_app (goodIn_of _ (by decide +kernel)) ggX7_halt_X7_at
theorem dX7_halt_0 : decode cX7_halt 0 = .ok (.iload_n 1, 1) := by decide +kernel
theorem dX7_halt_1 : decode cX7_halt 1 = .ok (.invokestatic 103, 3) := by decide +kernel
theorem dX7_halt_4 : decode cX7_halt 4 = .ok (.ifCond .ne 6, 3) := by decide +kernel
theorem dX7_halt_7 : decode cX7_halt 7 = .ok (.ldc 75, 2) := by decide +kernel
theorem dX7_halt_9 : decode cX7_halt 9 = .ok (.ireturn, 1) := by decide +kernel
theorem dX7_halt_10 : decode cX7_halt 10 = .ok (.aload_n 0, 1) := by decide +kernel
theorem dX7_halt_11 : decode cX7_halt 11 = .ok (.invokevirtual 85, 3) := by decide +kernel
theorem dX7_halt_14 : decode cX7_halt 14 = .ok (.aload_n 0, 1) := by decide +kernel
theorem dX7_halt_15 : decode cX7_halt 15 = .ok (.getfield 7, 3) := by decide +kernel
theorem dX7_halt_18 : decode cX7_halt 18 = .ok (.iload_n 1, 1) := by decide +kernel
theorem dX7_halt_19 : decode cX7_halt 19 = .ok (.iconst 0, 1) := by decide +kernel
theorem dX7_halt_20 : decode cX7_halt 20 = .ok (.invokestatic 22, 3) := by decide +kernel
theorem dX7_halt_23 : decode cX7_halt 23 = .ok (.iaload, 1) := by decide +kernel
theorem dX7_halt_24 : decode cX7_halt 24 = .ok (.istore_n 2, 1) := by decide +kernel
theorem dX7_halt_25 : decode cX7_halt 25 = .ok (.aload_n 0, 1) := by decide +kernel
theorem dX7_halt_26 : decode cX7_halt 26 = .ok (.getfield 7, 3) := by decide +kernel
theorem dX7_halt_29 : decode cX7_halt 29 = .ok (.iload_n 1, 1) := by decide +kernel
theorem dX7_halt_30 : decode cX7_halt 30 = .ok (.iconst 0, 1) := by decide +kernel
theorem dX7_halt_31 : decode cX7_halt 31 = .ok (.invokestatic 22, 3) := by decide +kernel
theorem dX7_halt_34 : decode cX7_halt 34 = .ok (.iconst 0, 1) := by decide +kernel
theorem dX7_halt_35 : decode cX7_halt 35 = .ok (.iastore, 1) := by decide +kernel
theorem dX7_halt_36 : decode cX7_halt 36 = .ok (.aload_n 0, 1) := by decide +kernel
theorem dX7_halt_37 : decode cX7_halt 37 = .ok (.getfield 7, 3) := by decide +kernel
theorem dX7_halt_40 : decode cX7_halt 40 = .ok (.iload_n 1, 1) := by decide +kernel
theorem dX7_halt_41 : decode cX7_halt 41 = .ok (.bipush 10, 2) := by decide +kernel
theorem dX7_halt_43 : decode cX7_halt 43 = .ok (.invokestatic 22, 3) := by decide +kernel
theorem dX7_halt_46 : decode cX7_halt 46 = .ok (.iconst 0, 1) := by decide +kernel
theorem dX7_halt_47 : decode cX7_halt 47 = .ok (.iastore, 1) := by decide +kernel
theorem dX7_halt_48 : decode cX7_halt 48 = .ok (.iload_n 2, 1) := by decide +kernel
theorem dX7_halt_49 : decode cX7_halt 49 = .ok (.ireturn, 1) := by decide +kernel
set_option maxRecDepth 20000 in
theorem ggX7_setRegister_X7_isThread : GoodIn wsX7_setRegister wsX7_isThread := goodIn_r _ [6, 7, 8, 5, 9] (by decide +kernel) (by decide +kernel)
set_option maxRecDepth 20000 in
theorem gX7_setRegister_X7_isThread : GoodIn wsX7_setRegister (va_wsS RX7 103 yX7_isThread wsX7_isThread) := goodIn_app (goodIn_of _ (by decide +kernel)) ggX7_setRegister_X7_isThread
set_option maxRecDepth 20000 in
theorem ggX7_setRegister_X7_in : GoodIn wsX7_setRegister wsX7_in := goodIn_r _ [9] (by decide +kernel) (by decide +kernel)
set_option maxRecDepth 20000 in
theorem gX7_setRegister_X7_in : GoodIn wsX7_setRegister (va_wsS RX7 26 yX7_in wsX7_in) := goodIn_app (goodIn_of _ (by decide +kernel)) ggX7_setRegister_X7_in
set_option maxRecDepth 20000 in
theorem ggX7_setRegister_X7_isShort : GoodIn wsX7_setRegister wsX7_isShort := goodIn_r _ [12, 7, 8, 5, 9] (by decide +kernel) (by decide +kernel)
set_option maxRecDepth 20000 in
theorem gX7_setRegister_X7_isShort : GoodIn wsX7_setRegister (va_wsS RX7 106 yX7_isShort wsX7_isShort) := goodIn_app (goodIn_of _ (by decide +kernel)) ggX7_setRegister_X7_isShort
set_option maxRecDepth 20000 in
theorem ggX7_setRegister_X7_records : GoodIn wsX7_setRegister wsX7_records := goodIn_r _ [16, 17, 18, 19, 31, 32, 33, 34, 35, 36, 37, 38, 39, 40, 41] (by decide +kernel) (by decide +kernel)
set_option maxRecDepth 20000 in
theorem gX7_setRegister_X7_records : GoodIn wsX7_setRegister (wsV RX7 85 RX7 yX7_records wsX7_records) := goodIn_app (goodIn_of _ (by decide +kernel)) ggX7_setRegister_X7_records
set_option maxRecDepth 20000 in
theorem ggX7_setRegister_X7_register0 : GoodIn wsX7_setRegister wsX7_register0 := goodIn_r _ [23, 19, 24, 25, 5, 26, 31, 32, 33, 34, 35, 36, 37, 38, 39, 40, 41] (by decide +kernel) (by decide +kernel)
set_option maxRecDepth 20000 in
theorem gX7_setRegister_X7_register0 : GoodIn wsX7_setRegister (wsV RX7 34 RX7 yX7_register0 wsX7_register0) := goodIn_app (goodIn_of _ (by decide +kernel)) ggX7_setRegister_X7_register0
set_option maxRecDepth 20000 in
theorem ggX7_setRegister_X7_puts : GoodIn wsX7_setRegister wsX7_puts := goodIn_r _ [30, 19, 24, 25, 5, 26, 31, 32, 33, 34, 35, 36, 37, 38, 39, 40, 41] (by decide +kernel) (by decide +kernel)
set_option maxRecDepth 20000 in
theorem gX7_setRegister_X7_puts : GoodIn wsX7_setRegister (wsV RX7 37 RX7 yX7_puts wsX7_puts) := goodIn_app (goodIn_of _ (by decide +kernel)) ggX7_setRegister_X7_puts
theorem dX7_setRegister_0 : decode cX7_setRegister 0 = .ok (.iload_n 1, 1) := by decide +kernel
theorem dX7_setRegister_1 : decode cX7_setRegister 1 = .ok (.invokestatic 103, 3) := by decide +kernel
theorem dX7_setRegister_4 : decode cX7_setRegister 4 = .ok (.ifCond .eq 12, 3) := by decide +kernel
theorem dX7_setRegister_7 : decode cX7_setRegister 7 = .ok (.iload_n 2, 1) := by decide +kernel
theorem dX7_setRegister_8 : decode cX7_setRegister 8 = .ok (.iconst 0, 1) := by decide +kernel
theorem dX7_setRegister_9 : decode cX7_setRegister 9 = .ok (.iconst 3, 1) := by decide +kernel
theorem dX7_setRegister_10 : decode cX7_setRegister 10 = .ok (.invokestatic 26, 3) := by decide +kernel
theorem dX7_setRegister_13 : decode cX7_setRegister 13 = .ok (.ifCond .ne 6, 3) := by decide +kernel
theorem dX7_setRegister_16 : decode cX7_setRegister 16 = .ok (.ldc 75, 2) := by decide +kernel
theorem dX7_setRegister_18 : decode cX7_setRegister 18 = .ok (.ireturn, 1) := by decide +kernel
theorem dX7_setRegister_19 : decode cX7_setRegister 19 = .ok (.iload_n 3, 1) := by decide +kernel
theorem dX7_setRegister_20 : decode cX7_setRegister 20 = .ok (.invokestatic 106, 3) := by decide +kernel
theorem dX7_setRegister_23 : decode cX7_setRegister 23 = .ok (.ifCond .ne 6, 3) := by decide +kernel
theorem dX7_setRegister_26 : decode cX7_setRegister 26 = .ok (.ldc 109, 2) := by decide +kernel
theorem dX7_setRegister_28 : decode cX7_setRegister 28 = .ok (.ireturn, 1) := by decide +kernel
theorem dX7_setRegister_29 : decode cX7_setRegister 29 = .ok (.aload_n 0, 1) := by decide +kernel
theorem dX7_setRegister_30 : decode cX7_setRegister 30 = .ok (.invokevirtual 85, 3) := by decide +kernel
theorem dX7_setRegister_33 : decode cX7_setRegister 33 = .ok (.aload_n 0, 1) := by decide +kernel
theorem dX7_setRegister_34 : decode cX7_setRegister 34 = .ok (.iload_n 1, 1) := by decide +kernel
theorem dX7_setRegister_35 : decode cX7_setRegister 35 = .ok (.iload_n 2, 1) := by decide +kernel
theorem dX7_setRegister_36 : decode cX7_setRegister 36 = .ok (.invokevirtual 34, 3) := by decide +kernel
theorem dX7_setRegister_39 : decode cX7_setRegister 39 = .ok (.istore 4, 2) := by decide +kernel
theorem dX7_setRegister_41 : decode cX7_setRegister 41 = .ok (.aload_n 0, 1) := by decide +kernel
theorem dX7_setRegister_42 : decode cX7_setRegister 42 = .ok (.iload_n 1, 1) := by decide +kernel
theorem dX7_setRegister_43 : decode cX7_setRegister 43 = .ok (.iload_n 2, 1) := by decide +kernel
theorem dX7_setRegister_44 : decode cX7_setRegister 44 = .ok (.iload_n 3, 1) := by decide +kernel
theorem dX7_setRegister_45 : decode cX7_setRegister 45 = .ok (.invokevirtual 37, 3) := by decide +kernel
theorem dX7_setRegister_48 : decode cX7_setRegister 48 = .ok (.iload 4, 2) := by decide +kernel
theorem dX7_setRegister_50 : decode cX7_setRegister 50 = .ok (.ireturn, 1) := by decide +kernel
set_option maxRecDepth 20000 in
theorem ggX7_setWord_X7_in : GoodIn wsX7_setWord wsX7_in := goodIn_r _ [7] (by decide +kernel) (by decide +kernel)
set_option maxRecDepth 20000 in
theorem gX7_setWord_X7_in : GoodIn wsX7_setWord (va_wsS RX7 26 yX7_in wsX7_in) := goodIn_app (goodIn_of _ (by decide +kernel)) ggX7_setWord_X7_in
set_option maxRecDepth 20000 in
theorem ggX7_setWord_X7_isShort : GoodIn wsX7_setWord wsX7_isShort := goodIn_r _ [10, 4, 5, 6, 7] (by decide +kernel) (by decide +kernel)
set_option maxRecDepth 20000 in
theorem gX7_setWord_X7_isShort : GoodIn wsX7_setWord (va_wsS RX7 106 yX7_isShort wsX7_isShort) := goodIn_app (goodIn_of _ (by decide +kernel)) ggX7_setWord_X7_isShort
set_option maxRecDepth 20000 in
theorem ggX7_setWord_X7_records : GoodIn wsX7_setWord wsX7_records := goodIn_r _ [14, 15, 16, 3, 17, 18, 19, 20, 21, 22, 23, 24, 25, 26, 27] (by decide +kernel) (by decide +kernel)
set_option maxRecDepth 20000 in
theorem gX7_setWord_X7_records : GoodIn wsX7_setWord (wsV RX7 85 RX7 yX7_records wsX7_records) := goodIn_app (goodIn_of _ (by decide +kernel)) ggX7_setWord_X7_records
theorem dX7_setWord_0 : decode cX7_setWord 0 = .ok (.iload_n 1, 1) := by decide +kernel
theorem dX7_setWord_1 : decode cX7_setWord 1 = .ok (.iconst 0, 1) := by decide +kernel
theorem dX7_setWord_2 : decode cX7_setWord 2 = .ok (.bipush 31, 2) := by decide +kernel
theorem dX7_setWord_4 : decode cX7_setWord 4 = .ok (.invokestatic 26, 3) := by decide +kernel
theorem dX7_setWord_7 : decode cX7_setWord 7 = .ok (.ifCond .ne 6, 3) := by decide +kernel
theorem dX7_setWord_10 : decode cX7_setWord 10 = .ok (.ldc 75, 2) := by decide +kernel
theorem dX7_setWord_12 : decode cX7_setWord 12 = .ok (.ireturn, 1) := by decide +kernel
theorem dX7_setWord_13 : decode cX7_setWord 13 = .ok (.iload_n 2, 1) := by decide +kernel
theorem dX7_setWord_14 : decode cX7_setWord 14 = .ok (.invokestatic 106, 3) := by decide +kernel
theorem dX7_setWord_17 : decode cX7_setWord 17 = .ok (.ifCond .ne 6, 3) := by decide +kernel
theorem dX7_setWord_20 : decode cX7_setWord 20 = .ok (.ldc 109, 2) := by decide +kernel
theorem dX7_setWord_22 : decode cX7_setWord 22 = .ok (.ireturn, 1) := by decide +kernel
theorem dX7_setWord_23 : decode cX7_setWord 23 = .ok (.aload_n 0, 1) := by decide +kernel
theorem dX7_setWord_24 : decode cX7_setWord 24 = .ok (.invokevirtual 85, 3) := by decide +kernel
theorem dX7_setWord_27 : decode cX7_setWord 27 = .ok (.aload_n 0, 1) := by decide +kernel
theorem dX7_setWord_28 : decode cX7_setWord 28 = .ok (.getfield 7, 3) := by decide +kernel
theorem dX7_setWord_31 : decode cX7_setWord 31 = .ok (.sipush 200, 3) := by decide +kernel
theorem dX7_setWord_34 : decode cX7_setWord 34 = .ok (.iload_n 1, 1) := by decide +kernel
theorem dX7_setWord_35 : decode cX7_setWord 35 = .ok (.iadd, 1) := by decide +kernel
theorem dX7_setWord_36 : decode cX7_setWord 36 = .ok (.iaload, 1) := by decide +kernel
theorem dX7_setWord_37 : decode cX7_setWord 37 = .ok (.istore_n 3, 1) := by decide +kernel
theorem dX7_setWord_38 : decode cX7_setWord 38 = .ok (.aload_n 0, 1) := by decide +kernel
theorem dX7_setWord_39 : decode cX7_setWord 39 = .ok (.getfield 7, 3) := by decide +kernel
theorem dX7_setWord_42 : decode cX7_setWord 42 = .ok (.sipush 200, 3) := by decide +kernel
theorem dX7_setWord_45 : decode cX7_setWord 45 = .ok (.iload_n 1, 1) := by decide +kernel
theorem dX7_setWord_46 : decode cX7_setWord 46 = .ok (.iadd, 1) := by decide +kernel
theorem dX7_setWord_47 : decode cX7_setWord 47 = .ok (.iload_n 2, 1) := by decide +kernel
theorem dX7_setWord_48 : decode cX7_setWord 48 = .ok (.iastore, 1) := by decide +kernel
theorem dX7_setWord_49 : decode cX7_setWord 49 = .ok (.iload_n 3, 1) := by decide +kernel
theorem dX7_setWord_50 : decode cX7_setWord 50 = .ok (.ireturn, 1) := by decide +kernel
set_option maxRecDepth 20000 in
theorem ggX7_setSlot_X7_in : GoodIn wsX7_setSlot wsX7_in := goodIn_r _ [6] (by decide +kernel) (by decide +kernel)
set_option maxRecDepth 20000 in
theorem gX7_setSlot_X7_in : GoodIn wsX7_setSlot (va_wsS RX7 26 yX7_in wsX7_in) := goodIn_app (goodIn_of _ (by decide +kernel)) ggX7_setSlot_X7_in
set_option maxRecDepth 20000 in
theorem ggX7_setSlot_X7_isThread : GoodIn wsX7_setSlot wsX7_isThread := goodIn_r _ [9, 3, 4, 5, 6] (by decide +kernel) (by decide +kernel)
set_option maxRecDepth 20000 in
theorem gX7_setSlot_X7_isThread : GoodIn wsX7_setSlot (va_wsS RX7 103 yX7_isThread wsX7_isThread) := goodIn_app (goodIn_of _ (by decide +kernel)) ggX7_setSlot_X7_isThread
set_option maxRecDepth 20000 in
theorem ggX7_setSlot_X7_records : GoodIn wsX7_setSlot wsX7_records := goodIn_r _ [13, 14, 15, 2, 16, 17, 18, 19, 20, 21, 22, 23, 24, 25, 26] (by decide +kernel) (by decide +kernel)
set_option maxRecDepth 20000 in
theorem gX7_setSlot_X7_records : GoodIn wsX7_setSlot (wsV RX7 85 RX7 yX7_records wsX7_records) := goodIn_app (goodIn_of _ (by decide +kernel)) ggX7_setSlot_X7_records
theorem dX7_setSlot_0 : decode cX7_setSlot 0 = .ok (.iload_n 1, 1) := by decide +kernel
theorem dX7_setSlot_1 : decode cX7_setSlot 1 = .ok (.iconst 0, 1) := by decide +kernel
theorem dX7_setSlot_2 : decode cX7_setSlot 2 = .ok (.bipush 7, 2) := by decide +kernel
theorem dX7_setSlot_4 : decode cX7_setSlot 4 = .ok (.invokestatic 26, 3) := by decide +kernel
theorem dX7_setSlot_7 : decode cX7_setSlot 7 = .ok (.ifCond .eq 10, 3) := by decide +kernel
theorem dX7_setSlot_10 : decode cX7_setSlot 10 = .ok (.iload_n 2, 1) := by decide +kernel
theorem dX7_setSlot_11 : decode cX7_setSlot 11 = .ok (.invokestatic 103, 3) := by decide +kernel
theorem dX7_setSlot_14 : decode cX7_setSlot 14 = .ok (.ifCond .ne 6, 3) := by decide +kernel
theorem dX7_setSlot_17 : decode cX7_setSlot 17 = .ok (.ldc 75, 2) := by decide +kernel
theorem dX7_setSlot_19 : decode cX7_setSlot 19 = .ok (.ireturn, 1) := by decide +kernel
theorem dX7_setSlot_20 : decode cX7_setSlot 20 = .ok (.aload_n 0, 1) := by decide +kernel
theorem dX7_setSlot_21 : decode cX7_setSlot 21 = .ok (.invokevirtual 85, 3) := by decide +kernel
theorem dX7_setSlot_24 : decode cX7_setSlot 24 = .ok (.aload_n 0, 1) := by decide +kernel
theorem dX7_setSlot_25 : decode cX7_setSlot 25 = .ok (.getfield 7, 3) := by decide +kernel
theorem dX7_setSlot_28 : decode cX7_setSlot 28 = .ok (.sipush 234, 3) := by decide +kernel
theorem dX7_setSlot_31 : decode cX7_setSlot 31 = .ok (.iload_n 1, 1) := by decide +kernel
theorem dX7_setSlot_32 : decode cX7_setSlot 32 = .ok (.iadd, 1) := by decide +kernel
theorem dX7_setSlot_33 : decode cX7_setSlot 33 = .ok (.iaload, 1) := by decide +kernel
theorem dX7_setSlot_34 : decode cX7_setSlot 34 = .ok (.istore_n 3, 1) := by decide +kernel
theorem dX7_setSlot_35 : decode cX7_setSlot 35 = .ok (.aload_n 0, 1) := by decide +kernel
theorem dX7_setSlot_36 : decode cX7_setSlot 36 = .ok (.getfield 7, 3) := by decide +kernel
theorem dX7_setSlot_39 : decode cX7_setSlot 39 = .ok (.sipush 234, 3) := by decide +kernel
theorem dX7_setSlot_42 : decode cX7_setSlot 42 = .ok (.iload_n 1, 1) := by decide +kernel
theorem dX7_setSlot_43 : decode cX7_setSlot 43 = .ok (.iadd, 1) := by decide +kernel
theorem dX7_setSlot_44 : decode cX7_setSlot 44 = .ok (.iload_n 2, 1) := by decide +kernel
theorem dX7_setSlot_45 : decode cX7_setSlot 45 = .ok (.iastore, 1) := by decide +kernel
theorem dX7_setSlot_46 : decode cX7_setSlot 46 = .ok (.iload_n 3, 1) := by decide +kernel
theorem dX7_setSlot_47 : decode cX7_setSlot 47 = .ok (.ireturn, 1) := by decide +kernel
set_option maxRecDepth 20000 in
theorem ggX7_set_X7_in : GoodIn wsX7_set wsX7_in := goodIn_r _ [7] (by decide +kernel) (by decide +kernel)
set_option maxRecDepth 20000 in
theorem gX7_set_X7_in : GoodIn wsX7_set (va_wsS RX7 26 yX7_in wsX7_in) := goodIn_app (goodIn_of _ (by decide +kernel)) ggX7_set_X7_in
set_option maxRecDepth 20000 in
theorem ggX7_set_X7_records : GoodIn wsX7_set wsX7_records := goodIn_r _ [11, 12, 13, 3, 14, 15, 16, 17, 18, 19, 20, 21, 22, 23, 24] (by decide +kernel) (by decide +kernel)
set_option maxRecDepth 20000 in
theorem gX7_set_X7_records : GoodIn wsX7_set (wsV RX7 85 RX7 yX7_records wsX7_records) := goodIn_app (goodIn_of _ (by decide +kernel)) ggX7_set_X7_records
theorem dX7_set_0 : decode cX7_set 0 = .ok (.iload_n 1, 1) := by decide +kernel
theorem dX7_set_1 : decode cX7_set 1 = .ok (.iconst 0, 1) := by decide +kernel
theorem dX7_set_2 : decode cX7_set 2 = .ok (.iconst 1, 1) := by decide +kernel
theorem dX7_set_3 : decode cX7_set 3 = .ok (.invokestatic 26, 3) := by decide +kernel
theorem dX7_set_6 : decode cX7_set 6 = .ok (.ifCond .ne 6, 3) := by decide +kernel
theorem dX7_set_9 : decode cX7_set 9 = .ok (.ldc 75, 2) := by decide +kernel
theorem dX7_set_11 : decode cX7_set 11 = .ok (.ireturn, 1) := by decide +kernel
theorem dX7_set_12 : decode cX7_set 12 = .ok (.iload_n 2, 1) := by decide +kernel
theorem dX7_set_13 : decode cX7_set 13 = .ok (.iconst 0, 1) := by decide +kernel
theorem dX7_set_14 : decode cX7_set 14 = .ok (.iload_n 1, 1) := by decide +kernel
theorem dX7_set_15 : decode cX7_set 15 = .ok (.ifCond .ne 8, 3) := by decide +kernel
theorem dX7_set_18 : decode cX7_set 18 = .ok (.bipush 20, 2) := by decide +kernel
theorem dX7_set_20 : decode cX7_set 20 = .ok (.goto 4, 3) := by decide +kernel
theorem dX7_set_23 : decode cX7_set 23 = .ok (.iconst 2, 1) := by decide +kernel
theorem dX7_set_24 : decode cX7_set 24 = .ok (.invokestatic 26, 3) := by decide +kernel
theorem dX7_set_27 : decode cX7_set 27 = .ok (.ifCond .ne 6, 3) := by decide +kernel
theorem dX7_set_30 : decode cX7_set 30 = .ok (.ldc 109, 2) := by decide +kernel
theorem dX7_set_32 : decode cX7_set 32 = .ok (.ireturn, 1) := by decide +kernel
theorem dX7_set_33 : decode cX7_set 33 = .ok (.aload_n 0, 1) := by decide +kernel
theorem dX7_set_34 : decode cX7_set 34 = .ok (.invokevirtual 85, 3) := by decide +kernel
theorem dX7_set_37 : decode cX7_set 37 = .ok (.aload_n 0, 1) := by decide +kernel
theorem dX7_set_38 : decode cX7_set 38 = .ok (.getfield 7, 3) := by decide +kernel
theorem dX7_set_41 : decode cX7_set 41 = .ok (.sipush 242, 3) := by decide +kernel
theorem dX7_set_44 : decode cX7_set 44 = .ok (.iload_n 1, 1) := by decide +kernel
theorem dX7_set_45 : decode cX7_set 45 = .ok (.iadd, 1) := by decide +kernel
theorem dX7_set_46 : decode cX7_set 46 = .ok (.iaload, 1) := by decide +kernel
theorem dX7_set_47 : decode cX7_set 47 = .ok (.istore_n 3, 1) := by decide +kernel
theorem dX7_set_48 : decode cX7_set 48 = .ok (.aload_n 0, 1) := by decide +kernel
theorem dX7_set_49 : decode cX7_set 49 = .ok (.getfield 7, 3) := by decide +kernel
theorem dX7_set_52 : decode cX7_set 52 = .ok (.sipush 242, 3) := by decide +kernel
theorem dX7_set_55 : decode cX7_set 55 = .ok (.iload_n 1, 1) := by decide +kernel
theorem dX7_set_56 : decode cX7_set 56 = .ok (.iadd, 1) := by decide +kernel
theorem dX7_set_57 : decode cX7_set 57 = .ok (.iload_n 2, 1) := by decide +kernel
theorem dX7_set_58 : decode cX7_set 58 = .ok (.iastore, 1) := by decide +kernel
theorem dX7_set_59 : decode cX7_set 59 = .ok (.iload_n 3, 1) := by decide +kernel
theorem dX7_set_60 : decode cX7_set 60 = .ok (.ireturn, 1) := by decide +kernel
set_option maxRecDepth 20000 in
theorem ggX7_setBreakpoint_X7_isPlace : GoodIn wsX7_setBreakpoint wsX7_isPlace := goodIn_r _ [6, 7, 8, 5, 9] (by decide +kernel) (by decide +kernel)
set_option maxRecDepth 20000 in
theorem gX7_setBreakpoint_X7_isPlace : GoodIn wsX7_setBreakpoint (va_wsS RX7 72 yX7_isPlace wsX7_isPlace) := goodIn_app (goodIn_of _ (by decide +kernel)) ggX7_setBreakpoint_X7_isPlace
set_option maxRecDepth 20000 in
theorem ggX7_setBreakpoint_X7_records : GoodIn wsX7_setBreakpoint wsX7_records := goodIn_r _ [13, 14, 15, 2, 16, 17, 18, 19, 20, 21, 22, 23, 24, 25, 26] (by decide +kernel) (by decide +kernel)
set_option maxRecDepth 20000 in
theorem gX7_setBreakpoint_X7_records : GoodIn wsX7_setBreakpoint (wsV RX7 85 RX7 yX7_records wsX7_records) := goodIn_app (goodIn_of _ (by decide +kernel)) ggX7_setBreakpoint_X7_records
theorem dX7_setBreakpoint_0 : decode cX7_setBreakpoint 0 = .ok (.iload_n 1, 1) := by decide +kernel
theorem dX7_setBreakpoint_1 : decode cX7_setBreakpoint 1 = .ok (.invokestatic 72, 3) := by decide +kernel
theorem dX7_setBreakpoint_4 : decode cX7_setBreakpoint 4 = .ok (.ifCond .ne 6, 3) := by decide +kernel
theorem dX7_setBreakpoint_7 : decode cX7_setBreakpoint 7 = .ok (.ldc 75, 2) := by decide +kernel
theorem dX7_setBreakpoint_9 : decode cX7_setBreakpoint 9 = .ok (.ireturn, 1) := by decide +kernel
theorem dX7_setBreakpoint_10 : decode cX7_setBreakpoint 10 = .ok (.aload_n 0, 1) := by decide +kernel
theorem dX7_setBreakpoint_11 : decode cX7_setBreakpoint 11 = .ok (.invokevirtual 85, 3) := by decide +kernel
theorem dX7_setBreakpoint_14 : decode cX7_setBreakpoint 14 = .ok (.aload_n 0, 1) := by decide +kernel
theorem dX7_setBreakpoint_15 : decode cX7_setBreakpoint 15 = .ok (.getfield 7, 3) := by decide +kernel
theorem dX7_setBreakpoint_18 : decode cX7_setBreakpoint 18 = .ok (.sipush 244, 3) := by decide +kernel
theorem dX7_setBreakpoint_21 : decode cX7_setBreakpoint 21 = .ok (.iload_n 1, 1) := by decide +kernel
theorem dX7_setBreakpoint_22 : decode cX7_setBreakpoint 22 = .ok (.iadd, 1) := by decide +kernel
theorem dX7_setBreakpoint_23 : decode cX7_setBreakpoint 23 = .ok (.iload_n 2, 1) := by decide +kernel
theorem dX7_setBreakpoint_24 : decode cX7_setBreakpoint 24 = .ok (.ifCond .eq 7, 3) := by decide +kernel
theorem dX7_setBreakpoint_27 : decode cX7_setBreakpoint 27 = .ok (.iconst 1, 1) := by decide +kernel
theorem dX7_setBreakpoint_28 : decode cX7_setBreakpoint 28 = .ok (.goto 4, 3) := by decide +kernel
theorem dX7_setBreakpoint_31 : decode cX7_setBreakpoint 31 = .ok (.iconst 0, 1) := by decide +kernel
theorem dX7_setBreakpoint_32 : decode cX7_setBreakpoint 32 = .ok (.iastore, 1) := by decide +kernel
theorem dX7_setBreakpoint_33 : decode cX7_setBreakpoint 33 = .ok (.iconst 0, 1) := by decide +kernel
theorem dX7_setBreakpoint_34 : decode cX7_setBreakpoint 34 = .ok (.istore_n 3, 1) := by decide +kernel
theorem dX7_setBreakpoint_35 : decode cX7_setBreakpoint 35 = .ok (.iconst 0, 1) := by decide +kernel
theorem dX7_setBreakpoint_36 : decode cX7_setBreakpoint 36 = .ok (.istore 4, 2) := by decide +kernel
theorem dX7_setBreakpoint_38 : decode cX7_setBreakpoint 38 = .ok (.iload 4, 2) := by decide +kernel
theorem dX7_setBreakpoint_40 : decode cX7_setBreakpoint 40 = .ok (.bipush 48, 2) := by decide +kernel
theorem dX7_setBreakpoint_42 : decode cX7_setBreakpoint 42 = .ok (.if_icmp .ge 23, 3) := by decide +kernel
theorem dX7_setBreakpoint_45 : decode cX7_setBreakpoint 45 = .ok (.iload_n 3, 1) := by decide +kernel
theorem dX7_setBreakpoint_46 : decode cX7_setBreakpoint 46 = .ok (.aload_n 0, 1) := by decide +kernel
theorem dX7_setBreakpoint_47 : decode cX7_setBreakpoint 47 = .ok (.getfield 7, 3) := by decide +kernel
theorem dX7_setBreakpoint_50 : decode cX7_setBreakpoint 50 = .ok (.sipush 244, 3) := by decide +kernel
theorem dX7_setBreakpoint_53 : decode cX7_setBreakpoint 53 = .ok (.iload 4, 2) := by decide +kernel
theorem dX7_setBreakpoint_55 : decode cX7_setBreakpoint 55 = .ok (.iadd, 1) := by decide +kernel
theorem dX7_setBreakpoint_56 : decode cX7_setBreakpoint 56 = .ok (.iaload, 1) := by decide +kernel
theorem dX7_setBreakpoint_57 : decode cX7_setBreakpoint 57 = .ok (.iadd, 1) := by decide +kernel
theorem dX7_setBreakpoint_58 : decode cX7_setBreakpoint 58 = .ok (.istore_n 3, 1) := by decide +kernel
theorem dX7_setBreakpoint_59 : decode cX7_setBreakpoint 59 = .ok (.iinc 4 1, 3) := by decide +kernel
theorem dX7_setBreakpoint_62 : decode cX7_setBreakpoint 62 = .ok (.goto (-24), 3) := by decide +kernel
theorem dX7_setBreakpoint_65 : decode cX7_setBreakpoint 65 = .ok (.iload_n 3, 1) := by decide +kernel
theorem dX7_setBreakpoint_66 : decode cX7_setBreakpoint 66 = .ok (.ireturn, 1) := by decide +kernel
set_option maxRecDepth 20000 in
theorem ggX7_isStopped_X7_putAside : GoodIn wsX7_isStopped wsX7_putAside := goodIn_r _ [6, 7, 1, 35, 36, 37, 38, 39, 40, 41, 42, 43, 44, 45] (by decide +kernel) (by decide +kernel)
set_option maxRecDepth 20000 in
theorem gX7_isStopped_X7_putAside : GoodIn wsX7_isStopped (wsV RX7 110 RX7 yX7_putAside wsX7_putAside) := goodIn_app (goodIn_of _ (by decide +kernel)) ggX7_isStopped_X7_putAside
set_option maxRecDepth 20000 in
theorem ggX7_isStopped_X7_prepares : GoodIn wsX7_isStopped wsX7_prepares := goodIn_r _ [11, 1, 12, 13, 5, 14, 15, 16, 17, 18, 19, 20, 21, 22, 35, 36, 37, 38, 39, 40, 41, 42, 43, 44, 45] (by decide +kernel) (by decide +kernel)
set_option maxRecDepth 20000 in
theorem gX7_isStopped_X7_prepares : GoodIn wsX7_isStopped (wsV RX7 61 RX7 yX7_prepares wsX7_prepares) := goodIn_app (goodIn_of _ (by decide +kernel)) ggX7_isStopped_X7_prepares
set_option maxRecDepth 20000 in
theorem ggX7_isStopped_X7_issuing : GoodIn wsX7_isStopped wsX7_issuing := goodIn_r _ [26, 1, 27, 28, 29, 5, 30, 12, 13, 14, 35, 36, 37, 38, 39, 40, 41, 42, 43, 44, 45] (by decide +kernel) (by decide +kernel)
set_option maxRecDepth 20000 in
theorem gX7_isStopped_X7_issuing : GoodIn wsX7_isStopped (wsV RX7 64 RX7 yX7_issuing wsX7_issuing) := goodIn_app (goodIn_of _ (by decide +kernel)) ggX7_isStopped_X7_issuing
set_option maxRecDepth 20000 in
theorem ggX7_isStopped_X7_at : GoodIn wsX7_isStopped wsX7_at := goodIn_r _ [14] (by decide +kernel) (by decide +kernel)
set_option maxRecDepth 20000 in
theorem gX7_isStopped_X7_at : GoodIn wsX7_isStopped (va_wsS RX7 22 yX7_at wsX7_at) := goodIn_app (goodIn_of _ (by decide +kernel)) ggX7_isStopped_X7_at
set_option maxRecDepth 20000 in
theorem ggX7_isStopped_X7_putBack : GoodIn wsX7_isStopped wsX7_putBack := goodIn_r _ [34, 1, 7, 35, 36, 37, 38, 39, 40, 41, 42, 43, 44, 45] (by decide +kernel) (by decide +kernel)
set_option maxRecDepth 20000 in
theorem gX7_isStopped_X7_putBack : GoodIn wsX7_isStopped (wsV RX7 113 RX7 yX7_putBack wsX7_putBack) := goodIn_app (goodIn_of _ (by decide +kernel)) ggX7_isStopped_X7_putBack
theorem dX7_isStopped_0 : decode cX7_isStopped 0 = .ok (.aload_n 0, 1) := by decide +kernel
theorem dX7_isStopped_1 : decode cX7_isStopped 1 = .ok (.invokevirtual 110, 3) := by decide +kernel
theorem dX7_isStopped_4 : decode cX7_isStopped 4 = .ok (.aload_n 0, 1) := by decide +kernel
theorem dX7_isStopped_5 : decode cX7_isStopped 5 = .ok (.invokevirtual 61, 3) := by decide +kernel
theorem dX7_isStopped_8 : decode cX7_isStopped 8 = .ok (.aload_n 0, 1) := by decide +kernel
theorem dX7_isStopped_9 : decode cX7_isStopped 9 = .ok (.invokevirtual 64, 3) := by decide +kernel
theorem dX7_isStopped_12 : decode cX7_isStopped 12 = .ok (.istore_n 1, 1) := by decide +kernel
theorem dX7_isStopped_13 : decode cX7_isStopped 13 = .ok (.iload_n 1, 1) := by decide +kernel
theorem dX7_isStopped_14 : decode cX7_isStopped 14 = .ok (.iconst (-1), 1) := by decide +kernel
theorem dX7_isStopped_15 : decode cX7_isStopped 15 = .ok (.if_icmp .ne 8, 3) := by decide +kernel
theorem dX7_isStopped_18 : decode cX7_isStopped 18 = .ok (.bipush 48, 2) := by decide +kernel
theorem dX7_isStopped_20 : decode cX7_isStopped 20 = .ok (.goto 13, 3) := by decide +kernel
theorem dX7_isStopped_23 : decode cX7_isStopped 23 = .ok (.aload_n 0, 1) := by decide +kernel
theorem dX7_isStopped_24 : decode cX7_isStopped 24 = .ok (.getfield 7, 3) := by decide +kernel
theorem dX7_isStopped_27 : decode cX7_isStopped 27 = .ok (.iload_n 1, 1) := by decide +kernel
theorem dX7_isStopped_28 : decode cX7_isStopped 28 = .ok (.iconst 1, 1) := by decide +kernel
theorem dX7_isStopped_29 : decode cX7_isStopped 29 = .ok (.invokestatic 22, 3) := by decide +kernel
theorem dX7_isStopped_32 : decode cX7_isStopped 32 = .ok (.iaload, 1) := by decide +kernel
theorem dX7_isStopped_33 : decode cX7_isStopped 33 = .ok (.istore_n 2, 1) := by decide +kernel
theorem dX7_isStopped_34 : decode cX7_isStopped 34 = .ok (.aload_n 0, 1) := by decide +kernel
theorem dX7_isStopped_35 : decode cX7_isStopped 35 = .ok (.invokevirtual 113, 3) := by decide +kernel
theorem dX7_isStopped_38 : decode cX7_isStopped 38 = .ok (.iload_n 2, 1) := by decide +kernel
theorem dX7_isStopped_39 : decode cX7_isStopped 39 = .ok (.bipush 48, 2) := by decide +kernel
theorem dX7_isStopped_41 : decode cX7_isStopped 41 = .ok (.if_icmp .ge 21, 3) := by decide +kernel
theorem dX7_isStopped_44 : decode cX7_isStopped 44 = .ok (.aload_n 0, 1) := by decide +kernel
theorem dX7_isStopped_45 : decode cX7_isStopped 45 = .ok (.getfield 7, 3) := by decide +kernel
theorem dX7_isStopped_48 : decode cX7_isStopped 48 = .ok (.sipush 244, 3) := by decide +kernel
theorem dX7_isStopped_51 : decode cX7_isStopped 51 = .ok (.iload_n 2, 1) := by decide +kernel
theorem dX7_isStopped_52 : decode cX7_isStopped 52 = .ok (.iadd, 1) := by decide +kernel
theorem dX7_isStopped_53 : decode cX7_isStopped 53 = .ok (.iaload, 1) := by decide +kernel
theorem dX7_isStopped_54 : decode cX7_isStopped 54 = .ok (.iconst 1, 1) := by decide +kernel
theorem dX7_isStopped_55 : decode cX7_isStopped 55 = .ok (.if_icmp .ne 7, 3) := by decide +kernel
theorem dX7_isStopped_58 : decode cX7_isStopped 58 = .ok (.iconst 1, 1) := by decide +kernel
theorem dX7_isStopped_59 : decode cX7_isStopped 59 = .ok (.goto 4, 3) := by decide +kernel
theorem dX7_isStopped_62 : decode cX7_isStopped 62 = .ok (.iconst 0, 1) := by decide +kernel
theorem dX7_isStopped_63 : decode cX7_isStopped 63 = .ok (.ireturn, 1) := by decide +kernel
set_option maxRecDepth 20000 in
theorem ggX7_run_X7_in : GoodIn wsX7_run wsX7_in := goodIn_r _ [5] (by decide +kernel) (by decide +kernel)
set_option maxRecDepth 20000 in
theorem gX7_run_X7_in : GoodIn wsX7_run (va_wsS RX7 26 yX7_in wsX7_in) := goodIn_app (goodIn_of _ (by decide +kernel)) ggX7_run_X7_in
set_option maxRecDepth 20000 in
theorem ggX7_run_X7_records : GoodIn wsX7_run wsX7_records := goodIn_r _ [9, 10, 11, 12, 77, 78, 79, 80, 81, 82, 83, 84, 85, 86, 87] (by decide +kernel) (by decide +kernel)
set_option maxRecDepth 20000 in
theorem gX7_run_X7_records : GoodIn wsX7_run (wsV RX7 85 RX7 yX7_records wsX7_records) := goodIn_app (goodIn_of _ (by decide +kernel)) ggX7_run_X7_records
set_option maxRecDepth 20000 in
theorem ggX7_run_X7_isOver : GoodIn wsX7_run wsX7_isOver := goodIn_r _ [16, 17, 18, 19, 4, 20, 12, 21, 22, 23, 77, 78, 79, 80, 81, 82, 83, 84, 85, 86, 87] (by decide +kernel) (by decide +kernel)
set_option maxRecDepth 20000 in
theorem gX7_run_X7_isOver : GoodIn wsX7_run (wsV RX7 116 RX7 yX7_isOver wsX7_isOver) := goodIn_app (goodIn_of _ (by decide +kernel)) ggX7_run_X7_isOver
set_option maxRecDepth 20000 in
theorem ggX7_run_X7_isStopped : GoodIn wsX7_run wsX7_isStopped := goodIn_r _ [27, 12, 28, 29, 30, 4, 31, 32, 33, 34, 35, 36, 21, 22, 23, 37, 38, 39, 40, 17, 18, 19, 20, 41, 42, 43, 44, 45, 46, 47, 48, 49, 50, 51, 52, 77, 78, 79, 80, 81, 82, 83, 84, 85, 86, 87] (by decide +kernel) (by decide +kernel)
set_option maxRecDepth 20000 in
theorem gX7_run_X7_isStopped : GoodIn wsX7_run (wsV RX7 119 RX7 yX7_isStopped wsX7_isStopped) := goodIn_app (goodIn_of _ (by decide +kernel)) ggX7_run_X7_isStopped
set_option maxRecDepth 20000 in
theorem ggX7_run_X7_cycles : GoodIn wsX7_run wsX7_cycles := goodIn_r _ [56, 12, 33, 34, 35, 4, 36, 21, 22, 23, 37, 38, 39, 40, 17, 18, 19, 20, 41, 42, 43, 44, 45, 46, 47, 48, 57, 58, 59, 60, 61, 62, 63, 64, 65, 66, 67, 68, 2, 3, 5, 69, 70, 71, 72, 73, 74, 75, 76, 77, 78, 79, 80, 81, 82, 83, 84, 85, 86, 87] (by decide +kernel) (by decide +kernel)
set_option maxRecDepth 20000 in
theorem gX7_run_X7_cycles : GoodIn wsX7_run (wsV RX7 122 RX7 yX7_cycles wsX7_cycles) := goodIn_app (goodIn_of _ (by decide +kernel)) ggX7_run_X7_cycles
theorem dX7_run_0 : decode cX7_run 0 = .ok (.iload_n 1, 1) := by decide +kernel
theorem dX7_run_1 : decode cX7_run 1 = .ok (.iconst 1, 1) := by decide +kernel
theorem dX7_run_2 : decode cX7_run 2 = .ok (.sipush 200, 3) := by decide +kernel
theorem dX7_run_5 : decode cX7_run 5 = .ok (.invokestatic 26, 3) := by decide +kernel
theorem dX7_run_8 : decode cX7_run 8 = .ok (.ifCond .ne 6, 3) := by decide +kernel
theorem dX7_run_11 : decode cX7_run 11 = .ok (.ldc 109, 2) := by decide +kernel
theorem dX7_run_13 : decode cX7_run 13 = .ok (.ireturn, 1) := by decide +kernel
theorem dX7_run_14 : decode cX7_run 14 = .ok (.aload_n 0, 1) := by decide +kernel
theorem dX7_run_15 : decode cX7_run 15 = .ok (.invokevirtual 85, 3) := by decide +kernel
theorem dX7_run_18 : decode cX7_run 18 = .ok (.iconst 0, 1) := by decide +kernel
theorem dX7_run_19 : decode cX7_run 19 = .ok (.istore_n 2, 1) := by decide +kernel
theorem dX7_run_20 : decode cX7_run 20 = .ok (.iload_n 2, 1) := by decide +kernel
theorem dX7_run_21 : decode cX7_run 21 = .ok (.iload_n 1, 1) := by decide +kernel
theorem dX7_run_22 : decode cX7_run 22 = .ok (.if_icmp .ge 31, 3) := by decide +kernel
theorem dX7_run_25 : decode cX7_run 25 = .ok (.aload_n 0, 1) := by decide +kernel
theorem dX7_run_26 : decode cX7_run 26 = .ok (.invokevirtual 116, 3) := by decide +kernel
theorem dX7_run_29 : decode cX7_run 29 = .ok (.ifCond .ne 24, 3) := by decide +kernel
theorem dX7_run_32 : decode cX7_run 32 = .ok (.iload_n 2, 1) := by decide +kernel
theorem dX7_run_33 : decode cX7_run 33 = .ok (.ifCond .eq 10, 3) := by decide +kernel
theorem dX7_run_36 : decode cX7_run 36 = .ok (.aload_n 0, 1) := by decide +kernel
theorem dX7_run_37 : decode cX7_run 37 = .ok (.invokevirtual 119, 3) := by decide +kernel
theorem dX7_run_40 : decode cX7_run 40 = .ok (.ifCond .ne 13, 3) := by decide +kernel
theorem dX7_run_43 : decode cX7_run 43 = .ok (.aload_n 0, 1) := by decide +kernel
theorem dX7_run_44 : decode cX7_run 44 = .ok (.invokevirtual 122, 3) := by decide +kernel
theorem dX7_run_47 : decode cX7_run 47 = .ok (.iinc 2 1, 3) := by decide +kernel
theorem dX7_run_50 : decode cX7_run 50 = .ok (.goto (-30), 3) := by decide +kernel
theorem dX7_run_53 : decode cX7_run 53 = .ok (.iload_n 2, 1) := by decide +kernel
theorem dX7_run_54 : decode cX7_run 54 = .ok (.ireturn, 1) := by decide +kernel
set_option maxRecDepth 20000 in
theorem ggX7_append_X7_in : GoodIn wsX7_append wsX7_in := goodIn_r _ [8] (by decide +kernel) (by decide +kernel)
set_option maxRecDepth 20000 in
theorem gX7_append_X7_in : GoodIn wsX7_append (va_wsS RX7 26 yX7_in wsX7_in) := goodIn_app (goodIn_of _ (by decide +kernel)) ggX7_append_X7_in
theorem dX7_append_0 : decode cX7_append 0 = .ok (.iload_n 1, 1) := by decide +kernel
theorem dX7_append_1 : decode cX7_append 1 = .ok (.bipush 32, 2) := by decide +kernel
theorem dX7_append_3 : decode cX7_append 3 = .ok (.bipush 126, 2) := by decide +kernel
theorem dX7_append_5 : decode cX7_append 5 = .ok (.invokestatic 26, 3) := by decide +kernel
theorem dX7_append_8 : decode cX7_append 8 = .ok (.ifCond .ne 6, 3) := by decide +kernel
theorem dX7_append_11 : decode cX7_append 11 = .ok (.ldc 109, 2) := by decide +kernel
theorem dX7_append_13 : decode cX7_append 13 = .ok (.ireturn, 1) := by decide +kernel
theorem dX7_append_14 : decode cX7_append 14 = .ok (.aload_n 0, 1) := by decide +kernel
theorem dX7_append_15 : decode cX7_append 15 = .ok (.getfield 81, 3) := by decide +kernel
theorem dX7_append_18 : decode cX7_append 18 = .ok (.bipush 100, 2) := by decide +kernel
theorem dX7_append_20 : decode cX7_append 20 = .ok (.if_icmp .ne 6, 3) := by decide +kernel
theorem dX7_append_23 : decode cX7_append 23 = .ok (.ldc 84, 2) := by decide +kernel
theorem dX7_append_25 : decode cX7_append 25 = .ok (.ireturn, 1) := by decide +kernel
theorem dX7_append_26 : decode cX7_append 26 = .ok (.aload_n 0, 1) := by decide +kernel
theorem dX7_append_27 : decode cX7_append 27 = .ok (.getfield 19, 3) := by decide +kernel
theorem dX7_append_30 : decode cX7_append 30 = .ok (.aload_n 0, 1) := by decide +kernel
theorem dX7_append_31 : decode cX7_append 31 = .ok (.getfield 81, 3) := by decide +kernel
theorem dX7_append_34 : decode cX7_append 34 = .ok (.iload_n 1, 1) := by decide +kernel
theorem dX7_append_35 : decode cX7_append 35 = .ok (.iastore, 1) := by decide +kernel
theorem dX7_append_36 : decode cX7_append 36 = .ok (.aload_n 0, 1) := by decide +kernel
theorem dX7_append_37 : decode cX7_append 37 = .ok (.dup, 1) := by decide +kernel
theorem dX7_append_38 : decode cX7_append 38 = .ok (.getfield 81, 3) := by decide +kernel
theorem dX7_append_41 : decode cX7_append 41 = .ok (.iconst 1, 1) := by decide +kernel
theorem dX7_append_42 : decode cX7_append 42 = .ok (.iadd, 1) := by decide +kernel
theorem dX7_append_43 : decode cX7_append 43 = .ok (.putfield 81, 3) := by decide +kernel
theorem dX7_append_46 : decode cX7_append 46 = .ok (.aload_n 0, 1) := by decide +kernel
theorem dX7_append_47 : decode cX7_append 47 = .ok (.getfield 81, 3) := by decide +kernel
theorem dX7_append_50 : decode cX7_append 50 = .ok (.ireturn, 1) := by decide +kernel
theorem dX7_clearText_0 : decode cX7_clearText 0 = .ok (.aload_n 0, 1) := by decide +kernel
theorem dX7_clearText_1 : decode cX7_clearText 1 = .ok (.getfield 81, 3) := by decide +kernel
theorem dX7_clearText_4 : decode cX7_clearText 4 = .ok (.istore_n 1, 1) := by decide +kernel
theorem dX7_clearText_5 : decode cX7_clearText 5 = .ok (.aload_n 0, 1) := by decide +kernel
theorem dX7_clearText_6 : decode cX7_clearText 6 = .ok (.iconst 0, 1) := by decide +kernel
theorem dX7_clearText_7 : decode cX7_clearText 7 = .ok (.putfield 81, 3) := by decide +kernel
theorem dX7_clearText_10 : decode cX7_clearText 10 = .ok (.iload_n 1, 1) := by decide +kernel
theorem dX7_clearText_11 : decode cX7_clearText 11 = .ok (.ireturn, 1) := by decide +kernel
theorem dX7_next_0 : decode cX7_next 0 = .ok (.aload_n 0, 1) := by decide +kernel
theorem dX7_next_1 : decode cX7_next 1 = .ok (.getfield 88, 3) := by decide +kernel
theorem dX7_next_4 : decode cX7_next 4 = .ok (.aload_n 0, 1) := by decide +kernel
theorem dX7_next_5 : decode cX7_next 5 = .ok (.getfield 81, 3) := by decide +kernel
theorem dX7_next_8 : decode cX7_next 8 = .ok (.if_icmp .ge 15, 3) := by decide +kernel
theorem dX7_next_11 : decode cX7_next 11 = .ok (.aload_n 0, 1) := by decide +kernel
theorem dX7_next_12 : decode cX7_next 12 = .ok (.getfield 19, 3) := by decide +kernel
theorem dX7_next_15 : decode cX7_next 15 = .ok (.aload_n 0, 1) := by decide +kernel
theorem dX7_next_16 : decode cX7_next 16 = .ok (.getfield 88, 3) := by decide +kernel
theorem dX7_next_19 : decode cX7_next 19 = .ok (.iaload, 1) := by decide +kernel
theorem dX7_next_20 : decode cX7_next 20 = .ok (.goto 4, 3) := by decide +kernel
theorem dX7_next_23 : decode cX7_next 23 = .ok (.iconst 0, 1) := by decide +kernel
theorem dX7_next_24 : decode cX7_next 24 = .ok (.ireturn, 1) := by decide +kernel
set_option maxRecDepth 20000 in
theorem ggX7_sign_X7_next : GoodIn wsX7_sign wsX7_next := goodIn_r _ [7, 2, 8, 9, 10, 11, 12, 13, 14, 15, 16, 17, 18, 19, 20] (by decide +kernel) (by decide +kernel)
set_option maxRecDepth 20000 in
theorem gX7_sign_X7_next : GoodIn wsX7_sign (wsV RX7 129 RX7 yX7_next wsX7_next) := goodIn_app (goodIn_of _ (by decide +kernel)) ggX7_sign_X7_next
theorem dX7_sign_0 : decode cX7_sign 0 = .ok (.aload_n 0, 1) := by decide +kernel
theorem dX7_sign_1 : decode cX7_sign 1 = .ok (.aload_n 0, 1) := by decide +kernel
theorem dX7_sign_2 : decode cX7_sign 2 = .ok (.getfield 125, 3) := by decide +kernel
theorem dX7_sign_5 : decode cX7_sign 5 = .ok (.ifCond .ne 11, 3) := by decide +kernel
theorem dX7_sign_8 : decode cX7_sign 8 = .ok (.aload_n 0, 1) := by decide +kernel
theorem dX7_sign_9 : decode cX7_sign 9 = .ok (.invokevirtual 129, 3) := by decide +kernel
theorem dX7_sign_12 : decode cX7_sign 12 = .ok (.iload_n 1, 1) := by decide +kernel
theorem dX7_sign_13 : decode cX7_sign 13 = .ok (.if_icmp .eq 7, 3) := by decide +kernel
theorem dX7_sign_16 : decode cX7_sign 16 = .ok (.iconst 1, 1) := by decide +kernel
theorem dX7_sign_17 : decode cX7_sign 17 = .ok (.goto 4, 3) := by decide +kernel
theorem dX7_sign_20 : decode cX7_sign 20 = .ok (.iconst 0, 1) := by decide +kernel
theorem dX7_sign_21 : decode cX7_sign 21 = .ok (.putfield 125, 3) := by decide +kernel
theorem dX7_sign_24 : decode cX7_sign 24 = .ok (.aload_n 0, 1) := by decide +kernel
theorem dX7_sign_25 : decode cX7_sign 25 = .ok (.dup, 1) := by decide +kernel
theorem dX7_sign_26 : decode cX7_sign 26 = .ok (.getfield 88, 3) := by decide +kernel
theorem dX7_sign_29 : decode cX7_sign 29 = .ok (.aload_n 0, 1) := by decide +kernel
theorem dX7_sign_30 : decode cX7_sign 30 = .ok (.getfield 125, 3) := by decide +kernel
theorem dX7_sign_33 : decode cX7_sign 33 = .ok (.ifCond .eq 7, 3) := by decide +kernel
theorem dX7_sign_36 : decode cX7_sign 36 = .ok (.iconst 0, 1) := by decide +kernel
theorem dX7_sign_37 : decode cX7_sign 37 = .ok (.goto 4, 3) := by decide +kernel
theorem dX7_sign_40 : decode cX7_sign 40 = .ok (.iconst 1, 1) := by decide +kernel
theorem dX7_sign_41 : decode cX7_sign 41 = .ok (.iadd, 1) := by decide +kernel
theorem dX7_sign_42 : decode cX7_sign 42 = .ok (.putfield 88, 3) := by decide +kernel
theorem dX7_sign_45 : decode cX7_sign 45 = .ok (.return_, 1) := by decide +kernel
set_option maxRecDepth 20000 in
theorem ggX7_digit_X7_next : GoodIn wsX7_digit wsX7_next := goodIn_r _ [7, 2, 8, 9, 13, 14, 15, 16, 17, 18, 19, 20, 21, 22, 23] (by decide +kernel) (by decide +kernel)
set_option maxRecDepth 20000 in
theorem gX7_digit_X7_next : GoodIn wsX7_digit (wsV RX7 129 RX7 yX7_next wsX7_next) := goodIn_app (goodIn_of _ (by decide +kernel)) ggX7_digit_X7_next
set_option maxRecDepth 20000 in
theorem ggX7_digit_X7_in : GoodIn wsX7_digit wsX7_in := goodIn_r _ [12] (by decide +kernel) (by decide +kernel)
set_option maxRecDepth 20000 in
theorem gX7_digit_X7_in : GoodIn wsX7_digit (va_wsS RX7 26 yX7_in wsX7_in) := goodIn_app (goodIn_of _ (by decide +kernel)) ggX7_digit_X7_in
theorem dX7_digit_0 : decode cX7_digit 0 = .ok (.aload_n 0, 1) := by decide +kernel
theorem dX7_digit_1 : decode cX7_digit 1 = .ok (.invokevirtual 129, 3) := by decide +kernel
theorem dX7_digit_4 : decode cX7_digit 4 = .ok (.bipush 48, 2) := by decide +kernel
theorem dX7_digit_6 : decode cX7_digit 6 = .ok (.isub, 1) := by decide +kernel
theorem dX7_digit_7 : decode cX7_digit 7 = .ok (.istore_n 3, 1) := by decide +kernel
theorem dX7_digit_8 : decode cX7_digit 8 = .ok (.aload_n 0, 1) := by decide +kernel
theorem dX7_digit_9 : decode cX7_digit 9 = .ok (.aload_n 0, 1) := by decide +kernel
theorem dX7_digit_10 : decode cX7_digit 10 = .ok (.getfield 125, 3) := by decide +kernel
theorem dX7_digit_13 : decode cX7_digit 13 = .ok (.ifCond .ne 12, 3) := by decide +kernel
theorem dX7_digit_16 : decode cX7_digit 16 = .ok (.iload_n 3, 1) := by decide +kernel
theorem dX7_digit_17 : decode cX7_digit 17 = .ok (.iload_n 1, 1) := by decide +kernel
theorem dX7_digit_18 : decode cX7_digit 18 = .ok (.iload_n 2, 1) := by decide +kernel
theorem dX7_digit_19 : decode cX7_digit 19 = .ok (.invokestatic 26, 3) := by decide +kernel
theorem dX7_digit_22 : decode cX7_digit 22 = .ok (.ifCond .ne 7, 3) := by decide +kernel
theorem dX7_digit_25 : decode cX7_digit 25 = .ok (.iconst 1, 1) := by decide +kernel
theorem dX7_digit_26 : decode cX7_digit 26 = .ok (.goto 4, 3) := by decide +kernel
theorem dX7_digit_29 : decode cX7_digit 29 = .ok (.iconst 0, 1) := by decide +kernel
theorem dX7_digit_30 : decode cX7_digit 30 = .ok (.putfield 125, 3) := by decide +kernel
theorem dX7_digit_33 : decode cX7_digit 33 = .ok (.aload_n 0, 1) := by decide +kernel
theorem dX7_digit_34 : decode cX7_digit 34 = .ok (.dup, 1) := by decide +kernel
theorem dX7_digit_35 : decode cX7_digit 35 = .ok (.getfield 88, 3) := by decide +kernel
theorem dX7_digit_38 : decode cX7_digit 38 = .ok (.aload_n 0, 1) := by decide +kernel
theorem dX7_digit_39 : decode cX7_digit 39 = .ok (.getfield 125, 3) := by decide +kernel
theorem dX7_digit_42 : decode cX7_digit 42 = .ok (.ifCond .eq 7, 3) := by decide +kernel
theorem dX7_digit_45 : decode cX7_digit 45 = .ok (.iconst 0, 1) := by decide +kernel
theorem dX7_digit_46 : decode cX7_digit 46 = .ok (.goto 4, 3) := by decide +kernel
theorem dX7_digit_49 : decode cX7_digit 49 = .ok (.iconst 1, 1) := by decide +kernel
theorem dX7_digit_50 : decode cX7_digit 50 = .ok (.iadd, 1) := by decide +kernel
theorem dX7_digit_51 : decode cX7_digit 51 = .ok (.putfield 88, 3) := by decide +kernel
theorem dX7_digit_54 : decode cX7_digit 54 = .ok (.iload_n 3, 1) := by decide +kernel
theorem dX7_digit_55 : decode cX7_digit 55 = .ok (.ireturn, 1) := by decide +kernel
set_option maxRecDepth 20000 in
theorem ggX7_upTo_X7_digit : GoodIn wsX7_upTo wsX7_digit := goodIn_r _ [7, 1, 2, 8, 9, 10, 6, 11, 12, 13, 14, 15, 16, 17, 18, 19, 20, 21, 22, 23, 24, 25, 26, 27] (by decide +kernel) (by decide +kernel)
set_option maxRecDepth 20000 in
theorem gX7_upTo_X7_digit : GoodIn wsX7_upTo (wsV RX7 132 RX7 yX7_digit wsX7_digit) := goodIn_app (goodIn_of _ (by decide +kernel)) ggX7_upTo_X7_digit
set_option maxRecDepth 20000 in
theorem ggX7_upTo_X7_next : GoodIn wsX7_upTo wsX7_next := goodIn_r _ [11, 2, 12, 13, 17, 18, 19, 20, 21, 22, 23, 24, 25, 26, 27] (by decide +kernel) (by decide +kernel)
set_option maxRecDepth 20000 in
theorem gX7_upTo_X7_next : GoodIn wsX7_upTo (wsV RX7 129 RX7 yX7_next wsX7_next) := goodIn_app (goodIn_of _ (by decide +kernel)) ggX7_upTo_X7_next
set_option maxRecDepth 20000 in
theorem ggX7_upTo_X7_in : GoodIn wsX7_upTo wsX7_in := goodIn_r _ [16] (by decide +kernel) (by decide +kernel)
set_option maxRecDepth 20000 in
theorem gX7_upTo_X7_in : GoodIn wsX7_upTo (va_wsS RX7 26 yX7_in wsX7_in) := goodIn_app (goodIn_of _ (by decide +kernel)) ggX7_upTo_X7_in
theorem dX7_upTo_0 : decode cX7_upTo 0 = .ok (.aload_n 0, 1) := by decide +kernel
theorem dX7_upTo_1 : decode cX7_upTo 1 = .ok (.iload_n 1, 1) := by decide +kernel
theorem dX7_upTo_2 : decode cX7_upTo 2 = .ok (.bipush 9, 2) := by decide +kernel
theorem dX7_upTo_4 : decode cX7_upTo 4 = .ok (.invokevirtual 132, 3) := by decide +kernel
theorem dX7_upTo_7 : decode cX7_upTo 7 = .ok (.istore_n 3, 1) := by decide +kernel
theorem dX7_upTo_8 : decode cX7_upTo 8 = .ok (.bipush 10, 2) := by decide +kernel
theorem dX7_upTo_10 : decode cX7_upTo 10 = .ok (.iload_n 3, 1) := by decide +kernel
theorem dX7_upTo_11 : decode cX7_upTo 11 = .ok (.imul, 1) := by decide +kernel
theorem dX7_upTo_12 : decode cX7_upTo 12 = .ok (.aload_n 0, 1) := by decide +kernel
theorem dX7_upTo_13 : decode cX7_upTo 13 = .ok (.invokevirtual 129, 3) := by decide +kernel
theorem dX7_upTo_16 : decode cX7_upTo 16 = .ok (.iadd, 1) := by decide +kernel
theorem dX7_upTo_17 : decode cX7_upTo 17 = .ok (.bipush 48, 2) := by decide +kernel
theorem dX7_upTo_19 : decode cX7_upTo 19 = .ok (.isub, 1) := by decide +kernel
theorem dX7_upTo_20 : decode cX7_upTo 20 = .ok (.istore 4, 2) := by decide +kernel
theorem dX7_upTo_22 : decode cX7_upTo 22 = .ok (.aload_n 0, 1) := by decide +kernel
theorem dX7_upTo_23 : decode cX7_upTo 23 = .ok (.getfield 125, 3) := by decide +kernel
theorem dX7_upTo_26 : decode cX7_upTo 26 = .ok (.ifCond .ne 40, 3) := by decide +kernel
theorem dX7_upTo_29 : decode cX7_upTo 29 = .ok (.iload_n 3, 1) := by decide +kernel
theorem dX7_upTo_30 : decode cX7_upTo 30 = .ok (.ifCond .le 36, 3) := by decide +kernel
theorem dX7_upTo_33 : decode cX7_upTo 33 = .ok (.aload_n 0, 1) := by decide +kernel
theorem dX7_upTo_34 : decode cX7_upTo 34 = .ok (.invokevirtual 129, 3) := by decide +kernel
theorem dX7_upTo_37 : decode cX7_upTo 37 = .ok (.bipush 48, 2) := by decide +kernel
theorem dX7_upTo_39 : decode cX7_upTo 39 = .ok (.bipush 57, 2) := by decide +kernel
theorem dX7_upTo_41 : decode cX7_upTo 41 = .ok (.invokestatic 26, 3) := by decide +kernel
theorem dX7_upTo_44 : decode cX7_upTo 44 = .ok (.ifCond .eq 22, 3) := by decide +kernel
theorem dX7_upTo_47 : decode cX7_upTo 47 = .ok (.iload 4, 2) := by decide +kernel
theorem dX7_upTo_49 : decode cX7_upTo 49 = .ok (.iload_n 2, 1) := by decide +kernel
theorem dX7_upTo_50 : decode cX7_upTo 50 = .ok (.if_icmp .gt 16, 3) := by decide +kernel
theorem dX7_upTo_53 : decode cX7_upTo 53 = .ok (.aload_n 0, 1) := by decide +kernel
theorem dX7_upTo_54 : decode cX7_upTo 54 = .ok (.dup, 1) := by decide +kernel
theorem dX7_upTo_55 : decode cX7_upTo 55 = .ok (.getfield 88, 3) := by decide +kernel
theorem dX7_upTo_58 : decode cX7_upTo 58 = .ok (.iconst 1, 1) := by decide +kernel
theorem dX7_upTo_59 : decode cX7_upTo 59 = .ok (.iadd, 1) := by decide +kernel
theorem dX7_upTo_60 : decode cX7_upTo 60 = .ok (.putfield 88, 3) := by decide +kernel
theorem dX7_upTo_63 : decode cX7_upTo 63 = .ok (.iload 4, 2) := by decide +kernel
theorem dX7_upTo_65 : decode cX7_upTo 65 = .ok (.ireturn, 1) := by decide +kernel
theorem dX7_upTo_66 : decode cX7_upTo 66 = .ok (.iload_n 3, 1) := by decide +kernel
theorem dX7_upTo_67 : decode cX7_upTo 67 = .ok (.ireturn, 1) := by decide +kernel
set_option maxRecDepth 20000 in
theorem ggX7_number_X7_next : GoodIn wsX7_number wsX7_next := goodIn_r _ [7, 2, 8, 9, 21, 22, 23, 24, 25, 26, 27, 28, 29, 30, 31] (by decide +kernel) (by decide +kernel)
set_option maxRecDepth 20000 in
theorem gX7_number_X7_next : GoodIn wsX7_number (wsV RX7 129 RX7 yX7_next wsX7_next) := goodIn_app (goodIn_of _ (by decide +kernel)) ggX7_number_X7_next
set_option maxRecDepth 20000 in
theorem ggX7_number_X7_upTo : GoodIn wsX7_number wsX7_upTo := goodIn_r _ [13, 1, 2, 14, 15, 16, 6, 17, 3, 4, 5, 7, 8, 9, 18, 19, 20, 21, 22, 23, 24, 25, 26, 27, 28, 29, 30, 31] (by decide +kernel) (by decide +kernel)
set_option maxRecDepth 20000 in
theorem gX7_number_X7_upTo : GoodIn wsX7_number (wsV RX7 135 RX7 yX7_upTo wsX7_upTo) := goodIn_app (goodIn_of _ (by decide +kernel)) ggX7_number_X7_upTo
theorem dX7_number_0 : decode cX7_number 0 = .ok (.aload_n 0, 1) := by decide +kernel
theorem dX7_number_1 : decode cX7_number 1 = .ok (.getfield 125, 3) := by decide +kernel
theorem dX7_number_4 : decode cX7_number 4 = .ok (.ifCond .ne 31, 3) := by decide +kernel
theorem dX7_number_7 : decode cX7_number 7 = .ok (.aload_n 0, 1) := by decide +kernel
theorem dX7_number_8 : decode cX7_number 8 = .ok (.invokevirtual 129, 3) := by decide +kernel
theorem dX7_number_11 : decode cX7_number 11 = .ok (.bipush 45, 2) := by decide +kernel
theorem dX7_number_13 : decode cX7_number 13 = .ok (.if_icmp .ne 22, 3) := by decide +kernel
theorem dX7_number_16 : decode cX7_number 16 = .ok (.aload_n 0, 1) := by decide +kernel
theorem dX7_number_17 : decode cX7_number 17 = .ok (.dup, 1) := by decide +kernel
theorem dX7_number_18 : decode cX7_number 18 = .ok (.getfield 88, 3) := by decide +kernel
theorem dX7_number_21 : decode cX7_number 21 = .ok (.iconst 1, 1) := by decide +kernel
theorem dX7_number_22 : decode cX7_number 22 = .ok (.iadd, 1) := by decide +kernel
theorem dX7_number_23 : decode cX7_number 23 = .ok (.putfield 88, 3) := by decide +kernel
theorem dX7_number_26 : decode cX7_number 26 = .ok (.aload_n 0, 1) := by decide +kernel
theorem dX7_number_27 : decode cX7_number 27 = .ok (.iconst 1, 1) := by decide +kernel
theorem dX7_number_28 : decode cX7_number 28 = .ok (.bipush 99, 2) := by decide +kernel
theorem dX7_number_30 : decode cX7_number 30 = .ok (.invokevirtual 135, 3) := by decide +kernel
theorem dX7_number_33 : decode cX7_number 33 = .ok (.ineg, 1) := by decide +kernel
theorem dX7_number_34 : decode cX7_number 34 = .ok (.ireturn, 1) := by decide +kernel
theorem dX7_number_35 : decode cX7_number 35 = .ok (.aload_n 0, 1) := by decide +kernel
theorem dX7_number_36 : decode cX7_number 36 = .ok (.iconst 0, 1) := by decide +kernel
theorem dX7_number_37 : decode cX7_number 37 = .ok (.bipush 99, 2) := by decide +kernel
theorem dX7_number_39 : decode cX7_number 39 = .ok (.invokevirtual 135, 3) := by decide +kernel
theorem dX7_number_42 : decode cX7_number 42 = .ok (.ireturn, 1) := by decide +kernel
theorem dX7_operationOf_0 : decode cX7_operationOf 0 = .ok (.iload_n 0, 1) := by decide +kernel
theorem dX7_operationOf_1 : decode cX7_operationOf 1 = .ok (.tableswitch 149 97 122 #[121, 143, 149, 123, 149, 149, 149, 146, 149, 134, 149, 127, 125, 140, 149, 149, 149, 149, 119, 149, 149, 149, 129, 131, 149, 137], 119) := by decide +kernel
theorem dX7_operationOf_120 : decode cX7_operationOf 120 = .ok (.iconst 0, 1) := by decide +kernel
theorem dX7_operationOf_121 : decode cX7_operationOf 121 = .ok (.ireturn, 1) := by decide +kernel
theorem dX7_operationOf_122 : decode cX7_operationOf 122 = .ok (.iconst 1, 1) := by decide +kernel
theorem dX7_operationOf_123 : decode cX7_operationOf 123 = .ok (.ireturn, 1) := by decide +kernel
theorem dX7_operationOf_124 : decode cX7_operationOf 124 = .ok (.iconst 2, 1) := by decide +kernel
theorem dX7_operationOf_125 : decode cX7_operationOf 125 = .ok (.ireturn, 1) := by decide +kernel
theorem dX7_operationOf_126 : decode cX7_operationOf 126 = .ok (.iconst 3, 1) := by decide +kernel
theorem dX7_operationOf_127 : decode cX7_operationOf 127 = .ok (.ireturn, 1) := by decide +kernel
theorem dX7_operationOf_128 : decode cX7_operationOf 128 = .ok (.iconst 4, 1) := by decide +kernel
theorem dX7_operationOf_129 : decode cX7_operationOf 129 = .ok (.ireturn, 1) := by decide +kernel
theorem dX7_operationOf_130 : decode cX7_operationOf 130 = .ok (.iconst 5, 1) := by decide +kernel
theorem dX7_operationOf_131 : decode cX7_operationOf 131 = .ok (.ireturn, 1) := by decide +kernel
theorem dX7_operationOf_132 : decode cX7_operationOf 132 = .ok (.bipush 6, 2) := by decide +kernel
theorem dX7_operationOf_134 : decode cX7_operationOf 134 = .ok (.ireturn, 1) := by decide +kernel
theorem dX7_operationOf_135 : decode cX7_operationOf 135 = .ok (.bipush 7, 2) := by decide +kernel
theorem dX7_operationOf_137 : decode cX7_operationOf 137 = .ok (.ireturn, 1) := by decide +kernel
theorem dX7_operationOf_138 : decode cX7_operationOf 138 = .ok (.bipush 8, 2) := by decide +kernel
theorem dX7_operationOf_140 : decode cX7_operationOf 140 = .ok (.ireturn, 1) := by decide +kernel
theorem dX7_operationOf_141 : decode cX7_operationOf 141 = .ok (.bipush 9, 2) := by decide +kernel
theorem dX7_operationOf_143 : decode cX7_operationOf 143 = .ok (.ireturn, 1) := by decide +kernel
theorem dX7_operationOf_144 : decode cX7_operationOf 144 = .ok (.bipush 10, 2) := by decide +kernel
theorem dX7_operationOf_146 : decode cX7_operationOf 146 = .ok (.ireturn, 1) := by decide +kernel
theorem dX7_operationOf_147 : decode cX7_operationOf 147 = .ok (.bipush 11, 2) := by decide +kernel
theorem dX7_operationOf_149 : decode cX7_operationOf 149 = .ok (.ireturn, 1) := by decide +kernel
theorem dX7_operationOf_150 : decode cX7_operationOf 150 = .ok (.iconst (-1), 1) := by decide +kernel
theorem dX7_operationOf_151 : decode cX7_operationOf 151 = .ok (.ireturn, 1) := by decide +kernel
set_option maxRecDepth 20000 in
theorem ggX7_instruction_X7_next : GoodIn wsX7_instruction wsX7_next := goodIn_r _ [10, 5, 11, 12, 35, 36, 37, 38, 39, 40, 41, 42, 43, 44, 45] (by decide +kernel) (by decide +kernel)
set_option maxRecDepth 20000 in
theorem gX7_instruction_X7_next : GoodIn wsX7_instruction (wsV RX7 129 RX7 yX7_next wsX7_next) := goodIn_app (goodIn_of _ (by decide +kernel)) ggX7_instruction_X7_next
set_option maxRecDepth 20000 in
theorem ggX7_instruction_X7_operationOf : GoodIn wsX7_instruction wsX7_operationOf := goodIn_r _ [15] (by decide +kernel) (by decide +kernel)
set_option maxRecDepth 20000 in
theorem gX7_instruction_X7_operationOf : GoodIn wsX7_instruction (va_wsS RX7 138 yX7_operationOf wsX7_operationOf) := goodIn_app (goodIn_of _ (by decide +kernel)) ggX7_instruction_X7_operationOf
set_option maxRecDepth 20000 in
theorem ggX7_instruction_X7_upTo : GoodIn wsX7_instruction wsX7_upTo := goodIn_r _ [19, 4, 5, 20, 21, 22, 9, 23, 6, 7, 8, 10, 11, 12, 24, 25, 26, 35, 36, 37, 38, 39, 40, 41, 42, 43, 44, 45] (by decide +kernel) (by decide +kernel)
set_option maxRecDepth 20000 in
theorem gX7_instruction_X7_upTo : GoodIn wsX7_instruction (wsV RX7 135 RX7 yX7_upTo wsX7_upTo) := goodIn_app (goodIn_of _ (by decide +kernel)) ggX7_instruction_X7_upTo
set_option maxRecDepth 20000 in
theorem ggX7_instruction_X7_digit : GoodIn wsX7_instruction wsX7_digit := goodIn_r _ [23, 4, 5, 6, 7, 8, 9, 10, 11, 12, 24, 25, 26, 35, 36, 37, 38, 39, 40, 41, 42, 43, 44, 45] (by decide +kernel) (by decide +kernel)
set_option maxRecDepth 20000 in
theorem gX7_instruction_X7_digit : GoodIn wsX7_instruction (wsV RX7 132 RX7 yX7_digit wsX7_digit) := goodIn_app (goodIn_of _ (by decide +kernel)) ggX7_instruction_X7_digit
set_option maxRecDepth 20000 in
theorem ggX7_instruction_X7_sign : GoodIn wsX7_instruction wsX7_sign := goodIn_r _ [30, 4, 5, 6, 7, 8, 9, 10, 11, 12, 35, 36, 37, 38, 39, 40, 41, 42, 43, 44, 45] (by decide +kernel) (by decide +kernel)
set_option maxRecDepth 20000 in
theorem gX7_instruction_X7_sign : GoodIn wsX7_instruction (wsV RX7 141 RX7 yX7_sign wsX7_sign) := goodIn_app (goodIn_of _ (by decide +kernel)) ggX7_instruction_X7_sign
set_option maxRecDepth 20000 in
theorem ggX7_instruction_X7_number : GoodIn wsX7_instruction wsX7_number := goodIn_r _ [34, 4, 5, 6, 7, 8, 9, 10, 11, 12, 16, 17, 18, 19, 20, 21, 22, 23, 24, 25, 26, 35, 36, 37, 38, 39, 40, 41, 42, 43, 44, 45] (by decide +kernel) (by decide +kernel)
set_option maxRecDepth 20000 in
theorem gX7_instruction_X7_number : GoodIn wsX7_instruction (wsV RX7 144 RX7 yX7_number wsX7_number) := goodIn_app (goodIn_of _ (by decide +kernel)) ggX7_instruction_X7_number
theorem dX7_instruction_0 : decode cX7_instruction 0 = .ok (.aload_n 0, 1) := by decide +kernel
theorem dX7_instruction_1 : decode cX7_instruction 1 = .ok (.aload_n 0, 1) := by decide +kernel
theorem dX7_instruction_2 : decode cX7_instruction 2 = .ok (.invokevirtual 129, 3) := by decide +kernel
theorem dX7_instruction_5 : decode cX7_instruction 5 = .ok (.invokestatic 138, 3) := by decide +kernel
theorem dX7_instruction_8 : decode cX7_instruction 8 = .ok (.putfield 94, 3) := by decide +kernel
theorem dX7_instruction_11 : decode cX7_instruction 11 = .ok (.aload_n 0, 1) := by decide +kernel
theorem dX7_instruction_12 : decode cX7_instruction 12 = .ok (.iconst 0, 1) := by decide +kernel
theorem dX7_instruction_13 : decode cX7_instruction 13 = .ok (.putfield 97, 3) := by decide +kernel
theorem dX7_instruction_16 : decode cX7_instruction 16 = .ok (.aload_n 0, 1) := by decide +kernel
theorem dX7_instruction_17 : decode cX7_instruction 17 = .ok (.iconst 0, 1) := by decide +kernel
theorem dX7_instruction_18 : decode cX7_instruction 18 = .ok (.putfield 100, 3) := by decide +kernel
theorem dX7_instruction_21 : decode cX7_instruction 21 = .ok (.aload_n 0, 1) := by decide +kernel
theorem dX7_instruction_22 : decode cX7_instruction 22 = .ok (.getfield 94, 3) := by decide +kernel
theorem dX7_instruction_25 : decode cX7_instruction 25 = .ok (.iconst (-1), 1) := by decide +kernel
theorem dX7_instruction_26 : decode cX7_instruction 26 = .ok (.if_icmp .ne 9, 3) := by decide +kernel
theorem dX7_instruction_29 : decode cX7_instruction 29 = .ok (.aload_n 0, 1) := by decide +kernel
theorem dX7_instruction_30 : decode cX7_instruction 30 = .ok (.iconst 1, 1) := by decide +kernel
theorem dX7_instruction_31 : decode cX7_instruction 31 = .ok (.putfield 125, 3) := by decide +kernel
theorem dX7_instruction_34 : decode cX7_instruction 34 = .ok (.return_, 1) := by decide +kernel
theorem dX7_instruction_35 : decode cX7_instruction 35 = .ok (.aload_n 0, 1) := by decide +kernel
theorem dX7_instruction_36 : decode cX7_instruction 36 = .ok (.dup, 1) := by decide +kernel
theorem dX7_instruction_37 : decode cX7_instruction 37 = .ok (.getfield 88, 3) := by decide +kernel
theorem dX7_instruction_40 : decode cX7_instruction 40 = .ok (.iconst 1, 1) := by decide +kernel
theorem dX7_instruction_41 : decode cX7_instruction 41 = .ok (.iadd, 1) := by decide +kernel
theorem dX7_instruction_42 : decode cX7_instruction 42 = .ok (.putfield 88, 3) := by decide +kernel
theorem dX7_instruction_45 : decode cX7_instruction 45 = .ok (.aload_n 0, 1) := by decide +kernel
theorem dX7_instruction_46 : decode cX7_instruction 46 = .ok (.getfield 94, 3) := by decide +kernel
theorem dX7_instruction_49 : decode cX7_instruction 49 = .ok (.bipush 7, 2) := by decide +kernel
theorem dX7_instruction_51 : decode cX7_instruction 51 = .ok (.if_icmp .ne 17, 3) := by decide +kernel
theorem dX7_instruction_54 : decode cX7_instruction 54 = .ok (.aload_n 0, 1) := by decide +kernel
theorem dX7_instruction_55 : decode cX7_instruction 55 = .ok (.aload_n 0, 1) := by decide +kernel
theorem dX7_instruction_56 : decode cX7_instruction 56 = .ok (.iconst 0, 1) := by decide +kernel
theorem dX7_instruction_57 : decode cX7_instruction 57 = .ok (.bipush 47, 2) := by decide +kernel
theorem dX7_instruction_59 : decode cX7_instruction 59 = .ok (.invokevirtual 135, 3) := by decide +kernel
theorem dX7_instruction_62 : decode cX7_instruction 62 = .ok (.putfield 97, 3) := by decide +kernel
theorem dX7_instruction_65 : decode cX7_instruction 65 = .ok (.goto 85, 3) := by decide +kernel
theorem dX7_instruction_68 : decode cX7_instruction 68 = .ok (.aload_n 0, 1) := by decide +kernel
theorem dX7_instruction_69 : decode cX7_instruction 69 = .ok (.getfield 94, 3) := by decide +kernel
theorem dX7_instruction_72 : decode cX7_instruction 72 = .ok (.bipush 10, 2) := by decide +kernel
theorem dX7_instruction_74 : decode cX7_instruction 74 = .ok (.if_icmp .ge 76, 3) := by decide +kernel
theorem dX7_instruction_77 : decode cX7_instruction 77 = .ok (.aload_n 0, 1) := by decide +kernel
theorem dX7_instruction_78 : decode cX7_instruction 78 = .ok (.aload_n 0, 1) := by decide +kernel
theorem dX7_instruction_79 : decode cX7_instruction 79 = .ok (.iconst 0, 1) := by decide +kernel
theorem dX7_instruction_80 : decode cX7_instruction 80 = .ok (.iconst 3, 1) := by decide +kernel
theorem dX7_instruction_81 : decode cX7_instruction 81 = .ok (.invokevirtual 132, 3) := by decide +kernel
theorem dX7_instruction_84 : decode cX7_instruction 84 = .ok (.putfield 97, 3) := by decide +kernel
theorem dX7_instruction_87 : decode cX7_instruction 87 = .ok (.aload_n 0, 1) := by decide +kernel
theorem dX7_instruction_88 : decode cX7_instruction 88 = .ok (.getfield 94, 3) := by decide +kernel
theorem dX7_instruction_91 : decode cX7_instruction 91 = .ok (.ifCond .ne 20, 3) := by decide +kernel
theorem dX7_instruction_94 : decode cX7_instruction 94 = .ok (.aload_n 0, 1) := by decide +kernel
theorem dX7_instruction_95 : decode cX7_instruction 95 = .ok (.bipush 61, 2) := by decide +kernel
theorem dX7_instruction_97 : decode cX7_instruction 97 = .ok (.invokevirtual 141, 3) := by decide +kernel
theorem dX7_instruction_100 : decode cX7_instruction 100 = .ok (.aload_n 0, 1) := by decide +kernel
theorem dX7_instruction_101 : decode cX7_instruction 101 = .ok (.aload_n 0, 1) := by decide +kernel
theorem dX7_instruction_102 : decode cX7_instruction 102 = .ok (.invokevirtual 144, 3) := by decide +kernel
theorem dX7_instruction_105 : decode cX7_instruction 105 = .ok (.putfield 100, 3) := by decide +kernel
theorem dX7_instruction_108 : decode cX7_instruction 108 = .ok (.goto 42, 3) := by decide +kernel
theorem dX7_instruction_111 : decode cX7_instruction 111 = .ok (.aload_n 0, 1) := by decide +kernel
theorem dX7_instruction_112 : decode cX7_instruction 112 = .ok (.getfield 94, 3) := by decide +kernel
theorem dX7_instruction_115 : decode cX7_instruction 115 = .ok (.bipush 7, 2) := by decide +kernel
theorem dX7_instruction_117 : decode cX7_instruction 117 = .ok (.if_icmp .ge 16, 3) := by decide +kernel
theorem dX7_instruction_120 : decode cX7_instruction 120 = .ok (.aload_n 0, 1) := by decide +kernel
theorem dX7_instruction_121 : decode cX7_instruction 121 = .ok (.aload_n 0, 1) := by decide +kernel
theorem dX7_instruction_122 : decode cX7_instruction 122 = .ok (.iconst 0, 1) := by decide +kernel
theorem dX7_instruction_123 : decode cX7_instruction 123 = .ok (.iconst 3, 1) := by decide +kernel
theorem dX7_instruction_124 : decode cX7_instruction 124 = .ok (.invokevirtual 132, 3) := by decide +kernel
theorem dX7_instruction_127 : decode cX7_instruction 127 = .ok (.putfield 100, 3) := by decide +kernel
theorem dX7_instruction_130 : decode cX7_instruction 130 = .ok (.goto 20, 3) := by decide +kernel
theorem dX7_instruction_133 : decode cX7_instruction 133 = .ok (.aload_n 0, 1) := by decide +kernel
theorem dX7_instruction_134 : decode cX7_instruction 134 = .ok (.bipush 62, 2) := by decide +kernel
theorem dX7_instruction_136 : decode cX7_instruction 136 = .ok (.invokevirtual 141, 3) := by decide +kernel
theorem dX7_instruction_139 : decode cX7_instruction 139 = .ok (.aload_n 0, 1) := by decide +kernel
theorem dX7_instruction_140 : decode cX7_instruction 140 = .ok (.aload_n 0, 1) := by decide +kernel
theorem dX7_instruction_141 : decode cX7_instruction 141 = .ok (.iconst 0, 1) := by decide +kernel
theorem dX7_instruction_142 : decode cX7_instruction 142 = .ok (.bipush 47, 2) := by decide +kernel
theorem dX7_instruction_144 : decode cX7_instruction 144 = .ok (.invokevirtual 135, 3) := by decide +kernel
theorem dX7_instruction_147 : decode cX7_instruction 147 = .ok (.putfield 100, 3) := by decide +kernel
theorem dX7_instruction_150 : decode cX7_instruction 150 = .ok (.return_, 1) := by decide +kernel
set_option maxRecDepth 20000 in
theorem ggX7_isFaulty_X7_instruction : GoodIn wsX7_isFaulty wsX7_instruction := goodIn_r _ [8, 9, 10, 11, 2, 1, 12, 13, 14, 7, 15, 3, 16, 17, 18, 19, 20, 21, 22, 23, 24, 25, 26, 27, 28, 29, 30, 31, 32, 33, 34, 35, 36, 37, 38, 39, 40, 41, 42, 43, 44, 45, 46, 47, 48, 49] (by decide +kernel) (by decide +kernel)
set_option maxRecDepth 20000 in
theorem gX7_isFaulty_X7_instruction : GoodIn wsX7_isFaulty (wsV RX7 91 RX7 yX7_instruction wsX7_instruction) := goodIn_app (goodIn_of _ (by decide +kernel)) ggX7_isFaulty_X7_instruction
set_option maxRecDepth 20000 in
theorem ggX7_isFaulty_X7_sign : GoodIn wsX7_isFaulty wsX7_sign := goodIn_r _ [34, 2, 1, 12, 13, 14, 7, 15, 3, 16, 39, 40, 41, 42, 43, 44, 45, 46, 47, 48, 49] (by decide +kernel) (by decide +kernel)
set_option maxRecDepth 20000 in
theorem gX7_isFaulty_X7_sign : GoodIn wsX7_isFaulty (wsV RX7 141 RX7 yX7_sign wsX7_sign) := goodIn_app (goodIn_of _ (by decide +kernel)) ggX7_isFaulty_X7_sign
theorem dX7_isFaulty_0 : decode cX7_isFaulty 0 = .ok (.aload_n 0, 1) := by decide +kernel
theorem dX7_isFaulty_1 : decode cX7_isFaulty 1 = .ok (.iconst 0, 1) := by decide +kernel
theorem dX7_isFaulty_2 : decode cX7_isFaulty 2 = .ok (.putfield 88, 3) := by decide +kernel
theorem dX7_isFaulty_5 : decode cX7_isFaulty 5 = .ok (.aload_n 0, 1) := by decide +kernel
theorem dX7_isFaulty_6 : decode cX7_isFaulty 6 = .ok (.iconst 0, 1) := by decide +kernel
theorem dX7_isFaulty_7 : decode cX7_isFaulty 7 = .ok (.putfield 125, 3) := by decide +kernel
theorem dX7_isFaulty_10 : decode cX7_isFaulty 10 = .ok (.iconst 1, 1) := by decide +kernel
theorem dX7_isFaulty_11 : decode cX7_isFaulty 11 = .ok (.istore_n 1, 1) := by decide +kernel
theorem dX7_isFaulty_12 : decode cX7_isFaulty 12 = .ok (.iload_n 1, 1) := by decide +kernel
theorem dX7_isFaulty_13 : decode cX7_isFaulty 13 = .ok (.ifCond .eq 57, 3) := by decide +kernel
theorem dX7_isFaulty_16 : decode cX7_isFaulty 16 = .ok (.aload_n 0, 1) := by decide +kernel
theorem dX7_isFaulty_17 : decode cX7_isFaulty 17 = .ok (.invokevirtual 91, 3) := by decide +kernel
theorem dX7_isFaulty_20 : decode cX7_isFaulty 20 = .ok (.aload_n 0, 1) := by decide +kernel
theorem dX7_isFaulty_21 : decode cX7_isFaulty 21 = .ok (.getfield 125, 3) := by decide +kernel
theorem dX7_isFaulty_24 : decode cX7_isFaulty 24 = .ok (.ifCond .ne 18, 3) := by decide +kernel
theorem dX7_isFaulty_27 : decode cX7_isFaulty 27 = .ok (.aload_n 0, 1) := by decide +kernel
theorem dX7_isFaulty_28 : decode cX7_isFaulty 28 = .ok (.getfield 88, 3) := by decide +kernel
theorem dX7_isFaulty_31 : decode cX7_isFaulty 31 = .ok (.aload_n 0, 1) := by decide +kernel
theorem dX7_isFaulty_32 : decode cX7_isFaulty 32 = .ok (.getfield 81, 3) := by decide +kernel
theorem dX7_isFaulty_35 : decode cX7_isFaulty 35 = .ok (.if_icmp .ge 7, 3) := by decide +kernel
theorem dX7_isFaulty_38 : decode cX7_isFaulty 38 = .ok (.iconst 1, 1) := by decide +kernel
theorem dX7_isFaulty_39 : decode cX7_isFaulty 39 = .ok (.goto 4, 3) := by decide +kernel
theorem dX7_isFaulty_42 : decode cX7_isFaulty 42 = .ok (.iconst 0, 1) := by decide +kernel
theorem dX7_isFaulty_43 : decode cX7_isFaulty 43 = .ok (.istore_n 1, 1) := by decide +kernel
theorem dX7_isFaulty_44 : decode cX7_isFaulty 44 = .ok (.iload_n 1, 1) := by decide +kernel
theorem dX7_isFaulty_45 : decode cX7_isFaulty 45 = .ok (.ifCond .eq (-33), 3) := by decide +kernel
theorem dX7_isFaulty_48 : decode cX7_isFaulty 48 = .ok (.aload_n 0, 1) := by decide +kernel
theorem dX7_isFaulty_49 : decode cX7_isFaulty 49 = .ok (.bipush 59, 2) := by decide +kernel
theorem dX7_isFaulty_51 : decode cX7_isFaulty 51 = .ok (.invokevirtual 141, 3) := by decide +kernel
theorem dX7_isFaulty_54 : decode cX7_isFaulty 54 = .ok (.aload_n 0, 1) := by decide +kernel
theorem dX7_isFaulty_55 : decode cX7_isFaulty 55 = .ok (.getfield 125, 3) := by decide +kernel
theorem dX7_isFaulty_58 : decode cX7_isFaulty 58 = .ok (.ifCond .ne 7, 3) := by decide +kernel
theorem dX7_isFaulty_61 : decode cX7_isFaulty 61 = .ok (.iconst 1, 1) := by decide +kernel
theorem dX7_isFaulty_62 : decode cX7_isFaulty 62 = .ok (.goto 4, 3) := by decide +kernel
theorem dX7_isFaulty_65 : decode cX7_isFaulty 65 = .ok (.iconst 0, 1) := by decide +kernel
theorem dX7_isFaulty_66 : decode cX7_isFaulty 66 = .ok (.istore_n 1, 1) := by decide +kernel
theorem dX7_isFaulty_67 : decode cX7_isFaulty 67 = .ok (.goto (-55), 3) := by decide +kernel
theorem dX7_isFaulty_70 : decode cX7_isFaulty 70 = .ok (.aload_n 0, 1) := by decide +kernel
theorem dX7_isFaulty_71 : decode cX7_isFaulty 71 = .ok (.getfield 125, 3) := by decide +kernel
theorem dX7_isFaulty_74 : decode cX7_isFaulty 74 = .ok (.ireturn, 1) := by decide +kernel
set_option maxRecDepth 20000 in
theorem ggX7_fault_X7_isFaulty : GoodIn wsX7_fault wsX7_isFaulty := goodIn_r _ [7, 1, 8, 9, 10, 11, 12, 6, 13, 14, 15, 16, 17, 18, 19, 20, 21, 22, 23, 24, 25, 26, 27, 28, 29, 30, 31, 32, 33, 34, 35, 36, 37, 38, 39, 40, 41, 42, 43, 44, 45, 46, 47, 48, 49, 50, 51, 52, 53, 54] (by decide +kernel) (by decide +kernel)
set_option maxRecDepth 20000 in
theorem gX7_fault_X7_isFaulty : GoodIn wsX7_fault (wsV RX7 76 RX7 yX7_isFaulty wsX7_isFaulty) := goodIn_app (goodIn_of _ (by decide +kernel)) ggX7_fault_X7_isFaulty
theorem dX7_fault_0 : decode cX7_fault 0 = .ok (.aload_n 0, 1) := by decide +kernel
theorem dX7_fault_1 : decode cX7_fault 1 = .ok (.invokevirtual 76, 3) := by decide +kernel
theorem dX7_fault_4 : decode cX7_fault 4 = .ok (.ifCond .eq 10, 3) := by decide +kernel
theorem dX7_fault_7 : decode cX7_fault 7 = .ok (.aload_n 0, 1) := by decide +kernel
theorem dX7_fault_8 : decode cX7_fault 8 = .ok (.getfield 88, 3) := by decide +kernel
theorem dX7_fault_11 : decode cX7_fault 11 = .ok (.goto 5, 3) := by decide +kernel
theorem dX7_fault_14 : decode cX7_fault 14 = .ok (.ldc 147, 2) := by decide +kernel
theorem dX7_fault_16 : decode cX7_fault 16 = .ok (.ireturn, 1) := by decide +kernel
theorem dX7_undo_0 : decode cX7_undo 0 = .ok (.aload_n 0, 1) := by decide +kernel
theorem dX7_undo_1 : decode cX7_undo 1 = .ok (.getfield 30, 3) := by decide +kernel
theorem dX7_undo_4 : decode cX7_undo 4 = .ok (.ifCond .ne 6, 3) := by decide +kernel
theorem dX7_undo_7 : decode cX7_undo 7 = .ok (.ldc 147, 2) := by decide +kernel
theorem dX7_undo_9 : decode cX7_undo 9 = .ok (.ireturn, 1) := by decide +kernel
theorem dX7_undo_10 : decode cX7_undo 10 = .ok (.aload_n 0, 1) := by decide +kernel
theorem dX7_undo_11 : decode cX7_undo 11 = .ok (.dup, 1) := by decide +kernel
theorem dX7_undo_12 : decode cX7_undo 12 = .ok (.getfield 30, 3) := by decide +kernel
theorem dX7_undo_15 : decode cX7_undo 15 = .ok (.iconst 1, 1) := by decide +kernel
theorem dX7_undo_16 : decode cX7_undo 16 = .ok (.isub, 1) := by decide +kernel
theorem dX7_undo_17 : decode cX7_undo 17 = .ok (.putfield 30, 3) := by decide +kernel
theorem dX7_undo_20 : decode cX7_undo 20 = .ok (.iconst 0, 1) := by decide +kernel
theorem dX7_undo_21 : decode cX7_undo 21 = .ok (.istore_n 1, 1) := by decide +kernel
theorem dX7_undo_22 : decode cX7_undo 22 = .ok (.iload_n 1, 1) := by decide +kernel
theorem dX7_undo_23 : decode cX7_undo 23 = .ok (.sipush 341, 3) := by decide +kernel
theorem dX7_undo_26 : decode cX7_undo 26 = .ok (.if_icmp .ge 30, 3) := by decide +kernel
theorem dX7_undo_29 : decode cX7_undo 29 = .ok (.aload_n 0, 1) := by decide +kernel
theorem dX7_undo_30 : decode cX7_undo 30 = .ok (.getfield 7, 3) := by decide +kernel
theorem dX7_undo_33 : decode cX7_undo 33 = .ok (.iload_n 1, 1) := by decide +kernel
theorem dX7_undo_34 : decode cX7_undo 34 = .ok (.aload_n 0, 1) := by decide +kernel
theorem dX7_undo_35 : decode cX7_undo 35 = .ok (.getfield 16, 3) := by decide +kernel
theorem dX7_undo_38 : decode cX7_undo 38 = .ok (.sipush 341, 3) := by decide +kernel
theorem dX7_undo_41 : decode cX7_undo 41 = .ok (.aload_n 0, 1) := by decide +kernel
theorem dX7_undo_42 : decode cX7_undo 42 = .ok (.getfield 30, 3) := by decide +kernel
theorem dX7_undo_45 : decode cX7_undo 45 = .ok (.imul, 1) := by decide +kernel
theorem dX7_undo_46 : decode cX7_undo 46 = .ok (.iload_n 1, 1) := by decide +kernel
theorem dX7_undo_47 : decode cX7_undo 47 = .ok (.iadd, 1) := by decide +kernel
theorem dX7_undo_48 : decode cX7_undo 48 = .ok (.iaload, 1) := by decide +kernel
theorem dX7_undo_49 : decode cX7_undo 49 = .ok (.iastore, 1) := by decide +kernel
theorem dX7_undo_50 : decode cX7_undo 50 = .ok (.iinc 1 1, 3) := by decide +kernel
theorem dX7_undo_53 : decode cX7_undo 53 = .ok (.goto (-31), 3) := by decide +kernel
theorem dX7_undo_56 : decode cX7_undo 56 = .ok (.aload_n 0, 1) := by decide +kernel
theorem dX7_undo_57 : decode cX7_undo 57 = .ok (.getfield 30, 3) := by decide +kernel
theorem dX7_undo_60 : decode cX7_undo 60 = .ok (.ireturn, 1) := by decide +kernel
set_option maxRecDepth 20000 in
theorem ggX7_ofThread_X7_isThread : GoodIn wsX7_ofThread wsX7_isThread := goodIn_r _ [6, 7, 8, 5, 9] (by decide +kernel) (by decide +kernel)
set_option maxRecDepth 20000 in
theorem gX7_ofThread_X7_isThread : GoodIn wsX7_ofThread (va_wsS RX7 103 yX7_isThread wsX7_isThread) := goodIn_app (goodIn_of _ (by decide +kernel)) ggX7_ofThread_X7_isThread
set_option maxRecDepth 20000 in
theorem ggX7_ofThread_X7_at : GoodIn wsX7_ofThread wsX7_at := goodIn_r _ [12] (by decide +kernel) (by decide +kernel)
set_option maxRecDepth 20000 in
theorem gX7_ofThread_X7_at : GoodIn wsX7_ofThread (va_wsS RX7 22 yX7_at wsX7_at) := goodIn_app (goodIn_of _ (by decide +kernel)) ggX7_ofThread_X7_at
theorem dX7_ofThread_0 : decode cX7_ofThread 0 = .ok (.iload_n 1, 1) := by decide +kernel
theorem dX7_ofThread_1 : decode cX7_ofThread 1 = .ok (.invokestatic 103, 3) := by decide +kernel
theorem dX7_ofThread_4 : decode cX7_ofThread 4 = .ok (.ifCond .eq 16, 3) := by decide +kernel
theorem dX7_ofThread_7 : decode cX7_ofThread 7 = .ok (.aload_n 0, 1) := by decide +kernel
theorem dX7_ofThread_8 : decode cX7_ofThread 8 = .ok (.getfield 7, 3) := by decide +kernel
theorem dX7_ofThread_11 : decode cX7_ofThread 11 = .ok (.iload_n 1, 1) := by decide +kernel
theorem dX7_ofThread_12 : decode cX7_ofThread 12 = .ok (.iload_n 2, 1) := by decide +kernel
theorem dX7_ofThread_13 : decode cX7_ofThread 13 = .ok (.invokestatic 22, 3) := by decide +kernel
theorem dX7_ofThread_16 : decode cX7_ofThread 16 = .ok (.iaload, 1) := by decide +kernel
theorem dX7_ofThread_17 : decode cX7_ofThread 17 = .ok (.goto 5, 3) := by decide +kernel
theorem dX7_ofThread_20 : decode cX7_ofThread 20 = .ok (.ldc 75, 2) := by decide +kernel
theorem dX7_ofThread_22 : decode cX7_ofThread 22 = .ok (.ireturn, 1) := by decide +kernel
set_option maxRecDepth 20000 in
theorem ggX7_state_X7_ofThread : GoodIn wsX7_state wsX7_ofThread := goodIn_r _ [5, 6, 7, 8, 9, 4, 10, 11, 12, 13, 14, 15, 16, 17, 18, 19, 20, 21, 22, 23, 24, 25, 26, 27] (by decide +kernel) (by decide +kernel)
set_option maxRecDepth 20000 in
theorem gX7_state_X7_ofThread : GoodIn wsX7_state (wsV RX7 148 RX7 yX7_ofThread wsX7_ofThread) := goodIn_app (goodIn_of _ (by decide +kernel)) ggX7_state_X7_ofThread
theorem dX7_state_0 : decode cX7_state 0 = .ok (.aload_n 0, 1) := by decide +kernel
theorem dX7_state_1 : decode cX7_state 1 = .ok (.iload_n 1, 1) := by decide +kernel
theorem dX7_state_2 : decode cX7_state 2 = .ok (.iconst 0, 1) := by decide +kernel
theorem dX7_state_3 : decode cX7_state 3 = .ok (.invokevirtual 148, 3) := by decide +kernel
theorem dX7_state_6 : decode cX7_state 6 = .ok (.ireturn, 1) := by decide +kernel
set_option maxRecDepth 20000 in
theorem ggX7_programCounter_X7_ofThread : GoodIn wsX7_programCounter wsX7_ofThread := goodIn_r _ [5, 6, 7, 8, 9, 4, 10, 11, 12, 13, 14, 15, 16, 17, 18, 19, 20, 21, 22, 23, 24, 25, 26, 27] (by decide +kernel) (by decide +kernel)
set_option maxRecDepth 20000 in
theorem gX7_programCounter_X7_ofThread : GoodIn wsX7_programCounter (wsV RX7 148 RX7 yX7_ofThread wsX7_ofThread) := goodIn_app (goodIn_of _ (by decide +kernel)) ggX7_programCounter_X7_ofThread
theorem dX7_programCounter_0 : decode cX7_programCounter 0 = .ok (.aload_n 0, 1) := by decide +kernel
theorem dX7_programCounter_1 : decode cX7_programCounter 1 = .ok (.iload_n 1, 1) := by decide +kernel
theorem dX7_programCounter_2 : decode cX7_programCounter 2 = .ok (.iconst 1, 1) := by decide +kernel
theorem dX7_programCounter_3 : decode cX7_programCounter 3 = .ok (.invokevirtual 148, 3) := by decide +kernel
theorem dX7_programCounter_6 : decode cX7_programCounter 6 = .ok (.ireturn, 1) := by decide +kernel
set_option maxRecDepth 20000 in
theorem ggX7_register_X7_isThread : GoodIn wsX7_register wsX7_isThread := goodIn_r _ [5, 6, 7, 4, 8] (by decide +kernel) (by decide +kernel)
set_option maxRecDepth 20000 in
theorem gX7_register_X7_isThread : GoodIn wsX7_register (va_wsS RX7 103 yX7_isThread wsX7_isThread) := goodIn_app (goodIn_of _ (by decide +kernel)) ggX7_register_X7_isThread
set_option maxRecDepth 20000 in
theorem ggX7_register_X7_in : GoodIn wsX7_register wsX7_in := goodIn_r _ [8] (by decide +kernel) (by decide +kernel)
set_option maxRecDepth 20000 in
theorem gX7_register_X7_in : GoodIn wsX7_register (va_wsS RX7 26 yX7_in wsX7_in) := goodIn_app (goodIn_of _ (by decide +kernel)) ggX7_register_X7_in
set_option maxRecDepth 20000 in
theorem ggX7_register_X7_register0 : GoodIn wsX7_register wsX7_register0 := goodIn_r _ [12, 13, 14, 15, 4, 16, 17, 18, 19, 20, 21, 22, 23, 24, 25, 26, 27] (by decide +kernel) (by decide +kernel)
set_option maxRecDepth 20000 in
theorem gX7_register_X7_register0 : GoodIn wsX7_register (wsV RX7 34 RX7 yX7_register0 wsX7_register0) := goodIn_app (goodIn_of _ (by decide +kernel)) ggX7_register_X7_register0
theorem dX7_register_0 : decode cX7_register 0 = .ok (.iload_n 1, 1) := by decide +kernel
theorem dX7_register_1 : decode cX7_register 1 = .ok (.invokestatic 103, 3) := by decide +kernel
theorem dX7_register_4 : decode cX7_register 4 = .ok (.ifCond .eq 21, 3) := by decide +kernel
theorem dX7_register_7 : decode cX7_register 7 = .ok (.iload_n 2, 1) := by decide +kernel
theorem dX7_register_8 : decode cX7_register 8 = .ok (.iconst 0, 1) := by decide +kernel
theorem dX7_register_9 : decode cX7_register 9 = .ok (.iconst 3, 1) := by decide +kernel
theorem dX7_register_10 : decode cX7_register 10 = .ok (.invokestatic 26, 3) := by decide +kernel
theorem dX7_register_13 : decode cX7_register 13 = .ok (.ifCond .eq 12, 3) := by decide +kernel
theorem dX7_register_16 : decode cX7_register 16 = .ok (.aload_n 0, 1) := by decide +kernel
theorem dX7_register_17 : decode cX7_register 17 = .ok (.iload_n 1, 1) := by decide +kernel
theorem dX7_register_18 : decode cX7_register 18 = .ok (.iload_n 2, 1) := by decide +kernel
theorem dX7_register_19 : decode cX7_register 19 = .ok (.invokevirtual 34, 3) := by decide +kernel
theorem dX7_register_22 : decode cX7_register 22 = .ok (.goto 5, 3) := by decide +kernel
theorem dX7_register_25 : decode cX7_register 25 = .ok (.ldc 75, 2) := by decide +kernel
theorem dX7_register_27 : decode cX7_register 27 = .ok (.ireturn, 1) := by decide +kernel
set_option maxRecDepth 20000 in
theorem ggX7_word_X7_in : GoodIn wsX7_word wsX7_in := goodIn_r _ [6] (by decide +kernel) (by decide +kernel)
set_option maxRecDepth 20000 in
theorem gX7_word_X7_in : GoodIn wsX7_word (va_wsS RX7 26 yX7_in wsX7_in) := goodIn_app (goodIn_of _ (by decide +kernel)) ggX7_word_X7_in
theorem dX7_word_0 : decode cX7_word 0 = .ok (.iload_n 1, 1) := by decide +kernel
theorem dX7_word_1 : decode cX7_word 1 = .ok (.iconst 0, 1) := by decide +kernel
theorem dX7_word_2 : decode cX7_word 2 = .ok (.bipush 31, 2) := by decide +kernel
theorem dX7_word_4 : decode cX7_word 4 = .ok (.invokestatic 26, 3) := by decide +kernel
theorem dX7_word_7 : decode cX7_word 7 = .ok (.ifCond .eq 16, 3) := by decide +kernel
theorem dX7_word_10 : decode cX7_word 10 = .ok (.aload_n 0, 1) := by decide +kernel
theorem dX7_word_11 : decode cX7_word 11 = .ok (.getfield 7, 3) := by decide +kernel
theorem dX7_word_14 : decode cX7_word 14 = .ok (.sipush 200, 3) := by decide +kernel
theorem dX7_word_17 : decode cX7_word 17 = .ok (.iload_n 1, 1) := by decide +kernel
theorem dX7_word_18 : decode cX7_word 18 = .ok (.iadd, 1) := by decide +kernel
theorem dX7_word_19 : decode cX7_word 19 = .ok (.iaload, 1) := by decide +kernel
theorem dX7_word_20 : decode cX7_word 20 = .ok (.goto 5, 3) := by decide +kernel
theorem dX7_word_23 : decode cX7_word 23 = .ok (.ldc 75, 2) := by decide +kernel
theorem dX7_word_25 : decode cX7_word 25 = .ok (.ireturn, 1) := by decide +kernel
set_option maxRecDepth 20000 in
theorem ggX7_operation_X7_isPlace : GoodIn wsX7_operation wsX7_isPlace := goodIn_r _ [6, 7, 8, 5, 9] (by decide +kernel) (by decide +kernel)
set_option maxRecDepth 20000 in
theorem gX7_operation_X7_isPlace : GoodIn wsX7_operation (va_wsS RX7 72 yX7_isPlace wsX7_isPlace) := goodIn_app (goodIn_of _ (by decide +kernel)) ggX7_operation_X7_isPlace
theorem dX7_operation_0 : decode cX7_operation 0 = .ok (.iload_n 1, 1) := by decide +kernel
theorem dX7_operation_1 : decode cX7_operation 1 = .ok (.invokestatic 72, 3) := by decide +kernel
theorem dX7_operation_4 : decode cX7_operation 4 = .ok (.ifCond .eq 17, 3) := by decide +kernel
theorem dX7_operation_7 : decode cX7_operation 7 = .ok (.aload_n 0, 1) := by decide +kernel
theorem dX7_operation_8 : decode cX7_operation 8 = .ok (.getfield 7, 3) := by decide +kernel
theorem dX7_operation_11 : decode cX7_operation 11 = .ok (.bipush 56, 2) := by decide +kernel
theorem dX7_operation_13 : decode cX7_operation 13 = .ok (.iconst 3, 1) := by decide +kernel
theorem dX7_operation_14 : decode cX7_operation 14 = .ok (.iload_n 1, 1) := by decide +kernel
theorem dX7_operation_15 : decode cX7_operation 15 = .ok (.imul, 1) := by decide +kernel
theorem dX7_operation_16 : decode cX7_operation 16 = .ok (.iadd, 1) := by decide +kernel
theorem dX7_operation_17 : decode cX7_operation 17 = .ok (.iaload, 1) := by decide +kernel
theorem dX7_operation_18 : decode cX7_operation 18 = .ok (.goto 5, 3) := by decide +kernel
theorem dX7_operation_21 : decode cX7_operation 21 = .ok (.ldc 75, 2) := by decide +kernel
theorem dX7_operation_23 : decode cX7_operation 23 = .ok (.ireturn, 1) := by decide +kernel
set_option maxRecDepth 20000 in
theorem ggX7_operand_X7_isPlace : GoodIn wsX7_operand wsX7_isPlace := goodIn_r _ [8, 9, 10, 7, 11] (by decide +kernel) (by decide +kernel)
set_option maxRecDepth 20000 in
theorem gX7_operand_X7_isPlace : GoodIn wsX7_operand (va_wsS RX7 72 yX7_isPlace wsX7_isPlace) := goodIn_app (goodIn_of _ (by decide +kernel)) ggX7_operand_X7_isPlace
set_option maxRecDepth 20000 in
theorem ggX7_operand_X7_in : GoodIn wsX7_operand wsX7_in := goodIn_r _ [11] (by decide +kernel) (by decide +kernel)
set_option maxRecDepth 20000 in
theorem gX7_operand_X7_in : GoodIn wsX7_operand (va_wsS RX7 26 yX7_in wsX7_in) := goodIn_app (goodIn_of _ (by decide +kernel)) ggX7_operand_X7_in
theorem dX7_operand_0 : decode cX7_operand 0 = .ok (.iload_n 1, 1) := by decide +kernel
theorem dX7_operand_1 : decode cX7_operand 1 = .ok (.invokestatic 72, 3) := by decide +kernel
theorem dX7_operand_4 : decode cX7_operand 4 = .ok (.ifCond .ne 6, 3) := by decide +kernel
theorem dX7_operand_7 : decode cX7_operand 7 = .ok (.ldc 75, 2) := by decide +kernel
theorem dX7_operand_9 : decode cX7_operand 9 = .ok (.ireturn, 1) := by decide +kernel
theorem dX7_operand_10 : decode cX7_operand 10 = .ok (.iload_n 2, 1) := by decide +kernel
theorem dX7_operand_11 : decode cX7_operand 11 = .ok (.iconst 0, 1) := by decide +kernel
theorem dX7_operand_12 : decode cX7_operand 12 = .ok (.iconst 1, 1) := by decide +kernel
theorem dX7_operand_13 : decode cX7_operand 13 = .ok (.invokestatic 26, 3) := by decide +kernel
theorem dX7_operand_16 : decode cX7_operand 16 = .ok (.ifCond .ne 6, 3) := by decide +kernel
theorem dX7_operand_19 : decode cX7_operand 19 = .ok (.ldc 109, 2) := by decide +kernel
theorem dX7_operand_21 : decode cX7_operand 21 = .ok (.ireturn, 1) := by decide +kernel
theorem dX7_operand_22 : decode cX7_operand 22 = .ok (.aload_n 0, 1) := by decide +kernel
theorem dX7_operand_23 : decode cX7_operand 23 = .ok (.getfield 7, 3) := by decide +kernel
theorem dX7_operand_26 : decode cX7_operand 26 = .ok (.bipush 56, 2) := by decide +kernel
theorem dX7_operand_28 : decode cX7_operand 28 = .ok (.iconst 3, 1) := by decide +kernel
theorem dX7_operand_29 : decode cX7_operand 29 = .ok (.iload_n 1, 1) := by decide +kernel
theorem dX7_operand_30 : decode cX7_operand 30 = .ok (.imul, 1) := by decide +kernel
theorem dX7_operand_31 : decode cX7_operand 31 = .ok (.iadd, 1) := by decide +kernel
theorem dX7_operand_32 : decode cX7_operand 32 = .ok (.iaload, 1) := by decide +kernel
theorem dX7_operand_33 : decode cX7_operand 33 = .ok (.istore_n 3, 1) := by decide +kernel
theorem dX7_operand_34 : decode cX7_operand 34 = .ok (.iload_n 3, 1) := by decide +kernel
theorem dX7_operand_35 : decode cX7_operand 35 = .ok (.bipush 9, 2) := by decide +kernel
theorem dX7_operand_37 : decode cX7_operand 37 = .ok (.if_icmp .le 7, 3) := by decide +kernel
theorem dX7_operand_40 : decode cX7_operand 40 = .ok (.iconst 0, 1) := by decide +kernel
theorem dX7_operand_41 : decode cX7_operand 41 = .ok (.goto 14, 3) := by decide +kernel
theorem dX7_operand_44 : decode cX7_operand 44 = .ok (.iload_n 3, 1) := by decide +kernel
theorem dX7_operand_45 : decode cX7_operand 45 = .ok (.bipush 7, 2) := by decide +kernel
theorem dX7_operand_47 : decode cX7_operand 47 = .ok (.if_icmp .ne 7, 3) := by decide +kernel
theorem dX7_operand_50 : decode cX7_operand 50 = .ok (.iconst 1, 1) := by decide +kernel
theorem dX7_operand_51 : decode cX7_operand 51 = .ok (.goto 4, 3) := by decide +kernel
theorem dX7_operand_54 : decode cX7_operand 54 = .ok (.iconst 2, 1) := by decide +kernel
theorem dX7_operand_55 : decode cX7_operand 55 = .ok (.istore 4, 2) := by decide +kernel
theorem dX7_operand_57 : decode cX7_operand 57 = .ok (.iload_n 2, 1) := by decide +kernel
theorem dX7_operand_58 : decode cX7_operand 58 = .ok (.iload 4, 2) := by decide +kernel
theorem dX7_operand_60 : decode cX7_operand 60 = .ok (.if_icmp .ge 21, 3) := by decide +kernel
theorem dX7_operand_63 : decode cX7_operand 63 = .ok (.aload_n 0, 1) := by decide +kernel
theorem dX7_operand_64 : decode cX7_operand 64 = .ok (.getfield 7, 3) := by decide +kernel
theorem dX7_operand_67 : decode cX7_operand 67 = .ok (.bipush 56, 2) := by decide +kernel
theorem dX7_operand_69 : decode cX7_operand 69 = .ok (.iconst 3, 1) := by decide +kernel
theorem dX7_operand_70 : decode cX7_operand 70 = .ok (.iload_n 1, 1) := by decide +kernel
theorem dX7_operand_71 : decode cX7_operand 71 = .ok (.imul, 1) := by decide +kernel
theorem dX7_operand_72 : decode cX7_operand 72 = .ok (.iadd, 1) := by decide +kernel
theorem dX7_operand_73 : decode cX7_operand 73 = .ok (.iconst 1, 1) := by decide +kernel
theorem dX7_operand_74 : decode cX7_operand 74 = .ok (.iadd, 1) := by decide +kernel
theorem dX7_operand_75 : decode cX7_operand 75 = .ok (.iload_n 2, 1) := by decide +kernel
theorem dX7_operand_76 : decode cX7_operand 76 = .ok (.iadd, 1) := by decide +kernel
theorem dX7_operand_77 : decode cX7_operand 77 = .ok (.iaload, 1) := by decide +kernel
theorem dX7_operand_78 : decode cX7_operand 78 = .ok (.goto 5, 3) := by decide +kernel
theorem dX7_operand_81 : decode cX7_operand 81 = .ok (.ldc 147, 2) := by decide +kernel
theorem dX7_operand_83 : decode cX7_operand 83 = .ok (.ireturn, 1) := by decide +kernel
set_option maxRecDepth 20000 in
theorem ggX7_slot_X7_in : GoodIn wsX7_slot wsX7_in := goodIn_r _ [6] (by decide +kernel) (by decide +kernel)
set_option maxRecDepth 20000 in
theorem gX7_slot_X7_in : GoodIn wsX7_slot (va_wsS RX7 26 yX7_in wsX7_in) := goodIn_app (goodIn_of _ (by decide +kernel)) ggX7_slot_X7_in
theorem dX7_slot_0 : decode cX7_slot 0 = .ok (.iload_n 1, 1) := by decide +kernel
theorem dX7_slot_1 : decode cX7_slot 1 = .ok (.iconst 0, 1) := by decide +kernel
theorem dX7_slot_2 : decode cX7_slot 2 = .ok (.bipush 7, 2) := by decide +kernel
theorem dX7_slot_4 : decode cX7_slot 4 = .ok (.invokestatic 26, 3) := by decide +kernel
theorem dX7_slot_7 : decode cX7_slot 7 = .ok (.ifCond .eq 16, 3) := by decide +kernel
theorem dX7_slot_10 : decode cX7_slot 10 = .ok (.aload_n 0, 1) := by decide +kernel
theorem dX7_slot_11 : decode cX7_slot 11 = .ok (.getfield 7, 3) := by decide +kernel
theorem dX7_slot_14 : decode cX7_slot 14 = .ok (.sipush 234, 3) := by decide +kernel
theorem dX7_slot_17 : decode cX7_slot 17 = .ok (.iload_n 1, 1) := by decide +kernel
theorem dX7_slot_18 : decode cX7_slot 18 = .ok (.iadd, 1) := by decide +kernel
theorem dX7_slot_19 : decode cX7_slot 19 = .ok (.iaload, 1) := by decide +kernel
theorem dX7_slot_20 : decode cX7_slot 20 = .ok (.goto 5, 3) := by decide +kernel
theorem dX7_slot_23 : decode cX7_slot 23 = .ok (.ldc 75, 2) := by decide +kernel
theorem dX7_slot_25 : decode cX7_slot 25 = .ok (.ireturn, 1) := by decide +kernel
set_option maxRecDepth 20000 in
theorem ggX7_setting_X7_in : GoodIn wsX7_setting wsX7_in := goodIn_r _ [6] (by decide +kernel) (by decide +kernel)
set_option maxRecDepth 20000 in
theorem gX7_setting_X7_in : GoodIn wsX7_setting (va_wsS RX7 26 yX7_in wsX7_in) := goodIn_app (goodIn_of _ (by decide +kernel)) ggX7_setting_X7_in
theorem dX7_setting_0 : decode cX7_setting 0 = .ok (.iload_n 1, 1) := by decide +kernel
theorem dX7_setting_1 : decode cX7_setting 1 = .ok (.iconst 0, 1) := by decide +kernel
theorem dX7_setting_2 : decode cX7_setting 2 = .ok (.iconst 1, 1) := by decide +kernel
theorem dX7_setting_3 : decode cX7_setting 3 = .ok (.invokestatic 26, 3) := by decide +kernel
theorem dX7_setting_6 : decode cX7_setting 6 = .ok (.ifCond .eq 16, 3) := by decide +kernel
theorem dX7_setting_9 : decode cX7_setting 9 = .ok (.aload_n 0, 1) := by decide +kernel
theorem dX7_setting_10 : decode cX7_setting 10 = .ok (.getfield 7, 3) := by decide +kernel
theorem dX7_setting_13 : decode cX7_setting 13 = .ok (.sipush 242, 3) := by decide +kernel
theorem dX7_setting_16 : decode cX7_setting 16 = .ok (.iload_n 1, 1) := by decide +kernel
theorem dX7_setting_17 : decode cX7_setting 17 = .ok (.iadd, 1) := by decide +kernel
theorem dX7_setting_18 : decode cX7_setting 18 = .ok (.iaload, 1) := by decide +kernel
theorem dX7_setting_19 : decode cX7_setting 19 = .ok (.goto 5, 3) := by decide +kernel
theorem dX7_setting_22 : decode cX7_setting 22 = .ok (.ldc 75, 2) := by decide +kernel
theorem dX7_setting_24 : decode cX7_setting 24 = .ok (.ireturn, 1) := by decide +kernel
set_option maxRecDepth 20000 in
theorem ggX7_breakpoint_X7_isPlace : GoodIn wsX7_breakpoint wsX7_isPlace := goodIn_r _ [6, 7, 8, 5, 9] (by decide +kernel) (by decide +kernel)
set_option maxRecDepth 20000 in
theorem gX7_breakpoint_X7_isPlace : GoodIn wsX7_breakpoint (va_wsS RX7 72 yX7_isPlace wsX7_isPlace) := goodIn_app (goodIn_of _ (by decide +kernel)) ggX7_breakpoint_X7_isPlace
theorem dX7_breakpoint_0 : decode cX7_breakpoint 0 = .ok (.iload_n 1, 1) := by decide +kernel
theorem dX7_breakpoint_1 : decode cX7_breakpoint 1 = .ok (.invokestatic 72, 3) := by decide +kernel
theorem dX7_breakpoint_4 : decode cX7_breakpoint 4 = .ok (.ifCond .eq 16, 3) := by decide +kernel
theorem dX7_breakpoint_7 : decode cX7_breakpoint 7 = .ok (.aload_n 0, 1) := by decide +kernel
theorem dX7_breakpoint_8 : decode cX7_breakpoint 8 = .ok (.getfield 7, 3) := by decide +kernel
theorem dX7_breakpoint_11 : decode cX7_breakpoint 11 = .ok (.sipush 244, 3) := by decide +kernel
theorem dX7_breakpoint_14 : decode cX7_breakpoint 14 = .ok (.iload_n 1, 1) := by decide +kernel
theorem dX7_breakpoint_15 : decode cX7_breakpoint 15 = .ok (.iadd, 1) := by decide +kernel
theorem dX7_breakpoint_16 : decode cX7_breakpoint 16 = .ok (.iaload, 1) := by decide +kernel
theorem dX7_breakpoint_17 : decode cX7_breakpoint 17 = .ok (.goto 5, 3) := by decide +kernel
theorem dX7_breakpoint_20 : decode cX7_breakpoint 20 = .ok (.ldc 75, 2) := by decide +kernel
theorem dX7_breakpoint_22 : decode cX7_breakpoint 22 = .ok (.ireturn, 1) := by decide +kernel
theorem dX7_cycle_0 : decode cX7_cycle 0 = .ok (.aload_n 0, 1) := by decide +kernel
theorem dX7_cycle_1 : decode cX7_cycle 1 = .ok (.getfield 7, 3) := by decide +kernel
theorem dX7_cycle_4 : decode cX7_cycle 4 = .ok (.sipush 232, 3) := by decide +kernel
theorem dX7_cycle_7 : decode cX7_cycle 7 = .ok (.iaload, 1) := by decide +kernel
theorem dX7_cycle_8 : decode cX7_cycle 8 = .ok (.ireturn, 1) := by decide +kernel
theorem dX7_idle_0 : decode cX7_idle 0 = .ok (.aload_n 0, 1) := by decide +kernel
theorem dX7_idle_1 : decode cX7_idle 1 = .ok (.getfield 7, 3) := by decide +kernel
theorem dX7_idle_4 : decode cX7_idle 4 = .ok (.sipush 233, 3) := by decide +kernel
theorem dX7_idle_7 : decode cX7_idle 7 = .ok (.iaload, 1) := by decide +kernel
theorem dX7_idle_8 : decode cX7_idle 8 = .ok (.ireturn, 1) := by decide +kernel
set_option maxRecDepth 20000 in
theorem ggX7_executed_X7_ofThread : GoodIn wsX7_executed wsX7_ofThread := goodIn_r _ [5, 6, 7, 8, 9, 4, 10, 11, 12, 13, 14, 15, 16, 17, 18, 19, 20, 21, 22, 23, 24, 25, 26, 27] (by decide +kernel) (by decide +kernel)
set_option maxRecDepth 20000 in
theorem gX7_executed_X7_ofThread : GoodIn wsX7_executed (wsV RX7 148 RX7 yX7_ofThread wsX7_ofThread) := goodIn_app (goodIn_of _ (by decide +kernel)) ggX7_executed_X7_ofThread
theorem dX7_executed_0 : decode cX7_executed 0 = .ok (.aload_n 0, 1) := by decide +kernel
theorem dX7_executed_1 : decode cX7_executed 1 = .ok (.iload_n 1, 1) := by decide +kernel
theorem dX7_executed_2 : decode cX7_executed 2 = .ok (.bipush 12, 2) := by decide +kernel
theorem dX7_executed_4 : decode cX7_executed 4 = .ok (.invokevirtual 148, 3) := by decide +kernel
theorem dX7_executed_7 : decode cX7_executed 7 = .ok (.ireturn, 1) := by decide +kernel
set_option maxRecDepth 20000 in
theorem ggX7_lent_X7_ofThread : GoodIn wsX7_lent wsX7_ofThread := goodIn_r _ [5, 6, 7, 8, 9, 4, 10, 11, 12, 13, 14, 15, 16, 17, 18, 19, 20, 21, 22, 23, 24, 25, 26, 27] (by decide +kernel) (by decide +kernel)
set_option maxRecDepth 20000 in
theorem gX7_lent_X7_ofThread : GoodIn wsX7_lent (wsV RX7 148 RX7 yX7_ofThread wsX7_ofThread) := goodIn_app (goodIn_of _ (by decide +kernel)) ggX7_lent_X7_ofThread
theorem dX7_lent_0 : decode cX7_lent 0 = .ok (.aload_n 0, 1) := by decide +kernel
theorem dX7_lent_1 : decode cX7_lent 1 = .ok (.iload_n 1, 1) := by decide +kernel
theorem dX7_lent_2 : decode cX7_lent 2 = .ok (.bipush 13, 2) := by decide +kernel
theorem dX7_lent_4 : decode cX7_lent 4 = .ok (.invokevirtual 148, 3) := by decide +kernel
theorem dX7_lent_7 : decode cX7_lent 7 = .ok (.ireturn, 1) := by decide +kernel
set_option maxRecDepth 20000 in
theorem ggX7_starved_X7_ofThread : GoodIn wsX7_starved wsX7_ofThread := goodIn_r _ [5, 6, 7, 8, 9, 4, 10, 11, 12, 13, 14, 15, 16, 17, 18, 19, 20, 21, 22, 23, 24, 25, 26, 27] (by decide +kernel) (by decide +kernel)
set_option maxRecDepth 20000 in
theorem gX7_starved_X7_ofThread : GoodIn wsX7_starved (wsV RX7 148 RX7 yX7_ofThread wsX7_ofThread) := goodIn_app (goodIn_of _ (by decide +kernel)) ggX7_starved_X7_ofThread
theorem dX7_starved_0 : decode cX7_starved 0 = .ok (.aload_n 0, 1) := by decide +kernel
theorem dX7_starved_1 : decode cX7_starved 1 = .ok (.iload_n 1, 1) := by decide +kernel
theorem dX7_starved_2 : decode cX7_starved 2 = .ok (.bipush 11, 2) := by decide +kernel
theorem dX7_starved_4 : decode cX7_starved 4 = .ok (.invokevirtual 148, 3) := by decide +kernel
theorem dX7_starved_7 : decode cX7_starved 7 = .ok (.ireturn, 1) := by decide +kernel
set_option maxRecDepth 20000 in
theorem ggX7_trace_X7_in : GoodIn wsX7_trace wsX7_in := goodIn_r _ [7] (by decide +kernel) (by decide +kernel)
set_option maxRecDepth 20000 in
theorem gX7_trace_X7_in : GoodIn wsX7_trace (va_wsS RX7 26 yX7_in wsX7_in) := goodIn_app (goodIn_of _ (by decide +kernel)) ggX7_trace_X7_in
theorem dX7_trace_0 : decode cX7_trace 0 = .ok (.iload_n 1, 1) := by decide +kernel
theorem dX7_trace_1 : decode cX7_trace 1 = .ok (.ifCond .lt 12, 3) := by decide +kernel
theorem dX7_trace_4 : decode cX7_trace 4 = .ok (.iload_n 2, 1) := by decide +kernel
theorem dX7_trace_5 : decode cX7_trace 5 = .ok (.iconst 0, 1) := by decide +kernel
theorem dX7_trace_6 : decode cX7_trace 6 = .ok (.iconst 2, 1) := by decide +kernel
theorem dX7_trace_7 : decode cX7_trace 7 = .ok (.invokestatic 26, 3) := by decide +kernel
theorem dX7_trace_10 : decode cX7_trace 10 = .ok (.ifCond .ne 6, 3) := by decide +kernel
theorem dX7_trace_13 : decode cX7_trace 13 = .ok (.ldc 109, 2) := by decide +kernel
theorem dX7_trace_15 : decode cX7_trace 15 = .ok (.ireturn, 1) := by decide +kernel
theorem dX7_trace_16 : decode cX7_trace 16 = .ok (.iload_n 1, 1) := by decide +kernel
theorem dX7_trace_17 : decode cX7_trace 17 = .ok (.aload_n 0, 1) := by decide +kernel
theorem dX7_trace_18 : decode cX7_trace 18 = .ok (.getfield 7, 3) := by decide +kernel
theorem dX7_trace_21 : decode cX7_trace 21 = .ok (.sipush 292, 3) := by decide +kernel
theorem dX7_trace_24 : decode cX7_trace 24 = .ok (.iaload, 1) := by decide +kernel
theorem dX7_trace_25 : decode cX7_trace 25 = .ok (.if_icmp .ge 20, 3) := by decide +kernel
theorem dX7_trace_28 : decode cX7_trace 28 = .ok (.aload_n 0, 1) := by decide +kernel
theorem dX7_trace_29 : decode cX7_trace 29 = .ok (.getfield 7, 3) := by decide +kernel
theorem dX7_trace_32 : decode cX7_trace 32 = .ok (.sipush 293, 3) := by decide +kernel
theorem dX7_trace_35 : decode cX7_trace 35 = .ok (.iconst 3, 1) := by decide +kernel
theorem dX7_trace_36 : decode cX7_trace 36 = .ok (.iload_n 1, 1) := by decide +kernel
theorem dX7_trace_37 : decode cX7_trace 37 = .ok (.imul, 1) := by decide +kernel
theorem dX7_trace_38 : decode cX7_trace 38 = .ok (.iadd, 1) := by decide +kernel
theorem dX7_trace_39 : decode cX7_trace 39 = .ok (.iload_n 2, 1) := by decide +kernel
theorem dX7_trace_40 : decode cX7_trace 40 = .ok (.iadd, 1) := by decide +kernel
theorem dX7_trace_41 : decode cX7_trace 41 = .ok (.iaload, 1) := by decide +kernel
theorem dX7_trace_42 : decode cX7_trace 42 = .ok (.goto 5, 3) := by decide +kernel
theorem dX7_trace_45 : decode cX7_trace 45 = .ok (.ldc 147, 2) := by decide +kernel
theorem dX7_trace_47 : decode cX7_trace 47 = .ok (.ireturn, 1) := by decide +kernel
theorem dX7_use_0 : decode cX7_use 0 = .ok (.aload_n 0, 1) := by decide +kernel
theorem dX7_use_1 : decode cX7_use 1 = .ok (.getfield 7, 3) := by decide +kernel
theorem dX7_use_4 : decode cX7_use 4 = .ok (.sipush 232, 3) := by decide +kernel
theorem dX7_use_7 : decode cX7_use 7 = .ok (.iaload, 1) := by decide +kernel
theorem dX7_use_8 : decode cX7_use 8 = .ok (.ifCond .ne 7, 3) := by decide +kernel
theorem dX7_use_11 : decode cX7_use 11 = .ok (.fconst 0, 1) := by decide +kernel
theorem dX7_use_12 : decode cX7_use 12 = .ok (.goto 31, 3) := by decide +kernel
theorem dX7_use_15 : decode cX7_use 15 = .ok (.aload_n 0, 1) := by decide +kernel
theorem dX7_use_16 : decode cX7_use 16 = .ok (.getfield 7, 3) := by decide +kernel
theorem dX7_use_19 : decode cX7_use 19 = .ok (.sipush 232, 3) := by decide +kernel
theorem dX7_use_22 : decode cX7_use 22 = .ok (.iaload, 1) := by decide +kernel
theorem dX7_use_23 : decode cX7_use 23 = .ok (.aload_n 0, 1) := by decide +kernel
theorem dX7_use_24 : decode cX7_use 24 = .ok (.getfield 7, 3) := by decide +kernel
theorem dX7_use_27 : decode cX7_use 27 = .ok (.sipush 233, 3) := by decide +kernel
theorem dX7_use_30 : decode cX7_use 30 = .ok (.iaload, 1) := by decide +kernel
theorem dX7_use_31 : decode cX7_use 31 = .ok (.isub, 1) := by decide +kernel
theorem dX7_use_32 : decode cX7_use 32 = .ok (.i2f, 1) := by decide +kernel
theorem dX7_use_33 : decode cX7_use 33 = .ok (.aload_n 0, 1) := by decide +kernel
theorem dX7_use_34 : decode cX7_use 34 = .ok (.getfield 7, 3) := by decide +kernel
theorem dX7_use_37 : decode cX7_use 37 = .ok (.sipush 232, 3) := by decide +kernel
theorem dX7_use_40 : decode cX7_use 40 = .ok (.iaload, 1) := by decide +kernel
theorem dX7_use_41 : decode cX7_use 41 = .ok (.i2f, 1) := by decide +kernel
theorem dX7_use_42 : decode cX7_use 42 = .ok (.fdiv, 1) := by decide +kernel
theorem dX7_use_43 : decode cX7_use 43 = .ok (.freturn, 1) := by decide +kernel
set_option maxRecDepth 20000 in
theorem ggX7_nextThread_X7_putAside : GoodIn wsX7_nextThread wsX7_putAside := goodIn_r _ [6, 7, 8, 36, 37, 38, 39, 40, 41, 42, 43, 44, 45, 46] (by decide +kernel) (by decide +kernel)
set_option maxRecDepth 20000 in
theorem gX7_nextThread_X7_putAside : GoodIn wsX7_nextThread (wsV RX7 110 RX7 yX7_putAside wsX7_putAside) := goodIn_app (goodIn_of _ (by decide +kernel)) ggX7_nextThread_X7_putAside
set_option maxRecDepth 20000 in
theorem ggX7_nextThread_X7_prepares : GoodIn wsX7_nextThread wsX7_prepares := goodIn_r _ [12, 8, 13, 14, 5, 15, 16, 17, 18, 19, 20, 21, 22, 23, 36, 37, 38, 39, 40, 41, 42, 43, 44, 45, 46] (by decide +kernel) (by decide +kernel)
set_option maxRecDepth 20000 in
theorem gX7_nextThread_X7_prepares : GoodIn wsX7_nextThread (wsV RX7 61 RX7 yX7_prepares wsX7_prepares) := goodIn_app (goodIn_of _ (by decide +kernel)) ggX7_nextThread_X7_prepares
set_option maxRecDepth 20000 in
theorem ggX7_nextThread_X7_issuing : GoodIn wsX7_nextThread wsX7_issuing := goodIn_r _ [27, 8, 28, 29, 30, 5, 31, 13, 14, 15, 36, 37, 38, 39, 40, 41, 42, 43, 44, 45, 46] (by decide +kernel) (by decide +kernel)
set_option maxRecDepth 20000 in
theorem gX7_nextThread_X7_issuing : GoodIn wsX7_nextThread (wsV RX7 64 RX7 yX7_issuing wsX7_issuing) := goodIn_app (goodIn_of _ (by decide +kernel)) ggX7_nextThread_X7_issuing
set_option maxRecDepth 20000 in
theorem ggX7_nextThread_X7_putBack : GoodIn wsX7_nextThread wsX7_putBack := goodIn_r _ [35, 8, 7, 36, 37, 38, 39, 40, 41, 42, 43, 44, 45, 46] (by decide +kernel) (by decide +kernel)
set_option maxRecDepth 20000 in
theorem gX7_nextThread_X7_putBack : GoodIn wsX7_nextThread (wsV RX7 113 RX7 yX7_putBack wsX7_putBack) := goodIn_app (goodIn_of _ (by decide +kernel)) ggX7_nextThread_X7_putBack
theorem dX7_nextThread_0 : decode cX7_nextThread 0 = .ok (.aload_n 0, 1) := by decide +kernel
theorem dX7_nextThread_1 : decode cX7_nextThread 1 = .ok (.invokevirtual 110, 3) := by decide +kernel
theorem dX7_nextThread_4 : decode cX7_nextThread 4 = .ok (.aload_n 0, 1) := by decide +kernel
theorem dX7_nextThread_5 : decode cX7_nextThread 5 = .ok (.invokevirtual 61, 3) := by decide +kernel
theorem dX7_nextThread_8 : decode cX7_nextThread 8 = .ok (.aload_n 0, 1) := by decide +kernel
theorem dX7_nextThread_9 : decode cX7_nextThread 9 = .ok (.invokevirtual 64, 3) := by decide +kernel
theorem dX7_nextThread_12 : decode cX7_nextThread 12 = .ok (.istore_n 1, 1) := by decide +kernel
theorem dX7_nextThread_13 : decode cX7_nextThread 13 = .ok (.aload_n 0, 1) := by decide +kernel
theorem dX7_nextThread_14 : decode cX7_nextThread 14 = .ok (.invokevirtual 113, 3) := by decide +kernel
theorem dX7_nextThread_17 : decode cX7_nextThread 17 = .ok (.iload_n 1, 1) := by decide +kernel
theorem dX7_nextThread_18 : decode cX7_nextThread 18 = .ok (.iconst (-1), 1) := by decide +kernel
theorem dX7_nextThread_19 : decode cX7_nextThread 19 = .ok (.if_icmp .ne 8, 3) := by decide +kernel
theorem dX7_nextThread_22 : decode cX7_nextThread 22 = .ok (.ldc 147, 2) := by decide +kernel
theorem dX7_nextThread_24 : decode cX7_nextThread 24 = .ok (.goto 4, 3) := by decide +kernel
theorem dX7_nextThread_27 : decode cX7_nextThread 27 = .ok (.iload_n 1, 1) := by decide +kernel
theorem dX7_nextThread_28 : decode cX7_nextThread 28 = .ok (.ireturn, 1) := by decide +kernel
set_option maxRecDepth 20000 in
theorem ggX7_runsOut_X7_isOver : GoodIn wsX7_runsOut wsX7_isOver := goodIn_r _ [6, 7, 8, 9, 5, 10, 11, 12, 13, 14, 58, 59, 60, 61, 62, 63, 64, 65, 66, 67, 68] (by decide +kernel) (by decide +kernel)
set_option maxRecDepth 20000 in
theorem gX7_runsOut_X7_isOver : GoodIn wsX7_runsOut (wsV RX7 116 RX7 yX7_isOver wsX7_isOver) := goodIn_app (goodIn_of _ (by decide +kernel)) ggX7_runsOut_X7_isOver
set_option maxRecDepth 20000 in
theorem ggX7_runsOut_X7_cycles : GoodIn wsX7_runsOut wsX7_cycles := goodIn_r _ [18, 11, 19, 20, 21, 5, 22, 12, 13, 14, 23, 24, 25, 26, 7, 8, 9, 10, 27, 28, 29, 30, 31, 32, 33, 34, 35, 36, 37, 38, 39, 40, 41, 42, 43, 44, 45, 46, 47, 48, 49, 50, 51, 52, 53, 54, 55, 56, 57, 58, 59, 60, 61, 62, 63, 64, 65, 66, 67, 68] (by decide +kernel) (by decide +kernel)
set_option maxRecDepth 20000 in
theorem gX7_runsOut_X7_cycles : GoodIn wsX7_runsOut (wsV RX7 122 RX7 yX7_cycles wsX7_cycles) := goodIn_app (goodIn_of _ (by decide +kernel)) ggX7_runsOut_X7_cycles
theorem dX7_runsOut_0 : decode cX7_runsOut 0 = .ok (.iconst 0, 1) := by decide +kernel
theorem dX7_runsOut_1 : decode cX7_runsOut 1 = .ok (.istore_n 1, 1) := by decide +kernel
theorem dX7_runsOut_2 : decode cX7_runsOut 2 = .ok (.iload_n 1, 1) := by decide +kernel
theorem dX7_runsOut_3 : decode cX7_runsOut 3 = .ok (.sipush 500, 3) := by decide +kernel
theorem dX7_runsOut_6 : decode cX7_runsOut 6 = .ok (.if_icmp .ge 20, 3) := by decide +kernel
theorem dX7_runsOut_9 : decode cX7_runsOut 9 = .ok (.aload_n 0, 1) := by decide +kernel
theorem dX7_runsOut_10 : decode cX7_runsOut 10 = .ok (.invokevirtual 116, 3) := by decide +kernel
theorem dX7_runsOut_13 : decode cX7_runsOut 13 = .ok (.ifCond .ne 13, 3) := by decide +kernel
theorem dX7_runsOut_16 : decode cX7_runsOut 16 = .ok (.aload_n 0, 1) := by decide +kernel
theorem dX7_runsOut_17 : decode cX7_runsOut 17 = .ok (.invokevirtual 122, 3) := by decide +kernel
theorem dX7_runsOut_20 : decode cX7_runsOut 20 = .ok (.iinc 1 1, 3) := by decide +kernel
theorem dX7_runsOut_23 : decode cX7_runsOut 23 = .ok (.goto (-21), 3) := by decide +kernel
theorem dX7_runsOut_26 : decode cX7_runsOut 26 = .ok (.aload_n 0, 1) := by decide +kernel
theorem dX7_runsOut_27 : decode cX7_runsOut 27 = .ok (.invokevirtual 116, 3) := by decide +kernel
theorem dX7_runsOut_30 : decode cX7_runsOut 30 = .ok (.ifCond .eq 7, 3) := by decide +kernel
theorem dX7_runsOut_33 : decode cX7_runsOut 33 = .ok (.iload_n 1, 1) := by decide +kernel
theorem dX7_runsOut_34 : decode cX7_runsOut 34 = .ok (.goto 5, 3) := by decide +kernel
theorem dX7_runsOut_37 : decode cX7_runsOut 37 = .ok (.ldc 147, 2) := by decide +kernel
theorem dX7_runsOut_39 : decode cX7_runsOut 39 = .ok (.ireturn, 1) := by decide +kernel
set_option maxRecDepth 20000 in
theorem ggX7_leftIf_X7_putAside : GoodIn wsX7_leftIf wsX7_putAside := goodIn_r _ [6, 7, 1, 71, 72, 73, 74, 75, 76, 77, 78, 79, 80, 81] (by decide +kernel) (by decide +kernel)
set_option maxRecDepth 20000 in
theorem gX7_leftIf_X7_putAside : GoodIn wsX7_leftIf (wsV RX7 110 RX7 yX7_putAside wsX7_putAside) := goodIn_app (goodIn_of _ (by decide +kernel)) ggX7_leftIf_X7_putAside
set_option maxRecDepth 20000 in
theorem ggX7_leftIf_X7_runsOut : GoodIn wsX7_leftIf wsX7_runsOut := goodIn_r _ [11, 12, 13, 14, 15, 5, 16, 17, 18, 19, 20, 1, 21, 22, 23, 24, 25, 26, 27, 28, 29, 30, 31, 32, 33, 34, 35, 36, 37, 38, 39, 40, 41, 42, 43, 44, 45, 46, 47, 48, 49, 50, 51, 52, 53, 54, 55, 56, 57, 58, 59, 60, 61, 62, 63, 64, 65, 66, 71, 72, 73, 74, 75, 76, 77, 78, 79, 80, 81] (by decide +kernel) (by decide +kernel)
set_option maxRecDepth 20000 in
theorem gX7_leftIf_X7_runsOut : GoodIn wsX7_leftIf (wsV RX7 151 RX7 yX7_runsOut wsX7_runsOut) := goodIn_app (goodIn_of _ (by decide +kernel)) ggX7_leftIf_X7_runsOut
set_option maxRecDepth 20000 in
theorem ggX7_leftIf_X7_putBack : GoodIn wsX7_leftIf wsX7_putBack := goodIn_r _ [70, 1, 7, 71, 72, 73, 74, 75, 76, 77, 78, 79, 80, 81] (by decide +kernel) (by decide +kernel)
set_option maxRecDepth 20000 in
theorem gX7_leftIf_X7_putBack : GoodIn wsX7_leftIf (wsV RX7 113 RX7 yX7_putBack wsX7_putBack) := goodIn_app (goodIn_of _ (by decide +kernel)) ggX7_leftIf_X7_putBack
theorem dX7_leftIf_0 : decode cX7_leftIf 0 = .ok (.aload_n 0, 1) := by decide +kernel
theorem dX7_leftIf_1 : decode cX7_leftIf 1 = .ok (.invokevirtual 110, 3) := by decide +kernel
theorem dX7_leftIf_4 : decode cX7_leftIf 4 = .ok (.aload_n 0, 1) := by decide +kernel
theorem dX7_leftIf_5 : decode cX7_leftIf 5 = .ok (.getfield 7, 3) := by decide +kernel
theorem dX7_leftIf_8 : decode cX7_leftIf 8 = .ok (.sipush 242, 3) := by decide +kernel
theorem dX7_leftIf_11 : decode cX7_leftIf 11 = .ok (.iload_n 1, 1) := by decide +kernel
theorem dX7_leftIf_12 : decode cX7_leftIf 12 = .ok (.iastore, 1) := by decide +kernel
theorem dX7_leftIf_13 : decode cX7_leftIf 13 = .ok (.aload_n 0, 1) := by decide +kernel
theorem dX7_leftIf_14 : decode cX7_leftIf 14 = .ok (.getfield 7, 3) := by decide +kernel
theorem dX7_leftIf_17 : decode cX7_leftIf 17 = .ok (.sipush 243, 3) := by decide +kernel
theorem dX7_leftIf_20 : decode cX7_leftIf 20 = .ok (.iload_n 2, 1) := by decide +kernel
theorem dX7_leftIf_21 : decode cX7_leftIf 21 = .ok (.iastore, 1) := by decide +kernel
theorem dX7_leftIf_22 : decode cX7_leftIf 22 = .ok (.aload_n 0, 1) := by decide +kernel
theorem dX7_leftIf_23 : decode cX7_leftIf 23 = .ok (.invokevirtual 151, 3) := by decide +kernel
theorem dX7_leftIf_26 : decode cX7_leftIf 26 = .ok (.istore_n 3, 1) := by decide +kernel
theorem dX7_leftIf_27 : decode cX7_leftIf 27 = .ok (.aload_n 0, 1) := by decide +kernel
theorem dX7_leftIf_28 : decode cX7_leftIf 28 = .ok (.invokevirtual 113, 3) := by decide +kernel
theorem dX7_leftIf_31 : decode cX7_leftIf 31 = .ok (.iload_n 3, 1) := by decide +kernel
theorem dX7_leftIf_32 : decode cX7_leftIf 32 = .ok (.ireturn, 1) := by decide +kernel
set_option maxRecDepth 20000 in
theorem ggX7_cyclesLeft_X7_leftIf : GoodIn wsX7_cyclesLeft wsX7_leftIf := goodIn_r _ [6, 1, 7, 8, 9, 5, 10, 11, 12, 13, 14, 15, 16, 17, 18, 19, 20, 21, 22, 23, 24, 25, 26, 27, 28, 29, 30, 31, 32, 33, 34, 35, 36, 37, 38, 39, 40, 41, 42, 43, 44, 45, 46, 47, 48, 49, 50, 51, 52, 53, 54, 55, 56, 57, 58, 59, 60, 61, 62, 63, 64, 65, 66, 67, 68, 69, 70, 71, 72, 73, 74, 75, 76, 77, 78, 79, 80, 81, 82, 83, 84, 85] (by decide +kernel) (by decide +kernel)
set_option maxRecDepth 20000 in
theorem gX7_cyclesLeft_X7_leftIf : GoodIn wsX7_cyclesLeft (wsV RX7 154 RX7 yX7_leftIf wsX7_leftIf) := goodIn_app (goodIn_of _ (by decide +kernel)) ggX7_cyclesLeft_X7_leftIf
theorem dX7_cyclesLeft_0 : decode cX7_cyclesLeft 0 = .ok (.aload_n 0, 1) := by decide +kernel
theorem dX7_cyclesLeft_1 : decode cX7_cyclesLeft 1 = .ok (.aload_n 0, 1) := by decide +kernel
theorem dX7_cyclesLeft_2 : decode cX7_cyclesLeft 2 = .ok (.getfield 7, 3) := by decide +kernel
theorem dX7_cyclesLeft_5 : decode cX7_cyclesLeft 5 = .ok (.sipush 242, 3) := by decide +kernel
theorem dX7_cyclesLeft_8 : decode cX7_cyclesLeft 8 = .ok (.iaload, 1) := by decide +kernel
theorem dX7_cyclesLeft_9 : decode cX7_cyclesLeft 9 = .ok (.aload_n 0, 1) := by decide +kernel
theorem dX7_cyclesLeft_10 : decode cX7_cyclesLeft 10 = .ok (.getfield 7, 3) := by decide +kernel
theorem dX7_cyclesLeft_13 : decode cX7_cyclesLeft 13 = .ok (.sipush 243, 3) := by decide +kernel
theorem dX7_cyclesLeft_16 : decode cX7_cyclesLeft 16 = .ok (.iaload, 1) := by decide +kernel
theorem dX7_cyclesLeft_17 : decode cX7_cyclesLeft 17 = .ok (.invokevirtual 154, 3) := by decide +kernel
theorem dX7_cyclesLeft_20 : decode cX7_cyclesLeft 20 = .ok (.ireturn, 1) := by decide +kernel
set_option maxRecDepth 20000 in
theorem ggX7_cyclesIf_X7_in : GoodIn wsX7_cyclesIf wsX7_in := goodIn_r _ [5] (by decide +kernel) (by decide +kernel)
set_option maxRecDepth 20000 in
theorem gX7_cyclesIf_X7_in : GoodIn wsX7_cyclesIf (va_wsS RX7 26 yX7_in wsX7_in) := goodIn_app (goodIn_of _ (by decide +kernel)) ggX7_cyclesIf_X7_in
set_option maxRecDepth 20000 in
theorem ggX7_cyclesIf_X7_leftIf : GoodIn wsX7_cyclesIf wsX7_leftIf := goodIn_r _ [9, 10, 11, 12, 13, 4, 14, 15, 16, 17, 18, 19, 20, 21, 22, 23, 24, 25, 26, 27, 28, 29, 30, 31, 32, 33, 34, 35, 36, 37, 38, 39, 40, 41, 42, 43, 44, 45, 46, 47, 48, 49, 50, 51, 52, 53, 54, 55, 56, 57, 58, 59, 60, 61, 62, 63, 2, 3, 5, 64, 65, 66, 67, 68, 69, 70, 71, 72, 73, 74, 75, 76, 77, 78, 79, 80, 81, 82, 83, 84, 85, 86] (by decide +kernel) (by decide +kernel)
set_option maxRecDepth 20000 in
theorem gX7_cyclesIf_X7_leftIf : GoodIn wsX7_cyclesIf (wsV RX7 154 RX7 yX7_leftIf wsX7_leftIf) := goodIn_app (goodIn_of _ (by decide +kernel)) ggX7_cyclesIf_X7_leftIf
theorem dX7_cyclesIf_0 : decode cX7_cyclesIf 0 = .ok (.iload_n 1, 1) := by decide +kernel
theorem dX7_cyclesIf_1 : decode cX7_cyclesIf 1 = .ok (.iconst 0, 1) := by decide +kernel
theorem dX7_cyclesIf_2 : decode cX7_cyclesIf 2 = .ok (.bipush 20, 2) := by decide +kernel
theorem dX7_cyclesIf_4 : decode cX7_cyclesIf 4 = .ok (.invokestatic 26, 3) := by decide +kernel
theorem dX7_cyclesIf_7 : decode cX7_cyclesIf 7 = .ok (.ifCond .eq 21, 3) := by decide +kernel
theorem dX7_cyclesIf_10 : decode cX7_cyclesIf 10 = .ok (.iload_n 2, 1) := by decide +kernel
theorem dX7_cyclesIf_11 : decode cX7_cyclesIf 11 = .ok (.iconst 0, 1) := by decide +kernel
theorem dX7_cyclesIf_12 : decode cX7_cyclesIf 12 = .ok (.iconst 2, 1) := by decide +kernel
theorem dX7_cyclesIf_13 : decode cX7_cyclesIf 13 = .ok (.invokestatic 26, 3) := by decide +kernel
theorem dX7_cyclesIf_16 : decode cX7_cyclesIf 16 = .ok (.ifCond .eq 12, 3) := by decide +kernel
theorem dX7_cyclesIf_19 : decode cX7_cyclesIf 19 = .ok (.aload_n 0, 1) := by decide +kernel
theorem dX7_cyclesIf_20 : decode cX7_cyclesIf 20 = .ok (.iload_n 1, 1) := by decide +kernel
theorem dX7_cyclesIf_21 : decode cX7_cyclesIf 21 = .ok (.iload_n 2, 1) := by decide +kernel
theorem dX7_cyclesIf_22 : decode cX7_cyclesIf 22 = .ok (.invokevirtual 154, 3) := by decide +kernel
theorem dX7_cyclesIf_25 : decode cX7_cyclesIf 25 = .ok (.goto 5, 3) := by decide +kernel
theorem dX7_cyclesIf_28 : decode cX7_cyclesIf 28 = .ok (.ldc 109, 2) := by decide +kernel
theorem dX7_cyclesIf_30 : decode cX7_cyclesIf 30 = .ok (.ireturn, 1) := by decide +kernel
set_option maxRecDepth 20000 in
theorem ggX7_bestLend_X7_leftIf : GoodIn wsX7_bestLend wsX7_leftIf := goodIn_r _ [7, 2, 8, 9, 10, 6, 11, 12, 13, 14, 15, 16, 1, 17, 18, 19, 20, 21, 22, 23, 24, 25, 26, 27, 28, 29, 30, 31, 32, 33, 34, 35, 36, 37, 38, 39, 40, 41, 42, 43, 44, 45, 46, 47, 48, 49, 50, 51, 52, 53, 54, 55, 56, 57, 58, 59, 60, 61, 62, 63, 64, 65, 66, 67, 68, 69, 70, 71, 72, 73, 74, 75, 76, 77, 78, 79, 80, 81, 82, 83, 84, 85] (by decide +kernel) (by decide +kernel)
set_option maxRecDepth 20000 in
theorem gX7_bestLend_X7_leftIf : GoodIn wsX7_bestLend (wsV RX7 154 RX7 yX7_leftIf wsX7_leftIf) := goodIn_app (goodIn_of _ (by decide +kernel)) ggX7_bestLend_X7_leftIf
theorem dX7_bestLend_0 : decode cX7_bestLend 0 = .ok (.ldc 147, 2) := by decide +kernel
theorem dX7_bestLend_2 : decode cX7_bestLend 2 = .ok (.istore_n 1, 1) := by decide +kernel
theorem dX7_bestLend_3 : decode cX7_bestLend 3 = .ok (.sipush 501, 3) := by decide +kernel
theorem dX7_bestLend_6 : decode cX7_bestLend 6 = .ok (.istore_n 2, 1) := by decide +kernel
theorem dX7_bestLend_7 : decode cX7_bestLend 7 = .ok (.iconst 0, 1) := by decide +kernel
theorem dX7_bestLend_8 : decode cX7_bestLend 8 = .ok (.istore_n 3, 1) := by decide +kernel
theorem dX7_bestLend_9 : decode cX7_bestLend 9 = .ok (.iload_n 3, 1) := by decide +kernel
theorem dX7_bestLend_10 : decode cX7_bestLend 10 = .ok (.iconst 3, 1) := by decide +kernel
theorem dX7_bestLend_11 : decode cX7_bestLend 11 = .ok (.if_icmp .ge 42, 3) := by decide +kernel
theorem dX7_bestLend_14 : decode cX7_bestLend 14 = .ok (.aload_n 0, 1) := by decide +kernel
theorem dX7_bestLend_15 : decode cX7_bestLend 15 = .ok (.aload_n 0, 1) := by decide +kernel
theorem dX7_bestLend_16 : decode cX7_bestLend 16 = .ok (.getfield 7, 3) := by decide +kernel
theorem dX7_bestLend_19 : decode cX7_bestLend 19 = .ok (.sipush 242, 3) := by decide +kernel
theorem dX7_bestLend_22 : decode cX7_bestLend 22 = .ok (.iaload, 1) := by decide +kernel
theorem dX7_bestLend_23 : decode cX7_bestLend 23 = .ok (.iload_n 3, 1) := by decide +kernel
theorem dX7_bestLend_24 : decode cX7_bestLend 24 = .ok (.invokevirtual 154, 3) := by decide +kernel
theorem dX7_bestLend_27 : decode cX7_bestLend 27 = .ok (.istore 4, 2) := by decide +kernel
theorem dX7_bestLend_29 : decode cX7_bestLend 29 = .ok (.iload 4, 2) := by decide +kernel
theorem dX7_bestLend_31 : decode cX7_bestLend 31 = .ok (.ldc 147, 2) := by decide +kernel
theorem dX7_bestLend_33 : decode cX7_bestLend 33 = .ok (.if_icmp .eq 14, 3) := by decide +kernel
theorem dX7_bestLend_36 : decode cX7_bestLend 36 = .ok (.iload 4, 2) := by decide +kernel
theorem dX7_bestLend_38 : decode cX7_bestLend 38 = .ok (.iload_n 2, 1) := by decide +kernel
theorem dX7_bestLend_39 : decode cX7_bestLend 39 = .ok (.if_icmp .ge 8, 3) := by decide +kernel
theorem dX7_bestLend_42 : decode cX7_bestLend 42 = .ok (.iload_n 3, 1) := by decide +kernel
theorem dX7_bestLend_43 : decode cX7_bestLend 43 = .ok (.istore_n 1, 1) := by decide +kernel
theorem dX7_bestLend_44 : decode cX7_bestLend 44 = .ok (.iload 4, 2) := by decide +kernel
theorem dX7_bestLend_46 : decode cX7_bestLend 46 = .ok (.istore_n 2, 1) := by decide +kernel
theorem dX7_bestLend_47 : decode cX7_bestLend 47 = .ok (.iinc 3 1, 3) := by decide +kernel
theorem dX7_bestLend_50 : decode cX7_bestLend 50 = .ok (.goto (-41), 3) := by decide +kernel
theorem dX7_bestLend_53 : decode cX7_bestLend 53 = .ok (.iload_n 1, 1) := by decide +kernel
theorem dX7_bestLend_54 : decode cX7_bestLend 54 = .ok (.ireturn, 1) := by decide +kernel
set_option maxRecDepth 20000 in
theorem ggX7_finalWord_X7_in : GoodIn wsX7_finalWord wsX7_in := goodIn_r _ [7] (by decide +kernel) (by decide +kernel)
set_option maxRecDepth 20000 in
theorem gX7_finalWord_X7_in : GoodIn wsX7_finalWord (va_wsS RX7 26 yX7_in wsX7_in) := goodIn_app (goodIn_of _ (by decide +kernel)) ggX7_finalWord_X7_in
set_option maxRecDepth 20000 in
theorem ggX7_finalWord_X7_putAside : GoodIn wsX7_finalWord wsX7_putAside := goodIn_r _ [11, 12, 2, 72, 73, 74, 75, 76, 77, 78, 79, 80, 81, 82] (by decide +kernel) (by decide +kernel)
set_option maxRecDepth 20000 in
theorem gX7_finalWord_X7_putAside : GoodIn wsX7_finalWord (wsV RX7 110 RX7 yX7_putAside wsX7_putAside) := goodIn_app (goodIn_of _ (by decide +kernel)) ggX7_finalWord_X7_putAside
set_option maxRecDepth 20000 in
theorem ggX7_finalWord_X7_runsOut : GoodIn wsX7_finalWord wsX7_runsOut := goodIn_r _ [16, 3, 17, 18, 19, 6, 20, 21, 22, 23, 24, 2, 25, 26, 27, 28, 29, 30, 31, 32, 33, 34, 35, 36, 37, 38, 39, 40, 41, 42, 43, 44, 45, 46, 47, 48, 49, 50, 51, 52, 53, 54, 55, 56, 57, 58, 59, 4, 5, 7, 60, 61, 62, 63, 64, 65, 66, 67, 72, 73, 74, 75, 76, 77, 78, 79, 80, 81, 82] (by decide +kernel) (by decide +kernel)
set_option maxRecDepth 20000 in
theorem gX7_finalWord_X7_runsOut : GoodIn wsX7_finalWord (wsV RX7 151 RX7 yX7_runsOut wsX7_runsOut) := goodIn_app (goodIn_of _ (by decide +kernel)) ggX7_finalWord_X7_runsOut
set_option maxRecDepth 20000 in
theorem ggX7_finalWord_X7_putBack : GoodIn wsX7_finalWord wsX7_putBack := goodIn_r _ [71, 2, 12, 72, 73, 74, 75, 76, 77, 78, 79, 80, 81, 82] (by decide +kernel) (by decide +kernel)
set_option maxRecDepth 20000 in
theorem gX7_finalWord_X7_putBack : GoodIn wsX7_finalWord (wsV RX7 113 RX7 yX7_putBack wsX7_putBack) := goodIn_app (goodIn_of _ (by decide +kernel)) ggX7_finalWord_X7_putBack
theorem dX7_finalWord_0 : decode cX7_finalWord 0 = .ok (.iload_n 1, 1) := by decide +kernel
theorem dX7_finalWord_1 : decode cX7_finalWord 1 = .ok (.iconst 0, 1) := by decide +kernel
theorem dX7_finalWord_2 : decode cX7_finalWord 2 = .ok (.bipush 31, 2) := by decide +kernel
theorem dX7_finalWord_4 : decode cX7_finalWord 4 = .ok (.invokestatic 26, 3) := by decide +kernel
theorem dX7_finalWord_7 : decode cX7_finalWord 7 = .ok (.ifCond .ne 6, 3) := by decide +kernel
theorem dX7_finalWord_10 : decode cX7_finalWord 10 = .ok (.ldc 75, 2) := by decide +kernel
theorem dX7_finalWord_12 : decode cX7_finalWord 12 = .ok (.ireturn, 1) := by decide +kernel
theorem dX7_finalWord_13 : decode cX7_finalWord 13 = .ok (.aload_n 0, 1) := by decide +kernel
theorem dX7_finalWord_14 : decode cX7_finalWord 14 = .ok (.invokevirtual 110, 3) := by decide +kernel
theorem dX7_finalWord_17 : decode cX7_finalWord 17 = .ok (.aload_n 0, 1) := by decide +kernel
theorem dX7_finalWord_18 : decode cX7_finalWord 18 = .ok (.invokevirtual 151, 3) := by decide +kernel
theorem dX7_finalWord_21 : decode cX7_finalWord 21 = .ok (.istore_n 2, 1) := by decide +kernel
theorem dX7_finalWord_22 : decode cX7_finalWord 22 = .ok (.aload_n 0, 1) := by decide +kernel
theorem dX7_finalWord_23 : decode cX7_finalWord 23 = .ok (.getfield 7, 3) := by decide +kernel
theorem dX7_finalWord_26 : decode cX7_finalWord 26 = .ok (.sipush 200, 3) := by decide +kernel
theorem dX7_finalWord_29 : decode cX7_finalWord 29 = .ok (.iload_n 1, 1) := by decide +kernel
theorem dX7_finalWord_30 : decode cX7_finalWord 30 = .ok (.iadd, 1) := by decide +kernel
theorem dX7_finalWord_31 : decode cX7_finalWord 31 = .ok (.iaload, 1) := by decide +kernel
theorem dX7_finalWord_32 : decode cX7_finalWord 32 = .ok (.istore_n 3, 1) := by decide +kernel
theorem dX7_finalWord_33 : decode cX7_finalWord 33 = .ok (.aload_n 0, 1) := by decide +kernel
theorem dX7_finalWord_34 : decode cX7_finalWord 34 = .ok (.invokevirtual 113, 3) := by decide +kernel
theorem dX7_finalWord_37 : decode cX7_finalWord 37 = .ok (.iload_n 2, 1) := by decide +kernel
theorem dX7_finalWord_38 : decode cX7_finalWord 38 = .ok (.ldc 147, 2) := by decide +kernel
theorem dX7_finalWord_40 : decode cX7_finalWord 40 = .ok (.if_icmp .ne 8, 3) := by decide +kernel
theorem dX7_finalWord_43 : decode cX7_finalWord 43 = .ok (.ldc 147, 2) := by decide +kernel
theorem dX7_finalWord_45 : decode cX7_finalWord 45 = .ok (.goto 4, 3) := by decide +kernel
theorem dX7_finalWord_48 : decode cX7_finalWord 48 = .ok (.iload_n 3, 1) := by decide +kernel
theorem dX7_finalWord_49 : decode cX7_finalWord 49 = .ok (.ireturn, 1) := by decide +kernel
theorem dJ11_isValidCodePoint_9a6ad_0 : decode cJ11_isValidCodePoint_9a6ad 0 = .ok (.iload_n 0, 1) := by decide +kernel
theorem dJ11_isValidCodePoint_9a6ad_1 : decode cJ11_isValidCodePoint_9a6ad 1 = .ok (.bipush 16, 2) := by decide +kernel
theorem dJ11_isValidCodePoint_9a6ad_3 : decode cJ11_isValidCodePoint_9a6ad 3 = .ok (.iushr, 1) := by decide +kernel
theorem dJ11_isValidCodePoint_9a6ad_4 : decode cJ11_isValidCodePoint_9a6ad 4 = .ok (.istore_n 1, 1) := by decide +kernel
theorem dJ11_isValidCodePoint_9a6ad_5 : decode cJ11_isValidCodePoint_9a6ad 5 = .ok (.iload_n 1, 1) := by decide +kernel
theorem dJ11_isValidCodePoint_9a6ad_6 : decode cJ11_isValidCodePoint_9a6ad 6 = .ok (.bipush 17, 2) := by decide +kernel
theorem dJ11_isValidCodePoint_9a6ad_8 : decode cJ11_isValidCodePoint_9a6ad 8 = .ok (.if_icmp .ge 7, 3) := by decide +kernel
theorem dJ11_isValidCodePoint_9a6ad_11 : decode cJ11_isValidCodePoint_9a6ad 11 = .ok (.iconst 1, 1) := by decide +kernel
theorem dJ11_isValidCodePoint_9a6ad_12 : decode cJ11_isValidCodePoint_9a6ad 12 = .ok (.goto 4, 3) := by decide +kernel
theorem dJ11_isValidCodePoint_9a6ad_15 : decode cJ11_isValidCodePoint_9a6ad 15 = .ok (.iconst 0, 1) := by decide +kernel
theorem dJ11_isValidCodePoint_9a6ad_16 : decode cJ11_isValidCodePoint_9a6ad 16 = .ok (.ireturn, 1) := by decide +kernel
theorem dJ11_highSurrogate_5068e_0 : decode cJ11_highSurrogate_5068e 0 = .ok (.iload_n 0, 1) := by decide +kernel
theorem dJ11_highSurrogate_5068e_1 : decode cJ11_highSurrogate_5068e 1 = .ok (.bipush 10, 2) := by decide +kernel
theorem dJ11_highSurrogate_5068e_3 : decode cJ11_highSurrogate_5068e 3 = .ok (.iushr, 1) := by decide +kernel
theorem dJ11_highSurrogate_5068e_4 : decode cJ11_highSurrogate_5068e 4 = .ok (.ldc 110, 2) := by decide +kernel
theorem dJ11_highSurrogate_5068e_6 : decode cJ11_highSurrogate_5068e 6 = .ok (.iadd, 1) := by decide +kernel
theorem dJ11_highSurrogate_5068e_7 : decode cJ11_highSurrogate_5068e 7 = .ok (.i2c, 1) := by decide +kernel
theorem dJ11_highSurrogate_5068e_8 : decode cJ11_highSurrogate_5068e 8 = .ok (.ireturn, 1) := by decide +kernel
theorem dJ11_lowSurrogate_5068e_0 : decode cJ11_lowSurrogate_5068e 0 = .ok (.iload_n 0, 1) := by decide +kernel
theorem dJ11_lowSurrogate_5068e_1 : decode cJ11_lowSurrogate_5068e 1 = .ok (.sipush 1023, 3) := by decide +kernel
theorem dJ11_lowSurrogate_5068e_4 : decode cJ11_lowSurrogate_5068e 4 = .ok (.iand, 1) := by decide +kernel
theorem dJ11_lowSurrogate_5068e_5 : decode cJ11_lowSurrogate_5068e 5 = .ok (.ldc 76, 2) := by decide +kernel
theorem dJ11_lowSurrogate_5068e_7 : decode cJ11_lowSurrogate_5068e 7 = .ok (.iadd, 1) := by decide +kernel
theorem dJ11_lowSurrogate_5068e_8 : decode cJ11_lowSurrogate_5068e 8 = .ok (.i2c, 1) := by decide +kernel
theorem dJ11_lowSurrogate_5068e_9 : decode cJ11_lowSurrogate_5068e 9 = .ok (.ireturn, 1) := by decide +kernel
theorem dJ9_max_7cf53_0 : decode cJ9_max_7cf53 0 = .ok (.iload_n 0, 1) := by decide +kernel
theorem dJ9_max_7cf53_1 : decode cJ9_max_7cf53 1 = .ok (.iload_n 1, 1) := by decide +kernel
theorem dJ9_max_7cf53_2 : decode cJ9_max_7cf53 2 = .ok (.if_icmp .lt 7, 3) := by decide +kernel
theorem dJ9_max_7cf53_5 : decode cJ9_max_7cf53 5 = .ok (.iload_n 0, 1) := by decide +kernel
theorem dJ9_max_7cf53_6 : decode cJ9_max_7cf53 6 = .ok (.goto 4, 3) := by decide +kernel
theorem dJ9_max_7cf53_9 : decode cJ9_max_7cf53 9 = .ok (.iload_n 1, 1) := by decide +kernel
theorem dJ9_max_7cf53_10 : decode cJ9_max_7cf53 10 = .ok (.ireturn, 1) := by decide +kernel
theorem dJ9_min_7cf53_0 : decode cJ9_min_7cf53 0 = .ok (.iload_n 0, 1) := by decide +kernel
theorem dJ9_min_7cf53_1 : decode cJ9_min_7cf53 1 = .ok (.iload_n 1, 1) := by decide +kernel
theorem dJ9_min_7cf53_2 : decode cJ9_min_7cf53 2 = .ok (.if_icmp .gt 7, 3) := by decide +kernel
theorem dJ9_min_7cf53_5 : decode cJ9_min_7cf53 5 = .ok (.iload_n 0, 1) := by decide +kernel
theorem dJ9_min_7cf53_6 : decode cJ9_min_7cf53 6 = .ok (.goto 4, 3) := by decide +kernel
theorem dJ9_min_7cf53_9 : decode cJ9_min_7cf53 9 = .ok (.iload_n 1, 1) := by decide +kernel
theorem dJ9_min_7cf53_10 : decode cJ9_min_7cf53 10 = .ok (.ireturn, 1) := by decide +kernel
set_option maxRecDepth 20000 in
theorem ggJ0_length_8abf5_J0_coder_7d493 : GoodIn wsJ0_length_8abf5 wsJ0_coder_7d493 := goodIn_r _ [6, 7, 8] (by decide +kernel) (by decide +kernel)
set_option maxRecDepth 20000 in
theorem gJ0_length_8abf5_J0_coder_7d493 : GoodIn wsJ0_length_8abf5 (wsV RJ0 335 RJ0 yJ0_coder_7d493 wsJ0_coder_7d493) := goodIn_app (goodIn_of _ (by decide +kernel)) ggJ0_length_8abf5_J0_coder_7d493
theorem dJ0_length_8abf5_0 : decode cJ0_length_8abf5 0 = .ok (.aload_n 0, 1) := by decide +kernel
theorem dJ0_length_8abf5_1 : decode cJ0_length_8abf5 1 = .ok (.getfield 9, 3) := by decide +kernel
theorem dJ0_length_8abf5_4 : decode cJ0_length_8abf5 4 = .ok (.arraylength, 1) := by decide +kernel
theorem dJ0_length_8abf5_5 : decode cJ0_length_8abf5 5 = .ok (.aload_n 0, 1) := by decide +kernel
theorem dJ0_length_8abf5_6 : decode cJ0_length_8abf5 6 = .ok (.invokevirtual 335, 3) := by decide +kernel
theorem dJ0_length_8abf5_9 : decode cJ0_length_8abf5 9 = .ok (.ishr, 1) := by decide +kernel
theorem dJ0_length_8abf5_10 : decode cJ0_length_8abf5 10 = .ok (.ireturn, 1) := by decide +kernel
set_option maxRecDepth 20000 in
theorem ggJ0_indexOf_0f7a4_J0_indexOf_7cf53 : GoodIn wsJ0_indexOf_0f7a4 wsJ0_indexOf_7cf53 := goodIn_r _ [5, 6, 7, 8, 9, 4, 10, 11, 12, 13, 14, 15, 16, 17, 18, 19, 20, 21, 22, 23, 24, 25, 26, 27, 28, 29, 30, 31, 32, 33, 34, 35, 36, 37, 38, 39, 40, 41, 42, 43, 44, 45, 46, 47, 48, 49, 50, 51, 52, 53, 54, 55, 56, 57, 58, 59, 60, 61, 62, 63, 64, 65, 66, 67, 68, 69, 70, 71, 72, 73, 74, 75, 76, 77, 78, 79, 80, 81, 82, 83, 84, 85] (by decide +kernel) (by decide +kernel)
set_option maxRecDepth 20000 in
theorem gJ0_indexOf_0f7a4_J0_indexOf_7cf53 : GoodIn wsJ0_indexOf_0f7a4 (wsV RJ0 633 RJ0 yJ0_indexOf_7cf53 wsJ0_indexOf_7cf53) := goodIn_app (goodIn_of _ (by decide +kernel)) ggJ0_indexOf_0f7a4_J0_indexOf_7cf53
theorem dJ0_indexOf_0f7a4_0 : decode cJ0_indexOf_0f7a4 0 = .ok (.aload_n 0, 1) := by decide +kernel
theorem dJ0_indexOf_0f7a4_1 : decode cJ0_indexOf_0f7a4 1 = .ok (.iload_n 1, 1) := by decide +kernel
theorem dJ0_indexOf_0f7a4_2 : decode cJ0_indexOf_0f7a4 2 = .ok (.iconst 0, 1) := by decide +kernel
theorem dJ0_indexOf_0f7a4_3 : decode cJ0_indexOf_0f7a4 3 = .ok (.invokevirtual 633, 3) := by decide +kernel
theorem dJ0_indexOf_0f7a4_6 : decode cJ0_indexOf_0f7a4 6 = .ok (.ireturn, 1) := by decide +kernel
set_option maxRecDepth 20000 in
theorem ggJ0_indexOf_7cf53_J0_isLatin1_aae02 : GoodIn wsJ0_indexOf_7cf53 wsJ0_isLatin1_aae02 := goodIn_r _ [6, 7, 8] (by decide +kernel) (by decide +kernel)
set_option maxRecDepth 20000 in
theorem gJ0_indexOf_7cf53_J0_isLatin1_aae02 : GoodIn wsJ0_indexOf_7cf53 (wsV RJ0 492 RJ0 yJ0_isLatin1_aae02 wsJ0_isLatin1_aae02) := goodIn_app (goodIn_of _ (by decide +kernel)) ggJ0_indexOf_7cf53_J0_isLatin1_aae02
set_option maxRecDepth 20000 in
theorem ggJ0_indexOf_7cf53_J0_length_8abf5 : GoodIn wsJ0_indexOf_7cf53 wsJ0_length_8abf5 := goodIn_r _ [12, 1, 13, 14, 15, 5, 16, 7, 8] (by decide +kernel) (by decide +kernel)
set_option maxRecDepth 20000 in
theorem gJ0_indexOf_7cf53_J0_length_8abf5 : GoodIn wsJ0_indexOf_7cf53 (wsV RJ0 505 RJ0 yJ0_length_8abf5 wsJ0_length_8abf5) := goodIn_app (goodIn_of _ (by decide +kernel)) ggJ0_indexOf_7cf53_J0_length_8abf5
set_option maxRecDepth 20000 in
theorem ggJ0_indexOf_7cf53_J1_indexOf_4cfef : GoodIn wsJ0_indexOf_7cf53 wsJ1_indexOf_4cfef := goodIn_r _ [20, 21, 22, 23, 24, 25, 26, 27, 28, 29, 19, 30, 31, 32, 33] (by decide +kernel) (by decide +kernel)
set_option maxRecDepth 20000 in
theorem gJ0_indexOf_7cf53_J1_indexOf_4cfef : GoodIn wsJ0_indexOf_7cf53 (va_wsS RJ0 637 yJ1_indexOf_4cfef wsJ1_indexOf_4cfef) := goodIn_app (goodIn_of _ (by decide +kernel)) ggJ0_indexOf_7cf53_J1_indexOf_4cfef
set_option maxRecDepth 20000 in
theorem ggJ0_indexOf_7cf53_J2_indexOf_4cfef : GoodIn wsJ0_indexOf_7cf53 wsJ2_indexOf_4cfef := goodIn_r _ [37, 38, 22, 23, 24, 39, 26, 27, 40, 41, 42, 36, 43, 44, 45, 46, 47, 48, 49, 50, 51, 5, 52, 53, 54, 55, 56, 57, 58, 59, 60, 61, 62, 63, 64, 65, 66, 67, 68, 69, 70, 71, 72, 73, 74, 75, 76, 77, 78, 79, 80, 81] (by decide +kernel) (by decide +kernel)
set_option maxRecDepth 20000 in
theorem gJ0_indexOf_7cf53_J2_indexOf_4cfef : GoodIn wsJ0_indexOf_7cf53 (va_wsS RJ0 640 yJ2_indexOf_4cfef wsJ2_indexOf_4cfef) := goodIn_app (goodIn_of _ (by decide +kernel)) ggJ0_indexOf_7cf53_J2_indexOf_4cfef
theorem dJ0_indexOf_7cf53_0 : decode cJ0_indexOf_7cf53 0 = .ok (.aload_n 0, 1) := by decide +kernel
theorem dJ0_indexOf_7cf53_1 : decode cJ0_indexOf_7cf53 1 = .ok (.invokevirtual 492, 3) := by decide +kernel
theorem dJ0_indexOf_7cf53_4 : decode cJ0_indexOf_7cf53 4 = .ok (.ifCond .eq 19, 3) := by decide +kernel
theorem dJ0_indexOf_7cf53_7 : decode cJ0_indexOf_7cf53 7 = .ok (.aload_n 0, 1) := by decide +kernel
theorem dJ0_indexOf_7cf53_8 : decode cJ0_indexOf_7cf53 8 = .ok (.getfield 9, 3) := by decide +kernel
theorem dJ0_indexOf_7cf53_11 : decode cJ0_indexOf_7cf53 11 = .ok (.iload_n 1, 1) := by decide +kernel
theorem dJ0_indexOf_7cf53_12 : decode cJ0_indexOf_7cf53 12 = .ok (.iload_n 2, 1) := by decide +kernel
theorem dJ0_indexOf_7cf53_13 : decode cJ0_indexOf_7cf53 13 = .ok (.aload_n 0, 1) := by decide +kernel
theorem dJ0_indexOf_7cf53_14 : decode cJ0_indexOf_7cf53 14 = .ok (.invokevirtual 505, 3) := by decide +kernel
theorem dJ0_indexOf_7cf53_17 : decode cJ0_indexOf_7cf53 17 = .ok (.invokestatic 637, 3) := by decide +kernel
theorem dJ0_indexOf_7cf53_20 : decode cJ0_indexOf_7cf53 20 = .ok (.goto 16, 3) := by decide +kernel
theorem dJ0_indexOf_7cf53_23 : decode cJ0_indexOf_7cf53 23 = .ok (.aload_n 0, 1) := by decide +kernel
theorem dJ0_indexOf_7cf53_24 : decode cJ0_indexOf_7cf53 24 = .ok (.getfield 9, 3) := by decide +kernel
theorem dJ0_indexOf_7cf53_27 : decode cJ0_indexOf_7cf53 27 = .ok (.iload_n 1, 1) := by decide +kernel
theorem dJ0_indexOf_7cf53_28 : decode cJ0_indexOf_7cf53 28 = .ok (.iload_n 2, 1) := by decide +kernel
theorem dJ0_indexOf_7cf53_29 : decode cJ0_indexOf_7cf53 29 = .ok (.aload_n 0, 1) := by decide +kernel
theorem dJ0_indexOf_7cf53_30 : decode cJ0_indexOf_7cf53 30 = .ok (.invokevirtual 505, 3) := by decide +kernel
theorem dJ0_indexOf_7cf53_33 : decode cJ0_indexOf_7cf53 33 = .ok (.invokestatic 640, 3) := by decide +kernel
theorem dJ0_indexOf_7cf53_36 : decode cJ0_indexOf_7cf53 36 = .ok (.ireturn, 1) := by decide +kernel
theorem dJ0_coder_7d493_0 : decode cJ0_coder_7d493 0 = .ok (.getstatic 38, 3) := by decide +kernel
theorem dJ0_coder_7d493_3 : decode cJ0_coder_7d493 3 = .ok (.ifCond .eq 10, 3) := by decide +kernel
theorem dJ0_coder_7d493_6 : decode cJ0_coder_7d493 6 = .ok (.aload_n 0, 1) := by decide +kernel
theorem dJ0_coder_7d493_7 : decode cJ0_coder_7d493 7 = .ok (.getfield 15, 3) := by decide +kernel
theorem dJ0_coder_7d493_10 : decode cJ0_coder_7d493 10 = .ok (.goto 4, 3) := by decide +kernel
theorem dJ0_coder_7d493_13 : decode cJ0_coder_7d493 13 = .ok (.iconst 1, 1) := by decide +kernel
theorem dJ0_coder_7d493_14 : decode cJ0_coder_7d493 14 = .ok (.ireturn, 1) := by decide +kernel
theorem dJ0_isLatin1_aae02_0 : decode cJ0_isLatin1_aae02 0 = .ok (.getstatic 38, 3) := by decide +kernel
theorem dJ0_isLatin1_aae02_3 : decode cJ0_isLatin1_aae02 3 = .ok (.ifCond .eq 14, 3) := by decide +kernel
theorem dJ0_isLatin1_aae02_6 : decode cJ0_isLatin1_aae02 6 = .ok (.aload_n 0, 1) := by decide +kernel
theorem dJ0_isLatin1_aae02_7 : decode cJ0_isLatin1_aae02 7 = .ok (.getfield 15, 3) := by decide +kernel
theorem dJ0_isLatin1_aae02_10 : decode cJ0_isLatin1_aae02 10 = .ok (.ifCond .ne 7, 3) := by decide +kernel
theorem dJ0_isLatin1_aae02_13 : decode cJ0_isLatin1_aae02 13 = .ok (.iconst 1, 1) := by decide +kernel
theorem dJ0_isLatin1_aae02_14 : decode cJ0_isLatin1_aae02 14 = .ok (.goto 4, 3) := by decide +kernel
theorem dJ0_isLatin1_aae02_17 : decode cJ0_isLatin1_aae02 17 = .ok (.iconst 0, 1) := by decide +kernel
theorem dJ0_isLatin1_aae02_18 : decode cJ0_isLatin1_aae02 18 = .ok (.ireturn, 1) := by decide +kernel
set_option maxRecDepth 20000 in
theorem ggJ0_checkBoundsBeginEnd_23922_J3_checkFromToIndex_8c36e : GoodIn wsJ0_checkBoundsBeginEnd_23922 wsJ3_checkFromToIndex_8c36e := goodIn_r _ [5] (by decide +kernel) (by decide +kernel)
set_option maxRecDepth 20000 in
theorem gJ0_checkBoundsBeginEnd_23922_J3_checkFromToIndex_8c36e : GoodIn wsJ0_checkBoundsBeginEnd_23922 (va_wsS RJ0 1062 yJ3_checkFromToIndex_8c36e wsJ3_checkFromToIndex_8c36e) := goodIn_app (goodIn_of _ (by decide +kernel)) ggJ0_checkBoundsBeginEnd_23922_J3_checkFromToIndex_8c36e
theorem dJ0_checkBoundsBeginEnd_23922_0 : decode cJ0_checkBoundsBeginEnd_23922 0 = .ok (.iload_n 0, 1) := by decide +kernel
theorem dJ0_checkBoundsBeginEnd_23922_1 : decode cJ0_checkBoundsBeginEnd_23922 1 = .ok (.iload_n 1, 1) := by decide +kernel
theorem dJ0_checkBoundsBeginEnd_23922_2 : decode cJ0_checkBoundsBeginEnd_23922 2 = .ok (.iload_n 2, 1) := by decide +kernel
theorem dJ0_checkBoundsBeginEnd_23922_3 : decode cJ0_checkBoundsBeginEnd_23922 3 = .ok (.getstatic 1053, 3) := by decide +kernel
theorem dJ0_checkBoundsBeginEnd_23922_6 : decode cJ0_checkBoundsBeginEnd_23922 6 = .ok (.invokestatic 1062, 3) := by decide +kernel
theorem dJ0_checkBoundsBeginEnd_23922_9 : decode cJ0_checkBoundsBeginEnd_23922 9 = .ok (.pop, 1) := by decide +kernel
theorem dJ0_checkBoundsBeginEnd_23922_10 : decode cJ0_checkBoundsBeginEnd_23922 10 = .ok (.return_, 1) := by decide +kernel
theorem dJ1_canEncode_9a6ad_0 : decode cJ1_canEncode_9a6ad 0 = .ok (.iload_n 0, 1) := by decide +kernel
theorem dJ1_canEncode_9a6ad_1 : decode cJ1_canEncode_9a6ad 1 = .ok (.ifCond .lt 14, 3) := by decide +kernel
theorem dJ1_canEncode_9a6ad_4 : decode cJ1_canEncode_9a6ad 4 = .ok (.iload_n 0, 1) := by decide +kernel
theorem dJ1_canEncode_9a6ad_5 : decode cJ1_canEncode_9a6ad 5 = .ok (.sipush 255, 3) := by decide +kernel
theorem dJ1_canEncode_9a6ad_8 : decode cJ1_canEncode_9a6ad 8 = .ok (.if_icmp .gt 7, 3) := by decide +kernel
theorem dJ1_canEncode_9a6ad_11 : decode cJ1_canEncode_9a6ad 11 = .ok (.iconst 1, 1) := by decide +kernel
theorem dJ1_canEncode_9a6ad_12 : decode cJ1_canEncode_9a6ad 12 = .ok (.goto 4, 3) := by decide +kernel
theorem dJ1_canEncode_9a6ad_15 : decode cJ1_canEncode_9a6ad 15 = .ok (.iconst 0, 1) := by decide +kernel
theorem dJ1_canEncode_9a6ad_16 : decode cJ1_canEncode_9a6ad 16 = .ok (.ireturn, 1) := by decide +kernel
set_option maxRecDepth 20000 in
theorem ggJ1_indexOf_4cfef_J1_canEncode_9a6ad : GoodIn wsJ1_indexOf_4cfef wsJ1_canEncode_9a6ad := goodIn_r _ [11] (by decide +kernel) (by decide +kernel)
set_option maxRecDepth 20000 in
theorem gJ1_indexOf_4cfef_J1_canEncode_9a6ad : GoodIn wsJ1_indexOf_4cfef (va_wsS RJ1 88 yJ1_canEncode_9a6ad wsJ1_canEncode_9a6ad) := goodIn_app (goodIn_of _ (by decide +kernel)) ggJ1_indexOf_4cfef_J1_canEncode_9a6ad
set_option maxRecDepth 20000 in
theorem ggJ1_indexOf_4cfef_J1_indexOfChar_4cfef : GoodIn wsJ1_indexOf_4cfef wsJ1_indexOfChar_4cfef := goodIn_r _ [14] (by decide +kernel) (by decide +kernel)
set_option maxRecDepth 20000 in
theorem gJ1_indexOf_4cfef_J1_indexOfChar_4cfef : GoodIn wsJ1_indexOf_4cfef (va_wsS RJ1 95 yJ1_indexOfChar_4cfef wsJ1_indexOfChar_4cfef) := goodIn_app (goodIn_of _ (by decide +kernel)) ggJ1_indexOf_4cfef_J1_indexOfChar_4cfef
theorem dJ1_indexOf_4cfef_0 : decode cJ1_indexOf_4cfef 0 = .ok (.iload_n 1, 1) := by decide +kernel
theorem dJ1_indexOf_4cfef_1 : decode cJ1_indexOf_4cfef 1 = .ok (.invokestatic 88, 3) := by decide +kernel
theorem dJ1_indexOf_4cfef_4 : decode cJ1_indexOf_4cfef 4 = .ok (.ifCond .ne 5, 3) := by decide +kernel
theorem dJ1_indexOf_4cfef_7 : decode cJ1_indexOf_4cfef 7 = .ok (.iconst (-1), 1) := by decide +kernel
theorem dJ1_indexOf_4cfef_8 : decode cJ1_indexOf_4cfef 8 = .ok (.ireturn, 1) := by decide +kernel
theorem dJ1_indexOf_4cfef_9 : decode cJ1_indexOf_4cfef 9 = .ok (.iload_n 2, 1) := by decide +kernel
theorem dJ1_indexOf_4cfef_10 : decode cJ1_indexOf_4cfef 10 = .ok (.iconst 0, 1) := by decide +kernel
theorem dJ1_indexOf_4cfef_11 : decode cJ1_indexOf_4cfef 11 = .ok (.invokestatic 92, 3) := by decide +kernel
theorem dJ1_indexOf_4cfef_14 : decode cJ1_indexOf_4cfef 14 = .ok (.istore_n 2, 1) := by decide +kernel
theorem dJ1_indexOf_4cfef_15 : decode cJ1_indexOf_4cfef 15 = .ok (.iload_n 3, 1) := by decide +kernel
theorem dJ1_indexOf_4cfef_16 : decode cJ1_indexOf_4cfef 16 = .ok (.aload_n 0, 1) := by decide +kernel
theorem dJ1_indexOf_4cfef_17 : decode cJ1_indexOf_4cfef 17 = .ok (.arraylength, 1) := by decide +kernel
theorem dJ1_indexOf_4cfef_18 : decode cJ1_indexOf_4cfef 18 = .ok (.invokestatic 38, 3) := by decide +kernel
theorem dJ1_indexOf_4cfef_21 : decode cJ1_indexOf_4cfef 21 = .ok (.istore_n 3, 1) := by decide +kernel
theorem dJ1_indexOf_4cfef_22 : decode cJ1_indexOf_4cfef 22 = .ok (.iload_n 2, 1) := by decide +kernel
theorem dJ1_indexOf_4cfef_23 : decode cJ1_indexOf_4cfef 23 = .ok (.iload_n 3, 1) := by decide +kernel
theorem dJ1_indexOf_4cfef_24 : decode cJ1_indexOf_4cfef 24 = .ok (.if_icmp .lt 5, 3) := by decide +kernel
theorem dJ1_indexOf_4cfef_27 : decode cJ1_indexOf_4cfef 27 = .ok (.iconst (-1), 1) := by decide +kernel
theorem dJ1_indexOf_4cfef_28 : decode cJ1_indexOf_4cfef 28 = .ok (.ireturn, 1) := by decide +kernel
theorem dJ1_indexOf_4cfef_29 : decode cJ1_indexOf_4cfef 29 = .ok (.aload_n 0, 1) := by decide +kernel
theorem dJ1_indexOf_4cfef_30 : decode cJ1_indexOf_4cfef 30 = .ok (.iload_n 1, 1) := by decide +kernel
theorem dJ1_indexOf_4cfef_31 : decode cJ1_indexOf_4cfef 31 = .ok (.iload_n 2, 1) := by decide +kernel
theorem dJ1_indexOf_4cfef_32 : decode cJ1_indexOf_4cfef 32 = .ok (.iload_n 3, 1) := by decide +kernel
theorem dJ1_indexOf_4cfef_33 : decode cJ1_indexOf_4cfef 33 = .ok (.invokestatic 95, 3) := by decide +kernel
theorem dJ1_indexOf_4cfef_36 : decode cJ1_indexOf_4cfef 36 = .ok (.ireturn, 1) := by decide +kernel
theorem dJ1_indexOfChar_4cfef_0 : decode cJ1_indexOfChar_4cfef 0 = .ok (.iload_n 1, 1) := by decide +kernel
theorem dJ1_indexOfChar_4cfef_1 : decode cJ1_indexOfChar_4cfef 1 = .ok (.i2b, 1) := by decide +kernel
theorem dJ1_indexOfChar_4cfef_2 : decode cJ1_indexOfChar_4cfef 2 = .ok (.istore 4, 2) := by decide +kernel
theorem dJ1_indexOfChar_4cfef_4 : decode cJ1_indexOfChar_4cfef 4 = .ok (.iload_n 2, 1) := by decide +kernel
theorem dJ1_indexOfChar_4cfef_5 : decode cJ1_indexOfChar_4cfef 5 = .ok (.istore 5, 2) := by decide +kernel
theorem dJ1_indexOfChar_4cfef_7 : decode cJ1_indexOfChar_4cfef 7 = .ok (.iload 5, 2) := by decide +kernel
theorem dJ1_indexOfChar_4cfef_9 : decode cJ1_indexOfChar_4cfef 9 = .ok (.iload_n 3, 1) := by decide +kernel
theorem dJ1_indexOfChar_4cfef_10 : decode cJ1_indexOfChar_4cfef 10 = .ok (.if_icmp .ge 21, 3) := by decide +kernel
theorem dJ1_indexOfChar_4cfef_13 : decode cJ1_indexOfChar_4cfef 13 = .ok (.aload_n 0, 1) := by decide +kernel
theorem dJ1_indexOfChar_4cfef_14 : decode cJ1_indexOfChar_4cfef 14 = .ok (.iload 5, 2) := by decide +kernel
theorem dJ1_indexOfChar_4cfef_16 : decode cJ1_indexOfChar_4cfef 16 = .ok (.baload, 1) := by decide +kernel
theorem dJ1_indexOfChar_4cfef_17 : decode cJ1_indexOfChar_4cfef 17 = .ok (.iload 4, 2) := by decide +kernel
theorem dJ1_indexOfChar_4cfef_19 : decode cJ1_indexOfChar_4cfef 19 = .ok (.if_icmp .ne 6, 3) := by decide +kernel
theorem dJ1_indexOfChar_4cfef_22 : decode cJ1_indexOfChar_4cfef 22 = .ok (.iload 5, 2) := by decide +kernel
theorem dJ1_indexOfChar_4cfef_24 : decode cJ1_indexOfChar_4cfef 24 = .ok (.ireturn, 1) := by decide +kernel
theorem dJ1_indexOfChar_4cfef_25 : decode cJ1_indexOfChar_4cfef 25 = .ok (.iinc 5 1, 3) := by decide +kernel
theorem dJ1_indexOfChar_4cfef_28 : decode cJ1_indexOfChar_4cfef 28 = .ok (.goto (-21), 3) := by decide +kernel
theorem dJ1_indexOfChar_4cfef_31 : decode cJ1_indexOfChar_4cfef 31 = .ok (.iconst (-1), 1) := by decide +kernel
theorem dJ1_indexOfChar_4cfef_32 : decode cJ1_indexOfChar_4cfef 32 = .ok (.ireturn, 1) := by decide +kernel
set_option maxRecDepth 20000 in
theorem ggJ2_getChar_3b067_J2_length_9d52b : GoodIn wsJ2_getChar_3b067 wsJ2_length_9d52b := goodIn_r _ [7] (by decide +kernel) (by decide +kernel)
set_option maxRecDepth 20000 in
theorem gJ2_getChar_3b067_J2_length_9d52b : GoodIn wsJ2_getChar_3b067 (va_wsS RJ2 48 yJ2_length_9d52b wsJ2_length_9d52b) := goodIn_app (goodIn_of _ (by decide +kernel)) ggJ2_getChar_3b067_J2_length_9d52b
theorem dJ2_getChar_3b067_0 : decode cJ2_getChar_3b067 0 = .ok (.getstatic 44, 3) := by decide +kernel
theorem dJ2_getChar_3b067_3 : decode cJ2_getChar_3b067 3 = .ok (.ifCond .ne 25, 3) := by decide +kernel
theorem dJ2_getChar_3b067_6 : decode cJ2_getChar_3b067 6 = .ok (.iload_n 1, 1) := by decide +kernel
theorem dJ2_getChar_3b067_7 : decode cJ2_getChar_3b067 7 = .ok (.ifCond .lt 11, 3) := by decide +kernel
theorem dJ2_getChar_3b067_10 : decode cJ2_getChar_3b067 10 = .ok (.iload_n 1, 1) := by decide +kernel
theorem dJ2_getChar_3b067_11 : decode cJ2_getChar_3b067 11 = .ok (.aload_n 0, 1) := by decide +kernel
theorem dJ2_getChar_3b067_12 : decode cJ2_getChar_3b067 12 = .ok (.invokestatic 48, 3) := by decide +kernel
theorem dJ2_getChar_3b067_15 : decode cJ2_getChar_3b067 15 = .ok (.if_icmp .lt 13, 3) := by decide +kernel
theorem dJ2_getChar_3b067_18 : decode cJ2_getChar_3b067 18 = .ok (.new 52, 3) := by decide +kernel
theorem dJ2_getChar_3b067_21 : decode cJ2_getChar_3b067 21 = .ok (.dup, 1) := by decide +kernel
theorem dJ2_getChar_3b067_22 : decode cJ2_getChar_3b067 22 = .ok (.ldc 54, 2) := by decide +kernel
theorem dJ2_getChar_3b067_24 : decode cJ2_getChar_3b067 24 = .ok (.invokespecial 56, 3) := by decide +kernel
theorem dJ2_getChar_3b067_27 : decode cJ2_getChar_3b067 27 = .ok (.athrow, 1) := by decide +kernel
theorem dJ2_getChar_3b067_28 : decode cJ2_getChar_3b067 28 = .ok (.iload_n 1, 1) := by decide +kernel
theorem dJ2_getChar_3b067_29 : decode cJ2_getChar_3b067 29 = .ok (.iconst 1, 1) := by decide +kernel
theorem dJ2_getChar_3b067_30 : decode cJ2_getChar_3b067 30 = .ok (.ishl, 1) := by decide +kernel
theorem dJ2_getChar_3b067_31 : decode cJ2_getChar_3b067 31 = .ok (.istore_n 1, 1) := by decide +kernel
theorem dJ2_getChar_3b067_32 : decode cJ2_getChar_3b067 32 = .ok (.aload_n 0, 1) := by decide +kernel
theorem dJ2_getChar_3b067_33 : decode cJ2_getChar_3b067 33 = .ok (.iload_n 1, 1) := by decide +kernel
theorem dJ2_getChar_3b067_34 : decode cJ2_getChar_3b067 34 = .ok (.iinc 1 1, 3) := by decide +kernel
theorem dJ2_getChar_3b067_37 : decode cJ2_getChar_3b067 37 = .ok (.baload, 1) := by decide +kernel
theorem dJ2_getChar_3b067_38 : decode cJ2_getChar_3b067 38 = .ok (.sipush 255, 3) := by decide +kernel
theorem dJ2_getChar_3b067_41 : decode cJ2_getChar_3b067 41 = .ok (.iand, 1) := by decide +kernel
theorem dJ2_getChar_3b067_42 : decode cJ2_getChar_3b067 42 = .ok (.getstatic 59, 3) := by decide +kernel
theorem dJ2_getChar_3b067_45 : decode cJ2_getChar_3b067 45 = .ok (.ishl, 1) := by decide +kernel
theorem dJ2_getChar_3b067_46 : decode cJ2_getChar_3b067 46 = .ok (.aload_n 0, 1) := by decide +kernel
theorem dJ2_getChar_3b067_47 : decode cJ2_getChar_3b067 47 = .ok (.iload_n 1, 1) := by decide +kernel
theorem dJ2_getChar_3b067_48 : decode cJ2_getChar_3b067 48 = .ok (.baload, 1) := by decide +kernel
theorem dJ2_getChar_3b067_49 : decode cJ2_getChar_3b067 49 = .ok (.sipush 255, 3) := by decide +kernel
theorem dJ2_getChar_3b067_52 : decode cJ2_getChar_3b067 52 = .ok (.iand, 1) := by decide +kernel
theorem dJ2_getChar_3b067_53 : decode cJ2_getChar_3b067 53 = .ok (.getstatic 63, 3) := by decide +kernel
theorem dJ2_getChar_3b067_56 : decode cJ2_getChar_3b067 56 = .ok (.ishl, 1) := by decide +kernel
theorem dJ2_getChar_3b067_57 : decode cJ2_getChar_3b067 57 = .ok (.ior, 1) := by decide +kernel
theorem dJ2_getChar_3b067_58 : decode cJ2_getChar_3b067 58 = .ok (.i2c, 1) := by decide +kernel
theorem dJ2_getChar_3b067_59 : decode cJ2_getChar_3b067 59 = .ok (.ireturn, 1) := by decide +kernel
theorem dJ2_length_9d52b_0 : decode cJ2_length_9d52b 0 = .ok (.aload_n 0, 1) := by decide +kernel
theorem dJ2_length_9d52b_1 : decode cJ2_length_9d52b 1 = .ok (.arraylength, 1) := by decide +kernel
theorem dJ2_length_9d52b_2 : decode cJ2_length_9d52b 2 = .ok (.iconst 1, 1) := by decide +kernel
theorem dJ2_length_9d52b_3 : decode cJ2_length_9d52b 3 = .ok (.ishr, 1) := by decide +kernel
theorem dJ2_length_9d52b_4 : decode cJ2_length_9d52b 4 = .ok (.ireturn, 1) := by decide +kernel
set_option maxRecDepth 20000 in
theorem ggJ2_indexOf_4cfef_J2_indexOfChar_4cfef : GoodIn wsJ2_indexOf_4cfef wsJ2_indexOfChar_4cfef := goodIn_r _ [12, 13, 14, 11, 15, 16, 17, 18, 19, 20, 21, 22, 23, 24, 25, 26, 27, 28, 29, 30, 31, 32, 33, 34, 35, 36] (by decide +kernel) (by decide +kernel)
set_option maxRecDepth 20000 in
theorem gJ2_indexOf_4cfef_J2_indexOfChar_4cfef : GoodIn wsJ2_indexOf_4cfef (va_wsS RJ2 228 yJ2_indexOfChar_4cfef wsJ2_indexOfChar_4cfef) := goodIn_app (goodIn_of _ (by decide +kernel)) ggJ2_indexOf_4cfef_J2_indexOfChar_4cfef
set_option maxRecDepth 20000 in
theorem ggJ2_indexOf_4cfef_J2_indexOfSupplementary_4cfef : GoodIn wsJ2_indexOf_4cfef wsJ2_indexOfSupplementary_4cfef := goodIn_r _ [39, 40, 41, 42, 43, 44, 45, 46, 47, 48, 49, 50, 51, 13, 14, 11, 15, 16, 17, 18, 19, 20, 21, 22, 23, 24, 25, 26, 27, 31, 32, 33, 34, 35, 36] (by decide +kernel) (by decide +kernel)
set_option maxRecDepth 20000 in
theorem gJ2_indexOf_4cfef_J2_indexOfSupplementary_4cfef : GoodIn wsJ2_indexOf_4cfef (va_wsS RJ2 232 yJ2_indexOfSupplementary_4cfef wsJ2_indexOfSupplementary_4cfef) := goodIn_app (goodIn_of _ (by decide +kernel)) ggJ2_indexOf_4cfef_J2_indexOfSupplementary_4cfef
theorem dJ2_indexOf_4cfef_0 : decode cJ2_indexOf_4cfef 0 = .ok (.iload_n 2, 1) := by decide +kernel
theorem dJ2_indexOf_4cfef_1 : decode cJ2_indexOf_4cfef 1 = .ok (.iconst 0, 1) := by decide +kernel
theorem dJ2_indexOf_4cfef_2 : decode cJ2_indexOf_4cfef 2 = .ok (.invokestatic 224, 3) := by decide +kernel
theorem dJ2_indexOf_4cfef_5 : decode cJ2_indexOf_4cfef 5 = .ok (.istore_n 2, 1) := by decide +kernel
theorem dJ2_indexOf_4cfef_6 : decode cJ2_indexOf_4cfef 6 = .ok (.iload_n 3, 1) := by decide +kernel
theorem dJ2_indexOf_4cfef_7 : decode cJ2_indexOf_4cfef 7 = .ok (.aload_n 0, 1) := by decide +kernel
theorem dJ2_indexOf_4cfef_8 : decode cJ2_indexOf_4cfef 8 = .ok (.arraylength, 1) := by decide +kernel
theorem dJ2_indexOf_4cfef_9 : decode cJ2_indexOf_4cfef 9 = .ok (.iconst 1, 1) := by decide +kernel
theorem dJ2_indexOf_4cfef_10 : decode cJ2_indexOf_4cfef 10 = .ok (.ishr, 1) := by decide +kernel
theorem dJ2_indexOf_4cfef_11 : decode cJ2_indexOf_4cfef 11 = .ok (.invokestatic 183, 3) := by decide +kernel
theorem dJ2_indexOf_4cfef_14 : decode cJ2_indexOf_4cfef 14 = .ok (.istore_n 3, 1) := by decide +kernel
theorem dJ2_indexOf_4cfef_15 : decode cJ2_indexOf_4cfef 15 = .ok (.iload_n 2, 1) := by decide +kernel
theorem dJ2_indexOf_4cfef_16 : decode cJ2_indexOf_4cfef 16 = .ok (.iload_n 3, 1) := by decide +kernel
theorem dJ2_indexOf_4cfef_17 : decode cJ2_indexOf_4cfef 17 = .ok (.if_icmp .lt 5, 3) := by decide +kernel
theorem dJ2_indexOf_4cfef_20 : decode cJ2_indexOf_4cfef 20 = .ok (.iconst (-1), 1) := by decide +kernel
theorem dJ2_indexOf_4cfef_21 : decode cJ2_indexOf_4cfef 21 = .ok (.ireturn, 1) := by decide +kernel
theorem dJ2_indexOf_4cfef_22 : decode cJ2_indexOf_4cfef 22 = .ok (.iload_n 1, 1) := by decide +kernel
theorem dJ2_indexOf_4cfef_23 : decode cJ2_indexOf_4cfef 23 = .ok (.ldc 227, 2) := by decide +kernel
theorem dJ2_indexOf_4cfef_25 : decode cJ2_indexOf_4cfef 25 = .ok (.if_icmp .ge 11, 3) := by decide +kernel
theorem dJ2_indexOf_4cfef_28 : decode cJ2_indexOf_4cfef 28 = .ok (.aload_n 0, 1) := by decide +kernel
theorem dJ2_indexOf_4cfef_29 : decode cJ2_indexOf_4cfef 29 = .ok (.iload_n 1, 1) := by decide +kernel
theorem dJ2_indexOf_4cfef_30 : decode cJ2_indexOf_4cfef 30 = .ok (.iload_n 2, 1) := by decide +kernel
theorem dJ2_indexOf_4cfef_31 : decode cJ2_indexOf_4cfef 31 = .ok (.iload_n 3, 1) := by decide +kernel
theorem dJ2_indexOf_4cfef_32 : decode cJ2_indexOf_4cfef 32 = .ok (.invokestatic 228, 3) := by decide +kernel
theorem dJ2_indexOf_4cfef_35 : decode cJ2_indexOf_4cfef 35 = .ok (.ireturn, 1) := by decide +kernel
theorem dJ2_indexOf_4cfef_36 : decode cJ2_indexOf_4cfef 36 = .ok (.aload_n 0, 1) := by decide +kernel
theorem dJ2_indexOf_4cfef_37 : decode cJ2_indexOf_4cfef 37 = .ok (.iload_n 1, 1) := by decide +kernel
theorem dJ2_indexOf_4cfef_38 : decode cJ2_indexOf_4cfef 38 = .ok (.iload_n 2, 1) := by decide +kernel
theorem dJ2_indexOf_4cfef_39 : decode cJ2_indexOf_4cfef 39 = .ok (.iload_n 3, 1) := by decide +kernel
theorem dJ2_indexOf_4cfef_40 : decode cJ2_indexOf_4cfef 40 = .ok (.invokestatic 232, 3) := by decide +kernel
theorem dJ2_indexOf_4cfef_43 : decode cJ2_indexOf_4cfef 43 = .ok (.ireturn, 1) := by decide +kernel
set_option maxRecDepth 20000 in
theorem ggJ2_indexOfChar_4cfef_J2_checkBoundsBeginEnd_d044e : GoodIn wsJ2_indexOfChar_4cfef wsJ2_checkBoundsBeginEnd_d044e := goodIn_r _ [4, 5, 6, 3, 7, 8, 9, 10, 11, 12, 13, 14, 15, 16] (by decide +kernel) (by decide +kernel)
set_option maxRecDepth 20000 in
theorem gJ2_indexOfChar_4cfef_J2_checkBoundsBeginEnd_d044e : GoodIn wsJ2_indexOfChar_4cfef (va_wsS RJ2 96 yJ2_checkBoundsBeginEnd_d044e wsJ2_checkBoundsBeginEnd_d044e) := goodIn_app (goodIn_of _ (by decide +kernel)) ggJ2_indexOfChar_4cfef_J2_checkBoundsBeginEnd_d044e
set_option maxRecDepth 20000 in
theorem ggJ2_indexOfChar_4cfef_J2_indexOfCharUnsafe_4cfef : GoodIn wsJ2_indexOfChar_4cfef wsJ2_indexOfCharUnsafe_4cfef := goodIn_r _ [19, 20, 21, 3, 22, 23, 24, 25, 5, 6, 7] (by decide +kernel) (by decide +kernel)
set_option maxRecDepth 20000 in
theorem gJ2_indexOfChar_4cfef_J2_indexOfCharUnsafe_4cfef : GoodIn wsJ2_indexOfChar_4cfef (va_wsS RJ2 244 yJ2_indexOfCharUnsafe_4cfef wsJ2_indexOfCharUnsafe_4cfef) := goodIn_app (goodIn_of _ (by decide +kernel)) ggJ2_indexOfChar_4cfef_J2_indexOfCharUnsafe_4cfef
theorem dJ2_indexOfChar_4cfef_0 : decode cJ2_indexOfChar_4cfef 0 = .ok (.iload_n 2, 1) := by decide +kernel
theorem dJ2_indexOfChar_4cfef_1 : decode cJ2_indexOfChar_4cfef 1 = .ok (.iload_n 3, 1) := by decide +kernel
theorem dJ2_indexOfChar_4cfef_2 : decode cJ2_indexOfChar_4cfef 2 = .ok (.aload_n 0, 1) := by decide +kernel
theorem dJ2_indexOfChar_4cfef_3 : decode cJ2_indexOfChar_4cfef 3 = .ok (.invokestatic 96, 3) := by decide +kernel
theorem dJ2_indexOfChar_4cfef_6 : decode cJ2_indexOfChar_4cfef 6 = .ok (.aload_n 0, 1) := by decide +kernel
theorem dJ2_indexOfChar_4cfef_7 : decode cJ2_indexOfChar_4cfef 7 = .ok (.iload_n 1, 1) := by decide +kernel
theorem dJ2_indexOfChar_4cfef_8 : decode cJ2_indexOfChar_4cfef 8 = .ok (.iload_n 2, 1) := by decide +kernel
theorem dJ2_indexOfChar_4cfef_9 : decode cJ2_indexOfChar_4cfef 9 = .ok (.iload_n 3, 1) := by decide +kernel
theorem dJ2_indexOfChar_4cfef_10 : decode cJ2_indexOfChar_4cfef 10 = .ok (.invokestatic 244, 3) := by decide +kernel
theorem dJ2_indexOfChar_4cfef_13 : decode cJ2_indexOfChar_4cfef 13 = .ok (.ireturn, 1) := by decide +kernel
set_option maxRecDepth 20000 in
theorem ggJ2_indexOfCharUnsafe_4cfef_J2_getChar_3b067 : GoodIn wsJ2_indexOfCharUnsafe_4cfef wsJ2_getChar_3b067 := goodIn_r _ [4, 5, 6, 7, 8, 9, 3, 10] (by decide +kernel) (by decide +kernel)
set_option maxRecDepth 20000 in
theorem gJ2_indexOfCharUnsafe_4cfef_J2_getChar_3b067 : GoodIn wsJ2_indexOfCharUnsafe_4cfef (va_wsS RJ2 71 yJ2_getChar_3b067 wsJ2_getChar_3b067) := goodIn_app (goodIn_of _ (by decide +kernel)) ggJ2_indexOfCharUnsafe_4cfef_J2_getChar_3b067
theorem dJ2_indexOfCharUnsafe_4cfef_0 : decode cJ2_indexOfCharUnsafe_4cfef 0 = .ok (.iload_n 2, 1) := by decide +kernel
theorem dJ2_indexOfCharUnsafe_4cfef_1 : decode cJ2_indexOfCharUnsafe_4cfef 1 = .ok (.istore 4, 2) := by decide +kernel
theorem dJ2_indexOfCharUnsafe_4cfef_3 : decode cJ2_indexOfCharUnsafe_4cfef 3 = .ok (.iload 4, 2) := by decide +kernel
theorem dJ2_indexOfCharUnsafe_4cfef_5 : decode cJ2_indexOfCharUnsafe_4cfef 5 = .ok (.iload_n 3, 1) := by decide +kernel
theorem dJ2_indexOfCharUnsafe_4cfef_6 : decode cJ2_indexOfCharUnsafe_4cfef 6 = .ok (.if_icmp .ge 22, 3) := by decide +kernel
theorem dJ2_indexOfCharUnsafe_4cfef_9 : decode cJ2_indexOfCharUnsafe_4cfef 9 = .ok (.aload_n 0, 1) := by decide +kernel
theorem dJ2_indexOfCharUnsafe_4cfef_10 : decode cJ2_indexOfCharUnsafe_4cfef 10 = .ok (.iload 4, 2) := by decide +kernel
theorem dJ2_indexOfCharUnsafe_4cfef_12 : decode cJ2_indexOfCharUnsafe_4cfef 12 = .ok (.invokestatic 71, 3) := by decide +kernel
theorem dJ2_indexOfCharUnsafe_4cfef_15 : decode cJ2_indexOfCharUnsafe_4cfef 15 = .ok (.iload_n 1, 1) := by decide +kernel
theorem dJ2_indexOfCharUnsafe_4cfef_16 : decode cJ2_indexOfCharUnsafe_4cfef 16 = .ok (.if_icmp .ne 6, 3) := by decide +kernel
theorem dJ2_indexOfCharUnsafe_4cfef_19 : decode cJ2_indexOfCharUnsafe_4cfef 19 = .ok (.iload 4, 2) := by decide +kernel
theorem dJ2_indexOfCharUnsafe_4cfef_21 : decode cJ2_indexOfCharUnsafe_4cfef 21 = .ok (.ireturn, 1) := by decide +kernel
theorem dJ2_indexOfCharUnsafe_4cfef_22 : decode cJ2_indexOfCharUnsafe_4cfef 22 = .ok (.iinc 4 1, 3) := by decide +kernel
theorem dJ2_indexOfCharUnsafe_4cfef_25 : decode cJ2_indexOfCharUnsafe_4cfef 25 = .ok (.goto (-22), 3) := by decide +kernel
theorem dJ2_indexOfCharUnsafe_4cfef_28 : decode cJ2_indexOfCharUnsafe_4cfef 28 = .ok (.iconst (-1), 1) := by decide +kernel
theorem dJ2_indexOfCharUnsafe_4cfef_29 : decode cJ2_indexOfCharUnsafe_4cfef 29 = .ok (.ireturn, 1) := by decide +kernel
set_option maxRecDepth 20000 in
theorem ggJ2_indexOfSupplementary_4cfef_J11_isValidCodePoint_9a6ad : GoodIn wsJ2_indexOfSupplementary_4cfef wsJ11_isValidCodePoint_9a6ad := goodIn_r _ [4] (by decide +kernel) (by decide +kernel)
set_option maxRecDepth 20000 in
theorem gJ2_indexOfSupplementary_4cfef_J11_isValidCodePoint_9a6ad : GoodIn wsJ2_indexOfSupplementary_4cfef (va_wsS RJ2 164 yJ11_isValidCodePoint_9a6ad wsJ11_isValidCodePoint_9a6ad) := goodIn_app (goodIn_of _ (by decide +kernel)) ggJ2_indexOfSupplementary_4cfef_J11_isValidCodePoint_9a6ad
set_option maxRecDepth 20000 in
theorem ggJ2_indexOfSupplementary_4cfef_J11_highSurrogate_5068e : GoodIn wsJ2_indexOfSupplementary_4cfef wsJ11_highSurrogate_5068e := goodIn_r _ [7, 8] (by decide +kernel) (by decide +kernel)
set_option maxRecDepth 20000 in
theorem gJ2_indexOfSupplementary_4cfef_J11_highSurrogate_5068e : GoodIn wsJ2_indexOfSupplementary_4cfef (va_wsS RJ2 157 yJ11_highSurrogate_5068e wsJ11_highSurrogate_5068e) := goodIn_app (goodIn_of _ (by decide +kernel)) ggJ2_indexOfSupplementary_4cfef_J11_highSurrogate_5068e
set_option maxRecDepth 20000 in
theorem ggJ2_indexOfSupplementary_4cfef_J11_lowSurrogate_5068e : GoodIn wsJ2_indexOfSupplementary_4cfef wsJ11_lowSurrogate_5068e := goodIn_r _ [11, 12] (by decide +kernel) (by decide +kernel)
set_option maxRecDepth 20000 in
theorem gJ2_indexOfSupplementary_4cfef_J11_lowSurrogate_5068e : GoodIn wsJ2_indexOfSupplementary_4cfef (va_wsS RJ2 161 yJ11_lowSurrogate_5068e wsJ11_lowSurrogate_5068e) := goodIn_app (goodIn_of _ (by decide +kernel)) ggJ2_indexOfSupplementary_4cfef_J11_lowSurrogate_5068e
set_option maxRecDepth 20000 in
theorem ggJ2_indexOfSupplementary_4cfef_J2_checkBoundsBeginEnd_d044e : GoodIn wsJ2_indexOfSupplementary_4cfef wsJ2_checkBoundsBeginEnd_d044e := goodIn_r _ [16, 17, 18, 15, 19, 20, 21, 22, 23, 24, 25, 26, 27, 28] (by decide +kernel) (by decide +kernel)
set_option maxRecDepth 20000 in
theorem gJ2_indexOfSupplementary_4cfef_J2_checkBoundsBeginEnd_d044e : GoodIn wsJ2_indexOfSupplementary_4cfef (va_wsS RJ2 96 yJ2_checkBoundsBeginEnd_d044e wsJ2_checkBoundsBeginEnd_d044e) := goodIn_app (goodIn_of _ (by decide +kernel)) ggJ2_indexOfSupplementary_4cfef_J2_checkBoundsBeginEnd_d044e
set_option maxRecDepth 20000 in
theorem ggJ2_indexOfSupplementary_4cfef_J2_getChar_3b067 : GoodIn wsJ2_indexOfSupplementary_4cfef wsJ2_getChar_3b067 := goodIn_r _ [31, 32, 33, 34, 17, 18, 15, 19] (by decide +kernel) (by decide +kernel)
set_option maxRecDepth 20000 in
theorem gJ2_indexOfSupplementary_4cfef_J2_getChar_3b067 : GoodIn wsJ2_indexOfSupplementary_4cfef (va_wsS RJ2 71 yJ2_getChar_3b067 wsJ2_getChar_3b067) := goodIn_app (goodIn_of _ (by decide +kernel)) ggJ2_indexOfSupplementary_4cfef_J2_getChar_3b067
theorem dJ2_indexOfSupplementary_4cfef_0 : decode cJ2_indexOfSupplementary_4cfef 0 = .ok (.iload_n 1, 1) := by decide +kernel
theorem dJ2_indexOfSupplementary_4cfef_1 : decode cJ2_indexOfSupplementary_4cfef 1 = .ok (.invokestatic 164, 3) := by decide +kernel
theorem dJ2_indexOfSupplementary_4cfef_4 : decode cJ2_indexOfSupplementary_4cfef 4 = .ok (.ifCond .eq 65, 3) := by decide +kernel
theorem dJ2_indexOfSupplementary_4cfef_7 : decode cJ2_indexOfSupplementary_4cfef 7 = .ok (.iload_n 1, 1) := by decide +kernel
theorem dJ2_indexOfSupplementary_4cfef_8 : decode cJ2_indexOfSupplementary_4cfef 8 = .ok (.invokestatic 157, 3) := by decide +kernel
theorem dJ2_indexOfSupplementary_4cfef_11 : decode cJ2_indexOfSupplementary_4cfef 11 = .ok (.istore 4, 2) := by decide +kernel
theorem dJ2_indexOfSupplementary_4cfef_13 : decode cJ2_indexOfSupplementary_4cfef 13 = .ok (.iload_n 1, 1) := by decide +kernel
theorem dJ2_indexOfSupplementary_4cfef_14 : decode cJ2_indexOfSupplementary_4cfef 14 = .ok (.invokestatic 161, 3) := by decide +kernel
theorem dJ2_indexOfSupplementary_4cfef_17 : decode cJ2_indexOfSupplementary_4cfef 17 = .ok (.istore 5, 2) := by decide +kernel
theorem dJ2_indexOfSupplementary_4cfef_19 : decode cJ2_indexOfSupplementary_4cfef 19 = .ok (.iload_n 2, 1) := by decide +kernel
theorem dJ2_indexOfSupplementary_4cfef_20 : decode cJ2_indexOfSupplementary_4cfef 20 = .ok (.iload_n 3, 1) := by decide +kernel
theorem dJ2_indexOfSupplementary_4cfef_21 : decode cJ2_indexOfSupplementary_4cfef 21 = .ok (.aload_n 0, 1) := by decide +kernel
theorem dJ2_indexOfSupplementary_4cfef_22 : decode cJ2_indexOfSupplementary_4cfef 22 = .ok (.invokestatic 96, 3) := by decide +kernel
theorem dJ2_indexOfSupplementary_4cfef_25 : decode cJ2_indexOfSupplementary_4cfef 25 = .ok (.iload_n 2, 1) := by decide +kernel
theorem dJ2_indexOfSupplementary_4cfef_26 : decode cJ2_indexOfSupplementary_4cfef 26 = .ok (.istore 6, 2) := by decide +kernel
theorem dJ2_indexOfSupplementary_4cfef_28 : decode cJ2_indexOfSupplementary_4cfef 28 = .ok (.iload 6, 2) := by decide +kernel
theorem dJ2_indexOfSupplementary_4cfef_30 : decode cJ2_indexOfSupplementary_4cfef 30 = .ok (.iload_n 3, 1) := by decide +kernel
theorem dJ2_indexOfSupplementary_4cfef_31 : decode cJ2_indexOfSupplementary_4cfef 31 = .ok (.iconst 1, 1) := by decide +kernel
theorem dJ2_indexOfSupplementary_4cfef_32 : decode cJ2_indexOfSupplementary_4cfef 32 = .ok (.isub, 1) := by decide +kernel
theorem dJ2_indexOfSupplementary_4cfef_33 : decode cJ2_indexOfSupplementary_4cfef 33 = .ok (.if_icmp .ge 36, 3) := by decide +kernel
theorem dJ2_indexOfSupplementary_4cfef_36 : decode cJ2_indexOfSupplementary_4cfef 36 = .ok (.aload_n 0, 1) := by decide +kernel
theorem dJ2_indexOfSupplementary_4cfef_37 : decode cJ2_indexOfSupplementary_4cfef 37 = .ok (.iload 6, 2) := by decide +kernel
theorem dJ2_indexOfSupplementary_4cfef_39 : decode cJ2_indexOfSupplementary_4cfef 39 = .ok (.invokestatic 71, 3) := by decide +kernel
theorem dJ2_indexOfSupplementary_4cfef_42 : decode cJ2_indexOfSupplementary_4cfef 42 = .ok (.iload 4, 2) := by decide +kernel
theorem dJ2_indexOfSupplementary_4cfef_44 : decode cJ2_indexOfSupplementary_4cfef 44 = .ok (.if_icmp .ne 19, 3) := by decide +kernel
theorem dJ2_indexOfSupplementary_4cfef_47 : decode cJ2_indexOfSupplementary_4cfef 47 = .ok (.aload_n 0, 1) := by decide +kernel
theorem dJ2_indexOfSupplementary_4cfef_48 : decode cJ2_indexOfSupplementary_4cfef 48 = .ok (.iload 6, 2) := by decide +kernel
theorem dJ2_indexOfSupplementary_4cfef_50 : decode cJ2_indexOfSupplementary_4cfef 50 = .ok (.iconst 1, 1) := by decide +kernel
theorem dJ2_indexOfSupplementary_4cfef_51 : decode cJ2_indexOfSupplementary_4cfef 51 = .ok (.iadd, 1) := by decide +kernel
theorem dJ2_indexOfSupplementary_4cfef_52 : decode cJ2_indexOfSupplementary_4cfef 52 = .ok (.invokestatic 71, 3) := by decide +kernel
theorem dJ2_indexOfSupplementary_4cfef_55 : decode cJ2_indexOfSupplementary_4cfef 55 = .ok (.iload 5, 2) := by decide +kernel
theorem dJ2_indexOfSupplementary_4cfef_57 : decode cJ2_indexOfSupplementary_4cfef 57 = .ok (.if_icmp .ne 6, 3) := by decide +kernel
theorem dJ2_indexOfSupplementary_4cfef_60 : decode cJ2_indexOfSupplementary_4cfef 60 = .ok (.iload 6, 2) := by decide +kernel
theorem dJ2_indexOfSupplementary_4cfef_62 : decode cJ2_indexOfSupplementary_4cfef 62 = .ok (.ireturn, 1) := by decide +kernel
theorem dJ2_indexOfSupplementary_4cfef_63 : decode cJ2_indexOfSupplementary_4cfef 63 = .ok (.iinc 6 1, 3) := by decide +kernel
theorem dJ2_indexOfSupplementary_4cfef_66 : decode cJ2_indexOfSupplementary_4cfef 66 = .ok (.goto (-38), 3) := by decide +kernel
theorem dJ2_indexOfSupplementary_4cfef_69 : decode cJ2_indexOfSupplementary_4cfef 69 = .ok (.iconst (-1), 1) := by decide +kernel
theorem dJ2_indexOfSupplementary_4cfef_70 : decode cJ2_indexOfSupplementary_4cfef 70 = .ok (.ireturn, 1) := by decide +kernel
set_option maxRecDepth 20000 in
theorem ggJ2_checkBoundsBeginEnd_d044e_J2_length_9d52b : GoodIn wsJ2_checkBoundsBeginEnd_d044e wsJ2_length_9d52b := goodIn_r _ [4] (by decide +kernel) (by decide +kernel)
set_option maxRecDepth 20000 in
theorem gJ2_checkBoundsBeginEnd_d044e_J2_length_9d52b : GoodIn wsJ2_checkBoundsBeginEnd_d044e (va_wsS RJ2 48 yJ2_length_9d52b wsJ2_length_9d52b) := goodIn_app (goodIn_of _ (by decide +kernel)) ggJ2_checkBoundsBeginEnd_d044e_J2_length_9d52b
set_option maxRecDepth 20000 in
theorem ggJ2_checkBoundsBeginEnd_d044e_J0_checkBoundsBeginEnd_23922 : GoodIn wsJ2_checkBoundsBeginEnd_d044e wsJ0_checkBoundsBeginEnd_23922 := goodIn_r _ [8, 9, 10, 11, 12, 13] (by decide +kernel) (by decide +kernel)
set_option maxRecDepth 20000 in
theorem gJ2_checkBoundsBeginEnd_d044e_J0_checkBoundsBeginEnd_23922 : GoodIn wsJ2_checkBoundsBeginEnd_d044e (va_wsS RJ2 241 yJ0_checkBoundsBeginEnd_23922 wsJ0_checkBoundsBeginEnd_23922) := goodIn_app (goodIn_of _ (by decide +kernel)) ggJ2_checkBoundsBeginEnd_d044e_J0_checkBoundsBeginEnd_23922
theorem dJ2_checkBoundsBeginEnd_d044e_0 : decode cJ2_checkBoundsBeginEnd_d044e 0 = .ok (.iload_n 0, 1) := by decide +kernel
theorem dJ2_checkBoundsBeginEnd_d044e_1 : decode cJ2_checkBoundsBeginEnd_d044e 1 = .ok (.iload_n 1, 1) := by decide +kernel
theorem dJ2_checkBoundsBeginEnd_d044e_2 : decode cJ2_checkBoundsBeginEnd_d044e 2 = .ok (.aload_n 2, 1) := by decide +kernel
theorem dJ2_checkBoundsBeginEnd_d044e_3 : decode cJ2_checkBoundsBeginEnd_d044e 3 = .ok (.invokestatic 48, 3) := by decide +kernel
theorem dJ2_checkBoundsBeginEnd_d044e_6 : decode cJ2_checkBoundsBeginEnd_d044e 6 = .ok (.invokestatic 241, 3) := by decide +kernel
theorem dJ2_checkBoundsBeginEnd_d044e_9 : decode cJ2_checkBoundsBeginEnd_d044e 9 = .ok (.return_, 1) := by decide +kernel
theorem dJ7_fill_53178_0 : decode cJ7_fill_53178 0 = .ok (.iconst 0, 1) := by decide +kernel
theorem dJ7_fill_53178_1 : decode cJ7_fill_53178 1 = .ok (.istore_n 2, 1) := by decide +kernel
theorem dJ7_fill_53178_2 : decode cJ7_fill_53178 2 = .ok (.aload_n 0, 1) := by decide +kernel
theorem dJ7_fill_53178_3 : decode cJ7_fill_53178 3 = .ok (.arraylength, 1) := by decide +kernel
theorem dJ7_fill_53178_4 : decode cJ7_fill_53178 4 = .ok (.istore_n 3, 1) := by decide +kernel
theorem dJ7_fill_53178_5 : decode cJ7_fill_53178 5 = .ok (.iload_n 2, 1) := by decide +kernel
theorem dJ7_fill_53178_6 : decode cJ7_fill_53178 6 = .ok (.iload_n 3, 1) := by decide +kernel
theorem dJ7_fill_53178_7 : decode cJ7_fill_53178 7 = .ok (.if_icmp .ge 13, 3) := by decide +kernel
theorem dJ7_fill_53178_10 : decode cJ7_fill_53178 10 = .ok (.aload_n 0, 1) := by decide +kernel
theorem dJ7_fill_53178_11 : decode cJ7_fill_53178 11 = .ok (.iload_n 2, 1) := by decide +kernel
theorem dJ7_fill_53178_12 : decode cJ7_fill_53178 12 = .ok (.iload_n 1, 1) := by decide +kernel
theorem dJ7_fill_53178_13 : decode cJ7_fill_53178 13 = .ok (.iastore, 1) := by decide +kernel
theorem dJ7_fill_53178_14 : decode cJ7_fill_53178 14 = .ok (.iinc 2 1, 3) := by decide +kernel
theorem dJ7_fill_53178_17 : decode cJ7_fill_53178 17 = .ok (.goto (-12), 3) := by decide +kernel
theorem dJ7_fill_53178_20 : decode cJ7_fill_53178 20 = .ok (.return_, 1) := by decide +kernel
theorem dJ3_checkFromToIndex_8c36e_0 : decode cJ3_checkFromToIndex_8c36e 0 = .ok (.iload_n 0, 1) := by decide +kernel
theorem dJ3_checkFromToIndex_8c36e_1 : decode cJ3_checkFromToIndex_8c36e 1 = .ok (.ifCond .lt 13, 3) := by decide +kernel
theorem dJ3_checkFromToIndex_8c36e_4 : decode cJ3_checkFromToIndex_8c36e 4 = .ok (.iload_n 0, 1) := by decide +kernel
theorem dJ3_checkFromToIndex_8c36e_5 : decode cJ3_checkFromToIndex_8c36e 5 = .ok (.iload_n 1, 1) := by decide +kernel
theorem dJ3_checkFromToIndex_8c36e_6 : decode cJ3_checkFromToIndex_8c36e 6 = .ok (.if_icmp .gt 8, 3) := by decide +kernel
theorem dJ3_checkFromToIndex_8c36e_9 : decode cJ3_checkFromToIndex_8c36e 9 = .ok (.iload_n 1, 1) := by decide +kernel
theorem dJ3_checkFromToIndex_8c36e_10 : decode cJ3_checkFromToIndex_8c36e 10 = .ok (.iload_n 2, 1) := by decide +kernel
theorem dJ3_checkFromToIndex_8c36e_11 : decode cJ3_checkFromToIndex_8c36e 11 = .ok (.if_icmp .le 11, 3) := by decide +kernel
theorem dJ3_checkFromToIndex_8c36e_14 : decode cJ3_checkFromToIndex_8c36e 14 = .ok (.aload_n 3, 1) := by decide +kernel
theorem dJ3_checkFromToIndex_8c36e_15 : decode cJ3_checkFromToIndex_8c36e 15 = .ok (.iload_n 0, 1) := by decide +kernel
theorem dJ3_checkFromToIndex_8c36e_16 : decode cJ3_checkFromToIndex_8c36e 16 = .ok (.iload_n 1, 1) := by decide +kernel
theorem dJ3_checkFromToIndex_8c36e_17 : decode cJ3_checkFromToIndex_8c36e 17 = .ok (.iload_n 2, 1) := by decide +kernel
theorem dJ3_checkFromToIndex_8c36e_18 : decode cJ3_checkFromToIndex_8c36e 18 = .ok (.invokestatic 99, 3) := by decide +kernel
theorem dJ3_checkFromToIndex_8c36e_21 : decode cJ3_checkFromToIndex_8c36e 21 = .ok (.athrow, 1) := by decide +kernel
theorem dJ3_checkFromToIndex_8c36e_22 : decode cJ3_checkFromToIndex_8c36e 22 = .ok (.iload_n 0, 1) := by decide +kernel
theorem dJ3_checkFromToIndex_8c36e_23 : decode cJ3_checkFromToIndex_8c36e 23 = .ok (.ireturn, 1) := by decide +kernel
set_option maxRecDepth 20000 in
theorem ggL_law_X6_init : GoodIn wsL_law wsX6_init := goodIn_r _ [8, 9, 10, 11, 12, 13, 14, 15, 16, 17, 18, 19, 20, 21, 22, 23, 24, 25, 26, 27, 28, 29, 30, 31, 32, 33, 34, 35, 36, 37, 38, 39, 40, 41, 42, 43, 44, 45, 46, 47, 48, 49, 50, 51, 52, 53, 54, 55, 56, 57, 58, 59, 60, 61, 62, 63, 64, 65, 66, 67, 68, 69, 70, 71, 72, 73, 74, 75, 76, 77, 78, 79, 80, 81, 853, 854, 855, 856, 857, 858, 859, 860, 861, 838, 839, 840, 841, 862, 863, 864, 865, 866, 867, 868, 869, 870, 871, 872, 873, 874, 875, 876, 877, 878, 879, 880, 881, 882, 883, 884, 885, 886] (by decide +kernel) (by decide +kernel)
set_option maxRecDepth 20000 in
theorem gL_law_X6_init : GoodIn wsL_law (wsX6_init) := ggL_law_X6_init
set_option maxRecDepth 20000 in
theorem ggL_law_X7_init : GoodIn wsL_law wsX7_init := goodIn_r _ [84, 85, 10, 11, 35, 86, 87, 88, 89, 90, 91, 5, 92, 842, 843, 844, 845, 846, 847, 848, 849, 850, 851, 852] (by decide +kernel) (by decide +kernel)
set_option maxRecDepth 20000 in
theorem gL_law_X7_init : GoodIn wsL_law (wsX7_init) := ggL_law_X7_init
set_option maxRecDepth 20000 in
theorem ggL_law_X6_assemble : GoodIn wsL_law wsX6_assemble := goodIn_r _ [96, 97, 24, 98, 99, 100, 20, 15, 101, 102, 2, 103, 104, 105, 106, 107, 108, 109, 23, 110, 111, 112, 113, 114, 115, 116, 117, 118, 78, 119, 120, 121, 122, 123, 124, 125, 126, 127, 128, 129, 130, 131, 132, 133, 134, 135, 136, 137, 138, 139, 140, 141, 142, 143, 144, 145, 146, 147, 148, 149, 150, 151, 152, 153, 154, 155, 156, 157, 158, 159, 160, 161, 162, 163, 164, 165, 166, 167, 168, 169, 170, 171, 172, 173, 174, 175, 176, 177, 178, 179, 180, 181, 182, 183, 184, 185, 186, 187, 188, 189, 190, 191, 192, 193, 194, 195, 196, 197, 198, 199, 200, 201, 202, 203, 204, 205, 206, 207, 208, 209, 210, 211, 80, 212, 213, 214, 215, 216, 217, 218, 219, 220, 221, 222, 223, 224, 225, 226, 227, 228, 229, 230, 231, 232, 233, 234, 235, 236, 237, 238, 239, 240, 241, 242, 243, 244, 245, 246, 247, 248, 19, 249, 72, 250, 251, 252, 253, 254, 255, 14, 256, 30, 34, 36, 257, 258, 259, 260, 37, 38, 39, 43, 261, 262, 263, 264, 265, 45, 266, 64, 267, 65, 268, 269, 270, 271, 66, 272, 273, 274, 275, 276, 277, 278, 33, 279, 50, 280, 51, 281, 282, 283, 42, 284, 60, 285, 286, 287, 288, 838, 839, 840, 841, 865, 866, 867, 868, 869, 870, 853, 854, 855, 856, 857, 858, 859, 860, 861, 871, 872, 862, 863, 864, 876, 877, 878, 879, 880, 881, 882, 883, 884, 885, 886, 873, 874, 875] (by decide +kernel) (by decide +kernel)
set_option maxRecDepth 20000 in
theorem gL_law_X6_assemble : GoodIn wsL_law (wsV RL 13 RX6 yX6_assemble wsX6_assemble) := goodIn_app (goodIn_of _ (by decide +kernel)) ggL_law_X6_assemble
set_option maxRecDepth 20000 in
theorem ggL_law_X7_assemble : GoodIn wsL_law wsX7_assemble := goodIn_r _ [292, 293, 294, 295, 89, 296, 297, 86, 298, 299, 300, 301, 302, 5, 303, 304, 305, 306, 307, 308, 309, 310, 311, 312, 313, 314, 315, 316, 317, 318, 319, 320, 321, 322, 323, 324, 325, 326, 327, 328, 329, 330, 331, 332, 333, 334, 335, 336, 337, 338, 339, 340, 341, 342, 343, 88, 842, 843, 844, 845, 846, 847, 848, 849, 850, 851, 852] (by decide +kernel) (by decide +kernel)
set_option maxRecDepth 20000 in
theorem gL_law_X7_assemble : GoodIn wsL_law (wsV RL 17 RX7 yX7_assemble wsX7_assemble) := goodIn_app (goodIn_of _ (by decide +kernel)) ggL_law_X7_assemble
set_option maxRecDepth 20000 in
theorem ggL_law_X6_start : GoodIn wsL_law wsX6_start := goodIn_r _ [347, 97, 20, 15, 348, 349, 2, 350, 104, 105, 106, 101, 102, 103, 246, 247, 248, 19, 249, 72, 250, 251, 252, 152, 149, 153, 253, 254, 255, 14, 256, 30, 34, 36, 257, 258, 259, 260, 37, 38, 39, 43, 261, 262, 263, 264, 265, 45, 266, 64, 267, 65, 268, 269, 270, 271, 66, 272, 273, 274, 275, 276, 277, 278, 33, 279, 50, 280, 51, 281, 282, 283, 42, 284, 60, 285, 286, 287, 351, 352, 353, 354, 355, 54, 55, 56, 838, 839, 840, 841, 853, 854, 855, 856, 857, 858, 859, 860, 861, 876, 877, 878, 879, 880, 881, 882, 883, 884, 885, 886, 862, 863, 864, 871, 872, 873, 874, 875] (by decide +kernel) (by decide +kernel)
set_option maxRecDepth 20000 in
theorem gL_law_X6_start : GoodIn wsL_law (wsV RL 18 RX6 yX6_start wsX6_start) := goodIn_app (goodIn_of _ (by decide +kernel)) ggL_law_X6_start
set_option maxRecDepth 20000 in
theorem ggL_law_X7_start : GoodIn wsL_law wsX7_start := goodIn_r _ [359, 293, 86, 360, 361, 5, 362, 304, 305, 306, 301, 302, 303, 339, 340, 341, 342, 343, 88, 90, 91, 92, 842, 843, 844, 845, 846, 847, 848, 849, 850, 851, 852] (by decide +kernel) (by decide +kernel)
set_option maxRecDepth 20000 in
theorem gL_law_X7_start : GoodIn wsL_law (wsV RL 22 RX7 yX7_start wsX7_start) := goodIn_app (goodIn_of _ (by decide +kernel)) ggL_law_X7_start
set_option maxRecDepth 20000 in
theorem ggL_law_X6_halt : GoodIn wsL_law wsX6_halt := goodIn_r _ [366, 97, 20, 15, 348, 349, 2, 350, 104, 105, 106, 246, 247, 248, 19, 249, 72, 250, 251, 252, 152, 149, 153, 253, 254, 255, 14, 256, 30, 34, 36, 257, 258, 259, 260, 37, 38, 39, 43, 261, 262, 263, 264, 265, 45, 266, 64, 267, 65, 268, 269, 270, 271, 66, 272, 273, 274, 275, 276, 277, 278, 33, 279, 50, 280, 51, 281, 282, 283, 42, 284, 60, 285, 286, 287, 367, 368, 369, 370, 838, 839, 840, 841, 853, 854, 855, 856, 857, 858, 859, 860, 861, 876, 877, 878, 879, 880, 881, 882, 883, 884, 885, 886, 862, 863, 864, 871, 872, 873, 874, 875] (by decide +kernel) (by decide +kernel)
set_option maxRecDepth 20000 in
theorem gL_law_X6_halt : GoodIn wsL_law (wsV RL 23 RX6 yX6_halt wsX6_halt) := goodIn_app (goodIn_of _ (by decide +kernel)) ggL_law_X6_halt
set_option maxRecDepth 20000 in
theorem ggL_law_X7_halt : GoodIn wsL_law wsX7_halt := goodIn_r _ [374, 293, 86, 360, 361, 5, 362, 304, 305, 306, 339, 340, 341, 342, 343, 88, 90, 91, 92, 842, 843, 844, 845, 846, 847, 848, 849, 850, 851, 852] (by decide +kernel) (by decide +kernel)
set_option maxRecDepth 20000 in
theorem gL_law_X7_halt : GoodIn wsL_law (wsV RL 26 RX7 yX7_halt wsX7_halt) := goodIn_app (goodIn_of _ (by decide +kernel)) ggL_law_X7_halt
set_option maxRecDepth 20000 in
theorem ggL_law_X6_setRegister : GoodIn wsL_law wsX6_setRegister := goodIn_r _ [378, 97, 379, 20, 15, 348, 349, 2, 350, 104, 105, 106, 380, 381, 382, 383, 384, 385, 246, 247, 248, 19, 249, 72, 250, 251, 252, 152, 149, 153, 253, 254, 255, 14, 256, 30, 34, 36, 257, 258, 259, 260, 37, 38, 39, 43, 261, 262, 263, 264, 265, 45, 266, 64, 267, 65, 268, 269, 270, 271, 66, 272, 273, 274, 275, 276, 277, 278, 33, 279, 50, 280, 51, 281, 282, 283, 42, 284, 60, 285, 286, 287, 386, 387, 388, 838, 839, 840, 841, 853, 854, 855, 856, 857, 858, 859, 860, 861, 876, 877, 878, 879, 880, 881, 882, 883, 884, 885, 886, 862, 863, 864, 871, 872, 873, 874, 875] (by decide +kernel) (by decide +kernel)
set_option maxRecDepth 20000 in
theorem gL_law_X6_setRegister : GoodIn wsL_law (wsV RL 27 RX6 yX6_setRegister wsX6_setRegister) := goodIn_app (goodIn_of _ (by decide +kernel)) ggL_law_X6_setRegister
set_option maxRecDepth 20000 in
theorem ggL_law_X7_setRegister : GoodIn wsL_law wsX7_setRegister := goodIn_r _ [392, 293, 393, 360, 361, 5, 362, 304, 305, 306, 394, 395, 396, 339, 340, 341, 342, 343, 88, 86, 397, 398, 399, 400, 90, 91, 92, 401, 402, 403, 404, 842, 843, 844, 845, 846, 847, 848, 849, 850, 851, 852] (by decide +kernel) (by decide +kernel)
set_option maxRecDepth 20000 in
theorem gL_law_X7_setRegister : GoodIn wsL_law (wsV RL 31 RX7 yX7_setRegister wsX7_setRegister) := goodIn_app (goodIn_of _ (by decide +kernel)) ggL_law_X7_setRegister
set_option maxRecDepth 20000 in
theorem ggL_law_X6_setWord : GoodIn wsL_law wsX6_setWord := goodIn_r _ [408, 97, 379, 20, 15, 409, 410, 2, 411, 104, 105, 106, 383, 384, 385, 246, 247, 248, 19, 249, 72, 250, 251, 252, 152, 149, 153, 253, 254, 255, 14, 256, 30, 34, 36, 257, 258, 259, 260, 37, 38, 39, 43, 261, 262, 263, 264, 265, 45, 266, 64, 267, 65, 268, 269, 270, 271, 66, 272, 273, 274, 275, 276, 277, 278, 33, 279, 50, 280, 51, 281, 282, 283, 42, 284, 60, 285, 286, 287, 386, 387, 388, 838, 839, 840, 841, 853, 854, 855, 856, 857, 858, 859, 860, 861, 862, 863, 864, 876, 877, 878, 879, 880, 881, 882, 883, 884, 885, 886, 871, 872, 873, 874, 875] (by decide +kernel) (by decide +kernel)
set_option maxRecDepth 20000 in
theorem gL_law_X6_setWord : GoodIn wsL_law (wsV RL 32 RX6 yX6_setWord wsX6_setWord) := goodIn_app (goodIn_of _ (by decide +kernel)) ggL_law_X6_setWord
set_option maxRecDepth 20000 in
theorem ggL_law_X7_setWord : GoodIn wsL_law wsX7_setWord := goodIn_r _ [415, 293, 393, 86, 304, 305, 5, 306, 394, 395, 396, 339, 340, 341, 342, 343, 88, 842, 843, 844, 845, 846, 847, 848, 849, 850, 851, 852] (by decide +kernel) (by decide +kernel)
set_option maxRecDepth 20000 in
theorem gL_law_X7_setWord : GoodIn wsL_law (wsV RL 35 RX7 yX7_setWord wsX7_setWord) := goodIn_app (goodIn_of _ (by decide +kernel)) ggL_law_X7_setWord
set_option maxRecDepth 20000 in
theorem ggL_law_X6_setSlot : GoodIn wsL_law wsX6_setSlot := goodIn_r _ [419, 97, 20, 15, 420, 421, 2, 422, 104, 105, 106, 348, 349, 350, 246, 247, 248, 19, 249, 72, 250, 251, 252, 152, 149, 153, 253, 254, 255, 14, 256, 30, 34, 36, 257, 258, 259, 260, 37, 38, 39, 43, 261, 262, 263, 264, 265, 45, 266, 64, 267, 65, 268, 269, 270, 271, 66, 272, 273, 274, 275, 276, 277, 278, 33, 279, 50, 280, 51, 281, 282, 283, 42, 284, 60, 285, 286, 287, 386, 387, 388, 838, 839, 840, 841, 853, 854, 855, 856, 857, 858, 859, 860, 861, 862, 863, 864, 876, 877, 878, 879, 880, 881, 882, 883, 884, 885, 886, 871, 872, 873, 874, 875] (by decide +kernel) (by decide +kernel)
set_option maxRecDepth 20000 in
theorem gL_law_X6_setSlot : GoodIn wsL_law (wsV RL 36 RX6 yX6_setSlot wsX6_setSlot) := goodIn_app (goodIn_of _ (by decide +kernel)) ggL_law_X6_setSlot
set_option maxRecDepth 20000 in
theorem ggL_law_X7_setSlot : GoodIn wsL_law wsX7_setSlot := goodIn_r _ [426, 293, 86, 304, 305, 5, 306, 360, 361, 362, 339, 340, 341, 342, 343, 88, 842, 843, 844, 845, 846, 847, 848, 849, 850, 851, 852] (by decide +kernel) (by decide +kernel)
set_option maxRecDepth 20000 in
theorem gL_law_X7_setSlot : GoodIn wsL_law (wsV RL 39 RX7 yX7_setSlot wsX7_setSlot) := goodIn_app (goodIn_of _ (by decide +kernel)) ggL_law_X7_setSlot
set_option maxRecDepth 20000 in
theorem ggL_law_X6_set : GoodIn wsL_law wsX6_set := goodIn_r _ [430, 97, 379, 20, 15, 431, 432, 2, 433, 104, 105, 106, 246, 247, 248, 19, 249, 72, 250, 251, 252, 152, 149, 153, 253, 254, 255, 14, 256, 30, 34, 36, 257, 258, 259, 260, 37, 38, 39, 43, 261, 262, 263, 264, 265, 45, 266, 64, 267, 65, 268, 269, 270, 271, 66, 272, 273, 274, 275, 276, 277, 278, 33, 279, 50, 280, 51, 281, 282, 283, 42, 284, 60, 285, 286, 287, 386, 387, 388, 838, 839, 840, 841, 853, 854, 855, 856, 857, 858, 859, 860, 861, 862, 863, 864, 876, 877, 878, 879, 880, 881, 882, 883, 884, 885, 886, 871, 872, 873, 874, 875] (by decide +kernel) (by decide +kernel)
set_option maxRecDepth 20000 in
theorem gL_law_X6_set : GoodIn wsL_law (wsV RL 40 RX6 yX6_set wsX6_set) := goodIn_app (goodIn_of _ (by decide +kernel)) ggL_law_X6_set
set_option maxRecDepth 20000 in
theorem ggL_law_X7_set : GoodIn wsL_law wsX7_set := goodIn_r _ [437, 293, 393, 86, 304, 305, 5, 306, 339, 340, 341, 342, 343, 88, 842, 843, 844, 845, 846, 847, 848, 849, 850, 851, 852] (by decide +kernel) (by decide +kernel)
set_option maxRecDepth 20000 in
theorem gL_law_X7_set : GoodIn wsL_law (wsV RL 43 RX7 yX7_set wsX7_set) := goodIn_app (goodIn_of _ (by decide +kernel)) ggL_law_X7_set
set_option maxRecDepth 20000 in
theorem ggL_law_X6_setBreakpoint : GoodIn wsL_law wsX6_setBreakpoint := goodIn_r _ [441, 97, 20, 15, 101, 102, 2, 103, 104, 105, 106, 246, 247, 248, 19, 249, 72, 250, 251, 252, 152, 149, 153, 253, 254, 255, 14, 256, 30, 34, 36, 257, 258, 259, 260, 37, 38, 39, 43, 261, 262, 263, 264, 265, 45, 266, 64, 267, 65, 268, 269, 270, 271, 66, 272, 273, 274, 275, 276, 277, 278, 33, 279, 50, 280, 51, 281, 282, 283, 42, 284, 60, 285, 286, 287, 442, 443, 444, 445, 838, 839, 840, 841, 853, 854, 855, 856, 857, 858, 859, 860, 861, 862, 863, 864, 876, 877, 878, 879, 880, 881, 882, 883, 884, 885, 886, 871, 872, 873, 874, 875] (by decide +kernel) (by decide +kernel)
set_option maxRecDepth 20000 in
theorem gL_law_X6_setBreakpoint : GoodIn wsL_law (wsV RL 44 RX6 yX6_setBreakpoint wsX6_setBreakpoint) := goodIn_app (goodIn_of _ (by decide +kernel)) ggL_law_X6_setBreakpoint
set_option maxRecDepth 20000 in
theorem ggL_law_X7_setBreakpoint : GoodIn wsL_law wsX7_setBreakpoint := goodIn_r _ [449, 293, 86, 301, 302, 5, 303, 304, 305, 306, 339, 340, 341, 342, 343, 88, 842, 843, 844, 845, 846, 847, 848, 849, 850, 851, 852] (by decide +kernel) (by decide +kernel)
set_option maxRecDepth 20000 in
theorem gL_law_X7_setBreakpoint : GoodIn wsL_law (wsV RL 48 RX7 yX7_setBreakpoint wsX7_setBreakpoint) := goodIn_app (goodIn_of _ (by decide +kernel)) ggL_law_X7_setBreakpoint
set_option maxRecDepth 20000 in
theorem ggL_law_X6_run : GoodIn wsL_law wsX6_run := goodIn_r _ [453, 379, 20, 15, 104, 105, 2, 106, 246, 247, 248, 19, 249, 72, 250, 251, 252, 152, 149, 153, 253, 254, 255, 14, 256, 30, 34, 36, 257, 258, 259, 260, 37, 38, 39, 43, 261, 262, 263, 264, 265, 45, 266, 64, 267, 65, 268, 269, 270, 271, 66, 272, 273, 274, 275, 276, 277, 278, 33, 279, 50, 280, 51, 281, 282, 283, 42, 284, 60, 285, 286, 287, 454, 455, 456, 457, 458, 459, 460, 461, 462, 463, 464, 465, 466, 467, 468, 469, 470, 471, 472, 473, 474, 475, 476, 477, 478, 479, 480, 481, 482, 483, 484, 485, 486, 487, 488, 489, 490, 491, 492, 493, 494, 495, 496, 349, 350, 102, 103, 497, 498, 499, 500, 501, 502, 503, 504, 505, 506, 507, 508, 509, 510, 511, 512, 513, 514, 515, 516, 517, 148, 150, 518, 519, 520, 521, 522, 523, 524, 525, 526, 527, 528, 529, 530, 531, 532, 533, 534, 535, 536, 537, 538, 539, 540, 541, 542, 543, 544, 838, 839, 840, 841, 862, 863, 864, 853, 854, 855, 856, 857, 858, 859, 860, 861, 876, 877, 878, 879, 880, 881, 882, 883, 884, 885, 886, 871, 872, 873, 874, 875] (by decide +kernel) (by decide +kernel)
set_option maxRecDepth 20000 in
theorem gL_law_X6_run : GoodIn wsL_law (wsV RL 49 RX6 yX6_run wsX6_run) := goodIn_app (goodIn_of _ (by decide +kernel)) ggL_law_X6_run
set_option maxRecDepth 20000 in
theorem ggL_law_X7_run : GoodIn wsL_law wsX7_run := goodIn_r _ [548, 393, 304, 305, 5, 306, 339, 340, 341, 342, 343, 88, 86, 549, 550, 551, 552, 553, 554, 555, 556, 90, 91, 92, 557, 558, 559, 560, 561, 562, 563, 564, 87, 565, 566, 567, 568, 401, 402, 403, 404, 569, 570, 571, 572, 573, 574, 575, 576, 577, 578, 579, 580, 581, 582, 583, 584, 585, 586, 587, 588, 589, 590, 591, 592, 593, 594, 595, 596, 397, 398, 399, 400, 597, 598, 599, 600, 842, 843, 844, 845, 846, 847, 848, 849, 850, 851, 852] (by decide +kernel) (by decide +kernel)
set_option maxRecDepth 20000 in
theorem gL_law_X7_run : GoodIn wsL_law (wsV RL 52 RX7 yX7_run wsX7_run) := goodIn_app (goodIn_of _ (by decide +kernel)) ggL_law_X7_run
set_option maxRecDepth 20000 in
theorem ggL_law_X6_append : GoodIn wsL_law wsX6_append := goodIn_r _ [604, 379, 24, 100, 104, 105, 2, 106, 605, 606, 607, 23, 608, 113, 78, 838, 839, 840, 841, 865, 866, 867, 868, 869, 870] (by decide +kernel) (by decide +kernel)
set_option maxRecDepth 20000 in
theorem gL_law_X6_append : GoodIn wsL_law (wsV RL 53 RX6 yX6_append wsX6_append) := goodIn_app (goodIn_of _ (by decide +kernel)) ggL_law_X6_append
set_option maxRecDepth 20000 in
theorem ggL_law_X7_append : GoodIn wsL_law wsX7_append := goodIn_r _ [612, 393, 295, 296, 89, 304, 305, 5, 306, 842, 843, 844, 845, 846, 847, 848, 849, 850, 851, 852] (by decide +kernel) (by decide +kernel)
set_option maxRecDepth 20000 in
theorem gL_law_X7_append : GoodIn wsL_law (wsV RL 56 RX7 yX7_append wsX7_append) := goodIn_app (goodIn_of _ (by decide +kernel)) ggL_law_X7_append
set_option maxRecDepth 20000 in
theorem ggL_law_X6_clearText : GoodIn wsL_law wsX6_clearText := goodIn_r _ [616, 24, 838, 839, 840, 841, 865, 866, 867, 868, 869, 870] (by decide +kernel) (by decide +kernel)
set_option maxRecDepth 20000 in
theorem gL_law_X6_clearText : GoodIn wsL_law (wsV RL 57 RX6 yX6_clearText wsX6_clearText) := goodIn_app (goodIn_of _ (by decide +kernel)) ggL_law_X6_clearText
set_option maxRecDepth 20000 in
theorem ggL_law_X7_clearText : GoodIn wsL_law wsX7_clearText := goodIn_r _ [620, 295, 842, 843, 844, 845, 846, 847, 848, 849, 850, 851, 852] (by decide +kernel) (by decide +kernel)
set_option maxRecDepth 20000 in
theorem gL_law_X7_clearText : GoodIn wsL_law (wsV RL 61 RX7 yX7_clearText wsX7_clearText) := goodIn_app (goodIn_of _ (by decide +kernel)) ggL_law_X7_clearText
set_option maxRecDepth 20000 in
theorem ggL_law_X6_fault : GoodIn wsL_law wsX6_fault := goodIn_r _ [624, 24, 107, 108, 109, 23, 110, 111, 112, 113, 114, 115, 116, 117, 118, 78, 119, 120, 121, 122, 123, 124, 125, 126, 127, 128, 129, 130, 131, 132, 133, 134, 135, 136, 137, 138, 139, 140, 141, 142, 143, 144, 145, 146, 147, 148, 149, 150, 151, 152, 153, 154, 155, 156, 157, 158, 159, 160, 161, 162, 163, 164, 165, 166, 167, 168, 169, 170, 171, 172, 173, 174, 175, 176, 177, 178, 179, 180, 181, 182, 183, 184, 185, 186, 187, 188, 189, 190, 191, 192, 193, 194, 195, 196, 197, 198, 199, 200, 201, 202, 203, 204, 205, 206, 207, 208, 209, 210, 211, 80, 212, 213, 214, 215, 216, 217, 218, 219, 220, 221, 222, 223, 224, 105, 2, 106, 225, 226, 227, 228, 229, 230, 231, 232, 233, 234, 235, 236, 237, 238, 239, 240, 241, 242, 243, 244, 245, 838, 839, 840, 841, 865, 866, 867, 868, 869, 870, 871, 872] (by decide +kernel) (by decide +kernel)
set_option maxRecDepth 20000 in
theorem gL_law_X6_fault : GoodIn wsL_law (wsV RL 62 RX6 yX6_fault wsX6_fault) := goodIn_app (goodIn_of _ (by decide +kernel)) ggL_law_X6_fault
set_option maxRecDepth 20000 in
theorem ggL_law_X7_fault : GoodIn wsL_law wsX7_fault := goodIn_r _ [628, 297, 629, 307, 308, 309, 5, 310, 311, 295, 312, 313, 314, 315, 298, 299, 300, 316, 317, 318, 319, 89, 320, 321, 322, 323, 324, 325, 326, 327, 328, 329, 330, 304, 305, 306, 331, 332, 333, 334, 335, 336, 337, 338, 842, 843, 844, 845, 846, 847, 848, 849, 850, 851, 852] (by decide +kernel) (by decide +kernel)
set_option maxRecDepth 20000 in
theorem gL_law_X7_fault : GoodIn wsL_law (wsV RL 65 RX7 yX7_fault wsX7_fault) := goodIn_app (goodIn_of _ (by decide +kernel)) ggL_law_X7_fault
set_option maxRecDepth 20000 in
theorem ggL_law_X6_undo : GoodIn wsL_law wsX6_undo := goodIn_r _ [633, 20, 15, 634, 635, 636, 19, 637, 251, 638, 250, 72, 253, 254, 255, 14, 256, 30, 34, 36, 257, 258, 259, 260, 37, 38, 39, 43, 261, 262, 263, 264, 265, 45, 266, 64, 267, 65, 268, 269, 270, 271, 66, 272, 273, 274, 275, 276, 277, 278, 33, 279, 50, 280, 51, 281, 282, 283, 42, 284, 60, 285, 286, 287, 838, 839, 840, 841, 862, 863, 864, 853, 854, 855, 856, 857, 858, 859, 860, 861, 876, 877, 878, 879, 880, 881, 882, 883, 884, 885, 886, 871, 872, 873, 874, 875] (by decide +kernel) (by decide +kernel)
set_option maxRecDepth 20000 in
theorem gL_law_X6_undo : GoodIn wsL_law (wsV RL 66 RX6 yX6_undo wsX6_undo) := goodIn_app (goodIn_of _ (by decide +kernel)) ggL_law_X6_undo
set_option maxRecDepth 20000 in
theorem ggL_law_X7_undo : GoodIn wsL_law wsX7_undo := goodIn_r _ [642, 343, 629, 86, 88, 842, 843, 844, 845, 846, 847, 848, 849, 850, 851, 852] (by decide +kernel) (by decide +kernel)
set_option maxRecDepth 20000 in
theorem gL_law_X7_undo : GoodIn wsL_law (wsV RL 69 RX7 yX7_undo wsX7_undo) := goodIn_app (goodIn_of _ (by decide +kernel)) ggL_law_X7_undo
set_option maxRecDepth 20000 in
theorem ggL_law_X6_state : GoodIn wsL_law wsX6_state := goodIn_r _ [646, 15, 97, 348, 349, 2, 350, 104, 105, 106, 838, 839, 840, 841, 853, 854, 855, 856, 857, 858, 859, 860, 861, 876, 877, 878, 879, 880, 881, 882, 883, 884, 885, 886] (by decide +kernel) (by decide +kernel)
set_option maxRecDepth 20000 in
theorem gL_law_X6_state : GoodIn wsL_law (wsV RL 70 RX6 yX6_state wsX6_state) := goodIn_app (goodIn_of _ (by decide +kernel)) ggL_law_X6_state
set_option maxRecDepth 20000 in
theorem ggL_law_X7_state : GoodIn wsL_law wsX7_state := goodIn_r _ [650, 651, 652, 653, 5, 654, 86, 293, 360, 361, 362, 304, 305, 306, 90, 91, 92, 842, 843, 844, 845, 846, 847, 848, 849, 850, 851, 852] (by decide +kernel) (by decide +kernel)
set_option maxRecDepth 20000 in
theorem gL_law_X7_state : GoodIn wsL_law (wsV RL 73 RX7 yX7_state wsX7_state) := goodIn_app (goodIn_of _ (by decide +kernel)) ggL_law_X7_state
set_option maxRecDepth 20000 in
theorem ggL_law_X6_programCounter : GoodIn wsL_law wsX6_programCounter := goodIn_r _ [658, 15, 97, 348, 349, 2, 350, 104, 105, 106, 838, 839, 840, 841, 853, 854, 855, 856, 857, 858, 859, 860, 861, 876, 877, 878, 879, 880, 881, 882, 883, 884, 885, 886] (by decide +kernel) (by decide +kernel)
set_option maxRecDepth 20000 in
theorem gL_law_X6_programCounter : GoodIn wsL_law (wsV RL 74 RX6 yX6_programCounter wsX6_programCounter) := goodIn_app (goodIn_of _ (by decide +kernel)) ggL_law_X6_programCounter
set_option maxRecDepth 20000 in
theorem ggL_law_X7_programCounter : GoodIn wsL_law wsX7_programCounter := goodIn_r _ [662, 651, 652, 653, 5, 654, 86, 293, 360, 361, 362, 304, 305, 306, 90, 91, 92, 842, 843, 844, 845, 846, 847, 848, 849, 850, 851, 852] (by decide +kernel) (by decide +kernel)
set_option maxRecDepth 20000 in
theorem gL_law_X7_programCounter : GoodIn wsL_law (wsV RL 77 RX7 yX7_programCounter wsX7_programCounter) := goodIn_app (goodIn_of _ (by decide +kernel)) ggL_law_X7_programCounter
set_option maxRecDepth 20000 in
theorem ggL_law_X6_register : GoodIn wsL_law wsX6_register := goodIn_r _ [666, 97, 15, 348, 349, 2, 350, 104, 105, 106, 380, 381, 382, 838, 839, 840, 841, 853, 854, 855, 856, 857, 858, 859, 860, 861, 876, 877, 878, 879, 880, 881, 882, 883, 884, 885, 886] (by decide +kernel) (by decide +kernel)
set_option maxRecDepth 20000 in
theorem gL_law_X6_register : GoodIn wsL_law (wsV RL 78 RX6 yX6_register wsX6_register) := goodIn_app (goodIn_of _ (by decide +kernel)) ggL_law_X6_register
set_option maxRecDepth 20000 in
theorem ggL_law_X7_register : GoodIn wsL_law wsX7_register := goodIn_r _ [670, 293, 360, 361, 5, 362, 304, 305, 306, 397, 398, 399, 400, 86, 90, 91, 92, 842, 843, 844, 845, 846, 847, 848, 849, 850, 851, 852] (by decide +kernel) (by decide +kernel)
set_option maxRecDepth 20000 in
theorem gL_law_X7_register : GoodIn wsL_law (wsV RL 81 RX7 yX7_register wsX7_register) := goodIn_app (goodIn_of _ (by decide +kernel)) ggL_law_X7_register
set_option maxRecDepth 20000 in
theorem ggL_law_X6_word : GoodIn wsL_law wsX6_word := goodIn_r _ [674, 15, 97, 409, 410, 2, 411, 104, 105, 106, 838, 839, 840, 841, 853, 854, 855, 856, 857, 858, 859, 860, 861] (by decide +kernel) (by decide +kernel)
set_option maxRecDepth 20000 in
theorem gL_law_X6_word : GoodIn wsL_law (wsV RL 82 RX6 yX6_word wsX6_word) := goodIn_app (goodIn_of _ (by decide +kernel)) ggL_law_X6_word
set_option maxRecDepth 20000 in
theorem ggL_law_X7_word : GoodIn wsL_law wsX7_word := goodIn_r _ [678, 86, 293, 304, 305, 5, 306, 842, 843, 844, 845, 846, 847, 848, 849, 850, 851, 852] (by decide +kernel) (by decide +kernel)
set_option maxRecDepth 20000 in
theorem gL_law_X7_word : GoodIn wsL_law (wsV RL 85 RX7 yX7_word wsX7_word) := goodIn_app (goodIn_of _ (by decide +kernel)) ggL_law_X7_word
set_option maxRecDepth 20000 in
theorem ggL_law_X6_operation : GoodIn wsL_law wsX6_operation := goodIn_r _ [682, 15, 97, 101, 102, 2, 103, 104, 105, 106, 838, 839, 840, 841, 853, 854, 855, 856, 857, 858, 859, 860, 861, 871, 872] (by decide +kernel) (by decide +kernel)
set_option maxRecDepth 20000 in
theorem gL_law_X6_operation : GoodIn wsL_law (wsV RL 86 RX6 yX6_operation wsX6_operation) := goodIn_app (goodIn_of _ (by decide +kernel)) ggL_law_X6_operation
set_option maxRecDepth 20000 in
theorem ggL_law_X7_operation : GoodIn wsL_law wsX7_operation := goodIn_r _ [686, 86, 293, 301, 302, 5, 303, 304, 305, 306, 842, 843, 844, 845, 846, 847, 848, 849, 850, 851, 852] (by decide +kernel) (by decide +kernel)
set_option maxRecDepth 20000 in
theorem gL_law_X7_operation : GoodIn wsL_law (wsV RL 89 RX7 yX7_operation wsX7_operation) := goodIn_app (goodIn_of _ (by decide +kernel)) ggL_law_X7_operation
set_option maxRecDepth 20000 in
theorem ggL_law_X6_operand : GoodIn wsL_law wsX6_operand := goodIn_r _ [690, 97, 379, 15, 101, 102, 2, 103, 104, 105, 106, 838, 839, 840, 841, 853, 854, 855, 856, 857, 858, 859, 860, 861, 871, 872] (by decide +kernel) (by decide +kernel)
set_option maxRecDepth 20000 in
theorem gL_law_X6_operand : GoodIn wsL_law (wsV RL 90 RX6 yX6_operand wsX6_operand) := goodIn_app (goodIn_of _ (by decide +kernel)) ggL_law_X6_operand
set_option maxRecDepth 20000 in
theorem ggL_law_X7_operand : GoodIn wsL_law wsX7_operand := goodIn_r _ [694, 293, 393, 86, 629, 301, 302, 5, 303, 304, 305, 306, 842, 843, 844, 845, 846, 847, 848, 849, 850, 851, 852] (by decide +kernel) (by decide +kernel)
set_option maxRecDepth 20000 in
theorem gL_law_X7_operand : GoodIn wsL_law (wsV RL 93 RX7 yX7_operand wsX7_operand) := goodIn_app (goodIn_of _ (by decide +kernel)) ggL_law_X7_operand
set_option maxRecDepth 20000 in
theorem ggL_law_X6_slot : GoodIn wsL_law wsX6_slot := goodIn_r _ [698, 15, 97, 420, 421, 2, 422, 104, 105, 106, 838, 839, 840, 841, 853, 854, 855, 856, 857, 858, 859, 860, 861] (by decide +kernel) (by decide +kernel)
set_option maxRecDepth 20000 in
theorem gL_law_X6_slot : GoodIn wsL_law (wsV RL 94 RX6 yX6_slot wsX6_slot) := goodIn_app (goodIn_of _ (by decide +kernel)) ggL_law_X6_slot
set_option maxRecDepth 20000 in
theorem ggL_law_X7_slot : GoodIn wsL_law wsX7_slot := goodIn_r _ [702, 86, 293, 304, 305, 5, 306, 842, 843, 844, 845, 846, 847, 848, 849, 850, 851, 852] (by decide +kernel) (by decide +kernel)
set_option maxRecDepth 20000 in
theorem gL_law_X7_slot : GoodIn wsL_law (wsV RL 97 RX7 yX7_slot wsX7_slot) := goodIn_app (goodIn_of _ (by decide +kernel)) ggL_law_X7_slot
set_option maxRecDepth 20000 in
theorem ggL_law_X6_setting : GoodIn wsL_law wsX6_setting := goodIn_r _ [706, 15, 97, 431, 432, 2, 433, 104, 105, 106, 838, 839, 840, 841, 853, 854, 855, 856, 857, 858, 859, 860, 861] (by decide +kernel) (by decide +kernel)
set_option maxRecDepth 20000 in
theorem gL_law_X6_setting : GoodIn wsL_law (wsV RL 98 RX6 yX6_setting wsX6_setting) := goodIn_app (goodIn_of _ (by decide +kernel)) ggL_law_X6_setting
set_option maxRecDepth 20000 in
theorem ggL_law_X7_setting : GoodIn wsL_law wsX7_setting := goodIn_r _ [710, 86, 293, 304, 305, 5, 306, 842, 843, 844, 845, 846, 847, 848, 849, 850, 851, 852] (by decide +kernel) (by decide +kernel)
set_option maxRecDepth 20000 in
theorem gL_law_X7_setting : GoodIn wsL_law (wsV RL 101 RX7 yX7_setting wsX7_setting) := goodIn_app (goodIn_of _ (by decide +kernel)) ggL_law_X7_setting
set_option maxRecDepth 20000 in
theorem ggL_law_X6_breakpoint : GoodIn wsL_law wsX6_breakpoint := goodIn_r _ [714, 15, 97, 101, 102, 2, 103, 104, 105, 106, 838, 839, 840, 841, 853, 854, 855, 856, 857, 858, 859, 860, 861] (by decide +kernel) (by decide +kernel)
set_option maxRecDepth 20000 in
theorem gL_law_X6_breakpoint : GoodIn wsL_law (wsV RL 102 RX6 yX6_breakpoint wsX6_breakpoint) := goodIn_app (goodIn_of _ (by decide +kernel)) ggL_law_X6_breakpoint
set_option maxRecDepth 20000 in
theorem ggL_law_X7_breakpoint : GoodIn wsL_law wsX7_breakpoint := goodIn_r _ [718, 86, 293, 301, 302, 5, 303, 304, 305, 306, 842, 843, 844, 845, 846, 847, 848, 849, 850, 851, 852] (by decide +kernel) (by decide +kernel)
set_option maxRecDepth 20000 in
theorem gL_law_X7_breakpoint : GoodIn wsL_law (wsV RL 105 RX7 yX7_breakpoint wsX7_breakpoint) := goodIn_app (goodIn_of _ (by decide +kernel)) ggL_law_X7_breakpoint
set_option maxRecDepth 20000 in
theorem ggL_law_X6_cycle : GoodIn wsL_law wsX6_cycle := goodIn_r _ [722, 15, 838, 839, 840, 841, 853, 854, 855, 856, 857, 858, 859, 860, 861] (by decide +kernel) (by decide +kernel)
set_option maxRecDepth 20000 in
theorem gL_law_X6_cycle : GoodIn wsL_law (wsV RL 106 RX6 yX6_cycle wsX6_cycle) := goodIn_app (goodIn_of _ (by decide +kernel)) ggL_law_X6_cycle
set_option maxRecDepth 20000 in
theorem ggL_law_X7_cycle : GoodIn wsL_law wsX7_cycle := goodIn_r _ [726, 86, 842, 843, 844, 845, 846, 847, 848, 849, 850, 851, 852] (by decide +kernel) (by decide +kernel)
set_option maxRecDepth 20000 in
theorem gL_law_X7_cycle : GoodIn wsL_law (wsV RL 109 RX7 yX7_cycle wsX7_cycle) := goodIn_app (goodIn_of _ (by decide +kernel)) ggL_law_X7_cycle
set_option maxRecDepth 20000 in
theorem ggL_law_X6_idle : GoodIn wsL_law wsX6_idle := goodIn_r _ [730, 15, 838, 839, 840, 841, 853, 854, 855, 856, 857, 858, 859, 860, 861] (by decide +kernel) (by decide +kernel)
set_option maxRecDepth 20000 in
theorem gL_law_X6_idle : GoodIn wsL_law (wsV RL 110 RX6 yX6_idle wsX6_idle) := goodIn_app (goodIn_of _ (by decide +kernel)) ggL_law_X6_idle
set_option maxRecDepth 20000 in
theorem ggL_law_X7_idle : GoodIn wsL_law wsX7_idle := goodIn_r _ [734, 86, 842, 843, 844, 845, 846, 847, 848, 849, 850, 851, 852] (by decide +kernel) (by decide +kernel)
set_option maxRecDepth 20000 in
theorem gL_law_X7_idle : GoodIn wsL_law (wsV RL 113 RX7 yX7_idle wsX7_idle) := goodIn_app (goodIn_of _ (by decide +kernel)) ggL_law_X7_idle
set_option maxRecDepth 20000 in
theorem ggL_law_X6_executed : GoodIn wsL_law wsX6_executed := goodIn_r _ [738, 15, 97, 348, 349, 2, 350, 104, 105, 106, 838, 839, 840, 841, 853, 854, 855, 856, 857, 858, 859, 860, 861, 876, 877, 878, 879, 880, 881, 882, 883, 884, 885, 886] (by decide +kernel) (by decide +kernel)
set_option maxRecDepth 20000 in
theorem gL_law_X6_executed : GoodIn wsL_law (wsV RL 114 RX6 yX6_executed wsX6_executed) := goodIn_app (goodIn_of _ (by decide +kernel)) ggL_law_X6_executed
set_option maxRecDepth 20000 in
theorem ggL_law_X7_executed : GoodIn wsL_law wsX7_executed := goodIn_r _ [742, 651, 652, 653, 5, 654, 86, 293, 360, 361, 362, 304, 305, 306, 90, 91, 92, 842, 843, 844, 845, 846, 847, 848, 849, 850, 851, 852] (by decide +kernel) (by decide +kernel)
set_option maxRecDepth 20000 in
theorem gL_law_X7_executed : GoodIn wsL_law (wsV RL 117 RX7 yX7_executed wsX7_executed) := goodIn_app (goodIn_of _ (by decide +kernel)) ggL_law_X7_executed
set_option maxRecDepth 20000 in
theorem ggL_law_X6_lent : GoodIn wsL_law wsX6_lent := goodIn_r _ [746, 15, 97, 348, 349, 2, 350, 104, 105, 106, 838, 839, 840, 841, 853, 854, 855, 856, 857, 858, 859, 860, 861, 876, 877, 878, 879, 880, 881, 882, 883, 884, 885, 886] (by decide +kernel) (by decide +kernel)
set_option maxRecDepth 20000 in
theorem gL_law_X6_lent : GoodIn wsL_law (wsV RL 118 RX6 yX6_lent wsX6_lent) := goodIn_app (goodIn_of _ (by decide +kernel)) ggL_law_X6_lent
set_option maxRecDepth 20000 in
theorem ggL_law_X7_lent : GoodIn wsL_law wsX7_lent := goodIn_r _ [750, 651, 652, 653, 5, 654, 86, 293, 360, 361, 362, 304, 305, 306, 90, 91, 92, 842, 843, 844, 845, 846, 847, 848, 849, 850, 851, 852] (by decide +kernel) (by decide +kernel)
set_option maxRecDepth 20000 in
theorem gL_law_X7_lent : GoodIn wsL_law (wsV RL 121 RX7 yX7_lent wsX7_lent) := goodIn_app (goodIn_of _ (by decide +kernel)) ggL_law_X7_lent
set_option maxRecDepth 20000 in
theorem ggL_law_X6_starved : GoodIn wsL_law wsX6_starved := goodIn_r _ [754, 15, 97, 348, 349, 2, 350, 104, 105, 106, 838, 839, 840, 841, 853, 854, 855, 856, 857, 858, 859, 860, 861, 876, 877, 878, 879, 880, 881, 882, 883, 884, 885, 886] (by decide +kernel) (by decide +kernel)
set_option maxRecDepth 20000 in
theorem gL_law_X6_starved : GoodIn wsL_law (wsV RL 122 RX6 yX6_starved wsX6_starved) := goodIn_app (goodIn_of _ (by decide +kernel)) ggL_law_X6_starved
set_option maxRecDepth 20000 in
theorem ggL_law_X7_starved : GoodIn wsL_law wsX7_starved := goodIn_r _ [758, 651, 652, 653, 5, 654, 86, 293, 360, 361, 362, 304, 305, 306, 90, 91, 92, 842, 843, 844, 845, 846, 847, 848, 849, 850, 851, 852] (by decide +kernel) (by decide +kernel)
set_option maxRecDepth 20000 in
theorem gL_law_X7_starved : GoodIn wsL_law (wsV RL 125 RX7 yX7_starved wsX7_starved) := goodIn_app (goodIn_of _ (by decide +kernel)) ggL_law_X7_starved
set_option maxRecDepth 20000 in
theorem ggL_law_X6_trace : GoodIn wsL_law wsX6_trace := goodIn_r _ [762, 379, 15, 104, 105, 2, 106, 763, 764, 765, 42, 766, 287, 767, 286, 60, 838, 839, 840, 841, 853, 854, 855, 856, 857, 858, 859, 860, 861, 873, 874, 875] (by decide +kernel) (by decide +kernel)
set_option maxRecDepth 20000 in
theorem gL_law_X6_trace : GoodIn wsL_law (wsV RL 126 RX6 yX6_trace wsX6_trace) := goodIn_app (goodIn_of _ (by decide +kernel)) ggL_law_X6_trace
set_option maxRecDepth 20000 in
theorem ggL_law_X7_trace : GoodIn wsL_law wsX7_trace := goodIn_r _ [771, 393, 86, 629, 304, 305, 5, 306, 842, 843, 844, 845, 846, 847, 848, 849, 850, 851, 852] (by decide +kernel) (by decide +kernel)
set_option maxRecDepth 20000 in
theorem gL_law_X7_trace : GoodIn wsL_law (wsV RL 129 RX7 yX7_trace wsX7_trace) := goodIn_app (goodIn_of _ (by decide +kernel)) ggL_law_X7_trace
set_option maxRecDepth 20000 in
theorem ggL_law_X6_use : GoodIn wsL_law wsX6_use := goodIn_r _ [775, 15, 838, 839, 840, 841, 853, 854, 855, 856, 857, 858, 859, 860, 861] (by decide +kernel) (by decide +kernel)
set_option maxRecDepth 20000 in
theorem gL_law_X6_use : GoodIn wsL_law (wsV RL 130 RX6 yX6_use wsX6_use) := goodIn_app (goodIn_of _ (by decide +kernel)) ggL_law_X6_use
set_option maxRecDepth 20000 in
theorem ggL_law_X7_use : GoodIn wsL_law wsX7_use := goodIn_r _ [779, 86, 842, 843, 844, 845, 846, 847, 848, 849, 850, 851, 852] (by decide +kernel) (by decide +kernel)
set_option maxRecDepth 20000 in
theorem gL_law_X7_use : GoodIn wsL_law (wsV RL 134 RX7 yX7_use wsX7_use) := goodIn_app (goodIn_of _ (by decide +kernel)) ggL_law_X7_use
set_option maxRecDepth 20000 in
theorem ggL_law_X6_nextThread : GoodIn wsL_law wsX6_nextThread := goodIn_r _ [783, 15, 784, 467, 468, 14, 469, 39, 470, 471, 472, 473, 474, 30, 261, 475, 476, 477, 478, 479, 480, 481, 45, 482, 65, 271, 483, 484, 485, 486, 38, 487, 488, 489, 490, 491, 492, 493, 494, 495, 496, 838, 839, 840, 841, 853, 854, 855, 856, 857, 858, 859, 860, 861, 876, 877, 878, 879, 880, 881, 882, 883, 884, 885, 886] (by decide +kernel) (by decide +kernel)
set_option maxRecDepth 20000 in
theorem gL_law_X6_nextThread : GoodIn wsL_law (wsV RL 135 RX6 yX6_nextThread wsX6_nextThread) := goodIn_app (goodIn_of _ (by decide +kernel)) ggL_law_X6_nextThread
set_option maxRecDepth 20000 in
theorem ggL_law_X7_nextThread : GoodIn wsL_law wsX7_nextThread := goodIn_r _ [788, 629, 561, 562, 563, 5, 564, 87, 86, 565, 566, 567, 568, 90, 91, 92, 401, 402, 403, 404, 553, 554, 555, 556, 569, 570, 571, 572, 573, 574, 575, 576, 577, 578, 579, 580, 842, 843, 844, 845, 846, 847, 848, 849, 850, 851, 852] (by decide +kernel) (by decide +kernel)
set_option maxRecDepth 20000 in
theorem gL_law_X7_nextThread : GoodIn wsL_law (wsV RL 138 RX7 yX7_nextThread wsX7_nextThread) := goodIn_app (goodIn_of _ (by decide +kernel)) ggL_law_X7_nextThread
set_option maxRecDepth 20000 in
theorem ggL_law_X6_cyclesLeft : GoodIn wsL_law wsX6_cyclesLeft := goodIn_r _ [792, 15, 793, 794, 795, 2, 796, 16, 797, 254, 255, 14, 256, 30, 34, 36, 257, 258, 259, 260, 37, 38, 39, 43, 261, 262, 263, 264, 265, 45, 266, 64, 267, 65, 268, 269, 270, 271, 66, 272, 273, 274, 275, 276, 277, 278, 33, 279, 50, 280, 51, 281, 282, 283, 42, 284, 60, 285, 286, 287, 798, 799, 800, 801, 470, 458, 459, 460, 461, 497, 498, 499, 500, 501, 502, 503, 504, 479, 480, 481, 482, 505, 506, 507, 508, 475, 476, 477, 478, 466, 467, 468, 469, 471, 472, 473, 474, 483, 484, 485, 486, 487, 488, 489, 490, 491, 492, 493, 494, 495, 496, 509, 510, 511, 512, 513, 514, 515, 516, 517, 148, 149, 150, 349, 350, 104, 105, 106, 518, 519, 520, 521, 522, 523, 524, 525, 526, 152, 153, 527, 528, 529, 530, 102, 103, 531, 532, 533, 534, 535, 536, 537, 538, 539, 540, 541, 542, 543, 544, 838, 839, 840, 841, 853, 854, 855, 856, 857, 858, 859, 860, 861, 876, 877, 878, 879, 880, 881, 882, 883, 884, 885, 886, 871, 872, 873, 874, 875] (by decide +kernel) (by decide +kernel)
set_option maxRecDepth 20000 in
theorem gL_law_X6_cyclesLeft : GoodIn wsL_law (wsV RL 139 RX6 yX6_cyclesLeft wsX6_cyclesLeft) := goodIn_app (goodIn_of _ (by decide +kernel)) ggL_law_X6_cyclesLeft
set_option maxRecDepth 20000 in
theorem ggL_law_X7_cyclesLeft : GoodIn wsL_law wsX7_cyclesLeft := goodIn_r _ [805, 86, 806, 807, 808, 5, 809, 561, 562, 563, 564, 87, 810, 811, 812, 813, 629, 549, 550, 551, 552, 553, 554, 555, 556, 90, 91, 92, 581, 582, 583, 584, 565, 566, 567, 568, 401, 402, 403, 404, 569, 570, 571, 572, 573, 574, 575, 576, 585, 586, 587, 588, 589, 590, 591, 592, 593, 594, 595, 596, 304, 305, 306, 397, 398, 399, 400, 597, 598, 599, 600, 577, 578, 579, 580, 842, 843, 844, 845, 846, 847, 848, 849, 850, 851, 852] (by decide +kernel) (by decide +kernel)
set_option maxRecDepth 20000 in
theorem gL_law_X7_cyclesLeft : GoodIn wsL_law (wsV RL 142 RX7 yX7_cyclesLeft wsX7_cyclesLeft) := goodIn_app (goodIn_of _ (by decide +kernel)) ggL_law_X7_cyclesLeft
set_option maxRecDepth 20000 in
theorem ggL_law_X6_cyclesIf : GoodIn wsL_law wsX6_cyclesIf := goodIn_r _ [817, 379, 104, 105, 2, 106, 793, 794, 795, 796, 16, 15, 797, 254, 255, 14, 256, 30, 34, 36, 257, 258, 259, 260, 37, 38, 39, 43, 261, 262, 263, 264, 265, 45, 266, 64, 267, 65, 268, 269, 270, 271, 66, 272, 273, 274, 275, 276, 277, 278, 33, 279, 50, 280, 51, 281, 282, 283, 42, 284, 60, 285, 286, 287, 798, 799, 800, 801, 470, 458, 459, 460, 461, 497, 498, 499, 500, 501, 502, 503, 504, 479, 480, 481, 482, 505, 506, 507, 508, 475, 476, 477, 478, 466, 467, 468, 469, 471, 472, 473, 474, 483, 484, 485, 486, 487, 488, 489, 490, 491, 492, 493, 494, 495, 496, 509, 510, 511, 512, 513, 514, 515, 516, 517, 148, 149, 150, 349, 350, 518, 519, 520, 521, 522, 523, 524, 525, 526, 152, 153, 527, 528, 529, 530, 102, 103, 531, 532, 533, 534, 535, 536, 537, 538, 539, 540, 541, 542, 543, 544, 838, 839, 840, 841, 853, 854, 855, 856, 857, 858, 859, 860, 861, 876, 877, 878, 879, 880, 881, 882, 883, 884, 885, 886, 871, 872, 873, 874, 875] (by decide +kernel) (by decide +kernel)
set_option maxRecDepth 20000 in
theorem gL_law_X6_cyclesIf : GoodIn wsL_law (wsV RL 143 RX6 yX6_cyclesIf wsX6_cyclesIf) := goodIn_app (goodIn_of _ (by decide +kernel)) ggL_law_X6_cyclesIf
set_option maxRecDepth 20000 in
theorem ggL_law_X7_cyclesIf : GoodIn wsL_law wsX7_cyclesIf := goodIn_r _ [821, 393, 304, 305, 5, 306, 806, 807, 808, 809, 86, 561, 562, 563, 564, 87, 810, 811, 812, 813, 629, 549, 550, 551, 552, 553, 554, 555, 556, 90, 91, 92, 581, 582, 583, 584, 565, 566, 567, 568, 401, 402, 403, 404, 569, 570, 571, 572, 573, 574, 575, 576, 585, 586, 587, 588, 589, 590, 591, 592, 593, 594, 595, 596, 397, 398, 399, 400, 597, 598, 599, 600, 577, 578, 579, 580, 842, 843, 844, 845, 846, 847, 848, 849, 850, 851, 852] (by decide +kernel) (by decide +kernel)
set_option maxRecDepth 20000 in
theorem gL_law_X7_cyclesIf : GoodIn wsL_law (wsV RL 146 RX7 yX7_cyclesIf wsX7_cyclesIf) := goodIn_app (goodIn_of _ (by decide +kernel)) ggL_law_X7_cyclesIf
set_option maxRecDepth 20000 in
theorem ggL_law_X6_bestLend : GoodIn wsL_law wsX6_bestLend := goodIn_r _ [825, 98, 15, 793, 794, 795, 2, 796, 16, 797, 254, 255, 14, 256, 30, 34, 36, 257, 258, 259, 260, 37, 38, 39, 43, 261, 262, 263, 264, 265, 45, 266, 64, 267, 65, 268, 269, 270, 271, 66, 272, 273, 274, 275, 276, 277, 278, 33, 279, 50, 280, 51, 281, 282, 283, 42, 284, 60, 285, 286, 287, 798, 799, 800, 801, 470, 458, 459, 460, 461, 497, 498, 499, 500, 501, 502, 503, 504, 479, 480, 481, 482, 505, 506, 507, 508, 475, 476, 477, 478, 466, 467, 468, 469, 471, 472, 473, 474, 483, 484, 485, 486, 487, 488, 489, 490, 491, 492, 493, 494, 495, 496, 509, 510, 511, 512, 513, 514, 515, 516, 517, 148, 149, 150, 349, 350, 104, 105, 106, 518, 519, 520, 521, 522, 523, 524, 525, 526, 152, 153, 527, 528, 529, 530, 102, 103, 531, 532, 533, 534, 535, 536, 537, 538, 539, 540, 541, 542, 543, 544, 838, 839, 840, 841, 853, 854, 855, 856, 857, 858, 859, 860, 861, 876, 877, 878, 879, 880, 881, 882, 883, 884, 885, 886, 871, 872, 873, 874, 875] (by decide +kernel) (by decide +kernel)
set_option maxRecDepth 20000 in
theorem gL_law_X6_bestLend : GoodIn wsL_law (wsV RL 147 RX6 yX6_bestLend wsX6_bestLend) := goodIn_app (goodIn_of _ (by decide +kernel)) ggL_law_X6_bestLend
set_option maxRecDepth 20000 in
theorem ggL_law_X7_bestLend : GoodIn wsL_law wsX7_bestLend := goodIn_r _ [829, 629, 86, 806, 807, 808, 5, 809, 561, 562, 563, 564, 87, 810, 811, 812, 813, 549, 550, 551, 552, 553, 554, 555, 556, 90, 91, 92, 581, 582, 583, 584, 565, 566, 567, 568, 401, 402, 403, 404, 569, 570, 571, 572, 573, 574, 575, 576, 585, 586, 587, 588, 589, 590, 591, 592, 593, 594, 595, 596, 304, 305, 306, 397, 398, 399, 400, 597, 598, 599, 600, 577, 578, 579, 580, 842, 843, 844, 845, 846, 847, 848, 849, 850, 851, 852] (by decide +kernel) (by decide +kernel)
set_option maxRecDepth 20000 in
theorem gL_law_X7_bestLend : GoodIn wsL_law (wsV RL 150 RX7 yX7_bestLend wsX7_bestLend) := goodIn_app (goodIn_of _ (by decide +kernel)) ggL_law_X7_bestLend
set_option maxRecDepth 20000 in
theorem ggL_law_X6_finalWord : GoodIn wsL_law wsX6_finalWord := goodIn_r _ [833, 97, 15, 98, 16, 409, 410, 2, 411, 104, 105, 106, 793, 794, 795, 796, 797, 254, 255, 14, 256, 30, 34, 36, 257, 258, 259, 260, 37, 38, 39, 43, 261, 262, 263, 264, 265, 45, 266, 64, 267, 65, 268, 269, 270, 271, 66, 272, 273, 274, 275, 276, 277, 278, 33, 279, 50, 280, 51, 281, 282, 283, 42, 284, 60, 285, 286, 287, 798, 799, 800, 801, 470, 458, 459, 460, 461, 497, 498, 499, 500, 501, 502, 503, 504, 479, 480, 481, 482, 505, 506, 507, 508, 475, 476, 477, 478, 466, 467, 468, 469, 471, 472, 473, 474, 483, 484, 485, 486, 487, 488, 489, 490, 491, 492, 493, 494, 495, 496, 509, 510, 511, 512, 513, 514, 515, 516, 517, 148, 149, 150, 349, 350, 518, 519, 520, 521, 522, 523, 524, 525, 526, 152, 153, 527, 528, 529, 530, 102, 103, 531, 532, 533, 534, 535, 536, 537, 538, 539, 540, 541, 542, 543, 544, 838, 839, 840, 841, 853, 854, 855, 856, 857, 858, 859, 860, 861, 876, 877, 878, 879, 880, 881, 882, 883, 884, 885, 886, 871, 872, 873, 874, 875] (by decide +kernel) (by decide +kernel)
set_option maxRecDepth 20000 in
theorem gL_law_X6_finalWord : GoodIn wsL_law (wsV RL 151 RX6 yX6_finalWord wsX6_finalWord) := goodIn_app (goodIn_of _ (by decide +kernel)) ggL_law_X6_finalWord
set_option maxRecDepth 20000 in
theorem ggL_law_X7_finalWord : GoodIn wsL_law wsX7_finalWord := goodIn_r _ [837, 293, 86, 629, 304, 305, 5, 306, 561, 562, 563, 564, 87, 810, 811, 812, 813, 549, 550, 551, 552, 553, 554, 555, 556, 90, 91, 92, 581, 582, 583, 584, 565, 566, 567, 568, 401, 402, 403, 404, 569, 570, 571, 572, 573, 574, 575, 576, 585, 586, 587, 588, 589, 590, 591, 592, 593, 594, 595, 596, 397, 398, 399, 400, 597, 598, 599, 600, 577, 578, 579, 580, 842, 843, 844, 845, 846, 847, 848, 849, 850, 851, 852] (by decide +kernel) (by decide +kernel)
set_option maxRecDepth 20000 in
theorem gL_law_X7_finalWord : GoodIn wsL_law (wsV RL 154 RX7 yX7_finalWord wsX7_finalWord) := goodIn_app (goodIn_of _ (by decide +kernel)) ggL_law_X7_finalWord
theorem dL_law_0 : decode cL_law 0 = .ok (.new 7, 3) := by decide +kernel
theorem dL_law_3 : decode cL_law 3 = .ok (.dup, 1) := by decide +kernel
theorem dL_law_4 : decode cL_law 4 = .ok (.invokespecial 9, 3) := by decide +kernel
theorem dL_law_7 : decode cL_law 7 = .ok (.astore_n 1, 1) := by decide +kernel
theorem dL_law_8 : decode cL_law 8 = .ok (.new 10, 3) := by decide +kernel
theorem dL_law_11 : decode cL_law 11 = .ok (.dup, 1) := by decide +kernel
theorem dL_law_12 : decode cL_law 12 = .ok (.invokespecial 12, 3) := by decide +kernel
theorem dL_law_15 : decode cL_law 15 = .ok (.astore_n 2, 1) := by decide +kernel
theorem dL_law_16 : decode cL_law 16 = .ok (.iconst 0, 1) := by decide +kernel
theorem dL_law_17 : decode cL_law 17 = .ok (.istore_n 3, 1) := by decide +kernel
theorem dL_law_18 : decode cL_law 18 = .ok (.iload_n 3, 1) := by decide +kernel
theorem dL_law_19 : decode cL_law 19 = .ok (.aload_n 0, 1) := by decide +kernel
theorem dL_law_20 : decode cL_law 20 = .ok (.arraylength, 1) := by decide +kernel
theorem dL_law_21 : decode cL_law 21 = .ok (.iconst 4, 1) := by decide +kernel
theorem dL_law_22 : decode cL_law 22 = .ok (.isub, 1) := by decide +kernel
theorem dL_law_23 : decode cL_law 23 = .ok (.if_icmp .gt 1015, 3) := by decide +kernel
theorem dL_law_26 : decode cL_law 26 = .ok (.aload_n 0, 1) := by decide +kernel
theorem dL_law_27 : decode cL_law 27 = .ok (.iload_n 3, 1) := by decide +kernel
theorem dL_law_28 : decode cL_law 28 = .ok (.iaload, 1) := by decide +kernel
theorem dL_law_29 : decode cL_law 29 = .ok (.bipush 63, 2) := by decide +kernel
theorem dL_law_31 : decode cL_law 31 = .ok (.iand, 1) := by decide +kernel
theorem dL_law_32 : decode cL_law 32 = .ok (.tableswitch 1000 0 33 #[152, 175, 208, 231, 274, 307, 340, 373, 422, 445, 468, 481, 494, 507, 530, 553, 586, 609, 632, 665, 688, 711, 734, 747, 760, 783, 806, 829, 862, 905, 918, 931, 964, 977], 152) := by decide +kernel
theorem dL_law_184 : decode cL_law 184 = .ok (.aload_n 1, 1) := by decide +kernel
theorem dL_law_185 : decode cL_law 185 = .ok (.aload_n 0, 1) := by decide +kernel
theorem dL_law_186 : decode cL_law 186 = .ok (.iload_n 3, 1) := by decide +kernel
theorem dL_law_187 : decode cL_law 187 = .ok (.iconst 1, 1) := by decide +kernel
theorem dL_law_188 : decode cL_law 188 = .ok (.iadd, 1) := by decide +kernel
theorem dL_law_189 : decode cL_law 189 = .ok (.iaload, 1) := by decide +kernel
theorem dL_law_190 : decode cL_law 190 = .ok (.invokevirtual 13, 3) := by decide +kernel
theorem dL_law_193 : decode cL_law 193 = .ok (.aload_n 2, 1) := by decide +kernel
theorem dL_law_194 : decode cL_law 194 = .ok (.aload_n 0, 1) := by decide +kernel
theorem dL_law_195 : decode cL_law 195 = .ok (.iload_n 3, 1) := by decide +kernel
theorem dL_law_196 : decode cL_law 196 = .ok (.iconst 1, 1) := by decide +kernel
theorem dL_law_197 : decode cL_law 197 = .ok (.iadd, 1) := by decide +kernel
theorem dL_law_198 : decode cL_law 198 = .ok (.iaload, 1) := by decide +kernel
theorem dL_law_199 : decode cL_law 199 = .ok (.invokevirtual 17, 3) := by decide +kernel
theorem dL_law_202 : decode cL_law 202 = .ok (.if_icmp .eq 830, 3) := by decide +kernel
theorem dL_law_205 : decode cL_law 205 = .ok (.iconst 0, 1) := by decide +kernel
theorem dL_law_206 : decode cL_law 206 = .ok (.ireturn, 1) := by decide +kernel
theorem dL_law_207 : decode cL_law 207 = .ok (.aload_n 1, 1) := by decide +kernel
theorem dL_law_208 : decode cL_law 208 = .ok (.aload_n 0, 1) := by decide +kernel
theorem dL_law_209 : decode cL_law 209 = .ok (.iload_n 3, 1) := by decide +kernel
theorem dL_law_210 : decode cL_law 210 = .ok (.iconst 1, 1) := by decide +kernel
theorem dL_law_211 : decode cL_law 211 = .ok (.iadd, 1) := by decide +kernel
theorem dL_law_212 : decode cL_law 212 = .ok (.iaload, 1) := by decide +kernel
theorem dL_law_213 : decode cL_law 213 = .ok (.aload_n 0, 1) := by decide +kernel
theorem dL_law_214 : decode cL_law 214 = .ok (.iload_n 3, 1) := by decide +kernel
theorem dL_law_215 : decode cL_law 215 = .ok (.iconst 2, 1) := by decide +kernel
theorem dL_law_216 : decode cL_law 216 = .ok (.iadd, 1) := by decide +kernel
theorem dL_law_217 : decode cL_law 217 = .ok (.iaload, 1) := by decide +kernel
theorem dL_law_218 : decode cL_law 218 = .ok (.invokevirtual 18, 3) := by decide +kernel
theorem dL_law_221 : decode cL_law 221 = .ok (.aload_n 2, 1) := by decide +kernel
theorem dL_law_222 : decode cL_law 222 = .ok (.aload_n 0, 1) := by decide +kernel
theorem dL_law_223 : decode cL_law 223 = .ok (.iload_n 3, 1) := by decide +kernel
theorem dL_law_224 : decode cL_law 224 = .ok (.iconst 1, 1) := by decide +kernel
theorem dL_law_225 : decode cL_law 225 = .ok (.iadd, 1) := by decide +kernel
theorem dL_law_226 : decode cL_law 226 = .ok (.iaload, 1) := by decide +kernel
theorem dL_law_227 : decode cL_law 227 = .ok (.aload_n 0, 1) := by decide +kernel
theorem dL_law_228 : decode cL_law 228 = .ok (.iload_n 3, 1) := by decide +kernel
theorem dL_law_229 : decode cL_law 229 = .ok (.iconst 2, 1) := by decide +kernel
theorem dL_law_230 : decode cL_law 230 = .ok (.iadd, 1) := by decide +kernel
theorem dL_law_231 : decode cL_law 231 = .ok (.iaload, 1) := by decide +kernel
theorem dL_law_232 : decode cL_law 232 = .ok (.invokevirtual 22, 3) := by decide +kernel
theorem dL_law_235 : decode cL_law 235 = .ok (.if_icmp .eq 797, 3) := by decide +kernel
theorem dL_law_238 : decode cL_law 238 = .ok (.iconst 0, 1) := by decide +kernel
theorem dL_law_239 : decode cL_law 239 = .ok (.ireturn, 1) := by decide +kernel
theorem dL_law_240 : decode cL_law 240 = .ok (.aload_n 1, 1) := by decide +kernel
theorem dL_law_241 : decode cL_law 241 = .ok (.aload_n 0, 1) := by decide +kernel
theorem dL_law_242 : decode cL_law 242 = .ok (.iload_n 3, 1) := by decide +kernel
theorem dL_law_243 : decode cL_law 243 = .ok (.iconst 1, 1) := by decide +kernel
theorem dL_law_244 : decode cL_law 244 = .ok (.iadd, 1) := by decide +kernel
theorem dL_law_245 : decode cL_law 245 = .ok (.iaload, 1) := by decide +kernel
theorem dL_law_246 : decode cL_law 246 = .ok (.invokevirtual 23, 3) := by decide +kernel
theorem dL_law_249 : decode cL_law 249 = .ok (.aload_n 2, 1) := by decide +kernel
theorem dL_law_250 : decode cL_law 250 = .ok (.aload_n 0, 1) := by decide +kernel
theorem dL_law_251 : decode cL_law 251 = .ok (.iload_n 3, 1) := by decide +kernel
theorem dL_law_252 : decode cL_law 252 = .ok (.iconst 1, 1) := by decide +kernel
theorem dL_law_253 : decode cL_law 253 = .ok (.iadd, 1) := by decide +kernel
theorem dL_law_254 : decode cL_law 254 = .ok (.iaload, 1) := by decide +kernel
theorem dL_law_255 : decode cL_law 255 = .ok (.invokevirtual 26, 3) := by decide +kernel
theorem dL_law_258 : decode cL_law 258 = .ok (.if_icmp .eq 774, 3) := by decide +kernel
theorem dL_law_261 : decode cL_law 261 = .ok (.iconst 0, 1) := by decide +kernel
theorem dL_law_262 : decode cL_law 262 = .ok (.ireturn, 1) := by decide +kernel
theorem dL_law_263 : decode cL_law 263 = .ok (.aload_n 1, 1) := by decide +kernel
theorem dL_law_264 : decode cL_law 264 = .ok (.aload_n 0, 1) := by decide +kernel
theorem dL_law_265 : decode cL_law 265 = .ok (.iload_n 3, 1) := by decide +kernel
theorem dL_law_266 : decode cL_law 266 = .ok (.iconst 1, 1) := by decide +kernel
theorem dL_law_267 : decode cL_law 267 = .ok (.iadd, 1) := by decide +kernel
theorem dL_law_268 : decode cL_law 268 = .ok (.iaload, 1) := by decide +kernel
theorem dL_law_269 : decode cL_law 269 = .ok (.aload_n 0, 1) := by decide +kernel
theorem dL_law_270 : decode cL_law 270 = .ok (.iload_n 3, 1) := by decide +kernel
theorem dL_law_271 : decode cL_law 271 = .ok (.iconst 2, 1) := by decide +kernel
theorem dL_law_272 : decode cL_law 272 = .ok (.iadd, 1) := by decide +kernel
theorem dL_law_273 : decode cL_law 273 = .ok (.iaload, 1) := by decide +kernel
theorem dL_law_274 : decode cL_law 274 = .ok (.aload_n 0, 1) := by decide +kernel
theorem dL_law_275 : decode cL_law 275 = .ok (.iload_n 3, 1) := by decide +kernel
theorem dL_law_276 : decode cL_law 276 = .ok (.iconst 3, 1) := by decide +kernel
theorem dL_law_277 : decode cL_law 277 = .ok (.iadd, 1) := by decide +kernel
theorem dL_law_278 : decode cL_law 278 = .ok (.iaload, 1) := by decide +kernel
theorem dL_law_279 : decode cL_law 279 = .ok (.invokevirtual 27, 3) := by decide +kernel
theorem dL_law_282 : decode cL_law 282 = .ok (.aload_n 2, 1) := by decide +kernel
theorem dL_law_283 : decode cL_law 283 = .ok (.aload_n 0, 1) := by decide +kernel
theorem dL_law_284 : decode cL_law 284 = .ok (.iload_n 3, 1) := by decide +kernel
theorem dL_law_285 : decode cL_law 285 = .ok (.iconst 1, 1) := by decide +kernel
theorem dL_law_286 : decode cL_law 286 = .ok (.iadd, 1) := by decide +kernel
theorem dL_law_287 : decode cL_law 287 = .ok (.iaload, 1) := by decide +kernel
theorem dL_law_288 : decode cL_law 288 = .ok (.aload_n 0, 1) := by decide +kernel
theorem dL_law_289 : decode cL_law 289 = .ok (.iload_n 3, 1) := by decide +kernel
theorem dL_law_290 : decode cL_law 290 = .ok (.iconst 2, 1) := by decide +kernel
theorem dL_law_291 : decode cL_law 291 = .ok (.iadd, 1) := by decide +kernel
theorem dL_law_292 : decode cL_law 292 = .ok (.iaload, 1) := by decide +kernel
theorem dL_law_293 : decode cL_law 293 = .ok (.aload_n 0, 1) := by decide +kernel
theorem dL_law_294 : decode cL_law 294 = .ok (.iload_n 3, 1) := by decide +kernel
theorem dL_law_295 : decode cL_law 295 = .ok (.iconst 3, 1) := by decide +kernel
theorem dL_law_296 : decode cL_law 296 = .ok (.iadd, 1) := by decide +kernel
theorem dL_law_297 : decode cL_law 297 = .ok (.iaload, 1) := by decide +kernel
theorem dL_law_298 : decode cL_law 298 = .ok (.invokevirtual 31, 3) := by decide +kernel
theorem dL_law_301 : decode cL_law 301 = .ok (.if_icmp .eq 731, 3) := by decide +kernel
theorem dL_law_304 : decode cL_law 304 = .ok (.iconst 0, 1) := by decide +kernel
theorem dL_law_305 : decode cL_law 305 = .ok (.ireturn, 1) := by decide +kernel
theorem dL_law_306 : decode cL_law 306 = .ok (.aload_n 1, 1) := by decide +kernel
theorem dL_law_307 : decode cL_law 307 = .ok (.aload_n 0, 1) := by decide +kernel
theorem dL_law_308 : decode cL_law 308 = .ok (.iload_n 3, 1) := by decide +kernel
theorem dL_law_309 : decode cL_law 309 = .ok (.iconst 1, 1) := by decide +kernel
theorem dL_law_310 : decode cL_law 310 = .ok (.iadd, 1) := by decide +kernel
theorem dL_law_311 : decode cL_law 311 = .ok (.iaload, 1) := by decide +kernel
theorem dL_law_312 : decode cL_law 312 = .ok (.aload_n 0, 1) := by decide +kernel
theorem dL_law_313 : decode cL_law 313 = .ok (.iload_n 3, 1) := by decide +kernel
theorem dL_law_314 : decode cL_law 314 = .ok (.iconst 2, 1) := by decide +kernel
theorem dL_law_315 : decode cL_law 315 = .ok (.iadd, 1) := by decide +kernel
theorem dL_law_316 : decode cL_law 316 = .ok (.iaload, 1) := by decide +kernel
theorem dL_law_317 : decode cL_law 317 = .ok (.invokevirtual 32, 3) := by decide +kernel
theorem dL_law_320 : decode cL_law 320 = .ok (.aload_n 2, 1) := by decide +kernel
theorem dL_law_321 : decode cL_law 321 = .ok (.aload_n 0, 1) := by decide +kernel
theorem dL_law_322 : decode cL_law 322 = .ok (.iload_n 3, 1) := by decide +kernel
theorem dL_law_323 : decode cL_law 323 = .ok (.iconst 1, 1) := by decide +kernel
theorem dL_law_324 : decode cL_law 324 = .ok (.iadd, 1) := by decide +kernel
theorem dL_law_325 : decode cL_law 325 = .ok (.iaload, 1) := by decide +kernel
theorem dL_law_326 : decode cL_law 326 = .ok (.aload_n 0, 1) := by decide +kernel
theorem dL_law_327 : decode cL_law 327 = .ok (.iload_n 3, 1) := by decide +kernel
theorem dL_law_328 : decode cL_law 328 = .ok (.iconst 2, 1) := by decide +kernel
theorem dL_law_329 : decode cL_law 329 = .ok (.iadd, 1) := by decide +kernel
theorem dL_law_330 : decode cL_law 330 = .ok (.iaload, 1) := by decide +kernel
theorem dL_law_331 : decode cL_law 331 = .ok (.invokevirtual 35, 3) := by decide +kernel
theorem dL_law_334 : decode cL_law 334 = .ok (.if_icmp .eq 698, 3) := by decide +kernel
theorem dL_law_337 : decode cL_law 337 = .ok (.iconst 0, 1) := by decide +kernel
theorem dL_law_338 : decode cL_law 338 = .ok (.ireturn, 1) := by decide +kernel
theorem dL_law_339 : decode cL_law 339 = .ok (.aload_n 1, 1) := by decide +kernel
theorem dL_law_340 : decode cL_law 340 = .ok (.aload_n 0, 1) := by decide +kernel
theorem dL_law_341 : decode cL_law 341 = .ok (.iload_n 3, 1) := by decide +kernel
theorem dL_law_342 : decode cL_law 342 = .ok (.iconst 1, 1) := by decide +kernel
theorem dL_law_343 : decode cL_law 343 = .ok (.iadd, 1) := by decide +kernel
theorem dL_law_344 : decode cL_law 344 = .ok (.iaload, 1) := by decide +kernel
theorem dL_law_345 : decode cL_law 345 = .ok (.aload_n 0, 1) := by decide +kernel
theorem dL_law_346 : decode cL_law 346 = .ok (.iload_n 3, 1) := by decide +kernel
theorem dL_law_347 : decode cL_law 347 = .ok (.iconst 2, 1) := by decide +kernel
theorem dL_law_348 : decode cL_law 348 = .ok (.iadd, 1) := by decide +kernel
theorem dL_law_349 : decode cL_law 349 = .ok (.iaload, 1) := by decide +kernel
theorem dL_law_350 : decode cL_law 350 = .ok (.invokevirtual 36, 3) := by decide +kernel
theorem dL_law_353 : decode cL_law 353 = .ok (.aload_n 2, 1) := by decide +kernel
theorem dL_law_354 : decode cL_law 354 = .ok (.aload_n 0, 1) := by decide +kernel
theorem dL_law_355 : decode cL_law 355 = .ok (.iload_n 3, 1) := by decide +kernel
theorem dL_law_356 : decode cL_law 356 = .ok (.iconst 1, 1) := by decide +kernel
theorem dL_law_357 : decode cL_law 357 = .ok (.iadd, 1) := by decide +kernel
theorem dL_law_358 : decode cL_law 358 = .ok (.iaload, 1) := by decide +kernel
theorem dL_law_359 : decode cL_law 359 = .ok (.aload_n 0, 1) := by decide +kernel
theorem dL_law_360 : decode cL_law 360 = .ok (.iload_n 3, 1) := by decide +kernel
theorem dL_law_361 : decode cL_law 361 = .ok (.iconst 2, 1) := by decide +kernel
theorem dL_law_362 : decode cL_law 362 = .ok (.iadd, 1) := by decide +kernel
theorem dL_law_363 : decode cL_law 363 = .ok (.iaload, 1) := by decide +kernel
theorem dL_law_364 : decode cL_law 364 = .ok (.invokevirtual 39, 3) := by decide +kernel
theorem dL_law_367 : decode cL_law 367 = .ok (.if_icmp .eq 665, 3) := by decide +kernel
theorem dL_law_370 : decode cL_law 370 = .ok (.iconst 0, 1) := by decide +kernel
theorem dL_law_371 : decode cL_law 371 = .ok (.ireturn, 1) := by decide +kernel
theorem dL_law_372 : decode cL_law 372 = .ok (.aload_n 1, 1) := by decide +kernel
theorem dL_law_373 : decode cL_law 373 = .ok (.aload_n 0, 1) := by decide +kernel
theorem dL_law_374 : decode cL_law 374 = .ok (.iload_n 3, 1) := by decide +kernel
theorem dL_law_375 : decode cL_law 375 = .ok (.iconst 1, 1) := by decide +kernel
theorem dL_law_376 : decode cL_law 376 = .ok (.iadd, 1) := by decide +kernel
theorem dL_law_377 : decode cL_law 377 = .ok (.iaload, 1) := by decide +kernel
theorem dL_law_378 : decode cL_law 378 = .ok (.aload_n 0, 1) := by decide +kernel
theorem dL_law_379 : decode cL_law 379 = .ok (.iload_n 3, 1) := by decide +kernel
theorem dL_law_380 : decode cL_law 380 = .ok (.iconst 2, 1) := by decide +kernel
theorem dL_law_381 : decode cL_law 381 = .ok (.iadd, 1) := by decide +kernel
theorem dL_law_382 : decode cL_law 382 = .ok (.iaload, 1) := by decide +kernel
theorem dL_law_383 : decode cL_law 383 = .ok (.invokevirtual 40, 3) := by decide +kernel
theorem dL_law_386 : decode cL_law 386 = .ok (.aload_n 2, 1) := by decide +kernel
theorem dL_law_387 : decode cL_law 387 = .ok (.aload_n 0, 1) := by decide +kernel
theorem dL_law_388 : decode cL_law 388 = .ok (.iload_n 3, 1) := by decide +kernel
theorem dL_law_389 : decode cL_law 389 = .ok (.iconst 1, 1) := by decide +kernel
theorem dL_law_390 : decode cL_law 390 = .ok (.iadd, 1) := by decide +kernel
theorem dL_law_391 : decode cL_law 391 = .ok (.iaload, 1) := by decide +kernel
theorem dL_law_392 : decode cL_law 392 = .ok (.aload_n 0, 1) := by decide +kernel
theorem dL_law_393 : decode cL_law 393 = .ok (.iload_n 3, 1) := by decide +kernel
theorem dL_law_394 : decode cL_law 394 = .ok (.iconst 2, 1) := by decide +kernel
theorem dL_law_395 : decode cL_law 395 = .ok (.iadd, 1) := by decide +kernel
theorem dL_law_396 : decode cL_law 396 = .ok (.iaload, 1) := by decide +kernel
theorem dL_law_397 : decode cL_law 397 = .ok (.invokevirtual 43, 3) := by decide +kernel
theorem dL_law_400 : decode cL_law 400 = .ok (.if_icmp .eq 632, 3) := by decide +kernel
theorem dL_law_403 : decode cL_law 403 = .ok (.iconst 0, 1) := by decide +kernel
theorem dL_law_404 : decode cL_law 404 = .ok (.ireturn, 1) := by decide +kernel
theorem dL_law_405 : decode cL_law 405 = .ok (.aload_n 1, 1) := by decide +kernel
theorem dL_law_406 : decode cL_law 406 = .ok (.aload_n 0, 1) := by decide +kernel
theorem dL_law_407 : decode cL_law 407 = .ok (.iload_n 3, 1) := by decide +kernel
theorem dL_law_408 : decode cL_law 408 = .ok (.iconst 1, 1) := by decide +kernel
theorem dL_law_409 : decode cL_law 409 = .ok (.iadd, 1) := by decide +kernel
theorem dL_law_410 : decode cL_law 410 = .ok (.iaload, 1) := by decide +kernel
theorem dL_law_411 : decode cL_law 411 = .ok (.aload_n 0, 1) := by decide +kernel
theorem dL_law_412 : decode cL_law 412 = .ok (.iload_n 3, 1) := by decide +kernel
theorem dL_law_413 : decode cL_law 413 = .ok (.iconst 2, 1) := by decide +kernel
theorem dL_law_414 : decode cL_law 414 = .ok (.iadd, 1) := by decide +kernel
theorem dL_law_415 : decode cL_law 415 = .ok (.iaload, 1) := by decide +kernel
theorem dL_law_416 : decode cL_law 416 = .ok (.ifCond .eq 7, 3) := by decide +kernel
theorem dL_law_419 : decode cL_law 419 = .ok (.iconst 1, 1) := by decide +kernel
theorem dL_law_420 : decode cL_law 420 = .ok (.goto 4, 3) := by decide +kernel
theorem dL_law_423 : decode cL_law 423 = .ok (.iconst 0, 1) := by decide +kernel
theorem dL_law_424 : decode cL_law 424 = .ok (.invokevirtual 44, 3) := by decide +kernel
theorem dL_law_427 : decode cL_law 427 = .ok (.aload_n 2, 1) := by decide +kernel
theorem dL_law_428 : decode cL_law 428 = .ok (.aload_n 0, 1) := by decide +kernel
theorem dL_law_429 : decode cL_law 429 = .ok (.iload_n 3, 1) := by decide +kernel
theorem dL_law_430 : decode cL_law 430 = .ok (.iconst 1, 1) := by decide +kernel
theorem dL_law_431 : decode cL_law 431 = .ok (.iadd, 1) := by decide +kernel
theorem dL_law_432 : decode cL_law 432 = .ok (.iaload, 1) := by decide +kernel
theorem dL_law_433 : decode cL_law 433 = .ok (.aload_n 0, 1) := by decide +kernel
theorem dL_law_434 : decode cL_law 434 = .ok (.iload_n 3, 1) := by decide +kernel
theorem dL_law_435 : decode cL_law 435 = .ok (.iconst 2, 1) := by decide +kernel
theorem dL_law_436 : decode cL_law 436 = .ok (.iadd, 1) := by decide +kernel
theorem dL_law_437 : decode cL_law 437 = .ok (.iaload, 1) := by decide +kernel
theorem dL_law_438 : decode cL_law 438 = .ok (.ifCond .eq 7, 3) := by decide +kernel
theorem dL_law_441 : decode cL_law 441 = .ok (.iconst 1, 1) := by decide +kernel
theorem dL_law_442 : decode cL_law 442 = .ok (.goto 4, 3) := by decide +kernel
theorem dL_law_445 : decode cL_law 445 = .ok (.iconst 0, 1) := by decide +kernel
theorem dL_law_446 : decode cL_law 446 = .ok (.invokevirtual 48, 3) := by decide +kernel
theorem dL_law_449 : decode cL_law 449 = .ok (.if_icmp .eq 583, 3) := by decide +kernel
theorem dL_law_452 : decode cL_law 452 = .ok (.iconst 0, 1) := by decide +kernel
theorem dL_law_453 : decode cL_law 453 = .ok (.ireturn, 1) := by decide +kernel
theorem dL_law_454 : decode cL_law 454 = .ok (.aload_n 1, 1) := by decide +kernel
theorem dL_law_455 : decode cL_law 455 = .ok (.aload_n 0, 1) := by decide +kernel
theorem dL_law_456 : decode cL_law 456 = .ok (.iload_n 3, 1) := by decide +kernel
theorem dL_law_457 : decode cL_law 457 = .ok (.iconst 1, 1) := by decide +kernel
theorem dL_law_458 : decode cL_law 458 = .ok (.iadd, 1) := by decide +kernel
theorem dL_law_459 : decode cL_law 459 = .ok (.iaload, 1) := by decide +kernel
theorem dL_law_460 : decode cL_law 460 = .ok (.invokevirtual 49, 3) := by decide +kernel
theorem dL_law_463 : decode cL_law 463 = .ok (.aload_n 2, 1) := by decide +kernel
theorem dL_law_464 : decode cL_law 464 = .ok (.aload_n 0, 1) := by decide +kernel
theorem dL_law_465 : decode cL_law 465 = .ok (.iload_n 3, 1) := by decide +kernel
theorem dL_law_466 : decode cL_law 466 = .ok (.iconst 1, 1) := by decide +kernel
theorem dL_law_467 : decode cL_law 467 = .ok (.iadd, 1) := by decide +kernel
theorem dL_law_468 : decode cL_law 468 = .ok (.iaload, 1) := by decide +kernel
theorem dL_law_469 : decode cL_law 469 = .ok (.invokevirtual 52, 3) := by decide +kernel
theorem dL_law_472 : decode cL_law 472 = .ok (.if_icmp .eq 560, 3) := by decide +kernel
theorem dL_law_475 : decode cL_law 475 = .ok (.iconst 0, 1) := by decide +kernel
theorem dL_law_476 : decode cL_law 476 = .ok (.ireturn, 1) := by decide +kernel
theorem dL_law_477 : decode cL_law 477 = .ok (.aload_n 1, 1) := by decide +kernel
theorem dL_law_478 : decode cL_law 478 = .ok (.aload_n 0, 1) := by decide +kernel
theorem dL_law_479 : decode cL_law 479 = .ok (.iload_n 3, 1) := by decide +kernel
theorem dL_law_480 : decode cL_law 480 = .ok (.iconst 1, 1) := by decide +kernel
theorem dL_law_481 : decode cL_law 481 = .ok (.iadd, 1) := by decide +kernel
theorem dL_law_482 : decode cL_law 482 = .ok (.iaload, 1) := by decide +kernel
theorem dL_law_483 : decode cL_law 483 = .ok (.invokevirtual 53, 3) := by decide +kernel
theorem dL_law_486 : decode cL_law 486 = .ok (.aload_n 2, 1) := by decide +kernel
theorem dL_law_487 : decode cL_law 487 = .ok (.aload_n 0, 1) := by decide +kernel
theorem dL_law_488 : decode cL_law 488 = .ok (.iload_n 3, 1) := by decide +kernel
theorem dL_law_489 : decode cL_law 489 = .ok (.iconst 1, 1) := by decide +kernel
theorem dL_law_490 : decode cL_law 490 = .ok (.iadd, 1) := by decide +kernel
theorem dL_law_491 : decode cL_law 491 = .ok (.iaload, 1) := by decide +kernel
theorem dL_law_492 : decode cL_law 492 = .ok (.invokevirtual 56, 3) := by decide +kernel
theorem dL_law_495 : decode cL_law 495 = .ok (.if_icmp .eq 537, 3) := by decide +kernel
theorem dL_law_498 : decode cL_law 498 = .ok (.iconst 0, 1) := by decide +kernel
theorem dL_law_499 : decode cL_law 499 = .ok (.ireturn, 1) := by decide +kernel
theorem dL_law_500 : decode cL_law 500 = .ok (.aload_n 1, 1) := by decide +kernel
theorem dL_law_501 : decode cL_law 501 = .ok (.invokevirtual 57, 3) := by decide +kernel
theorem dL_law_504 : decode cL_law 504 = .ok (.aload_n 2, 1) := by decide +kernel
theorem dL_law_505 : decode cL_law 505 = .ok (.invokevirtual 61, 3) := by decide +kernel
theorem dL_law_508 : decode cL_law 508 = .ok (.if_icmp .eq 524, 3) := by decide +kernel
theorem dL_law_511 : decode cL_law 511 = .ok (.iconst 0, 1) := by decide +kernel
theorem dL_law_512 : decode cL_law 512 = .ok (.ireturn, 1) := by decide +kernel
theorem dL_law_513 : decode cL_law 513 = .ok (.aload_n 1, 1) := by decide +kernel
theorem dL_law_514 : decode cL_law 514 = .ok (.invokevirtual 62, 3) := by decide +kernel
theorem dL_law_517 : decode cL_law 517 = .ok (.aload_n 2, 1) := by decide +kernel
theorem dL_law_518 : decode cL_law 518 = .ok (.invokevirtual 65, 3) := by decide +kernel
theorem dL_law_521 : decode cL_law 521 = .ok (.if_icmp .eq 511, 3) := by decide +kernel
theorem dL_law_524 : decode cL_law 524 = .ok (.iconst 0, 1) := by decide +kernel
theorem dL_law_525 : decode cL_law 525 = .ok (.ireturn, 1) := by decide +kernel
theorem dL_law_526 : decode cL_law 526 = .ok (.aload_n 1, 1) := by decide +kernel
theorem dL_law_527 : decode cL_law 527 = .ok (.invokevirtual 66, 3) := by decide +kernel
theorem dL_law_530 : decode cL_law 530 = .ok (.aload_n 2, 1) := by decide +kernel
theorem dL_law_531 : decode cL_law 531 = .ok (.invokevirtual 69, 3) := by decide +kernel
theorem dL_law_534 : decode cL_law 534 = .ok (.if_icmp .eq 498, 3) := by decide +kernel
theorem dL_law_537 : decode cL_law 537 = .ok (.iconst 0, 1) := by decide +kernel
theorem dL_law_538 : decode cL_law 538 = .ok (.ireturn, 1) := by decide +kernel
theorem dL_law_539 : decode cL_law 539 = .ok (.aload_n 1, 1) := by decide +kernel
theorem dL_law_540 : decode cL_law 540 = .ok (.aload_n 0, 1) := by decide +kernel
theorem dL_law_541 : decode cL_law 541 = .ok (.iload_n 3, 1) := by decide +kernel
theorem dL_law_542 : decode cL_law 542 = .ok (.iconst 1, 1) := by decide +kernel
theorem dL_law_543 : decode cL_law 543 = .ok (.iadd, 1) := by decide +kernel
theorem dL_law_544 : decode cL_law 544 = .ok (.iaload, 1) := by decide +kernel
theorem dL_law_545 : decode cL_law 545 = .ok (.invokevirtual 70, 3) := by decide +kernel
theorem dL_law_548 : decode cL_law 548 = .ok (.aload_n 2, 1) := by decide +kernel
theorem dL_law_549 : decode cL_law 549 = .ok (.aload_n 0, 1) := by decide +kernel
theorem dL_law_550 : decode cL_law 550 = .ok (.iload_n 3, 1) := by decide +kernel
theorem dL_law_551 : decode cL_law 551 = .ok (.iconst 1, 1) := by decide +kernel
theorem dL_law_552 : decode cL_law 552 = .ok (.iadd, 1) := by decide +kernel
theorem dL_law_553 : decode cL_law 553 = .ok (.iaload, 1) := by decide +kernel
theorem dL_law_554 : decode cL_law 554 = .ok (.invokevirtual 73, 3) := by decide +kernel
theorem dL_law_557 : decode cL_law 557 = .ok (.if_icmp .eq 475, 3) := by decide +kernel
theorem dL_law_560 : decode cL_law 560 = .ok (.iconst 0, 1) := by decide +kernel
theorem dL_law_561 : decode cL_law 561 = .ok (.ireturn, 1) := by decide +kernel
theorem dL_law_562 : decode cL_law 562 = .ok (.aload_n 1, 1) := by decide +kernel
theorem dL_law_563 : decode cL_law 563 = .ok (.aload_n 0, 1) := by decide +kernel
theorem dL_law_564 : decode cL_law 564 = .ok (.iload_n 3, 1) := by decide +kernel
theorem dL_law_565 : decode cL_law 565 = .ok (.iconst 1, 1) := by decide +kernel
theorem dL_law_566 : decode cL_law 566 = .ok (.iadd, 1) := by decide +kernel
theorem dL_law_567 : decode cL_law 567 = .ok (.iaload, 1) := by decide +kernel
theorem dL_law_568 : decode cL_law 568 = .ok (.invokevirtual 74, 3) := by decide +kernel
theorem dL_law_571 : decode cL_law 571 = .ok (.aload_n 2, 1) := by decide +kernel
theorem dL_law_572 : decode cL_law 572 = .ok (.aload_n 0, 1) := by decide +kernel
theorem dL_law_573 : decode cL_law 573 = .ok (.iload_n 3, 1) := by decide +kernel
theorem dL_law_574 : decode cL_law 574 = .ok (.iconst 1, 1) := by decide +kernel
theorem dL_law_575 : decode cL_law 575 = .ok (.iadd, 1) := by decide +kernel
theorem dL_law_576 : decode cL_law 576 = .ok (.iaload, 1) := by decide +kernel
theorem dL_law_577 : decode cL_law 577 = .ok (.invokevirtual 77, 3) := by decide +kernel
theorem dL_law_580 : decode cL_law 580 = .ok (.if_icmp .eq 452, 3) := by decide +kernel
theorem dL_law_583 : decode cL_law 583 = .ok (.iconst 0, 1) := by decide +kernel
theorem dL_law_584 : decode cL_law 584 = .ok (.ireturn, 1) := by decide +kernel
theorem dL_law_585 : decode cL_law 585 = .ok (.aload_n 1, 1) := by decide +kernel
theorem dL_law_586 : decode cL_law 586 = .ok (.aload_n 0, 1) := by decide +kernel
theorem dL_law_587 : decode cL_law 587 = .ok (.iload_n 3, 1) := by decide +kernel
theorem dL_law_588 : decode cL_law 588 = .ok (.iconst 1, 1) := by decide +kernel
theorem dL_law_589 : decode cL_law 589 = .ok (.iadd, 1) := by decide +kernel
theorem dL_law_590 : decode cL_law 590 = .ok (.iaload, 1) := by decide +kernel
theorem dL_law_591 : decode cL_law 591 = .ok (.aload_n 0, 1) := by decide +kernel
theorem dL_law_592 : decode cL_law 592 = .ok (.iload_n 3, 1) := by decide +kernel
theorem dL_law_593 : decode cL_law 593 = .ok (.iconst 2, 1) := by decide +kernel
theorem dL_law_594 : decode cL_law 594 = .ok (.iadd, 1) := by decide +kernel
theorem dL_law_595 : decode cL_law 595 = .ok (.iaload, 1) := by decide +kernel
theorem dL_law_596 : decode cL_law 596 = .ok (.invokevirtual 78, 3) := by decide +kernel
theorem dL_law_599 : decode cL_law 599 = .ok (.aload_n 2, 1) := by decide +kernel
theorem dL_law_600 : decode cL_law 600 = .ok (.aload_n 0, 1) := by decide +kernel
theorem dL_law_601 : decode cL_law 601 = .ok (.iload_n 3, 1) := by decide +kernel
theorem dL_law_602 : decode cL_law 602 = .ok (.iconst 1, 1) := by decide +kernel
theorem dL_law_603 : decode cL_law 603 = .ok (.iadd, 1) := by decide +kernel
theorem dL_law_604 : decode cL_law 604 = .ok (.iaload, 1) := by decide +kernel
theorem dL_law_605 : decode cL_law 605 = .ok (.aload_n 0, 1) := by decide +kernel
theorem dL_law_606 : decode cL_law 606 = .ok (.iload_n 3, 1) := by decide +kernel
theorem dL_law_607 : decode cL_law 607 = .ok (.iconst 2, 1) := by decide +kernel
theorem dL_law_608 : decode cL_law 608 = .ok (.iadd, 1) := by decide +kernel
theorem dL_law_609 : decode cL_law 609 = .ok (.iaload, 1) := by decide +kernel
theorem dL_law_610 : decode cL_law 610 = .ok (.invokevirtual 81, 3) := by decide +kernel
theorem dL_law_613 : decode cL_law 613 = .ok (.if_icmp .eq 419, 3) := by decide +kernel
theorem dL_law_616 : decode cL_law 616 = .ok (.iconst 0, 1) := by decide +kernel
theorem dL_law_617 : decode cL_law 617 = .ok (.ireturn, 1) := by decide +kernel
theorem dL_law_618 : decode cL_law 618 = .ok (.aload_n 1, 1) := by decide +kernel
theorem dL_law_619 : decode cL_law 619 = .ok (.aload_n 0, 1) := by decide +kernel
theorem dL_law_620 : decode cL_law 620 = .ok (.iload_n 3, 1) := by decide +kernel
theorem dL_law_621 : decode cL_law 621 = .ok (.iconst 1, 1) := by decide +kernel
theorem dL_law_622 : decode cL_law 622 = .ok (.iadd, 1) := by decide +kernel
theorem dL_law_623 : decode cL_law 623 = .ok (.iaload, 1) := by decide +kernel
theorem dL_law_624 : decode cL_law 624 = .ok (.invokevirtual 82, 3) := by decide +kernel
theorem dL_law_627 : decode cL_law 627 = .ok (.aload_n 2, 1) := by decide +kernel
theorem dL_law_628 : decode cL_law 628 = .ok (.aload_n 0, 1) := by decide +kernel
theorem dL_law_629 : decode cL_law 629 = .ok (.iload_n 3, 1) := by decide +kernel
theorem dL_law_630 : decode cL_law 630 = .ok (.iconst 1, 1) := by decide +kernel
theorem dL_law_631 : decode cL_law 631 = .ok (.iadd, 1) := by decide +kernel
theorem dL_law_632 : decode cL_law 632 = .ok (.iaload, 1) := by decide +kernel
theorem dL_law_633 : decode cL_law 633 = .ok (.invokevirtual 85, 3) := by decide +kernel
theorem dL_law_636 : decode cL_law 636 = .ok (.if_icmp .eq 396, 3) := by decide +kernel
theorem dL_law_639 : decode cL_law 639 = .ok (.iconst 0, 1) := by decide +kernel
theorem dL_law_640 : decode cL_law 640 = .ok (.ireturn, 1) := by decide +kernel
theorem dL_law_641 : decode cL_law 641 = .ok (.aload_n 1, 1) := by decide +kernel
theorem dL_law_642 : decode cL_law 642 = .ok (.aload_n 0, 1) := by decide +kernel
theorem dL_law_643 : decode cL_law 643 = .ok (.iload_n 3, 1) := by decide +kernel
theorem dL_law_644 : decode cL_law 644 = .ok (.iconst 1, 1) := by decide +kernel
theorem dL_law_645 : decode cL_law 645 = .ok (.iadd, 1) := by decide +kernel
theorem dL_law_646 : decode cL_law 646 = .ok (.iaload, 1) := by decide +kernel
theorem dL_law_647 : decode cL_law 647 = .ok (.invokevirtual 86, 3) := by decide +kernel
theorem dL_law_650 : decode cL_law 650 = .ok (.aload_n 2, 1) := by decide +kernel
theorem dL_law_651 : decode cL_law 651 = .ok (.aload_n 0, 1) := by decide +kernel
theorem dL_law_652 : decode cL_law 652 = .ok (.iload_n 3, 1) := by decide +kernel
theorem dL_law_653 : decode cL_law 653 = .ok (.iconst 1, 1) := by decide +kernel
theorem dL_law_654 : decode cL_law 654 = .ok (.iadd, 1) := by decide +kernel
theorem dL_law_655 : decode cL_law 655 = .ok (.iaload, 1) := by decide +kernel
theorem dL_law_656 : decode cL_law 656 = .ok (.invokevirtual 89, 3) := by decide +kernel
theorem dL_law_659 : decode cL_law 659 = .ok (.if_icmp .eq 373, 3) := by decide +kernel
theorem dL_law_662 : decode cL_law 662 = .ok (.iconst 0, 1) := by decide +kernel
theorem dL_law_663 : decode cL_law 663 = .ok (.ireturn, 1) := by decide +kernel
theorem dL_law_664 : decode cL_law 664 = .ok (.aload_n 1, 1) := by decide +kernel
theorem dL_law_665 : decode cL_law 665 = .ok (.aload_n 0, 1) := by decide +kernel
theorem dL_law_666 : decode cL_law 666 = .ok (.iload_n 3, 1) := by decide +kernel
theorem dL_law_667 : decode cL_law 667 = .ok (.iconst 1, 1) := by decide +kernel
theorem dL_law_668 : decode cL_law 668 = .ok (.iadd, 1) := by decide +kernel
theorem dL_law_669 : decode cL_law 669 = .ok (.iaload, 1) := by decide +kernel
theorem dL_law_670 : decode cL_law 670 = .ok (.aload_n 0, 1) := by decide +kernel
theorem dL_law_671 : decode cL_law 671 = .ok (.iload_n 3, 1) := by decide +kernel
theorem dL_law_672 : decode cL_law 672 = .ok (.iconst 2, 1) := by decide +kernel
theorem dL_law_673 : decode cL_law 673 = .ok (.iadd, 1) := by decide +kernel
theorem dL_law_674 : decode cL_law 674 = .ok (.iaload, 1) := by decide +kernel
theorem dL_law_675 : decode cL_law 675 = .ok (.invokevirtual 90, 3) := by decide +kernel
theorem dL_law_678 : decode cL_law 678 = .ok (.aload_n 2, 1) := by decide +kernel
theorem dL_law_679 : decode cL_law 679 = .ok (.aload_n 0, 1) := by decide +kernel
theorem dL_law_680 : decode cL_law 680 = .ok (.iload_n 3, 1) := by decide +kernel
theorem dL_law_681 : decode cL_law 681 = .ok (.iconst 1, 1) := by decide +kernel
theorem dL_law_682 : decode cL_law 682 = .ok (.iadd, 1) := by decide +kernel
theorem dL_law_683 : decode cL_law 683 = .ok (.iaload, 1) := by decide +kernel
theorem dL_law_684 : decode cL_law 684 = .ok (.aload_n 0, 1) := by decide +kernel
theorem dL_law_685 : decode cL_law 685 = .ok (.iload_n 3, 1) := by decide +kernel
theorem dL_law_686 : decode cL_law 686 = .ok (.iconst 2, 1) := by decide +kernel
theorem dL_law_687 : decode cL_law 687 = .ok (.iadd, 1) := by decide +kernel
theorem dL_law_688 : decode cL_law 688 = .ok (.iaload, 1) := by decide +kernel
theorem dL_law_689 : decode cL_law 689 = .ok (.invokevirtual 93, 3) := by decide +kernel
theorem dL_law_692 : decode cL_law 692 = .ok (.if_icmp .eq 340, 3) := by decide +kernel
theorem dL_law_695 : decode cL_law 695 = .ok (.iconst 0, 1) := by decide +kernel
theorem dL_law_696 : decode cL_law 696 = .ok (.ireturn, 1) := by decide +kernel
theorem dL_law_697 : decode cL_law 697 = .ok (.aload_n 1, 1) := by decide +kernel
theorem dL_law_698 : decode cL_law 698 = .ok (.aload_n 0, 1) := by decide +kernel
theorem dL_law_699 : decode cL_law 699 = .ok (.iload_n 3, 1) := by decide +kernel
theorem dL_law_700 : decode cL_law 700 = .ok (.iconst 1, 1) := by decide +kernel
theorem dL_law_701 : decode cL_law 701 = .ok (.iadd, 1) := by decide +kernel
theorem dL_law_702 : decode cL_law 702 = .ok (.iaload, 1) := by decide +kernel
theorem dL_law_703 : decode cL_law 703 = .ok (.invokevirtual 94, 3) := by decide +kernel
theorem dL_law_706 : decode cL_law 706 = .ok (.aload_n 2, 1) := by decide +kernel
theorem dL_law_707 : decode cL_law 707 = .ok (.aload_n 0, 1) := by decide +kernel
theorem dL_law_708 : decode cL_law 708 = .ok (.iload_n 3, 1) := by decide +kernel
theorem dL_law_709 : decode cL_law 709 = .ok (.iconst 1, 1) := by decide +kernel
theorem dL_law_710 : decode cL_law 710 = .ok (.iadd, 1) := by decide +kernel
theorem dL_law_711 : decode cL_law 711 = .ok (.iaload, 1) := by decide +kernel
theorem dL_law_712 : decode cL_law 712 = .ok (.invokevirtual 97, 3) := by decide +kernel
theorem dL_law_715 : decode cL_law 715 = .ok (.if_icmp .eq 317, 3) := by decide +kernel
theorem dL_law_718 : decode cL_law 718 = .ok (.iconst 0, 1) := by decide +kernel
theorem dL_law_719 : decode cL_law 719 = .ok (.ireturn, 1) := by decide +kernel
theorem dL_law_720 : decode cL_law 720 = .ok (.aload_n 1, 1) := by decide +kernel
theorem dL_law_721 : decode cL_law 721 = .ok (.aload_n 0, 1) := by decide +kernel
theorem dL_law_722 : decode cL_law 722 = .ok (.iload_n 3, 1) := by decide +kernel
theorem dL_law_723 : decode cL_law 723 = .ok (.iconst 1, 1) := by decide +kernel
theorem dL_law_724 : decode cL_law 724 = .ok (.iadd, 1) := by decide +kernel
theorem dL_law_725 : decode cL_law 725 = .ok (.iaload, 1) := by decide +kernel
theorem dL_law_726 : decode cL_law 726 = .ok (.invokevirtual 98, 3) := by decide +kernel
theorem dL_law_729 : decode cL_law 729 = .ok (.aload_n 2, 1) := by decide +kernel
theorem dL_law_730 : decode cL_law 730 = .ok (.aload_n 0, 1) := by decide +kernel
theorem dL_law_731 : decode cL_law 731 = .ok (.iload_n 3, 1) := by decide +kernel
theorem dL_law_732 : decode cL_law 732 = .ok (.iconst 1, 1) := by decide +kernel
theorem dL_law_733 : decode cL_law 733 = .ok (.iadd, 1) := by decide +kernel
theorem dL_law_734 : decode cL_law 734 = .ok (.iaload, 1) := by decide +kernel
theorem dL_law_735 : decode cL_law 735 = .ok (.invokevirtual 101, 3) := by decide +kernel
theorem dL_law_738 : decode cL_law 738 = .ok (.if_icmp .eq 294, 3) := by decide +kernel
theorem dL_law_741 : decode cL_law 741 = .ok (.iconst 0, 1) := by decide +kernel
theorem dL_law_742 : decode cL_law 742 = .ok (.ireturn, 1) := by decide +kernel
theorem dL_law_743 : decode cL_law 743 = .ok (.aload_n 1, 1) := by decide +kernel
theorem dL_law_744 : decode cL_law 744 = .ok (.aload_n 0, 1) := by decide +kernel
theorem dL_law_745 : decode cL_law 745 = .ok (.iload_n 3, 1) := by decide +kernel
theorem dL_law_746 : decode cL_law 746 = .ok (.iconst 1, 1) := by decide +kernel
theorem dL_law_747 : decode cL_law 747 = .ok (.iadd, 1) := by decide +kernel
theorem dL_law_748 : decode cL_law 748 = .ok (.iaload, 1) := by decide +kernel
theorem dL_law_749 : decode cL_law 749 = .ok (.invokevirtual 102, 3) := by decide +kernel
theorem dL_law_752 : decode cL_law 752 = .ok (.aload_n 2, 1) := by decide +kernel
theorem dL_law_753 : decode cL_law 753 = .ok (.aload_n 0, 1) := by decide +kernel
theorem dL_law_754 : decode cL_law 754 = .ok (.iload_n 3, 1) := by decide +kernel
theorem dL_law_755 : decode cL_law 755 = .ok (.iconst 1, 1) := by decide +kernel
theorem dL_law_756 : decode cL_law 756 = .ok (.iadd, 1) := by decide +kernel
theorem dL_law_757 : decode cL_law 757 = .ok (.iaload, 1) := by decide +kernel
theorem dL_law_758 : decode cL_law 758 = .ok (.invokevirtual 105, 3) := by decide +kernel
theorem dL_law_761 : decode cL_law 761 = .ok (.if_icmp .eq 271, 3) := by decide +kernel
theorem dL_law_764 : decode cL_law 764 = .ok (.iconst 0, 1) := by decide +kernel
theorem dL_law_765 : decode cL_law 765 = .ok (.ireturn, 1) := by decide +kernel
theorem dL_law_766 : decode cL_law 766 = .ok (.aload_n 1, 1) := by decide +kernel
theorem dL_law_767 : decode cL_law 767 = .ok (.invokevirtual 106, 3) := by decide +kernel
theorem dL_law_770 : decode cL_law 770 = .ok (.aload_n 2, 1) := by decide +kernel
theorem dL_law_771 : decode cL_law 771 = .ok (.invokevirtual 109, 3) := by decide +kernel
theorem dL_law_774 : decode cL_law 774 = .ok (.if_icmp .eq 258, 3) := by decide +kernel
theorem dL_law_777 : decode cL_law 777 = .ok (.iconst 0, 1) := by decide +kernel
theorem dL_law_778 : decode cL_law 778 = .ok (.ireturn, 1) := by decide +kernel
theorem dL_law_779 : decode cL_law 779 = .ok (.aload_n 1, 1) := by decide +kernel
theorem dL_law_780 : decode cL_law 780 = .ok (.invokevirtual 110, 3) := by decide +kernel
theorem dL_law_783 : decode cL_law 783 = .ok (.aload_n 2, 1) := by decide +kernel
theorem dL_law_784 : decode cL_law 784 = .ok (.invokevirtual 113, 3) := by decide +kernel
theorem dL_law_787 : decode cL_law 787 = .ok (.if_icmp .eq 245, 3) := by decide +kernel
theorem dL_law_790 : decode cL_law 790 = .ok (.iconst 0, 1) := by decide +kernel
theorem dL_law_791 : decode cL_law 791 = .ok (.ireturn, 1) := by decide +kernel
theorem dL_law_792 : decode cL_law 792 = .ok (.aload_n 1, 1) := by decide +kernel
theorem dL_law_793 : decode cL_law 793 = .ok (.aload_n 0, 1) := by decide +kernel
theorem dL_law_794 : decode cL_law 794 = .ok (.iload_n 3, 1) := by decide +kernel
theorem dL_law_795 : decode cL_law 795 = .ok (.iconst 1, 1) := by decide +kernel
theorem dL_law_796 : decode cL_law 796 = .ok (.iadd, 1) := by decide +kernel
theorem dL_law_797 : decode cL_law 797 = .ok (.iaload, 1) := by decide +kernel
theorem dL_law_798 : decode cL_law 798 = .ok (.invokevirtual 114, 3) := by decide +kernel
theorem dL_law_801 : decode cL_law 801 = .ok (.aload_n 2, 1) := by decide +kernel
theorem dL_law_802 : decode cL_law 802 = .ok (.aload_n 0, 1) := by decide +kernel
theorem dL_law_803 : decode cL_law 803 = .ok (.iload_n 3, 1) := by decide +kernel
theorem dL_law_804 : decode cL_law 804 = .ok (.iconst 1, 1) := by decide +kernel
theorem dL_law_805 : decode cL_law 805 = .ok (.iadd, 1) := by decide +kernel
theorem dL_law_806 : decode cL_law 806 = .ok (.iaload, 1) := by decide +kernel
theorem dL_law_807 : decode cL_law 807 = .ok (.invokevirtual 117, 3) := by decide +kernel
theorem dL_law_810 : decode cL_law 810 = .ok (.if_icmp .eq 222, 3) := by decide +kernel
theorem dL_law_813 : decode cL_law 813 = .ok (.iconst 0, 1) := by decide +kernel
theorem dL_law_814 : decode cL_law 814 = .ok (.ireturn, 1) := by decide +kernel
theorem dL_law_815 : decode cL_law 815 = .ok (.aload_n 1, 1) := by decide +kernel
theorem dL_law_816 : decode cL_law 816 = .ok (.aload_n 0, 1) := by decide +kernel
theorem dL_law_817 : decode cL_law 817 = .ok (.iload_n 3, 1) := by decide +kernel
theorem dL_law_818 : decode cL_law 818 = .ok (.iconst 1, 1) := by decide +kernel
theorem dL_law_819 : decode cL_law 819 = .ok (.iadd, 1) := by decide +kernel
theorem dL_law_820 : decode cL_law 820 = .ok (.iaload, 1) := by decide +kernel
theorem dL_law_821 : decode cL_law 821 = .ok (.invokevirtual 118, 3) := by decide +kernel
theorem dL_law_824 : decode cL_law 824 = .ok (.aload_n 2, 1) := by decide +kernel
theorem dL_law_825 : decode cL_law 825 = .ok (.aload_n 0, 1) := by decide +kernel
theorem dL_law_826 : decode cL_law 826 = .ok (.iload_n 3, 1) := by decide +kernel
theorem dL_law_827 : decode cL_law 827 = .ok (.iconst 1, 1) := by decide +kernel
theorem dL_law_828 : decode cL_law 828 = .ok (.iadd, 1) := by decide +kernel
theorem dL_law_829 : decode cL_law 829 = .ok (.iaload, 1) := by decide +kernel
theorem dL_law_830 : decode cL_law 830 = .ok (.invokevirtual 121, 3) := by decide +kernel
theorem dL_law_833 : decode cL_law 833 = .ok (.if_icmp .eq 199, 3) := by decide +kernel
theorem dL_law_836 : decode cL_law 836 = .ok (.iconst 0, 1) := by decide +kernel
theorem dL_law_837 : decode cL_law 837 = .ok (.ireturn, 1) := by decide +kernel
theorem dL_law_838 : decode cL_law 838 = .ok (.aload_n 1, 1) := by decide +kernel
theorem dL_law_839 : decode cL_law 839 = .ok (.aload_n 0, 1) := by decide +kernel
theorem dL_law_840 : decode cL_law 840 = .ok (.iload_n 3, 1) := by decide +kernel
theorem dL_law_841 : decode cL_law 841 = .ok (.iconst 1, 1) := by decide +kernel
theorem dL_law_842 : decode cL_law 842 = .ok (.iadd, 1) := by decide +kernel
theorem dL_law_843 : decode cL_law 843 = .ok (.iaload, 1) := by decide +kernel
theorem dL_law_844 : decode cL_law 844 = .ok (.invokevirtual 122, 3) := by decide +kernel
theorem dL_law_847 : decode cL_law 847 = .ok (.aload_n 2, 1) := by decide +kernel
theorem dL_law_848 : decode cL_law 848 = .ok (.aload_n 0, 1) := by decide +kernel
theorem dL_law_849 : decode cL_law 849 = .ok (.iload_n 3, 1) := by decide +kernel
theorem dL_law_850 : decode cL_law 850 = .ok (.iconst 1, 1) := by decide +kernel
theorem dL_law_851 : decode cL_law 851 = .ok (.iadd, 1) := by decide +kernel
theorem dL_law_852 : decode cL_law 852 = .ok (.iaload, 1) := by decide +kernel
theorem dL_law_853 : decode cL_law 853 = .ok (.invokevirtual 125, 3) := by decide +kernel
theorem dL_law_856 : decode cL_law 856 = .ok (.if_icmp .eq 176, 3) := by decide +kernel
theorem dL_law_859 : decode cL_law 859 = .ok (.iconst 0, 1) := by decide +kernel
theorem dL_law_860 : decode cL_law 860 = .ok (.ireturn, 1) := by decide +kernel
theorem dL_law_861 : decode cL_law 861 = .ok (.aload_n 1, 1) := by decide +kernel
theorem dL_law_862 : decode cL_law 862 = .ok (.aload_n 0, 1) := by decide +kernel
theorem dL_law_863 : decode cL_law 863 = .ok (.iload_n 3, 1) := by decide +kernel
theorem dL_law_864 : decode cL_law 864 = .ok (.iconst 1, 1) := by decide +kernel
theorem dL_law_865 : decode cL_law 865 = .ok (.iadd, 1) := by decide +kernel
theorem dL_law_866 : decode cL_law 866 = .ok (.iaload, 1) := by decide +kernel
theorem dL_law_867 : decode cL_law 867 = .ok (.aload_n 0, 1) := by decide +kernel
theorem dL_law_868 : decode cL_law 868 = .ok (.iload_n 3, 1) := by decide +kernel
theorem dL_law_869 : decode cL_law 869 = .ok (.iconst 2, 1) := by decide +kernel
theorem dL_law_870 : decode cL_law 870 = .ok (.iadd, 1) := by decide +kernel
theorem dL_law_871 : decode cL_law 871 = .ok (.iaload, 1) := by decide +kernel
theorem dL_law_872 : decode cL_law 872 = .ok (.invokevirtual 126, 3) := by decide +kernel
theorem dL_law_875 : decode cL_law 875 = .ok (.aload_n 2, 1) := by decide +kernel
theorem dL_law_876 : decode cL_law 876 = .ok (.aload_n 0, 1) := by decide +kernel
theorem dL_law_877 : decode cL_law 877 = .ok (.iload_n 3, 1) := by decide +kernel
theorem dL_law_878 : decode cL_law 878 = .ok (.iconst 1, 1) := by decide +kernel
theorem dL_law_879 : decode cL_law 879 = .ok (.iadd, 1) := by decide +kernel
theorem dL_law_880 : decode cL_law 880 = .ok (.iaload, 1) := by decide +kernel
theorem dL_law_881 : decode cL_law 881 = .ok (.aload_n 0, 1) := by decide +kernel
theorem dL_law_882 : decode cL_law 882 = .ok (.iload_n 3, 1) := by decide +kernel
theorem dL_law_883 : decode cL_law 883 = .ok (.iconst 2, 1) := by decide +kernel
theorem dL_law_884 : decode cL_law 884 = .ok (.iadd, 1) := by decide +kernel
theorem dL_law_885 : decode cL_law 885 = .ok (.iaload, 1) := by decide +kernel
theorem dL_law_886 : decode cL_law 886 = .ok (.invokevirtual 129, 3) := by decide +kernel
theorem dL_law_889 : decode cL_law 889 = .ok (.if_icmp .eq 143, 3) := by decide +kernel
theorem dL_law_892 : decode cL_law 892 = .ok (.iconst 0, 1) := by decide +kernel
theorem dL_law_893 : decode cL_law 893 = .ok (.ireturn, 1) := by decide +kernel
theorem dL_law_894 : decode cL_law 894 = .ok (.aload_n 1, 1) := by decide +kernel
theorem dL_law_895 : decode cL_law 895 = .ok (.invokevirtual 130, 3) := by decide +kernel
theorem dL_law_898 : decode cL_law 898 = .ok (.f2d, 1) := by decide +kernel
theorem dL_law_899 : decode cL_law 899 = .ok (.dstore 4, 2) := by decide +kernel
theorem dL_law_901 : decode cL_law 901 = .ok (.aload_n 2, 1) := by decide +kernel
theorem dL_law_902 : decode cL_law 902 = .ok (.invokevirtual 134, 3) := by decide +kernel
theorem dL_law_905 : decode cL_law 905 = .ok (.f2d, 1) := by decide +kernel
theorem dL_law_906 : decode cL_law 906 = .ok (.dstore 6, 2) := by decide +kernel
theorem dL_law_908 : decode cL_law 908 = .ok (.dload 4, 2) := by decide +kernel
theorem dL_law_910 : decode cL_law 910 = .ok (.dload 6, 2) := by decide +kernel
theorem dL_law_912 : decode cL_law 912 = .ok (.dcmp .l, 1) := by decide +kernel
theorem dL_law_913 : decode cL_law 913 = .ok (.ifCond .eq 21, 3) := by decide +kernel
theorem dL_law_916 : decode cL_law 916 = .ok (.dload 4, 2) := by decide +kernel
theorem dL_law_918 : decode cL_law 918 = .ok (.dload 4, 2) := by decide +kernel
theorem dL_law_920 : decode cL_law 920 = .ok (.dcmp .l, 1) := by decide +kernel
theorem dL_law_921 : decode cL_law 921 = .ok (.ifCond .eq 11, 3) := by decide +kernel
theorem dL_law_924 : decode cL_law 924 = .ok (.dload 6, 2) := by decide +kernel
theorem dL_law_926 : decode cL_law 926 = .ok (.dload 6, 2) := by decide +kernel
theorem dL_law_928 : decode cL_law 928 = .ok (.dcmp .l, 1) := by decide +kernel
theorem dL_law_929 : decode cL_law 929 = .ok (.ifCond .ne 5, 3) := by decide +kernel
theorem dL_law_932 : decode cL_law 932 = .ok (.iconst 0, 1) := by decide +kernel
theorem dL_law_933 : decode cL_law 933 = .ok (.ireturn, 1) := by decide +kernel
theorem dL_law_934 : decode cL_law 934 = .ok (.goto 98, 3) := by decide +kernel
theorem dL_law_937 : decode cL_law 937 = .ok (.aload_n 1, 1) := by decide +kernel
theorem dL_law_938 : decode cL_law 938 = .ok (.invokevirtual 135, 3) := by decide +kernel
theorem dL_law_941 : decode cL_law 941 = .ok (.aload_n 2, 1) := by decide +kernel
theorem dL_law_942 : decode cL_law 942 = .ok (.invokevirtual 138, 3) := by decide +kernel
theorem dL_law_945 : decode cL_law 945 = .ok (.if_icmp .eq 87, 3) := by decide +kernel
theorem dL_law_948 : decode cL_law 948 = .ok (.iconst 0, 1) := by decide +kernel
theorem dL_law_949 : decode cL_law 949 = .ok (.ireturn, 1) := by decide +kernel
theorem dL_law_950 : decode cL_law 950 = .ok (.aload_n 1, 1) := by decide +kernel
theorem dL_law_951 : decode cL_law 951 = .ok (.invokevirtual 139, 3) := by decide +kernel
theorem dL_law_954 : decode cL_law 954 = .ok (.aload_n 2, 1) := by decide +kernel
theorem dL_law_955 : decode cL_law 955 = .ok (.invokevirtual 142, 3) := by decide +kernel
theorem dL_law_958 : decode cL_law 958 = .ok (.if_icmp .eq 74, 3) := by decide +kernel
theorem dL_law_961 : decode cL_law 961 = .ok (.iconst 0, 1) := by decide +kernel
theorem dL_law_962 : decode cL_law 962 = .ok (.ireturn, 1) := by decide +kernel
theorem dL_law_963 : decode cL_law 963 = .ok (.aload_n 1, 1) := by decide +kernel
theorem dL_law_964 : decode cL_law 964 = .ok (.aload_n 0, 1) := by decide +kernel
theorem dL_law_965 : decode cL_law 965 = .ok (.iload_n 3, 1) := by decide +kernel
theorem dL_law_966 : decode cL_law 966 = .ok (.iconst 1, 1) := by decide +kernel
theorem dL_law_967 : decode cL_law 967 = .ok (.iadd, 1) := by decide +kernel
theorem dL_law_968 : decode cL_law 968 = .ok (.iaload, 1) := by decide +kernel
theorem dL_law_969 : decode cL_law 969 = .ok (.aload_n 0, 1) := by decide +kernel
theorem dL_law_970 : decode cL_law 970 = .ok (.iload_n 3, 1) := by decide +kernel
theorem dL_law_971 : decode cL_law 971 = .ok (.iconst 2, 1) := by decide +kernel
theorem dL_law_972 : decode cL_law 972 = .ok (.iadd, 1) := by decide +kernel
theorem dL_law_973 : decode cL_law 973 = .ok (.iaload, 1) := by decide +kernel
theorem dL_law_974 : decode cL_law 974 = .ok (.invokevirtual 143, 3) := by decide +kernel
theorem dL_law_977 : decode cL_law 977 = .ok (.aload_n 2, 1) := by decide +kernel
theorem dL_law_978 : decode cL_law 978 = .ok (.aload_n 0, 1) := by decide +kernel
theorem dL_law_979 : decode cL_law 979 = .ok (.iload_n 3, 1) := by decide +kernel
theorem dL_law_980 : decode cL_law 980 = .ok (.iconst 1, 1) := by decide +kernel
theorem dL_law_981 : decode cL_law 981 = .ok (.iadd, 1) := by decide +kernel
theorem dL_law_982 : decode cL_law 982 = .ok (.iaload, 1) := by decide +kernel
theorem dL_law_983 : decode cL_law 983 = .ok (.aload_n 0, 1) := by decide +kernel
theorem dL_law_984 : decode cL_law 984 = .ok (.iload_n 3, 1) := by decide +kernel
theorem dL_law_985 : decode cL_law 985 = .ok (.iconst 2, 1) := by decide +kernel
theorem dL_law_986 : decode cL_law 986 = .ok (.iadd, 1) := by decide +kernel
theorem dL_law_987 : decode cL_law 987 = .ok (.iaload, 1) := by decide +kernel
theorem dL_law_988 : decode cL_law 988 = .ok (.invokevirtual 146, 3) := by decide +kernel
theorem dL_law_991 : decode cL_law 991 = .ok (.if_icmp .eq 41, 3) := by decide +kernel
theorem dL_law_994 : decode cL_law 994 = .ok (.iconst 0, 1) := by decide +kernel
theorem dL_law_995 : decode cL_law 995 = .ok (.ireturn, 1) := by decide +kernel
theorem dL_law_996 : decode cL_law 996 = .ok (.aload_n 1, 1) := by decide +kernel
theorem dL_law_997 : decode cL_law 997 = .ok (.invokevirtual 147, 3) := by decide +kernel
theorem dL_law_1000 : decode cL_law 1000 = .ok (.aload_n 2, 1) := by decide +kernel
theorem dL_law_1001 : decode cL_law 1001 = .ok (.invokevirtual 150, 3) := by decide +kernel
theorem dL_law_1004 : decode cL_law 1004 = .ok (.if_icmp .eq 28, 3) := by decide +kernel
theorem dL_law_1007 : decode cL_law 1007 = .ok (.iconst 0, 1) := by decide +kernel
theorem dL_law_1008 : decode cL_law 1008 = .ok (.ireturn, 1) := by decide +kernel
theorem dL_law_1009 : decode cL_law 1009 = .ok (.aload_n 1, 1) := by decide +kernel
theorem dL_law_1010 : decode cL_law 1010 = .ok (.aload_n 0, 1) := by decide +kernel
theorem dL_law_1011 : decode cL_law 1011 = .ok (.iload_n 3, 1) := by decide +kernel
theorem dL_law_1012 : decode cL_law 1012 = .ok (.iconst 1, 1) := by decide +kernel
theorem dL_law_1013 : decode cL_law 1013 = .ok (.iadd, 1) := by decide +kernel
theorem dL_law_1014 : decode cL_law 1014 = .ok (.iaload, 1) := by decide +kernel
theorem dL_law_1015 : decode cL_law 1015 = .ok (.invokevirtual 151, 3) := by decide +kernel
theorem dL_law_1018 : decode cL_law 1018 = .ok (.aload_n 2, 1) := by decide +kernel
theorem dL_law_1019 : decode cL_law 1019 = .ok (.aload_n 0, 1) := by decide +kernel
theorem dL_law_1020 : decode cL_law 1020 = .ok (.iload_n 3, 1) := by decide +kernel
theorem dL_law_1021 : decode cL_law 1021 = .ok (.iconst 1, 1) := by decide +kernel
theorem dL_law_1022 : decode cL_law 1022 = .ok (.iadd, 1) := by decide +kernel
theorem dL_law_1023 : decode cL_law 1023 = .ok (.iaload, 1) := by decide +kernel
theorem dL_law_1024 : decode cL_law 1024 = .ok (.invokevirtual 154, 3) := by decide +kernel
theorem dL_law_1027 : decode cL_law 1027 = .ok (.if_icmp .eq 5, 3) := by decide +kernel
theorem dL_law_1030 : decode cL_law 1030 = .ok (.iconst 0, 1) := by decide +kernel
theorem dL_law_1031 : decode cL_law 1031 = .ok (.ireturn, 1) := by decide +kernel
theorem dL_law_1032 : decode cL_law 1032 = .ok (.iinc 3 4, 3) := by decide +kernel
theorem dL_law_1035 : decode cL_law 1035 = .ok (.goto (-1017), 3) := by decide +kernel
theorem dL_law_1038 : decode cL_law 1038 = .ok (.iconst 1, 1) := by decide +kernel
theorem dL_law_1039 : decode cL_law 1039 = .ok (.ireturn, 1) := by decide +kernel
abbrev vwCl : List vw_C := [(RX0, TX0, 11), (RX1, TX1, 3), (RX2, TX2, 2), (RX3, TX3, 9), (RX4, TX4, 6), (RX5, TX5, 3), (RX6, TX6, 4), (RX7, TX7, 11)]
