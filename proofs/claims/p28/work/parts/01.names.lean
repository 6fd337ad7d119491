/-- a private method of a class that the tables say can be made, by its rows of tables_1 -/
def lw_okq (q : MethodName × Nat) : Prop := (q.1.cls ≠ "java/lang/invoke/MethodHandle" ∧ q.1.cls ≠ "java/lang/invoke/VarHandle") ∧ Cond.instantiable q.1.cls q.2 ∈ tables_1 ∧ Cond.privateMethod q.1 ∈ tables_1 ∧ Cond.instanceMethod q.1 ∈ tables_1
theorem lw_p0 : lw_okq (⟨"BeltSums$Plant", "wantsMore", "()Z"⟩, 15) := ⟨⟨by decide +kernel, by decide +kernel⟩, List.mem_of_getElem? (i := 23) (by decide +kernel), List.mem_of_getElem? (i := 414) (by decide +kernel), List.mem_of_getElem? (i := 415) (by decide +kernel)⟩
theorem lw_p1 : lw_okq (⟨"BeltSums$Plant", "dropAtEnd", "()I"⟩, 15) := ⟨⟨by decide +kernel, by decide +kernel⟩, List.mem_of_getElem? (i := 23) (by decide +kernel), List.mem_of_getElem? (i := 418) (by decide +kernel), List.mem_of_getElem? (i := 419) (by decide +kernel)⟩
theorem lw_p2 : lw_okq (⟨"BeltSums$Plant", "feed", "()V"⟩, 15) := ⟨⟨by decide +kernel, by decide +kernel⟩, List.mem_of_getElem? (i := 23) (by decide +kernel), List.mem_of_getElem? (i := 443) (by decide +kernel), List.mem_of_getElem? (i := 444) (by decide +kernel)⟩
theorem lw_p3 : lw_okq (⟨"BeltSums$Plant", "spillTooMuch", "()V"⟩, 15) := ⟨⟨by decide +kernel, by decide +kernel⟩, List.mem_of_getElem? (i := 23) (by decide +kernel), List.mem_of_getElem? (i := 456) (by decide +kernel), List.mem_of_getElem? (i := 457) (by decide +kernel)⟩
theorem lw_p4 : lw_okq (⟨"BeltSums$Plant", "endBatch", "()V"⟩, 15) := ⟨⟨by decide +kernel, by decide +kernel⟩, List.mem_of_getElem? (i := 23) (by decide +kernel), List.mem_of_getElem? (i := 478) (by decide +kernel), List.mem_of_getElem? (i := 479) (by decide +kernel)⟩
theorem lw_p5 : lw_okq (⟨"BeltSums", "recorded", "(I)I"⟩, 5) := ⟨⟨by decide +kernel, by decide +kernel⟩, List.mem_of_getElem? (i := 15) (by decide +kernel), List.mem_of_getElem? (i := 482) (by decide +kernel), List.mem_of_getElem? (i := 483) (by decide +kernel)⟩
def lw_privs_1 : List (MethodName × Nat) := [(⟨"BeltSums$Plant", "wantsMore", "()Z"⟩, 15), (⟨"BeltSums$Plant", "dropAtEnd", "()I"⟩, 15), (⟨"BeltSums$Plant", "feed", "()V"⟩, 15), (⟨"BeltSums$Plant", "spillTooMuch", "()V"⟩, 15), (⟨"BeltSums$Plant", "endBatch", "()V"⟩, 15), (⟨"BeltSums", "recorded", "(I)I"⟩, 5)]
theorem lw_r1 : ∀ q ∈ lw_privs_1, lw_okq q := List.forall_mem_cons.mpr ⟨lw_p0, List.forall_mem_cons.mpr ⟨lw_p1, List.forall_mem_cons.mpr ⟨lw_p2, List.forall_mem_cons.mpr ⟨lw_p3, List.forall_mem_cons.mpr ⟨lw_p4, List.forall_mem_cons.mpr ⟨lw_p5, fun _ h => absurd h List.not_mem_nil⟩⟩⟩⟩⟩⟩
def lw_privs : List (MethodName × Nat) := lw_privs_1
def lw_tbl : List Cond := k2_sels lw_privs ++ tables_1
theorem lw_privs_ok : ∀ q ∈ lw_privs, lw_okq q := lw_r1
def RX0 : String := "BeltSums$Accounts"
def TX0 : u_T := fun k => match k with
  | 0 => ("BeltSums$Accounts", "within", "[I", true)
  | 1 => ("BeltSums$Accounts", "own", "[I", true)
  | 2 => ("BeltSums$Accounts", "assigned", "[I", true)
  | _ => ("BeltSums$Accounts", "many", "I", false)
def tyX0 : Nat → FieldType := fun k => match k with
  | 0 => .array .int
  | 1 => .array .int
  | 2 => .array .int
  | _ => .int
abbrev wsX00 : List Cond := u_ws RX0 TX0 4
theorem nmX0 : ∀ a, a < 4 → ∀ b, b < 4 → a ≠ b → (TX0 a).2.1 ≠ (TX0 b).2.1 := by decide +kernel
theorem tyX0_ok : ∀ k, k < 4 → parseFieldDescriptor (TX0 k).2.2.1 = some (tyX0 k) := by decide +kernel
abbrev cX0_init : ByteArray := prog_2_method_1_code
def yX0_init : MethodName := ⟨RX0, "<init>", "()V"⟩
abbrev cX0_copyFrom : ByteArray := prog_2_method_2_code
def yX0_copyFrom : MethodName := ⟨RX0, "copyFrom", "(LBeltSums$Accounts;)V"⟩
abbrev cX0_has : ByteArray := prog_2_method_3_code
def yX0_has : MethodName := ⟨RX0, "has", "(I)Z"⟩
abbrev cX0_add : ByteArray := prog_2_method_4_code
def yX0_add : MethodName := ⟨RX0, "add", "(I)I"⟩
abbrev cX0_assign : ByteArray := prog_2_method_5_code
def yX0_assign : MethodName := ⟨RX0, "assign", "(II)I"⟩
abbrev cX0_enter : ByteArray := prog_2_method_6_code
def yX0_enter : MethodName := ⟨RX0, "enter", "(II)V"⟩
abbrev cX0_isUnder : ByteArray := prog_2_method_7_code
def yX0_isUnder : MethodName := ⟨RX0, "isUnder", "(II)Z"⟩
abbrev cX0_massWithAllUnder : ByteArray := prog_2_method_8_code
def yX0_massWithAllUnder : MethodName := ⟨RX0, "massWithAllUnder", "(I)I"⟩
abbrev cX0_countUnder : ByteArray := prog_2_method_9_code
def yX0_countUnder : MethodName := ⟨RX0, "countUnder", "(I)I"⟩
abbrev cX0_depth : ByteArray := prog_2_method_10_code
def yX0_depth : MethodName := ⟨RX0, "depth", "(I)I"⟩
def RX1 : String := "BeltSums$Belt"
def TX1 : u_T := fun k => match k with
  | 0 => ("BeltSums$Belt", "masses", "[I", true)
  | 1 => ("BeltSums$Belt", "start", "I", false)
  | _ => ("BeltSums$Belt", "total", "I", false)
def tyX1 : Nat → FieldType := fun k => match k with
  | 0 => .array .int
  | 1 => .int
  | _ => .int
abbrev wsX10 : List Cond := u_ws RX1 TX1 3
theorem nmX1 : ∀ a, a < 3 → ∀ b, b < 3 → a ≠ b → (TX1 a).2.1 ≠ (TX1 b).2.1 := by decide +kernel
theorem tyX1_ok : ∀ k, k < 3 → parseFieldDescriptor (TX1 k).2.2.1 = some (tyX1 k) := by decide +kernel
abbrev cX1_init : ByteArray := prog_3_method_1_code
def yX1_init : MethodName := ⟨RX1, "<init>", "()V"⟩
abbrev cX1_copyFrom : ByteArray := prog_3_method_2_code
def yX1_copyFrom : MethodName := ⟨RX1, "copyFrom", "(LBeltSums$Belt;)V"⟩
abbrev cX1_mass : ByteArray := prog_3_method_3_code
def yX1_mass : MethodName := ⟨RX1, "mass", "(II)I"⟩
abbrev cX1_take : ByteArray := prog_3_method_4_code
def yX1_take : MethodName := ⟨RX1, "take", "(III)V"⟩
abbrev cX1_putAtStart : ByteArray := prog_3_method_5_code
def yX1_putAtStart : MethodName := ⟨RX1, "putAtStart", "(II)V"⟩
abbrev cX1_goOn : ByteArray := prog_3_method_6_code
def yX1_goOn : MethodName := ⟨RX1, "goOn", "()V"⟩
abbrev cX1_massOfPlace : ByteArray := prog_3_method_7_code
def yX1_massOfPlace : MethodName := ⟨RX1, "massOfPlace", "(I)I"⟩
abbrev cX1_massSeen : ByteArray := prog_3_method_8_code
def yX1_massSeen : MethodName := ⟨RX1, "massSeen", "()I"⟩
def RX2 : String := "BeltSums$Bins"
def TX2 : u_T := fun k => match k with
  | 0 => ("BeltSums$Bins", "masses", "[I", true)
  | 1 => ("BeltSums$Bins", "grown", "[I", true)
  | 2 => ("BeltSums$Bins", "ticksFilled", "[I", true)
  | _ => ("BeltSums$Bins", "many", "I", false)
def tyX2 : Nat → FieldType := fun k => match k with
  | 0 => .array .int
  | 1 => .array .int
  | 2 => .array .int
  | _ => .int
abbrev wsX20 : List Cond := u_ws RX2 TX2 4
theorem nmX2 : ∀ a, a < 4 → ∀ b, b < 4 → a ≠ b → (TX2 a).2.1 ≠ (TX2 b).2.1 := by decide +kernel
theorem tyX2_ok : ∀ k, k < 4 → parseFieldDescriptor (TX2 k).2.2.1 = some (tyX2 k) := by decide +kernel
abbrev cX2_init : ByteArray := prog_4_method_1_code
def yX2_init : MethodName := ⟨RX2, "<init>", "()V"⟩
abbrev cX2_copyFrom : ByteArray := prog_4_method_2_code
def yX2_copyFrom : MethodName := ⟨RX2, "copyFrom", "(LBeltSums$Bins;)V"⟩
abbrev cX2_has : ByteArray := prog_4_method_3_code
def yX2_has : MethodName := ⟨RX2, "has", "(I)Z"⟩
abbrev cX2_addToPresent : ByteArray := prog_4_method_4_code
def yX2_addToPresent : MethodName := ⟨RX2, "addToPresent", "(II)V"⟩
abbrev cX2_growPresent : ByteArray := prog_4_method_5_code
def yX2_growPresent : MethodName := ⟨RX2, "growPresent", "(I)V"⟩
abbrev cX2_countFilledTick : ByteArray := prog_4_method_6_code
def yX2_countFilledTick : MethodName := ⟨RX2, "countFilledTick", "()V"⟩
abbrev cX2_massOf : ByteArray := prog_4_method_7_code
def yX2_massOf : MethodName := ⟨RX2, "massOf", "(I)I"⟩
abbrev cX2_massOfAll : ByteArray := prog_4_method_9_code
def yX2_massOfAll : MethodName := ⟨RX2, "massOfAll", "()I"⟩
def RX3 : String := "BeltSums$Command"
def TX3 : u_T := fun k => match k with
  | 0 => ("BeltSums$Command", "letter", "I", false)
  | 1 => ("BeltSums$Command", "first", "I", false)
  | 2 => ("BeltSums$Command", "second", "I", false)
  | _ => ("BeltSums$Command", "end", "I", false)
def tyX3 : Nat → FieldType := fun k => match k with
  | 0 => .int
  | 1 => .int
  | 2 => .int
  | _ => .int
abbrev wsX30 : List Cond := u_ws RX3 TX3 4
theorem nmX3 : ∀ a, a < 4 → ∀ b, b < 4 → a ≠ b → (TX3 a).2.1 ≠ (TX3 b).2.1 := by decide +kernel
theorem tyX3_ok : ∀ k, k < 4 → parseFieldDescriptor (TX3 k).2.2.1 = some (tyX3 k) := by decide +kernel
abbrev cX3_init : ByteArray := prog_5_method_1_code
def yX3_init : MethodName := ⟨RX3, "<init>", "()V"⟩
def RX4 : String := "BeltSums$History"
def TX4 : u_T := fun k => match k with
  | 0 => ("BeltSums$History", "latest", "LBeltSums$Plant;", false)
  | 1 => ("BeltSums$History", "second", "LBeltSums$Plant;", false)
  | 2 => ("BeltSums$History", "third", "LBeltSums$Plant;", false)
  | 3 => ("BeltSums$History", "oldest", "LBeltSums$Plant;", false)
  | _ => ("BeltSums$History", "states", "I", false)
def tyX4 : Nat → FieldType := fun k => match k with
  | 0 => .object "BeltSums$Plant"
  | 1 => .object "BeltSums$Plant"
  | 2 => .object "BeltSums$Plant"
  | 3 => .object "BeltSums$Plant"
  | _ => .int
abbrev wsX40 : List Cond := u_ws RX4 TX4 5
theorem nmX4 : ∀ a, a < 5 → ∀ b, b < 5 → a ≠ b → (TX4 a).2.1 ≠ (TX4 b).2.1 := by decide +kernel
theorem tyX4_ok : ∀ k, k < 5 → parseFieldDescriptor (TX4 k).2.2.1 = some (tyX4 k) := by decide +kernel
abbrev cX4_init : ByteArray := prog_6_method_1_code
def yX4_init : MethodName := ⟨RX4, "<init>", "()V"⟩
abbrev cX4_push : ByteArray := prog_6_method_2_code
def yX4_push : MethodName := ⟨RX4, "push", "(LBeltSums$Plant;)V"⟩
def RX5 : String := "BeltSums$Hopper"
def TX5 : u_T := fun k => match k with
  | 0 => ("BeltSums$Hopper", "kinds", "[I", true)
  | 1 => ("BeltSums$Hopper", "masses", "[I", true)
  | 2 => ("BeltSums$Hopper", "lots", "I", false)
  | _ => ("BeltSums$Hopper", "putSoFar", "I", false)
def tyX5 : Nat → FieldType := fun k => match k with
  | 0 => .array .int
  | 1 => .array .int
  | 2 => .int
  | _ => .int
abbrev wsX50 : List Cond := u_ws RX5 TX5 4
theorem nmX5 : ∀ a, a < 4 → ∀ b, b < 4 → a ≠ b → (TX5 a).2.1 ≠ (TX5 b).2.1 := by decide +kernel
theorem tyX5_ok : ∀ k, k < 4 → parseFieldDescriptor (TX5 k).2.2.1 = some (tyX5 k) := by decide +kernel
abbrev cX5_init : ByteArray := prog_7_method_1_code
def yX5_init : MethodName := ⟨RX5, "<init>", "()V"⟩
abbrev cX5_copyFrom : ByteArray := prog_7_method_2_code
def yX5_copyFrom : MethodName := ⟨RX5, "copyFrom", "(LBeltSums$Hopper;)V"⟩
abbrev cX5_append : ByteArray := prog_7_method_3_code
def yX5_append : MethodName := ⟨RX5, "append", "(II)V"⟩
abbrev cX5_takeFromFirst : ByteArray := prog_7_method_4_code
def yX5_takeFromFirst : MethodName := ⟨RX5, "takeFromFirst", "(I)V"⟩
abbrev cX5_massInside : ByteArray := prog_7_method_5_code
def yX5_massInside : MethodName := ⟨RX5, "massInside", "()I"⟩
def RX6 : String := "BeltSums$Plant"
def TX6 : u_T := fun k => match k with
  | 0 => ("BeltSums$Plant", "hopper", "LBeltSums$Hopper;", true)
  | 1 => ("BeltSums$Plant", "belt", "LBeltSums$Belt;", true)
  | 2 => ("BeltSums$Plant", "bins", "LBeltSums$Bins;", true)
  | 3 => ("BeltSums$Plant", "scale", "LBeltSums$Scale;", true)
  | 4 => ("BeltSums$Plant", "accounts", "LBeltSums$Accounts;", true)
  | 5 => ("BeltSums$Plant", "settings", "[I", true)
  | 6 => ("BeltSums$Plant", "gateWidth", "I", false)
  | 7 => ("BeltSums$Plant", "switchedOn", "I", false)
  | 8 => ("BeltSums$Plant", "batchMass", "I", false)
  | 9 => ("BeltSums$Plant", "batchStopped", "Z", false)
  | 10 => ("BeltSums$Plant", "cameInBatch", "I", false)
  | 11 => ("BeltSums$Plant", "time", "I", false)
  | 12 => ("BeltSums$Plant", "ticksStood", "I", false)
  | 13 => ("BeltSums$Plant", "spilt", "I", false)
  | _ => ("BeltSums$Plant", "fallen", "I", false)
def tyX6 : Nat → FieldType := fun k => match k with
  | 0 => .object "BeltSums$Hopper"
  | 1 => .object "BeltSums$Belt"
  | 2 => .object "BeltSums$Bins"
  | 3 => .object "BeltSums$Scale"
  | 4 => .object "BeltSums$Accounts"
  | 5 => .array .int
  | 6 => .int
  | 7 => .int
  | 8 => .int
  | 9 => .boolean
  | 10 => .int
  | 11 => .int
  | 12 => .int
  | 13 => .int
  | _ => .int
abbrev wsX60 : List Cond := u_ws RX6 TX6 15
theorem nmX6 : ∀ a, a < 15 → ∀ b, b < 15 → a ≠ b → (TX6 a).2.1 ≠ (TX6 b).2.1 := by decide +kernel
theorem tyX6_ok : ∀ k, k < 15 → parseFieldDescriptor (TX6 k).2.2.1 = some (tyX6 k) := by decide +kernel
abbrev cX6_init : ByteArray := prog_8_method_1_code
def yX6_init : MethodName := ⟨RX6, "<init>", "()V"⟩
abbrev cX6_copyFrom : ByteArray := prog_8_method_2_code
def yX6_copyFrom : MethodName := ⟨RX6, "copyFrom", "(LBeltSums$Plant;)V"⟩
abbrev cX6_hasBatch : ByteArray := prog_8_method_3_code
def yX6_hasBatch : MethodName := ⟨RX6, "hasBatch", "()Z"⟩
abbrev cX6_putLot : ByteArray := prog_8_method_4_code
def yX6_putLot : MethodName := ⟨RX6, "putLot", "(II)I"⟩
abbrev cX6_setGate : ByteArray := prog_8_method_5_code
def yX6_setGate : MethodName := ⟨RX6, "setGate", "(I)I"⟩
abbrev cX6_switchBelt : ByteArray := prog_8_method_6_code
def yX6_switchBelt : MethodName := ⟨RX6, "switchBelt", "(I)I"⟩
abbrev cX6_putBin : ByteArray := prog_8_method_7_code
def yX6_putBin : MethodName := ⟨RX6, "putBin", "()I"⟩
abbrev cX6_beginBatch : ByteArray := prog_8_method_8_code
def yX6_beginBatch : MethodName := ⟨RX6, "beginBatch", "(I)I"⟩
abbrev cX6_passTicks : ByteArray := prog_8_method_9_code
def yX6_passTicks : MethodName := ⟨RX6, "passTicks", "(I)I"⟩
abbrev cX6_passTick : ByteArray := prog_8_method_10_code
def yX6_passTick : MethodName := ⟨RX6, "passTick", "()I"⟩
abbrev cX6_wantsMore : ByteArray := prog_8_method_11_code
def yX6_wantsMore : MethodName := ⟨RX6, "wantsMore", "()Z"⟩
abbrev cX6_dropAtEnd : ByteArray := prog_8_method_12_code
def yX6_dropAtEnd : MethodName := ⟨RX6, "dropAtEnd", "()I"⟩
abbrev cX6_feed : ByteArray := prog_8_method_13_code
def yX6_feed : MethodName := ⟨RX6, "feed", "()V"⟩
abbrev cX6_spillTooMuch : ByteArray := prog_8_method_14_code
def yX6_spillTooMuch : MethodName := ⟨RX6, "spillTooMuch", "()V"⟩
abbrev cX6_endBatch : ByteArray := prog_8_method_15_code
def yX6_endBatch : MethodName := ⟨RX6, "endBatch", "()V"⟩
abbrev cX6_setZero : ByteArray := prog_8_method_16_code
def yX6_setZero : MethodName := ⟨RX6, "setZero", "()I"⟩
abbrev cX6_correctBy : ByteArray := prog_8_method_17_code
def yX6_correctBy : MethodName := ⟨RX6, "correctBy", "(I)I"⟩
abbrev cX6_changeSetting : ByteArray := prog_8_method_18_code
def yX6_changeSetting : MethodName := ⟨RX6, "changeSetting", "(II)I"⟩
def RX7 : String := "BeltSums$Rehearsal"
def TX7 : u_T := fun k => match k with
  | 0 => ("BeltSums$Rehearsal", "command", "LBeltSums$Command;", true)
  | 1 => ("BeltSums$Rehearsal", "position", "I", false)
  | 2 => ("BeltSums$Rehearsal", "reason", "I", false)
  | 3 => ("BeltSums$Rehearsal", "cause", "I", false)
  | _ => ("BeltSums$Rehearsal", "done", "I", false)
def tyX7 : Nat → FieldType := fun k => match k with
  | 0 => .object "BeltSums$Command"
  | 1 => .int
  | 2 => .int
  | 3 => .int
  | _ => .int
abbrev wsX70 : List Cond := u_ws RX7 TX7 5
theorem nmX7 : ∀ a, a < 5 → ∀ b, b < 5 → a ≠ b → (TX7 a).2.1 ≠ (TX7 b).2.1 := by decide +kernel
theorem tyX7_ok : ∀ k, k < 5 → parseFieldDescriptor (TX7 k).2.2.1 = some (tyX7 k) := by decide +kernel
abbrev cX7_init : ByteArray := prog_9_method_1_code
def yX7_init : MethodName := ⟨RX7, "<init>", "()V"⟩
def RX8 : String := "BeltSums$Scale"
def TX8 : u_T := fun k => match k with
  | 0 => ("BeltSums$Scale", "drift", "I", false)
  | 1 => ("BeltSums$Scale", "zero", "I", false)
  | 2 => ("BeltSums$Scale", "sum", "I", false)
  | 3 => ("BeltSums$Scale", "rest", "I", false)
  | _ => ("BeltSums$Scale", "factor", "I", false)
def tyX8 : Nat → FieldType := fun k => match k with
  | 0 => .int
  | 1 => .int
  | 2 => .int
  | 3 => .int
  | _ => .int
abbrev wsX80 : List Cond := u_ws RX8 TX8 5
theorem nmX8 : ∀ a, a < 5 → ∀ b, b < 5 → a ≠ b → (TX8 a).2.1 ≠ (TX8 b).2.1 := by decide +kernel
theorem tyX8_ok : ∀ k, k < 5 → parseFieldDescriptor (TX8 k).2.2.1 = some (tyX8 k) := by decide +kernel
abbrev cX8_init : ByteArray := prog_10_method_1_code
def yX8_init : MethodName := ⟨RX8, "<init>", "()V"⟩
abbrev cX8_copyFrom : ByteArray := prog_10_method_2_code
def yX8_copyFrom : MethodName := ⟨RX8, "copyFrom", "(LBeltSums$Scale;)V"⟩
abbrev cX8_reading : ByteArray := prog_10_method_3_code
def yX8_reading : MethodName := ⟨RX8, "reading", "(I)I"⟩
abbrev cX8_weigh : ByteArray := prog_10_method_4_code
def yX8_weigh : MethodName := ⟨RX8, "weigh", "(I)I"⟩
abbrev cX8_toldTotal : ByteArray := prog_10_method_5_code
def yX8_toldTotal : MethodName := ⟨RX8, "toldTotal", "()I"⟩
def RX9 : String := "BeltSums$Text"
def TX9 : u_T := fun k => match k with
  | 0 => ("BeltSums$Text", "characters", "[C", true)
  | _ => ("BeltSums$Text", "length", "I", false)
def tyX9 : Nat → FieldType := fun k => match k with
  | 0 => .array .char
  | _ => .int
abbrev wsX90 : List Cond := u_ws RX9 TX9 2
theorem nmX9 : ∀ a, a < 2 → ∀ b, b < 2 → a ≠ b → (TX9 a).2.1 ≠ (TX9 b).2.1 := by decide +kernel
theorem tyX9_ok : ∀ k, k < 2 → parseFieldDescriptor (TX9 k).2.2.1 = some (tyX9 k) := by decide +kernel
abbrev cX9_init : ByteArray := prog_11_method_1_code
def yX9_init : MethodName := ⟨RX9, "<init>", "()V"⟩
def RX10 : String := "BeltSums"
def TX10 : u_T := fun k => match k with
  | 0 => ("BeltSums", "now", "LBeltSums$Plant;", true)
  | 1 => ("BeltSums", "spare", "LBeltSums$Plant;", true)
  | 2 => ("BeltSums", "history", "LBeltSums$History;", true)
  | 3 => ("BeltSums", "text", "LBeltSums$Text;", true)
  | _ => ("BeltSums", "rehearsal", "LBeltSums$Rehearsal;", true)
def tyX10 : Nat → FieldType := fun k => match k with
  | 0 => .object "BeltSums$Plant"
  | 1 => .object "BeltSums$Plant"
  | 2 => .object "BeltSums$History"
  | 3 => .object "BeltSums$Text"
  | _ => .object "BeltSums$Rehearsal"
abbrev wsX100 : List Cond := u_ws RX10 TX10 5
theorem nmX10 : ∀ a, a < 5 → ∀ b, b < 5 → a ≠ b → (TX10 a).2.1 ≠ (TX10 b).2.1 := by decide +kernel
theorem tyX10_ok : ∀ k, k < 5 → parseFieldDescriptor (TX10 k).2.2.1 = some (tyX10 k) := by decide +kernel
abbrev cX10_init : ByteArray := prog_1_method_1_code
def yX10_init : MethodName := ⟨RX10, "<init>", "()V"⟩
abbrev cX10_lot : ByteArray := prog_1_method_2_code
def yX10_lot : MethodName := ⟨RX10, "lot", "(II)I"⟩
abbrev cX10_gate : ByteArray := prog_1_method_3_code
def yX10_gate : MethodName := ⟨RX10, "gate", "(I)I"⟩
abbrev cX10_run : ByteArray := prog_1_method_4_code
def yX10_run : MethodName := ⟨RX10, "run", "(I)I"⟩
abbrev cX10_bin : ByteArray := prog_1_method_5_code
def yX10_bin : MethodName := ⟨RX10, "bin", "()I"⟩
abbrev cX10_batch : ByteArray := prog_1_method_6_code
def yX10_batch : MethodName := ⟨RX10, "batch", "(I)I"⟩
abbrev cX10_tick : ByteArray := prog_1_method_7_code
def yX10_tick : MethodName := ⟨RX10, "tick", "(I)I"⟩
abbrev cX10_zero : ByteArray := prog_1_method_8_code
def yX10_zero : MethodName := ⟨RX10, "zero", "()I"⟩
abbrev cX10_correct : ByteArray := prog_1_method_9_code
def yX10_correct : MethodName := ⟨RX10, "correct", "(I)I"⟩
abbrev cX10_set : ByteArray := prog_1_method_10_code
def yX10_set : MethodName := ⟨RX10, "set", "(II)I"⟩
abbrev cX10_account : ByteArray := prog_1_method_11_code
def yX10_account : MethodName := ⟨RX10, "account", "(I)I"⟩
abbrev cX10_book : ByteArray := prog_1_method_12_code
def yX10_book : MethodName := ⟨RX10, "book", "(II)I"⟩
abbrev cX10_accountOf : ByteArray := prog_1_method_13_code
def yX10_accountOf : MethodName := ⟨RX10, "accountOf", "(II)I"⟩
abbrev cX10_massAt : ByteArray := prog_1_method_14_code
def yX10_massAt : MethodName := ⟨RX10, "massAt", "(II)I"⟩
abbrev cX10_lotOf : ByteArray := prog_1_method_15_code
def yX10_lotOf : MethodName := ⟨RX10, "lotOf", "(II)I"⟩
abbrev cX10_binOf : ByteArray := prog_1_method_16_code
def yX10_binOf : MethodName := ⟨RX10, "binOf", "(II)I"⟩
abbrev cX10_scale : ByteArray := prog_1_method_17_code
def yX10_scale : MethodName := ⟨RX10, "scale", "(I)I"⟩
abbrev cX10_count : ByteArray := prog_1_method_18_code
def yX10_count : MethodName := ⟨RX10, "count", "(I)I"⟩
abbrev cX10_error : ByteArray := prog_1_method_21_code
def yX10_error : MethodName := ⟨RX10, "error", "()I"⟩
abbrev cX10_recorded : ByteArray := prog_1_method_27_code
def yX10_recorded : MethodName := ⟨RX10, "recorded", "(I)I"⟩
abbrev cX10_isError : ByteArray := prog_1_method_29_code
def yX10_isError : MethodName := ⟨RX10, "isError", "(I)Z"⟩
abbrev cX10_isKind : ByteArray := prog_1_method_30_code
def yX10_isKind : MethodName := ⟨RX10, "isKind", "(I)Z"⟩
abbrev cX10_copyInto : ByteArray := prog_1_method_31_code
def yX10_copyInto : MethodName := ⟨RX10, "copyInto", "([I[I)V"⟩
def RX11 : String := "BeltSumsModel"
def TX11 : u_T := fun k => match k with
  | _ => ("", "", "", false)
def tyX11 : Nat → FieldType := fun k => match k with
  | _ => .int
abbrev wsX110 : List Cond := u_ws RX11 TX11 0
theorem nmX11 : ∀ a, a < 0 → ∀ b, b < 0 → a ≠ b → (TX11 a).2.1 ≠ (TX11 b).2.1 := by decide +kernel
theorem tyX11_ok : ∀ k, k < 0 → parseFieldDescriptor (TX11 k).2.2.1 = some (tyX11 k) := by decide +kernel
def RJ9 : String := "java/lang/Math"
def TJ9 : u_T := fun k => match k with
  | _ => ("", "", "", false)
def tyJ9 : Nat → FieldType := fun k => match k with
  | _ => .int
abbrev wsJ90 : List Cond := u_ws RJ9 TJ9 0
theorem nmJ9 : ∀ a, a < 0 → ∀ b, b < 0 → a ≠ b → (TJ9 a).2.1 ≠ (TJ9 b).2.1 := by decide +kernel
theorem tyJ9_ok : ∀ k, k < 0 → parseFieldDescriptor (TJ9 k).2.2.1 = some (tyJ9 k) := by decide +kernel
abbrev cJ9_min_7cf53 : ByteArray := prog_14_method_69_code
def yJ9_min_7cf53 : MethodName := ⟨RJ9, "min", "(II)I"⟩
def RJ10 : String := "java/lang/System"
def TJ10 : u_T := fun k => match k with
  | _ => ("", "", "", false)
def tyJ10 : Nat → FieldType := fun k => match k with
  | _ => .int
abbrev wsJ100 : List Cond := u_ws RJ10 TJ10 0
theorem nmJ10 : ∀ a, a < 0 → ∀ b, b < 0 → a ≠ b → (TJ10 a).2.1 ≠ (TJ10 b).2.1 := by decide +kernel
theorem tyJ10_ok : ∀ k, k < 0 → parseFieldDescriptor (TJ10 k).2.2.1 = some (tyJ10 k) := by decide +kernel
def RL : String := "BeltSumsLaw"
abbrev cL_cell : ByteArray := method_2_code
def yL_cell : MethodName := ⟨RL, "cell", "([II)I"⟩
abbrev cL_low : ByteArray := method_3_code
def yL_low : MethodName := ⟨RL, "low", "(II)I"⟩
abbrev cL_mass : ByteArray := method_4_code
def yL_mass : MethodName := ⟨RL, "mass", "([III)I"⟩
abbrev cL_feed : ByteArray := method_5_code
def yL_feed : MethodName := ⟨RL, "feed", "([I[I[I)V"⟩
abbrev cL_tick : ByteArray := method_6_code
def yL_tick : MethodName := ⟨RL, "tick", "([I[I[I[I[I)V"⟩
abbrev cL_runs : ByteArray := method_7_code
def yL_runs : MethodName := ⟨RL, "runs", "(LBeltSums;[I[I[I[I[III)Z"⟩
abbrev cL_acts : ByteArray := method_8_code
def yL_acts : MethodName := ⟨RL, "acts", "(LBeltSums;[I[I[I[I[II)Z"⟩
abbrev cL_areBins : ByteArray := method_9_code
def yL_areBins : MethodName := ⟨RL, "areBins", "(LBeltSums;[I[I)Z"⟩
abbrev cL_isSo : ByteArray := method_10_code
def yL_isSo : MethodName := ⟨RL, "isSo", "(LBeltSums;[I[I[I[I[I)Z"⟩
abbrev cL_law : ByteArray := code
def yL_law : MethodName := ⟨RL, "law", "([I)Z"⟩
abbrev vwCl : List vw_C := [(RX0, TX0, 4), (RX1, TX1, 3), (RX2, TX2, 4), (RX3, TX3, 4), (RX4, TX4, 5), (RX5, TX5, 4), (RX6, TX6, 15), (RX7, TX7, 5), (RX8, TX8, 5), (RX9, TX9, 2), (RX10, TX10, 5)]
def tblG : List Cond := lw_tbl.filter goodWord
theorem tG {w : Cond} (i : Nat) (h : lw_tbl[i]? = some w) (hg : goodWord w = true) : w ∈ tblG := List.mem_filter.mpr ⟨List.mem_of_getElem? h, hg⟩
theorem t0 : (Cond.selects "BeltSums$Plant" ({ cls := "BeltSums$Plant", name := "wantsMore", desc := "()Z" } : Jvm.MethodName) ({ cls := "BeltSums$Plant", name := "wantsMore", desc := "()Z" } : Jvm.MethodName)) ∈ tblG := tG 0 (by decide +kernel) rfl
theorem t1 : (Cond.selects "BeltSums$Plant" ({ cls := "BeltSums$Plant", name := "dropAtEnd", desc := "()I" } : Jvm.MethodName) ({ cls := "BeltSums$Plant", name := "dropAtEnd", desc := "()I" } : Jvm.MethodName)) ∈ tblG := tG 1 (by decide +kernel) rfl
theorem t2 : (Cond.selects "BeltSums$Plant" ({ cls := "BeltSums$Plant", name := "feed", desc := "()V" } : Jvm.MethodName) ({ cls := "BeltSums$Plant", name := "feed", desc := "()V" } : Jvm.MethodName)) ∈ tblG := tG 2 (by decide +kernel) rfl
theorem t3 : (Cond.selects "BeltSums$Plant" ({ cls := "BeltSums$Plant", name := "spillTooMuch", desc := "()V" } : Jvm.MethodName) ({ cls := "BeltSums$Plant", name := "spillTooMuch", desc := "()V" } : Jvm.MethodName)) ∈ tblG := tG 3 (by decide +kernel) rfl
theorem t4 : (Cond.selects "BeltSums$Plant" ({ cls := "BeltSums$Plant", name := "endBatch", desc := "()V" } : Jvm.MethodName) ({ cls := "BeltSums$Plant", name := "endBatch", desc := "()V" } : Jvm.MethodName)) ∈ tblG := tG 4 (by decide +kernel) rfl
theorem t5 : (Cond.selects "BeltSums" ({ cls := "BeltSums", name := "recorded", desc := "(I)I" } : Jvm.MethodName) ({ cls := "BeltSums", name := "recorded", desc := "(I)I" } : Jvm.MethodName)) ∈ tblG := tG 5 (by decide +kernel) rfl
theorem t6 : (Cond.initialized "BeltSumsLaw") ∈ tblG := tG 6 (by decide +kernel) rfl
theorem t7 : (Cond.initialized "BeltSums") ∈ tblG := tG 7 (by decide +kernel) rfl
theorem t8 : (Cond.initialized "BeltSums$Plant") ∈ tblG := tG 8 (by decide +kernel) rfl
theorem t9 : (Cond.initialized "BeltSums$Hopper") ∈ tblG := tG 9 (by decide +kernel) rfl
theorem t10 : (Cond.initialized "BeltSums$Belt") ∈ tblG := tG 10 (by decide +kernel) rfl
theorem t11 : (Cond.initialized "BeltSums$Bins") ∈ tblG := tG 11 (by decide +kernel) rfl
theorem t12 : (Cond.initialized "BeltSums$Scale") ∈ tblG := tG 12 (by decide +kernel) rfl
theorem t13 : (Cond.initialized "BeltSums$Accounts") ∈ tblG := tG 13 (by decide +kernel) rfl
theorem t14 : (Cond.initialized "java/lang/Math") ∈ tblG := tG 14 (by decide +kernel) rfl
theorem t15 : (Cond.initialized "java/lang/System") ∈ tblG := tG 15 (by decide +kernel) rfl
theorem t16 : (Cond.initialized "BeltSums$History") ∈ tblG := tG 16 (by decide +kernel) rfl
theorem t17 : (Cond.initialized "BeltSums$Text") ∈ tblG := tG 17 (by decide +kernel) rfl
theorem t18 : (Cond.initialized "BeltSums$Rehearsal") ∈ tblG := tG 18 (by decide +kernel) rfl
theorem t19 : (Cond.initialized "BeltSums$Command") ∈ tblG := tG 19 (by decide +kernel) rfl
theorem t20 : (Cond.classLink "BeltSumsLaw" (24 : Nat) "BeltSums") ∈ tblG := tG 20 (by decide +kernel) rfl
theorem t21 : (Cond.instantiable "BeltSums" (5 : Nat)) ∈ tblG := tG 21 (by decide +kernel) rfl
theorem t22 : (Cond.methodLink "BeltSumsLaw" (109 : Nat) ({ cls := "BeltSums", name := "<init>", desc := "()V" } : Jvm.MethodName)) ∈ tblG := tG 22 (by decide +kernel) rfl
theorem t23 : (Cond.instanceMethod ({ cls := "BeltSums", name := "<init>", desc := "()V" } : Jvm.MethodName)) ∈ tblG := tG 23 (by decide +kernel) rfl
theorem t24 : (Cond.code ({ cls := "BeltSums", name := "<init>", desc := "()V" } : Jvm.MethodName) prog_1_method_1_code (1 : Nat) (Option.none : Option Jvm.ClassFile.FieldType)) ∈ tblG := tG 24 (by decide +kernel) rfl
theorem t25 : (Cond.methodLink "BeltSums" (1 : Nat) ({ cls := "java/lang/Object", name := "<init>", desc := "()V" } : Jvm.MethodName)) ∈ tblG := tG 25 (by decide +kernel) rfl
theorem t26 : (Cond.instanceMethod ({ cls := "java/lang/Object", name := "<init>", desc := "()V" } : Jvm.MethodName)) ∈ tblG := tG 26 (by decide +kernel) rfl
theorem t27 : (Cond.code ({ cls := "java/lang/Object", name := "<init>", desc := "()V" } : Jvm.MethodName) object_method_1_code (1 : Nat) (Option.none : Option Jvm.ClassFile.FieldType)) ∈ tblG := tG 27 (by decide +kernel) rfl
theorem t28 : (Cond.classLink "BeltSums" (7 : Nat) "BeltSums$Plant") ∈ tblG := tG 28 (by decide +kernel) rfl
theorem t29 : (Cond.instantiable "BeltSums$Plant" (15 : Nat)) ∈ tblG := tG 29 (by decide +kernel) rfl
theorem t30 : (Cond.methodLink "BeltSums" (9 : Nat) ({ cls := "BeltSums$Plant", name := "<init>", desc := "()V" } : Jvm.MethodName)) ∈ tblG := tG 30 (by decide +kernel) rfl
theorem t31 : (Cond.instanceMethod ({ cls := "BeltSums$Plant", name := "<init>", desc := "()V" } : Jvm.MethodName)) ∈ tblG := tG 31 (by decide +kernel) rfl
theorem t32 : (Cond.code ({ cls := "BeltSums$Plant", name := "<init>", desc := "()V" } : Jvm.MethodName) prog_8_method_1_code (1 : Nat) (Option.none : Option Jvm.ClassFile.FieldType)) ∈ tblG := tG 32 (by decide +kernel) rfl
theorem t33 : (Cond.methodLink "BeltSums$Plant" (3 : Nat) ({ cls := "java/lang/Object", name := "<init>", desc := "()V" } : Jvm.MethodName)) ∈ tblG := tG 33 (by decide +kernel) rfl
theorem t34 : (Cond.classLink "BeltSums$Plant" (9 : Nat) "BeltSums$Hopper") ∈ tblG := tG 34 (by decide +kernel) rfl
theorem t35 : (Cond.instantiable "BeltSums$Hopper" (4 : Nat)) ∈ tblG := tG 35 (by decide +kernel) rfl
theorem t37 : (Cond.instanceMethod ({ cls := "BeltSums$Hopper", name := "<init>", desc := "()V" } : Jvm.MethodName)) ∈ tblG := tG 37 (by decide +kernel) rfl
theorem t38 : (Cond.code ({ cls := "BeltSums$Hopper", name := "<init>", desc := "()V" } : Jvm.MethodName) prog_7_method_1_code (1 : Nat) (Option.none : Option Jvm.ClassFile.FieldType)) ∈ tblG := tG 38 (by decide +kernel) rfl
theorem t39 : (Cond.methodLink "BeltSums$Hopper" (3 : Nat) ({ cls := "java/lang/Object", name := "<init>", desc := "()V" } : Jvm.MethodName)) ∈ tblG := tG 39 (by decide +kernel) rfl
theorem t40 : (Cond.fieldLink "BeltSums$Hopper" (9 : Nat) "BeltSums$Hopper" "kinds" "[I") ∈ tblG := tG 40 (by decide +kernel) rfl
theorem t41 : (Cond.fieldLink "BeltSums$Plant" (187 : Nat) "BeltSums$Hopper" "kinds" "[I") ∈ tblG := tG 41 (by decide +kernel) rfl
theorem t42 : (Cond.fieldLink "BeltSums" (133 : Nat) "BeltSums$Hopper" "kinds" "[I") ∈ tblG := tG 42 (by decide +kernel) rfl
theorem t43 : (Cond.fieldLink "BeltSums$Hopper" (15 : Nat) "BeltSums$Hopper" "masses" "[I") ∈ tblG := tG 43 (by decide +kernel) rfl
theorem t44 : (Cond.fieldLink "BeltSums$Plant" (179 : Nat) "BeltSums$Hopper" "masses" "[I") ∈ tblG := tG 44 (by decide +kernel) rfl
theorem t45 : (Cond.fieldLink "BeltSums" (136 : Nat) "BeltSums$Hopper" "masses" "[I") ∈ tblG := tG 45 (by decide +kernel) rfl
theorem t46 : (Cond.fieldLink "BeltSums$Hopper" (22 : Nat) "BeltSums$Hopper" "lots" "I") ∈ tblG := tG 46 (by decide +kernel) rfl
theorem t47 : (Cond.fieldLink "BeltSums$Plant" (107 : Nat) "BeltSums$Hopper" "lots" "I") ∈ tblG := tG 47 (by decide +kernel) rfl
theorem t48 : (Cond.fieldLink "BeltSums" (127 : Nat) "BeltSums$Hopper" "lots" "I") ∈ tblG := tG 48 (by decide +kernel) rfl
theorem t49 : (Cond.fieldLink "BeltSums$Hopper" (26 : Nat) "BeltSums$Hopper" "putSoFar" "I") ∈ tblG := tG 49 (by decide +kernel) rfl
theorem t50 : (Cond.fieldLink "BeltSums" (226 : Nat) "BeltSums$Hopper" "putSoFar" "I") ∈ tblG := tG 50 (by decide +kernel) rfl
theorem t51 : (Cond.laysFinal "BeltSums$Hopper" "BeltSums$Hopper" "kinds" "[I") ∈ tblG := tG 51 (by decide +kernel) rfl
theorem t53 : (Cond.laysFinal "BeltSums$Hopper" "BeltSums$Hopper" "masses" "[I") ∈ tblG := tG 53 (by decide +kernel) rfl
theorem t55 : (Cond.lays "BeltSums$Hopper" "BeltSums$Hopper" "lots" "I") ∈ tblG := tG 55 (by decide +kernel) rfl
theorem t57 : (Cond.lays "BeltSums$Hopper" "BeltSums$Hopper" "putSoFar" "I") ∈ tblG := tG 57 (by decide +kernel) rfl
theorem t60 : (Cond.arrayClass Jvm.ClassFile.FieldType.int) ∈ tblG := tG 60 (by decide +kernel) rfl
theorem t61 : (Cond.classLink "BeltSums$Plant" (18 : Nat) "BeltSums$Belt") ∈ tblG := tG 61 (by decide +kernel) rfl
theorem t62 : (Cond.instantiable "BeltSums$Belt" (3 : Nat)) ∈ tblG := tG 62 (by decide +kernel) rfl
theorem t64 : (Cond.instanceMethod ({ cls := "BeltSums$Belt", name := "<init>", desc := "()V" } : Jvm.MethodName)) ∈ tblG := tG 64 (by decide +kernel) rfl
theorem t65 : (Cond.code ({ cls := "BeltSums$Belt", name := "<init>", desc := "()V" } : Jvm.MethodName) prog_3_method_1_code (1 : Nat) (Option.none : Option Jvm.ClassFile.FieldType)) ∈ tblG := tG 65 (by decide +kernel) rfl
theorem t66 : (Cond.methodLink "BeltSums$Belt" (3 : Nat) ({ cls := "java/lang/Object", name := "<init>", desc := "()V" } : Jvm.MethodName)) ∈ tblG := tG 66 (by decide +kernel) rfl
theorem t67 : (Cond.fieldLink "BeltSums$Belt" (9 : Nat) "BeltSums$Belt" "masses" "[I") ∈ tblG := tG 67 (by decide +kernel) rfl
theorem t68 : (Cond.fieldLink "BeltSums$Belt" (19 : Nat) "BeltSums$Belt" "start" "I") ∈ tblG := tG 68 (by decide +kernel) rfl
theorem t69 : (Cond.fieldLink "BeltSums$Belt" (23 : Nat) "BeltSums$Belt" "total" "I") ∈ tblG := tG 69 (by decide +kernel) rfl
theorem t70 : (Cond.fieldLink "BeltSums$Plant" (123 : Nat) "BeltSums$Belt" "total" "I") ∈ tblG := tG 70 (by decide +kernel) rfl
theorem t71 : (Cond.fieldLink "BeltSums" (220 : Nat) "BeltSums$Belt" "total" "I") ∈ tblG := tG 71 (by decide +kernel) rfl
theorem t72 : (Cond.laysFinal "BeltSums$Belt" "BeltSums$Belt" "masses" "[I") ∈ tblG := tG 72 (by decide +kernel) rfl
theorem t74 : (Cond.lays "BeltSums$Belt" "BeltSums$Belt" "start" "I") ∈ tblG := tG 74 (by decide +kernel) rfl
theorem t76 : (Cond.lays "BeltSums$Belt" "BeltSums$Belt" "total" "I") ∈ tblG := tG 76 (by decide +kernel) rfl
theorem t79 : (Cond.classLink "BeltSums$Plant" (25 : Nat) "BeltSums$Bins") ∈ tblG := tG 79 (by decide +kernel) rfl
theorem t80 : (Cond.instantiable "BeltSums$Bins" (4 : Nat)) ∈ tblG := tG 80 (by decide +kernel) rfl
theorem t82 : (Cond.instanceMethod ({ cls := "BeltSums$Bins", name := "<init>", desc := "()V" } : Jvm.MethodName)) ∈ tblG := tG 82 (by decide +kernel) rfl
theorem t83 : (Cond.code ({ cls := "BeltSums$Bins", name := "<init>", desc := "()V" } : Jvm.MethodName) prog_4_method_1_code (1 : Nat) (Option.none : Option Jvm.ClassFile.FieldType)) ∈ tblG := tG 83 (by decide +kernel) rfl
theorem t84 : (Cond.methodLink "BeltSums$Bins" (3 : Nat) ({ cls := "java/lang/Object", name := "<init>", desc := "()V" } : Jvm.MethodName)) ∈ tblG := tG 84 (by decide +kernel) rfl
theorem t85 : (Cond.fieldLink "BeltSums$Bins" (9 : Nat) "BeltSums$Bins" "masses" "[I") ∈ tblG := tG 85 (by decide +kernel) rfl
theorem t86 : (Cond.fieldLink "BeltSums" (149 : Nat) "BeltSums$Bins" "masses" "[I") ∈ tblG := tG 86 (by decide +kernel) rfl
theorem t87 : (Cond.fieldLink "BeltSums$Bins" (15 : Nat) "BeltSums$Bins" "grown" "[I") ∈ tblG := tG 87 (by decide +kernel) rfl
theorem t88 : (Cond.fieldLink "BeltSums" (153 : Nat) "BeltSums$Bins" "grown" "[I") ∈ tblG := tG 88 (by decide +kernel) rfl
theorem t89 : (Cond.fieldLink "BeltSums$Plant" (206 : Nat) "BeltSums$Bins" "grown" "[I") ∈ tblG := tG 89 (by decide +kernel) rfl
theorem t90 : (Cond.fieldLink "BeltSums$Bins" (18 : Nat) "BeltSums$Bins" "ticksFilled" "[I") ∈ tblG := tG 90 (by decide +kernel) rfl
theorem t91 : (Cond.fieldLink "BeltSums" (157 : Nat) "BeltSums$Bins" "ticksFilled" "[I") ∈ tblG := tG 91 (by decide +kernel) rfl
theorem t92 : (Cond.fieldLink "BeltSums$Bins" (25 : Nat) "BeltSums$Bins" "many" "I") ∈ tblG := tG 92 (by decide +kernel) rfl
theorem t93 : (Cond.fieldLink "BeltSums$Plant" (120 : Nat) "BeltSums$Bins" "many" "I") ∈ tblG := tG 93 (by decide +kernel) rfl
theorem t94 : (Cond.fieldLink "BeltSums" (203 : Nat) "BeltSums$Bins" "many" "I") ∈ tblG := tG 94 (by decide +kernel) rfl
theorem t95 : (Cond.laysFinal "BeltSums$Bins" "BeltSums$Bins" "masses" "[I") ∈ tblG := tG 95 (by decide +kernel) rfl
theorem t97 : (Cond.laysFinal "BeltSums$Bins" "BeltSums$Bins" "grown" "[I") ∈ tblG := tG 97 (by decide +kernel) rfl
theorem t99 : (Cond.laysFinal "BeltSums$Bins" "BeltSums$Bins" "ticksFilled" "[I") ∈ tblG := tG 99 (by decide +kernel) rfl
theorem t101 : (Cond.lays "BeltSums$Bins" "BeltSums$Bins" "many" "I") ∈ tblG := tG 101 (by decide +kernel) rfl
theorem t104 : (Cond.classLink "BeltSums$Plant" (32 : Nat) "BeltSums$Scale") ∈ tblG := tG 104 (by decide +kernel) rfl
theorem t105 : (Cond.instantiable "BeltSums$Scale" (5 : Nat)) ∈ tblG := tG 105 (by decide +kernel) rfl
theorem t107 : (Cond.instanceMethod ({ cls := "BeltSums$Scale", name := "<init>", desc := "()V" } : Jvm.MethodName)) ∈ tblG := tG 107 (by decide +kernel) rfl
theorem t108 : (Cond.code ({ cls := "BeltSums$Scale", name := "<init>", desc := "()V" } : Jvm.MethodName) prog_10_method_1_code (1 : Nat) (Option.none : Option Jvm.ClassFile.FieldType)) ∈ tblG := tG 108 (by decide +kernel) rfl
theorem t109 : (Cond.methodLink "BeltSums$Scale" (3 : Nat) ({ cls := "java/lang/Object", name := "<init>", desc := "()V" } : Jvm.MethodName)) ∈ tblG := tG 109 (by decide +kernel) rfl
theorem t110 : (Cond.fieldLink "BeltSums$Scale" (15 : Nat) "BeltSums$Scale" "drift" "I") ∈ tblG := tG 110 (by decide +kernel) rfl
theorem t111 : (Cond.fieldLink "BeltSums$Plant" (130 : Nat) "BeltSums$Scale" "drift" "I") ∈ tblG := tG 111 (by decide +kernel) rfl
theorem t112 : (Cond.fieldLink "BeltSums" (173 : Nat) "BeltSums$Scale" "drift" "I") ∈ tblG := tG 112 (by decide +kernel) rfl
theorem t113 : (Cond.fieldLink "BeltSums$Scale" (18 : Nat) "BeltSums$Scale" "zero" "I") ∈ tblG := tG 113 (by decide +kernel) rfl
theorem t114 : (Cond.fieldLink "BeltSums$Plant" (199 : Nat) "BeltSums$Scale" "zero" "I") ∈ tblG := tG 114 (by decide +kernel) rfl
theorem t115 : (Cond.fieldLink "BeltSums" (176 : Nat) "BeltSums$Scale" "zero" "I") ∈ tblG := tG 115 (by decide +kernel) rfl
theorem t116 : (Cond.fieldLink "BeltSums$Scale" (21 : Nat) "BeltSums$Scale" "sum" "I") ∈ tblG := tG 116 (by decide +kernel) rfl
theorem t117 : (Cond.fieldLink "BeltSums" (179 : Nat) "BeltSums$Scale" "sum" "I") ∈ tblG := tG 117 (by decide +kernel) rfl
theorem t118 : (Cond.fieldLink "BeltSums$Scale" (24 : Nat) "BeltSums$Scale" "rest" "I") ∈ tblG := tG 118 (by decide +kernel) rfl
theorem t119 : (Cond.fieldLink "BeltSums$Scale" (9 : Nat) "BeltSums$Scale" "factor" "I") ∈ tblG := tG 119 (by decide +kernel) rfl
theorem t120 : (Cond.fieldLink "BeltSums$Plant" (212 : Nat) "BeltSums$Scale" "factor" "I") ∈ tblG := tG 120 (by decide +kernel) rfl
theorem t121 : (Cond.fieldLink "BeltSums" (185 : Nat) "BeltSums$Scale" "factor" "I") ∈ tblG := tG 121 (by decide +kernel) rfl
theorem t122 : (Cond.lays "BeltSums$Scale" "BeltSums$Scale" "drift" "I") ∈ tblG := tG 122 (by decide +kernel) rfl
theorem t124 : (Cond.lays "BeltSums$Scale" "BeltSums$Scale" "zero" "I") ∈ tblG := tG 124 (by decide +kernel) rfl
theorem t126 : (Cond.lays "BeltSums$Scale" "BeltSums$Scale" "sum" "I") ∈ tblG := tG 126 (by decide +kernel) rfl
theorem t128 : (Cond.lays "BeltSums$Scale" "BeltSums$Scale" "rest" "I") ∈ tblG := tG 128 (by decide +kernel) rfl
theorem t130 : (Cond.lays "BeltSums$Scale" "BeltSums$Scale" "factor" "I") ∈ tblG := tG 130 (by decide +kernel) rfl
theorem t133 : (Cond.classLink "BeltSums$Plant" (39 : Nat) "BeltSums$Accounts") ∈ tblG := tG 133 (by decide +kernel) rfl
theorem t134 : (Cond.instantiable "BeltSums$Accounts" (4 : Nat)) ∈ tblG := tG 134 (by decide +kernel) rfl
theorem t136 : (Cond.instanceMethod ({ cls := "BeltSums$Accounts", name := "<init>", desc := "()V" } : Jvm.MethodName)) ∈ tblG := tG 136 (by decide +kernel) rfl
theorem t137 : (Cond.code ({ cls := "BeltSums$Accounts", name := "<init>", desc := "()V" } : Jvm.MethodName) prog_2_method_1_code (1 : Nat) (Option.none : Option Jvm.ClassFile.FieldType)) ∈ tblG := tG 137 (by decide +kernel) rfl
theorem t138 : (Cond.methodLink "BeltSums$Accounts" (3 : Nat) ({ cls := "java/lang/Object", name := "<init>", desc := "()V" } : Jvm.MethodName)) ∈ tblG := tG 138 (by decide +kernel) rfl
theorem t139 : (Cond.fieldLink "BeltSums$Accounts" (9 : Nat) "BeltSums$Accounts" "within" "[I") ∈ tblG := tG 139 (by decide +kernel) rfl
theorem t140 : (Cond.fieldLink "BeltSums" (95 : Nat) "BeltSums$Accounts" "within" "[I") ∈ tblG := tG 140 (by decide +kernel) rfl
theorem t141 : (Cond.fieldLink "BeltSums$Accounts" (15 : Nat) "BeltSums$Accounts" "own" "[I") ∈ tblG := tG 141 (by decide +kernel) rfl
theorem t142 : (Cond.fieldLink "BeltSums" (99 : Nat) "BeltSums$Accounts" "own" "[I") ∈ tblG := tG 142 (by decide +kernel) rfl
theorem t143 : (Cond.fieldLink "BeltSums$Accounts" (18 : Nat) "BeltSums$Accounts" "assigned" "[I") ∈ tblG := tG 143 (by decide +kernel) rfl
theorem t144 : (Cond.fieldLink "BeltSums" (194 : Nat) "BeltSums$Accounts" "assigned" "[I") ∈ tblG := tG 144 (by decide +kernel) rfl
theorem t145 : (Cond.fieldLink "BeltSums$Accounts" (21 : Nat) "BeltSums$Accounts" "many" "I") ∈ tblG := tG 145 (by decide +kernel) rfl
theorem t146 : (Cond.fieldLink "BeltSums" (235 : Nat) "BeltSums$Accounts" "many" "I") ∈ tblG := tG 146 (by decide +kernel) rfl
theorem t147 : (Cond.laysFinal "BeltSums$Accounts" "BeltSums$Accounts" "within" "[I") ∈ tblG := tG 147 (by decide +kernel) rfl
theorem t149 : (Cond.laysFinal "BeltSums$Accounts" "BeltSums$Accounts" "own" "[I") ∈ tblG := tG 149 (by decide +kernel) rfl
theorem t151 : (Cond.laysFinal "BeltSums$Accounts" "BeltSums$Accounts" "assigned" "[I") ∈ tblG := tG 151 (by decide +kernel) rfl
theorem t153 : (Cond.lays "BeltSums$Accounts" "BeltSums$Accounts" "many" "I") ∈ tblG := tG 153 (by decide +kernel) rfl
theorem t159 : (Cond.static ({ cls := "BeltSums", name := "copyInto", desc := "([I[I)V" } : Jvm.MethodName)) ∈ tblG := tG 159 (by decide +kernel) rfl
theorem t160 : (Cond.code ({ cls := "BeltSums", name := "copyInto", desc := "([I[I)V" } : Jvm.MethodName) prog_1_method_31_code (2 : Nat) (Option.none : Option Jvm.ClassFile.FieldType)) ∈ tblG := tG 160 (by decide +kernel) rfl
theorem t161 : (Cond.methodLink "BeltSums" (285 : Nat) ({ cls := "java/lang/Math", name := "min", desc := "(II)I" } : Jvm.MethodName)) ∈ tblG := tG 161 (by decide +kernel) rfl
theorem t162 : (Cond.static ({ cls := "java/lang/Math", name := "min", desc := "(II)I" } : Jvm.MethodName)) ∈ tblG := tG 162 (by decide +kernel) rfl
theorem t163 : (Cond.code ({ cls := "java/lang/Math", name := "min", desc := "(II)I" } : Jvm.MethodName) prog_14_method_69_code (2 : Nat) (Option.some Jvm.ClassFile.FieldType.int)) ∈ tblG := tG 163 (by decide +kernel) rfl
theorem t164 : (Cond.methodLink "BeltSums" (290 : Nat) ({ cls := "java/lang/System", name := "arraycopy", desc := "(Ljava/lang/Object;ILjava/lang/Object;II)V" } : Jvm.MethodName)) ∈ tblG := tG 164 (by decide +kernel) rfl
theorem t165 : (Cond.static ({ cls := "java/lang/System", name := "arraycopy", desc := "(Ljava/lang/Object;ILjava/lang/Object;II)V" } : Jvm.MethodName)) ∈ tblG := tG 165 (by decide +kernel) rfl
theorem t166 : (Cond.native ({ cls := "java/lang/System", name := "arraycopy", desc := "(Ljava/lang/Object;ILjava/lang/Object;II)V" } : Jvm.MethodName)) ∈ tblG := tG 166 (by decide +kernel) rfl
theorem t167 : (Cond.fieldLink "BeltSums$Plant" (12 : Nat) "BeltSums$Plant" "hopper" "LBeltSums$Hopper;") ∈ tblG := tG 167 (by decide +kernel) rfl
theorem t168 : (Cond.fieldLink "BeltSums" (123 : Nat) "BeltSums$Plant" "hopper" "LBeltSums$Hopper;") ∈ tblG := tG 168 (by decide +kernel) rfl
theorem t169 : (Cond.fieldLink "BeltSums$Plant" (21 : Nat) "BeltSums$Plant" "belt" "LBeltSums$Belt;") ∈ tblG := tG 169 (by decide +kernel) rfl
theorem t170 : (Cond.fieldLink "BeltSums" (111 : Nat) "BeltSums$Plant" "belt" "LBeltSums$Belt;") ∈ tblG := tG 170 (by decide +kernel) rfl
theorem t171 : (Cond.fieldLink "BeltSums$Plant" (28 : Nat) "BeltSums$Plant" "bins" "LBeltSums$Bins;") ∈ tblG := tG 171 (by decide +kernel) rfl
theorem t172 : (Cond.fieldLink "BeltSums" (139 : Nat) "BeltSums$Plant" "bins" "LBeltSums$Bins;") ∈ tblG := tG 172 (by decide +kernel) rfl
theorem t173 : (Cond.fieldLink "BeltSums$Plant" (35 : Nat) "BeltSums$Plant" "scale" "LBeltSums$Scale;") ∈ tblG := tG 173 (by decide +kernel) rfl
theorem t174 : (Cond.fieldLink "BeltSums" (160 : Nat) "BeltSums$Plant" "scale" "LBeltSums$Scale;") ∈ tblG := tG 174 (by decide +kernel) rfl
theorem t175 : (Cond.fieldLink "BeltSums$Plant" (42 : Nat) "BeltSums$Plant" "accounts" "LBeltSums$Accounts;") ∈ tblG := tG 175 (by decide +kernel) rfl
theorem t176 : (Cond.fieldLink "BeltSums" (77 : Nat) "BeltSums$Plant" "accounts" "LBeltSums$Accounts;") ∈ tblG := tG 176 (by decide +kernel) rfl
theorem t177 : (Cond.fieldLink "BeltSums$Plant" (46 : Nat) "BeltSums$Plant" "settings" "[I") ∈ tblG := tG 177 (by decide +kernel) rfl
theorem t178 : (Cond.fieldLink "BeltSums" (191 : Nat) "BeltSums$Plant" "settings" "[I") ∈ tblG := tG 178 (by decide +kernel) rfl
theorem t179 : (Cond.fieldLink "BeltSums$Plant" (50 : Nat) "BeltSums$Plant" "gateWidth" "I") ∈ tblG := tG 179 (by decide +kernel) rfl
theorem t180 : (Cond.fieldLink "BeltSums" (197 : Nat) "BeltSums$Plant" "gateWidth" "I") ∈ tblG := tG 180 (by decide +kernel) rfl
theorem t181 : (Cond.fieldLink "BeltSums$Plant" (77 : Nat) "BeltSums$Plant" "switchedOn" "I") ∈ tblG := tG 181 (by decide +kernel) rfl
theorem t182 : (Cond.fieldLink "BeltSums" (200 : Nat) "BeltSums$Plant" "switchedOn" "I") ∈ tblG := tG 182 (by decide +kernel) rfl
theorem t183 : (Cond.fieldLink "BeltSums$Plant" (80 : Nat) "BeltSums$Plant" "batchMass" "I") ∈ tblG := tG 183 (by decide +kernel) rfl
theorem t184 : (Cond.fieldLink "BeltSums" (210 : Nat) "BeltSums$Plant" "batchMass" "I") ∈ tblG := tG 184 (by decide +kernel) rfl
theorem t185 : (Cond.fieldLink "BeltSums$Plant" (83 : Nat) "BeltSums$Plant" "batchStopped" "Z") ∈ tblG := tG 185 (by decide +kernel) rfl
theorem t186 : (Cond.fieldLink "BeltSums" (213 : Nat) "BeltSums$Plant" "batchStopped" "Z") ∈ tblG := tG 186 (by decide +kernel) rfl
theorem t187 : (Cond.fieldLink "BeltSums$Plant" (87 : Nat) "BeltSums$Plant" "cameInBatch" "I") ∈ tblG := tG 187 (by decide +kernel) rfl
theorem t188 : (Cond.fieldLink "BeltSums$Plant" (90 : Nat) "BeltSums$Plant" "time" "I") ∈ tblG := tG 188 (by decide +kernel) rfl
theorem t189 : (Cond.fieldLink "BeltSums" (217 : Nat) "BeltSums$Plant" "time" "I") ∈ tblG := tG 189 (by decide +kernel) rfl
theorem t190 : (Cond.fieldLink "BeltSums$Plant" (93 : Nat) "BeltSums$Plant" "ticksStood" "I") ∈ tblG := tG 190 (by decide +kernel) rfl
theorem t191 : (Cond.fieldLink "BeltSums" (188 : Nat) "BeltSums$Plant" "ticksStood" "I") ∈ tblG := tG 191 (by decide +kernel) rfl
theorem t192 : (Cond.fieldLink "BeltSums$Plant" (96 : Nat) "BeltSums$Plant" "spilt" "I") ∈ tblG := tG 192 (by decide +kernel) rfl
theorem t193 : (Cond.fieldLink "BeltSums" (232 : Nat) "BeltSums$Plant" "spilt" "I") ∈ tblG := tG 193 (by decide +kernel) rfl
theorem t194 : (Cond.fieldLink "BeltSums$Plant" (99 : Nat) "BeltSums$Plant" "fallen" "I") ∈ tblG := tG 194 (by decide +kernel) rfl
theorem t195 : (Cond.fieldLink "BeltSums" (249 : Nat) "BeltSums$Plant" "fallen" "I") ∈ tblG := tG 195 (by decide +kernel) rfl
theorem t196 : (Cond.laysFinal "BeltSums$Plant" "BeltSums$Plant" "hopper" "LBeltSums$Hopper;") ∈ tblG := tG 196 (by decide +kernel) rfl
theorem t198 : (Cond.laysFinal "BeltSums$Plant" "BeltSums$Plant" "belt" "LBeltSums$Belt;") ∈ tblG := tG 198 (by decide +kernel) rfl
theorem t200 : (Cond.laysFinal "BeltSums$Plant" "BeltSums$Plant" "bins" "LBeltSums$Bins;") ∈ tblG := tG 200 (by decide +kernel) rfl
theorem t202 : (Cond.laysFinal "BeltSums$Plant" "BeltSums$Plant" "scale" "LBeltSums$Scale;") ∈ tblG := tG 202 (by decide +kernel) rfl
theorem t204 : (Cond.laysFinal "BeltSums$Plant" "BeltSums$Plant" "accounts" "LBeltSums$Accounts;") ∈ tblG := tG 204 (by decide +kernel) rfl
theorem t206 : (Cond.laysFinal "BeltSums$Plant" "BeltSums$Plant" "settings" "[I") ∈ tblG := tG 206 (by decide +kernel) rfl
theorem t208 : (Cond.lays "BeltSums$Plant" "BeltSums$Plant" "gateWidth" "I") ∈ tblG := tG 208 (by decide +kernel) rfl
theorem t210 : (Cond.lays "BeltSums$Plant" "BeltSums$Plant" "switchedOn" "I") ∈ tblG := tG 210 (by decide +kernel) rfl
theorem t212 : (Cond.lays "BeltSums$Plant" "BeltSums$Plant" "batchMass" "I") ∈ tblG := tG 212 (by decide +kernel) rfl
theorem t214 : (Cond.lays "BeltSums$Plant" "BeltSums$Plant" "batchStopped" "Z") ∈ tblG := tG 214 (by decide +kernel) rfl
theorem t216 : (Cond.lays "BeltSums$Plant" "BeltSums$Plant" "cameInBatch" "I") ∈ tblG := tG 216 (by decide +kernel) rfl
theorem t218 : (Cond.lays "BeltSums$Plant" "BeltSums$Plant" "time" "I") ∈ tblG := tG 218 (by decide +kernel) rfl
theorem t220 : (Cond.lays "BeltSums$Plant" "BeltSums$Plant" "ticksStood" "I") ∈ tblG := tG 220 (by decide +kernel) rfl
theorem t222 : (Cond.lays "BeltSums$Plant" "BeltSums$Plant" "spilt" "I") ∈ tblG := tG 222 (by decide +kernel) rfl
theorem t224 : (Cond.lays "BeltSums$Plant" "BeltSums$Plant" "fallen" "I") ∈ tblG := tG 224 (by decide +kernel) rfl
theorem t227 : (Cond.classLink "BeltSums" (19 : Nat) "BeltSums$History") ∈ tblG := tG 227 (by decide +kernel) rfl
theorem t228 : (Cond.instantiable "BeltSums$History" (5 : Nat)) ∈ tblG := tG 228 (by decide +kernel) rfl
theorem t230 : (Cond.instanceMethod ({ cls := "BeltSums$History", name := "<init>", desc := "()V" } : Jvm.MethodName)) ∈ tblG := tG 230 (by decide +kernel) rfl
theorem t231 : (Cond.code ({ cls := "BeltSums$History", name := "<init>", desc := "()V" } : Jvm.MethodName) prog_6_method_1_code (1 : Nat) (Option.none : Option Jvm.ClassFile.FieldType)) ∈ tblG := tG 231 (by decide +kernel) rfl
theorem t232 : (Cond.methodLink "BeltSums$History" (3 : Nat) ({ cls := "java/lang/Object", name := "<init>", desc := "()V" } : Jvm.MethodName)) ∈ tblG := tG 232 (by decide +kernel) rfl
theorem t233 : (Cond.classLink "BeltSums$History" (9 : Nat) "BeltSums$Plant") ∈ tblG := tG 233 (by decide +kernel) rfl
theorem t234 : (Cond.methodLink "BeltSums$History" (11 : Nat) ({ cls := "BeltSums$Plant", name := "<init>", desc := "()V" } : Jvm.MethodName)) ∈ tblG := tG 234 (by decide +kernel) rfl
theorem t235 : (Cond.fieldLink "BeltSums$History" (12 : Nat) "BeltSums$History" "latest" "LBeltSums$Plant;") ∈ tblG := tG 235 (by decide +kernel) rfl
theorem t236 : (Cond.fieldLink "BeltSums$History" (18 : Nat) "BeltSums$History" "second" "LBeltSums$Plant;") ∈ tblG := tG 236 (by decide +kernel) rfl
theorem t237 : (Cond.fieldLink "BeltSums$History" (21 : Nat) "BeltSums$History" "third" "LBeltSums$Plant;") ∈ tblG := tG 237 (by decide +kernel) rfl
theorem t238 : (Cond.fieldLink "BeltSums$History" (24 : Nat) "BeltSums$History" "oldest" "LBeltSums$Plant;") ∈ tblG := tG 238 (by decide +kernel) rfl
theorem t239 : (Cond.fieldLink "BeltSums$History" (31 : Nat) "BeltSums$History" "states" "I") ∈ tblG := tG 239 (by decide +kernel) rfl
theorem t240 : (Cond.fieldLink "BeltSums" (236 : Nat) "BeltSums$History" "states" "I") ∈ tblG := tG 240 (by decide +kernel) rfl
theorem t241 : (Cond.lays "BeltSums$History" "BeltSums$History" "latest" "LBeltSums$Plant;") ∈ tblG := tG 241 (by decide +kernel) rfl
theorem t243 : (Cond.lays "BeltSums$History" "BeltSums$History" "second" "LBeltSums$Plant;") ∈ tblG := tG 243 (by decide +kernel) rfl
theorem t245 : (Cond.lays "BeltSums$History" "BeltSums$History" "third" "LBeltSums$Plant;") ∈ tblG := tG 245 (by decide +kernel) rfl
theorem t247 : (Cond.lays "BeltSums$History" "BeltSums$History" "oldest" "LBeltSums$Plant;") ∈ tblG := tG 247 (by decide +kernel) rfl
theorem t249 : (Cond.lays "BeltSums$History" "BeltSums$History" "states" "I") ∈ tblG := tG 249 (by decide +kernel) rfl
theorem t252 : (Cond.classLink "BeltSums" (26 : Nat) "BeltSums$Text") ∈ tblG := tG 252 (by decide +kernel) rfl
theorem t253 : (Cond.instantiable "BeltSums$Text" (2 : Nat)) ∈ tblG := tG 253 (by decide +kernel) rfl
theorem t255 : (Cond.instanceMethod ({ cls := "BeltSums$Text", name := "<init>", desc := "()V" } : Jvm.MethodName)) ∈ tblG := tG 255 (by decide +kernel) rfl
theorem t256 : (Cond.code ({ cls := "BeltSums$Text", name := "<init>", desc := "()V" } : Jvm.MethodName) prog_11_method_1_code (1 : Nat) (Option.none : Option Jvm.ClassFile.FieldType)) ∈ tblG := tG 256 (by decide +kernel) rfl
theorem t257 : (Cond.methodLink "BeltSums$Text" (3 : Nat) ({ cls := "java/lang/Object", name := "<init>", desc := "()V" } : Jvm.MethodName)) ∈ tblG := tG 257 (by decide +kernel) rfl
theorem t258 : (Cond.fieldLink "BeltSums$Text" (9 : Nat) "BeltSums$Text" "characters" "[C") ∈ tblG := tG 258 (by decide +kernel) rfl
theorem t259 : (Cond.fieldLink "BeltSums" (239 : Nat) "BeltSums$Text" "length" "I") ∈ tblG := tG 259 (by decide +kernel) rfl
theorem t260 : (Cond.laysFinal "BeltSums$Text" "BeltSums$Text" "characters" "[C") ∈ tblG := tG 260 (by decide +kernel) rfl
theorem t262 : (Cond.lays "BeltSums$Text" "BeltSums$Text" "length" "I") ∈ tblG := tG 262 (by decide +kernel) rfl
theorem t265 : (Cond.arrayClass Jvm.ClassFile.FieldType.char) ∈ tblG := tG 265 (by decide +kernel) rfl
theorem t266 : (Cond.classLink "BeltSums" (33 : Nat) "BeltSums$Rehearsal") ∈ tblG := tG 266 (by decide +kernel) rfl
theorem t267 : (Cond.instantiable "BeltSums$Rehearsal" (5 : Nat)) ∈ tblG := tG 267 (by decide +kernel) rfl
theorem t269 : (Cond.instanceMethod ({ cls := "BeltSums$Rehearsal", name := "<init>", desc := "()V" } : Jvm.MethodName)) ∈ tblG := tG 269 (by decide +kernel) rfl
theorem t270 : (Cond.code ({ cls := "BeltSums$Rehearsal", name := "<init>", desc := "()V" } : Jvm.MethodName) prog_9_method_1_code (1 : Nat) (Option.none : Option Jvm.ClassFile.FieldType)) ∈ tblG := tG 270 (by decide +kernel) rfl
theorem t271 : (Cond.methodLink "BeltSums$Rehearsal" (3 : Nat) ({ cls := "java/lang/Object", name := "<init>", desc := "()V" } : Jvm.MethodName)) ∈ tblG := tG 271 (by decide +kernel) rfl
theorem t272 : (Cond.classLink "BeltSums$Rehearsal" (9 : Nat) "BeltSums$Command") ∈ tblG := tG 272 (by decide +kernel) rfl
theorem t273 : (Cond.instantiable "BeltSums$Command" (4 : Nat)) ∈ tblG := tG 273 (by decide +kernel) rfl
theorem t275 : (Cond.instanceMethod ({ cls := "BeltSums$Command", name := "<init>", desc := "()V" } : Jvm.MethodName)) ∈ tblG := tG 275 (by decide +kernel) rfl
theorem t276 : (Cond.code ({ cls := "BeltSums$Command", name := "<init>", desc := "()V" } : Jvm.MethodName) prog_5_method_1_code (1 : Nat) (Option.none : Option Jvm.ClassFile.FieldType)) ∈ tblG := tG 276 (by decide +kernel) rfl
theorem t277 : (Cond.methodLink "BeltSums$Command" (3 : Nat) ({ cls := "java/lang/Object", name := "<init>", desc := "()V" } : Jvm.MethodName)) ∈ tblG := tG 277 (by decide +kernel) rfl
theorem t278 : (Cond.lays "BeltSums$Command" "BeltSums$Command" "letter" "I") ∈ tblG := tG 278 (by decide +kernel) rfl
theorem t280 : (Cond.lays "BeltSums$Command" "BeltSums$Command" "first" "I") ∈ tblG := tG 280 (by decide +kernel) rfl
theorem t282 : (Cond.lays "BeltSums$Command" "BeltSums$Command" "second" "I") ∈ tblG := tG 282 (by decide +kernel) rfl
theorem t284 : (Cond.lays "BeltSums$Command" "BeltSums$Command" "end" "I") ∈ tblG := tG 284 (by decide +kernel) rfl
theorem t287 : (Cond.fieldLink "BeltSums$Rehearsal" (12 : Nat) "BeltSums$Rehearsal" "command" "LBeltSums$Command;") ∈ tblG := tG 287 (by decide +kernel) rfl
theorem t288 : (Cond.laysFinal "BeltSums$Rehearsal" "BeltSums$Rehearsal" "command" "LBeltSums$Command;") ∈ tblG := tG 288 (by decide +kernel) rfl
theorem t290 : (Cond.lays "BeltSums$Rehearsal" "BeltSums$Rehearsal" "position" "I") ∈ tblG := tG 290 (by decide +kernel) rfl
theorem t292 : (Cond.lays "BeltSums$Rehearsal" "BeltSums$Rehearsal" "reason" "I") ∈ tblG := tG 292 (by decide +kernel) rfl
theorem t294 : (Cond.lays "BeltSums$Rehearsal" "BeltSums$Rehearsal" "cause" "I") ∈ tblG := tG 294 (by decide +kernel) rfl
theorem t296 : (Cond.lays "BeltSums$Rehearsal" "BeltSums$Rehearsal" "done" "I") ∈ tblG := tG 296 (by decide +kernel) rfl
theorem t299 : (Cond.fieldLink "BeltSums" (10 : Nat) "BeltSums" "now" "LBeltSums$Plant;") ∈ tblG := tG 299 (by decide +kernel) rfl
theorem t300 : (Cond.fieldLink "BeltSums" (16 : Nat) "BeltSums" "spare" "LBeltSums$Plant;") ∈ tblG := tG 300 (by decide +kernel) rfl
theorem t301 : (Cond.fieldLink "BeltSums" (22 : Nat) "BeltSums" "history" "LBeltSums$History;") ∈ tblG := tG 301 (by decide +kernel) rfl
theorem t302 : (Cond.fieldLink "BeltSums" (29 : Nat) "BeltSums" "text" "LBeltSums$Text;") ∈ tblG := tG 302 (by decide +kernel) rfl
theorem t303 : (Cond.fieldLink "BeltSums" (36 : Nat) "BeltSums" "rehearsal" "LBeltSums$Rehearsal;") ∈ tblG := tG 303 (by decide +kernel) rfl
theorem t304 : (Cond.laysFinal "BeltSums" "BeltSums" "now" "LBeltSums$Plant;") ∈ tblG := tG 304 (by decide +kernel) rfl
theorem t306 : (Cond.laysFinal "BeltSums" "BeltSums" "spare" "LBeltSums$Plant;") ∈ tblG := tG 306 (by decide +kernel) rfl
theorem t308 : (Cond.laysFinal "BeltSums" "BeltSums" "history" "LBeltSums$History;") ∈ tblG := tG 308 (by decide +kernel) rfl
theorem t310 : (Cond.laysFinal "BeltSums" "BeltSums" "text" "LBeltSums$Text;") ∈ tblG := tG 310 (by decide +kernel) rfl
theorem t312 : (Cond.laysFinal "BeltSums" "BeltSums" "rehearsal" "LBeltSums$Rehearsal;") ∈ tblG := tG 312 (by decide +kernel) rfl
theorem t315 : (Cond.methodLink "BeltSumsLaw" (88 : Nat) ({ cls := "BeltSums", name := "massAt", desc := "(II)I" } : Jvm.MethodName)) ∈ tblG := tG 315 (by decide +kernel) rfl
theorem t316 : (Cond.instanceMethod ({ cls := "BeltSums", name := "massAt", desc := "(II)I" } : Jvm.MethodName)) ∈ tblG := tG 316 (by decide +kernel) rfl
theorem t317 : (Cond.selects "BeltSums" ({ cls := "BeltSums", name := "massAt", desc := "(II)I" } : Jvm.MethodName) ({ cls := "BeltSums", name := "massAt", desc := "(II)I" } : Jvm.MethodName)) ∈ tblG := tG 317 (by decide +kernel) rfl
theorem t318 : (Cond.code ({ cls := "BeltSums", name := "massAt", desc := "(II)I" } : Jvm.MethodName) prog_1_method_14_code (3 : Nat) (Option.some Jvm.ClassFile.FieldType.int)) ∈ tblG := tG 318 (by decide +kernel) rfl
theorem t319 : (Cond.constant "BeltSums" (93 : Nat) (-1000001 : Int32)) ∈ tblG := tG 319 (by decide +kernel) rfl
theorem t320 : (Cond.methodLink "BeltSums" (115 : Nat) ({ cls := "BeltSums$Belt", name := "massOfPlace", desc := "(I)I" } : Jvm.MethodName)) ∈ tblG := tG 320 (by decide +kernel) rfl
theorem t321 : (Cond.instanceMethod ({ cls := "BeltSums$Belt", name := "massOfPlace", desc := "(I)I" } : Jvm.MethodName)) ∈ tblG := tG 321 (by decide +kernel) rfl
theorem t322 : (Cond.selects "BeltSums$Belt" ({ cls := "BeltSums$Belt", name := "massOfPlace", desc := "(I)I" } : Jvm.MethodName) ({ cls := "BeltSums$Belt", name := "massOfPlace", desc := "(I)I" } : Jvm.MethodName)) ∈ tblG := tG 322 (by decide +kernel) rfl
theorem t323 : (Cond.code ({ cls := "BeltSums$Belt", name := "massOfPlace", desc := "(I)I" } : Jvm.MethodName) prog_3_method_7_code (5 : Nat) (Option.some Jvm.ClassFile.FieldType.int)) ∈ tblG := tG 323 (by decide +kernel) rfl
theorem t324 : (Cond.methodLink "BeltSums" (120 : Nat) ({ cls := "BeltSums$Belt", name := "mass", desc := "(II)I" } : Jvm.MethodName)) ∈ tblG := tG 324 (by decide +kernel) rfl
theorem t325 : (Cond.instanceMethod ({ cls := "BeltSums$Belt", name := "mass", desc := "(II)I" } : Jvm.MethodName)) ∈ tblG := tG 325 (by decide +kernel) rfl
theorem t326 : (Cond.selects "BeltSums$Belt" ({ cls := "BeltSums$Belt", name := "mass", desc := "(II)I" } : Jvm.MethodName) ({ cls := "BeltSums$Belt", name := "mass", desc := "(II)I" } : Jvm.MethodName)) ∈ tblG := tG 326 (by decide +kernel) rfl
theorem t327 : (Cond.code ({ cls := "BeltSums$Belt", name := "mass", desc := "(II)I" } : Jvm.MethodName) prog_3_method_3_code (3 : Nat) (Option.some Jvm.ClassFile.FieldType.int)) ∈ tblG := tG 327 (by decide +kernel) rfl
theorem t328 : (Cond.methodLink "BeltSumsLaw" (91 : Nat) ({ cls := "BeltSums", name := "lotOf", desc := "(II)I" } : Jvm.MethodName)) ∈ tblG := tG 328 (by decide +kernel) rfl
theorem t329 : (Cond.instanceMethod ({ cls := "BeltSums", name := "lotOf", desc := "(II)I" } : Jvm.MethodName)) ∈ tblG := tG 329 (by decide +kernel) rfl
theorem t330 : (Cond.selects "BeltSums" ({ cls := "BeltSums", name := "lotOf", desc := "(II)I" } : Jvm.MethodName) ({ cls := "BeltSums", name := "lotOf", desc := "(II)I" } : Jvm.MethodName)) ∈ tblG := tG 330 (by decide +kernel) rfl
theorem t331 : (Cond.code ({ cls := "BeltSums", name := "lotOf", desc := "(II)I" } : Jvm.MethodName) prog_1_method_15_code (3 : Nat) (Option.some Jvm.ClassFile.FieldType.int)) ∈ tblG := tG 331 (by decide +kernel) rfl
theorem t332 : (Cond.constant "BeltSums" (94 : Nat) (-1000004 : Int32)) ∈ tblG := tG 332 (by decide +kernel) rfl
theorem t333 : (Cond.methodLink "BeltSumsLaw" (98 : Nat) ({ cls := "BeltSums", name := "count", desc := "(I)I" } : Jvm.MethodName)) ∈ tblG := tG 333 (by decide +kernel) rfl
theorem t334 : (Cond.instanceMethod ({ cls := "BeltSums", name := "count", desc := "(I)I" } : Jvm.MethodName)) ∈ tblG := tG 334 (by decide +kernel) rfl
theorem t335 : (Cond.selects "BeltSums" ({ cls := "BeltSums", name := "count", desc := "(I)I" } : Jvm.MethodName) ({ cls := "BeltSums", name := "count", desc := "(I)I" } : Jvm.MethodName)) ∈ tblG := tG 335 (by decide +kernel) rfl
theorem t336 : (Cond.code ({ cls := "BeltSums", name := "count", desc := "(I)I" } : Jvm.MethodName) prog_1_method_18_code (3 : Nat) (Option.some Jvm.ClassFile.FieldType.int)) ∈ tblG := tG 336 (by decide +kernel) rfl
theorem t337 : (Cond.methodLink "BeltSums" (146 : Nat) ({ cls := "BeltSums", name := "isKind", desc := "(I)Z" } : Jvm.MethodName)) ∈ tblG := tG 337 (by decide +kernel) rfl
theorem t338 : (Cond.static ({ cls := "BeltSums", name := "isKind", desc := "(I)Z" } : Jvm.MethodName)) ∈ tblG := tG 338 (by decide +kernel) rfl
theorem t339 : (Cond.code ({ cls := "BeltSums", name := "isKind", desc := "(I)Z" } : Jvm.MethodName) prog_1_method_30_code (1 : Nat) (Option.some Jvm.ClassFile.FieldType.boolean)) ∈ tblG := tG 339 (by decide +kernel) rfl
theorem t340 : (Cond.methodLink "BeltSums" (206 : Nat) ({ cls := "BeltSums$Plant", name := "hasBatch", desc := "()Z" } : Jvm.MethodName)) ∈ tblG := tG 340 (by decide +kernel) rfl
theorem t341 : (Cond.instanceMethod ({ cls := "BeltSums$Plant", name := "hasBatch", desc := "()Z" } : Jvm.MethodName)) ∈ tblG := tG 341 (by decide +kernel) rfl
theorem t342 : (Cond.selects "BeltSums$Plant" ({ cls := "BeltSums$Plant", name := "hasBatch", desc := "()Z" } : Jvm.MethodName) ({ cls := "BeltSums$Plant", name := "hasBatch", desc := "()Z" } : Jvm.MethodName)) ∈ tblG := tG 342 (by decide +kernel) rfl
theorem t343 : (Cond.code ({ cls := "BeltSums$Plant", name := "hasBatch", desc := "()Z" } : Jvm.MethodName) prog_8_method_3_code (1 : Nat) (Option.some Jvm.ClassFile.FieldType.boolean)) ∈ tblG := tG 343 (by decide +kernel) rfl
theorem t344 : (Cond.methodLink "BeltSums" (223 : Nat) ({ cls := "BeltSums$Hopper", name := "massInside", desc := "()I" } : Jvm.MethodName)) ∈ tblG := tG 344 (by decide +kernel) rfl
theorem t345 : (Cond.instanceMethod ({ cls := "BeltSums$Hopper", name := "massInside", desc := "()I" } : Jvm.MethodName)) ∈ tblG := tG 345 (by decide +kernel) rfl
theorem t346 : (Cond.selects "BeltSums$Hopper" ({ cls := "BeltSums$Hopper", name := "massInside", desc := "()I" } : Jvm.MethodName) ({ cls := "BeltSums$Hopper", name := "massInside", desc := "()I" } : Jvm.MethodName)) ∈ tblG := tG 346 (by decide +kernel) rfl
theorem t347 : (Cond.code ({ cls := "BeltSums$Hopper", name := "massInside", desc := "()I" } : Jvm.MethodName) prog_7_method_5_code (3 : Nat) (Option.some Jvm.ClassFile.FieldType.int)) ∈ tblG := tG 347 (by decide +kernel) rfl
theorem t348 : (Cond.methodLink "BeltSums" (229 : Nat) ({ cls := "BeltSums$Bins", name := "massOfAll", desc := "()I" } : Jvm.MethodName)) ∈ tblG := tG 348 (by decide +kernel) rfl
theorem t349 : (Cond.instanceMethod ({ cls := "BeltSums$Bins", name := "massOfAll", desc := "()I" } : Jvm.MethodName)) ∈ tblG := tG 349 (by decide +kernel) rfl
theorem t350 : (Cond.selects "BeltSums$Bins" ({ cls := "BeltSums$Bins", name := "massOfAll", desc := "()I" } : Jvm.MethodName) ({ cls := "BeltSums$Bins", name := "massOfAll", desc := "()I" } : Jvm.MethodName)) ∈ tblG := tG 350 (by decide +kernel) rfl
theorem t351 : (Cond.code ({ cls := "BeltSums$Bins", name := "massOfAll", desc := "()I" } : Jvm.MethodName) prog_4_method_9_code (3 : Nat) (Option.some Jvm.ClassFile.FieldType.int)) ∈ tblG := tG 351 (by decide +kernel) rfl
theorem t352 : (Cond.methodLink "BeltSumsLaw" (114 : Nat) ({ cls := "BeltSumsLaw", name := "cell", desc := "([II)I" } : Jvm.MethodName)) ∈ tblG := tG 352 (by decide +kernel) rfl
theorem t353 : (Cond.static ({ cls := "BeltSumsLaw", name := "cell", desc := "([II)I" } : Jvm.MethodName)) ∈ tblG := tG 353 (by decide +kernel) rfl
theorem t354 : (Cond.code ({ cls := "BeltSumsLaw", name := "cell", desc := "([II)I" } : Jvm.MethodName) method_2_code (2 : Nat) (Option.some Jvm.ClassFile.FieldType.int)) ∈ tblG := tG 354 (by decide +kernel) rfl
theorem t355 : (Cond.constant "BeltSumsLaw" (7 : Nat) (40503 : Int32)) ∈ tblG := tG 355 (by decide +kernel) rfl
theorem t356 : (Cond.methodLink "BeltSumsLaw" (41 : Nat) ({ cls := "BeltSumsLaw", name := "low", desc := "(II)I" } : Jvm.MethodName)) ∈ tblG := tG 356 (by decide +kernel) rfl
theorem t357 : (Cond.static ({ cls := "BeltSumsLaw", name := "low", desc := "(II)I" } : Jvm.MethodName)) ∈ tblG := tG 357 (by decide +kernel) rfl
theorem t358 : (Cond.code ({ cls := "BeltSumsLaw", name := "low", desc := "(II)I" } : Jvm.MethodName) method_3_code (2 : Nat) (Option.some Jvm.ClassFile.FieldType.int)) ∈ tblG := tG 358 (by decide +kernel) rfl
theorem t359 : (Cond.constant "BeltSumsLaw" (8 : Nat) (2147483647 : Int32)) ∈ tblG := tG 359 (by decide +kernel) rfl
theorem t360 : (Cond.methodLink "BeltSumsLaw" (118 : Nat) ({ cls := "BeltSumsLaw", name := "acts", desc := "(LBeltSums;[I[I[I[I[II)Z" } : Jvm.MethodName)) ∈ tblG := tG 360 (by decide +kernel) rfl
theorem t361 : (Cond.static ({ cls := "BeltSumsLaw", name := "acts", desc := "(LBeltSums;[I[I[I[I[II)Z" } : Jvm.MethodName)) ∈ tblG := tG 361 (by decide +kernel) rfl
theorem t363 : (Cond.constant "BeltSumsLaw" (40 : Nat) (10000000 : Int32)) ∈ tblG := tG 363 (by decide +kernel) rfl
theorem t364 : (Cond.methodLink "BeltSumsLaw" (45 : Nat) ({ cls := "BeltSumsLaw", name := "runs", desc := "(LBeltSums;[I[I[I[I[III)Z" } : Jvm.MethodName)) ∈ tblG := tG 364 (by decide +kernel) rfl
theorem t365 : (Cond.static ({ cls := "BeltSumsLaw", name := "runs", desc := "(LBeltSums;[I[I[I[I[III)Z" } : Jvm.MethodName)) ∈ tblG := tG 365 (by decide +kernel) rfl
theorem t366 : (Cond.code ({ cls := "BeltSumsLaw", name := "runs", desc := "(LBeltSums;[I[I[I[I[III)Z" } : Jvm.MethodName) method_7_code (11 : Nat) (Option.some Jvm.ClassFile.FieldType.boolean)) ∈ tblG := tG 366 (by decide +kernel) rfl
theorem t367 : (Cond.methodLink "BeltSumsLaw" (19 : Nat) ({ cls := "BeltSumsLaw", name := "tick", desc := "([I[I[I[I[I)V" } : Jvm.MethodName)) ∈ tblG := tG 367 (by decide +kernel) rfl
theorem t368 : (Cond.static ({ cls := "BeltSumsLaw", name := "tick", desc := "([I[I[I[I[I)V" } : Jvm.MethodName)) ∈ tblG := tG 368 (by decide +kernel) rfl
theorem t369 : (Cond.code ({ cls := "BeltSumsLaw", name := "tick", desc := "([I[I[I[I[I)V" } : Jvm.MethodName) method_6_code (9 : Nat) (Option.none : Option Jvm.ClassFile.FieldType)) ∈ tblG := tG 369 (by decide +kernel) rfl
theorem t370 : (Cond.methodLink "BeltSumsLaw" (9 : Nat) ({ cls := "BeltSumsLaw", name := "mass", desc := "([III)I" } : Jvm.MethodName)) ∈ tblG := tG 370 (by decide +kernel) rfl
theorem t371 : (Cond.static ({ cls := "BeltSumsLaw", name := "mass", desc := "([III)I" } : Jvm.MethodName)) ∈ tblG := tG 371 (by decide +kernel) rfl
theorem t372 : (Cond.code ({ cls := "BeltSumsLaw", name := "mass", desc := "([III)I" } : Jvm.MethodName) method_4_code (5 : Nat) (Option.some Jvm.ClassFile.FieldType.int)) ∈ tblG := tG 372 (by decide +kernel) rfl
theorem t373 : (Cond.methodLink "BeltSumsLaw" (15 : Nat) ({ cls := "BeltSumsLaw", name := "feed", desc := "([I[I[I)V" } : Jvm.MethodName)) ∈ tblG := tG 373 (by decide +kernel) rfl
theorem t374 : (Cond.static ({ cls := "BeltSumsLaw", name := "feed", desc := "([I[I[I)V" } : Jvm.MethodName)) ∈ tblG := tG 374 (by decide +kernel) rfl
theorem t375 : (Cond.code ({ cls := "BeltSumsLaw", name := "feed", desc := "([I[I[I)V" } : Jvm.MethodName) method_5_code (7 : Nat) (Option.none : Option Jvm.ClassFile.FieldType)) ∈ tblG := tG 375 (by decide +kernel) rfl
theorem t376 : (Cond.methodLink "BeltSumsLaw" (23 : Nat) ({ cls := "BeltSums", name := "tick", desc := "(I)I" } : Jvm.MethodName)) ∈ tblG := tG 376 (by decide +kernel) rfl
theorem t377 : (Cond.instanceMethod ({ cls := "BeltSums", name := "tick", desc := "(I)I" } : Jvm.MethodName)) ∈ tblG := tG 377 (by decide +kernel) rfl
theorem t378 : (Cond.selects "BeltSums" ({ cls := "BeltSums", name := "tick", desc := "(I)I" } : Jvm.MethodName) ({ cls := "BeltSums", name := "tick", desc := "(I)I" } : Jvm.MethodName)) ∈ tblG := tG 378 (by decide +kernel) rfl
theorem t379 : (Cond.code ({ cls := "BeltSums", name := "tick", desc := "(I)I" } : Jvm.MethodName) prog_1_method_7_code (2 : Nat) (Option.some Jvm.ClassFile.FieldType.int)) ∈ tblG := tG 379 (by decide +kernel) rfl
theorem t380 : (Cond.methodLink "BeltSums" (40 : Nat) ({ cls := "BeltSums$Plant", name := "copyFrom", desc := "(LBeltSums$Plant;)V" } : Jvm.MethodName)) ∈ tblG := tG 380 (by decide +kernel) rfl
theorem t381 : (Cond.instanceMethod ({ cls := "BeltSums$Plant", name := "copyFrom", desc := "(LBeltSums$Plant;)V" } : Jvm.MethodName)) ∈ tblG := tG 381 (by decide +kernel) rfl
theorem t382 : (Cond.selects "BeltSums$Plant" ({ cls := "BeltSums$Plant", name := "copyFrom", desc := "(LBeltSums$Plant;)V" } : Jvm.MethodName) ({ cls := "BeltSums$Plant", name := "copyFrom", desc := "(LBeltSums$Plant;)V" } : Jvm.MethodName)) ∈ tblG := tG 382 (by decide +kernel) rfl
theorem t383 : (Cond.code ({ cls := "BeltSums$Plant", name := "copyFrom", desc := "(LBeltSums$Plant;)V" } : Jvm.MethodName) prog_8_method_2_code (2 : Nat) (Option.none : Option Jvm.ClassFile.FieldType)) ∈ tblG := tG 383 (by decide +kernel) rfl
theorem t384 : (Cond.methodLink "BeltSums$Plant" (61 : Nat) ({ cls := "BeltSums$Hopper", name := "copyFrom", desc := "(LBeltSums$Hopper;)V" } : Jvm.MethodName)) ∈ tblG := tG 384 (by decide +kernel) rfl
theorem t385 : (Cond.instanceMethod ({ cls := "BeltSums$Hopper", name := "copyFrom", desc := "(LBeltSums$Hopper;)V" } : Jvm.MethodName)) ∈ tblG := tG 385 (by decide +kernel) rfl
theorem t386 : (Cond.selects "BeltSums$Hopper" ({ cls := "BeltSums$Hopper", name := "copyFrom", desc := "(LBeltSums$Hopper;)V" } : Jvm.MethodName) ({ cls := "BeltSums$Hopper", name := "copyFrom", desc := "(LBeltSums$Hopper;)V" } : Jvm.MethodName)) ∈ tblG := tG 386 (by decide +kernel) rfl
theorem t387 : (Cond.code ({ cls := "BeltSums$Hopper", name := "copyFrom", desc := "(LBeltSums$Hopper;)V" } : Jvm.MethodName) prog_7_method_2_code (2 : Nat) (Option.none : Option Jvm.ClassFile.FieldType)) ∈ tblG := tG 387 (by decide +kernel) rfl
theorem t389 : (Cond.methodLink "BeltSums$Plant" (65 : Nat) ({ cls := "BeltSums$Belt", name := "copyFrom", desc := "(LBeltSums$Belt;)V" } : Jvm.MethodName)) ∈ tblG := tG 389 (by decide +kernel) rfl
theorem t390 : (Cond.instanceMethod ({ cls := "BeltSums$Belt", name := "copyFrom", desc := "(LBeltSums$Belt;)V" } : Jvm.MethodName)) ∈ tblG := tG 390 (by decide +kernel) rfl
theorem t391 : (Cond.selects "BeltSums$Belt" ({ cls := "BeltSums$Belt", name := "copyFrom", desc := "(LBeltSums$Belt;)V" } : Jvm.MethodName) ({ cls := "BeltSums$Belt", name := "copyFrom", desc := "(LBeltSums$Belt;)V" } : Jvm.MethodName)) ∈ tblG := tG 391 (by decide +kernel) rfl
theorem t392 : (Cond.code ({ cls := "BeltSums$Belt", name := "copyFrom", desc := "(LBeltSums$Belt;)V" } : Jvm.MethodName) prog_3_method_2_code (2 : Nat) (Option.none : Option Jvm.ClassFile.FieldType)) ∈ tblG := tG 392 (by decide +kernel) rfl
theorem t394 : (Cond.methodLink "BeltSums$Plant" (68 : Nat) ({ cls := "BeltSums$Bins", name := "copyFrom", desc := "(LBeltSums$Bins;)V" } : Jvm.MethodName)) ∈ tblG := tG 394 (by decide +kernel) rfl
theorem t395 : (Cond.instanceMethod ({ cls := "BeltSums$Bins", name := "copyFrom", desc := "(LBeltSums$Bins;)V" } : Jvm.MethodName)) ∈ tblG := tG 395 (by decide +kernel) rfl
theorem t396 : (Cond.selects "BeltSums$Bins" ({ cls := "BeltSums$Bins", name := "copyFrom", desc := "(LBeltSums$Bins;)V" } : Jvm.MethodName) ({ cls := "BeltSums$Bins", name := "copyFrom", desc := "(LBeltSums$Bins;)V" } : Jvm.MethodName)) ∈ tblG := tG 396 (by decide +kernel) rfl
theorem t397 : (Cond.code ({ cls := "BeltSums$Bins", name := "copyFrom", desc := "(LBeltSums$Bins;)V" } : Jvm.MethodName) prog_4_method_2_code (2 : Nat) (Option.none : Option Jvm.ClassFile.FieldType)) ∈ tblG := tG 397 (by decide +kernel) rfl
theorem t399 : (Cond.methodLink "BeltSums$Plant" (71 : Nat) ({ cls := "BeltSums$Scale", name := "copyFrom", desc := "(LBeltSums$Scale;)V" } : Jvm.MethodName)) ∈ tblG := tG 399 (by decide +kernel) rfl
theorem t400 : (Cond.instanceMethod ({ cls := "BeltSums$Scale", name := "copyFrom", desc := "(LBeltSums$Scale;)V" } : Jvm.MethodName)) ∈ tblG := tG 400 (by decide +kernel) rfl
theorem t401 : (Cond.selects "BeltSums$Scale" ({ cls := "BeltSums$Scale", name := "copyFrom", desc := "(LBeltSums$Scale;)V" } : Jvm.MethodName) ({ cls := "BeltSums$Scale", name := "copyFrom", desc := "(LBeltSums$Scale;)V" } : Jvm.MethodName)) ∈ tblG := tG 401 (by decide +kernel) rfl
theorem t402 : (Cond.code ({ cls := "BeltSums$Scale", name := "copyFrom", desc := "(LBeltSums$Scale;)V" } : Jvm.MethodName) prog_10_method_2_code (2 : Nat) (Option.none : Option Jvm.ClassFile.FieldType)) ∈ tblG := tG 402 (by decide +kernel) rfl
theorem t403 : (Cond.methodLink "BeltSums$Plant" (74 : Nat) ({ cls := "BeltSums$Accounts", name := "copyFrom", desc := "(LBeltSums$Accounts;)V" } : Jvm.MethodName)) ∈ tblG := tG 403 (by decide +kernel) rfl
theorem t404 : (Cond.instanceMethod ({ cls := "BeltSums$Accounts", name := "copyFrom", desc := "(LBeltSums$Accounts;)V" } : Jvm.MethodName)) ∈ tblG := tG 404 (by decide +kernel) rfl
theorem t405 : (Cond.selects "BeltSums$Accounts" ({ cls := "BeltSums$Accounts", name := "copyFrom", desc := "(LBeltSums$Accounts;)V" } : Jvm.MethodName) ({ cls := "BeltSums$Accounts", name := "copyFrom", desc := "(LBeltSums$Accounts;)V" } : Jvm.MethodName)) ∈ tblG := tG 405 (by decide +kernel) rfl
theorem t406 : (Cond.code ({ cls := "BeltSums$Accounts", name := "copyFrom", desc := "(LBeltSums$Accounts;)V" } : Jvm.MethodName) prog_2_method_2_code (2 : Nat) (Option.none : Option Jvm.ClassFile.FieldType)) ∈ tblG := tG 406 (by decide +kernel) rfl
theorem t408 : (Cond.methodLink "BeltSums" (65 : Nat) ({ cls := "BeltSums$Plant", name := "passTicks", desc := "(I)I" } : Jvm.MethodName)) ∈ tblG := tG 408 (by decide +kernel) rfl
theorem t409 : (Cond.instanceMethod ({ cls := "BeltSums$Plant", name := "passTicks", desc := "(I)I" } : Jvm.MethodName)) ∈ tblG := tG 409 (by decide +kernel) rfl
theorem t410 : (Cond.selects "BeltSums$Plant" ({ cls := "BeltSums$Plant", name := "passTicks", desc := "(I)I" } : Jvm.MethodName) ({ cls := "BeltSums$Plant", name := "passTicks", desc := "(I)I" } : Jvm.MethodName)) ∈ tblG := tG 410 (by decide +kernel) rfl
theorem t411 : (Cond.code ({ cls := "BeltSums$Plant", name := "passTicks", desc := "(I)I" } : Jvm.MethodName) prog_8_method_9_code (4 : Nat) (Option.some Jvm.ClassFile.FieldType.int)) ∈ tblG := tG 411 (by decide +kernel) rfl
theorem t412 : (Cond.constant "BeltSums$Plant" (106 : Nat) (-1000001 : Int32)) ∈ tblG := tG 412 (by decide +kernel) rfl
theorem t413 : (Cond.constant "BeltSums$Plant" (110 : Nat) (-1000003 : Int32)) ∈ tblG := tG 413 (by decide +kernel) rfl
theorem t414 : (Cond.methodLink "BeltSums$Plant" (126 : Nat) ({ cls := "BeltSums$Plant", name := "passTick", desc := "()I" } : Jvm.MethodName)) ∈ tblG := tG 414 (by decide +kernel) rfl
theorem t415 : (Cond.instanceMethod ({ cls := "BeltSums$Plant", name := "passTick", desc := "()I" } : Jvm.MethodName)) ∈ tblG := tG 415 (by decide +kernel) rfl
theorem t416 : (Cond.selects "BeltSums$Plant" ({ cls := "BeltSums$Plant", name := "passTick", desc := "()I" } : Jvm.MethodName) ({ cls := "BeltSums$Plant", name := "passTick", desc := "()I" } : Jvm.MethodName)) ∈ tblG := tG 416 (by decide +kernel) rfl
theorem t417 : (Cond.code ({ cls := "BeltSums$Plant", name := "passTick", desc := "()I" } : Jvm.MethodName) prog_8_method_10_code (3 : Nat) (Option.some Jvm.ClassFile.FieldType.int)) ∈ tblG := tG 417 (by decide +kernel) rfl
theorem t418 : (Cond.methodLink "BeltSums$Plant" (115 : Nat) ({ cls := "BeltSums$Plant", name := "hasBatch", desc := "()Z" } : Jvm.MethodName)) ∈ tblG := tG 418 (by decide +kernel) rfl
theorem t419 : (Cond.methodLink "BeltSums$Plant" (133 : Nat) ({ cls := "BeltSums$Plant", name := "wantsMore", desc := "()Z" } : Jvm.MethodName)) ∈ tblG := tG 419 (by decide +kernel) rfl
theorem t421 : (Cond.instanceMethod ({ cls := "BeltSums$Plant", name := "wantsMore", desc := "()Z" } : Jvm.MethodName)) ∈ tblG := tG 421 (by decide +kernel) rfl
theorem t422 : (Cond.code ({ cls := "BeltSums$Plant", name := "wantsMore", desc := "()Z" } : Jvm.MethodName) prog_8_method_11_code (1 : Nat) (Option.some Jvm.ClassFile.FieldType.boolean)) ∈ tblG := tG 422 (by decide +kernel) rfl
theorem t423 : (Cond.methodLink "BeltSums$Plant" (136 : Nat) ({ cls := "BeltSums$Plant", name := "dropAtEnd", desc := "()I" } : Jvm.MethodName)) ∈ tblG := tG 423 (by decide +kernel) rfl
theorem t425 : (Cond.instanceMethod ({ cls := "BeltSums$Plant", name := "dropAtEnd", desc := "()I" } : Jvm.MethodName)) ∈ tblG := tG 425 (by decide +kernel) rfl
theorem t426 : (Cond.code ({ cls := "BeltSums$Plant", name := "dropAtEnd", desc := "()I" } : Jvm.MethodName) prog_8_method_12_code (4 : Nat) (Option.some Jvm.ClassFile.FieldType.int)) ∈ tblG := tG 426 (by decide +kernel) rfl
theorem t427 : (Cond.methodLink "BeltSums$Plant" (162 : Nat) ({ cls := "BeltSums$Belt", name := "mass", desc := "(II)I" } : Jvm.MethodName)) ∈ tblG := tG 427 (by decide +kernel) rfl
theorem t428 : (Cond.methodLink "BeltSums$Plant" (166 : Nat) ({ cls := "BeltSums$Belt", name := "take", desc := "(III)V" } : Jvm.MethodName)) ∈ tblG := tG 428 (by decide +kernel) rfl
theorem t429 : (Cond.instanceMethod ({ cls := "BeltSums$Belt", name := "take", desc := "(III)V" } : Jvm.MethodName)) ∈ tblG := tG 429 (by decide +kernel) rfl
theorem t430 : (Cond.selects "BeltSums$Belt" ({ cls := "BeltSums$Belt", name := "take", desc := "(III)V" } : Jvm.MethodName) ({ cls := "BeltSums$Belt", name := "take", desc := "(III)V" } : Jvm.MethodName)) ∈ tblG := tG 430 (by decide +kernel) rfl
theorem t431 : (Cond.code ({ cls := "BeltSums$Belt", name := "take", desc := "(III)V" } : Jvm.MethodName) prog_3_method_4_code (4 : Nat) (Option.none : Option Jvm.ClassFile.FieldType)) ∈ tblG := tG 431 (by decide +kernel) rfl
theorem t432 : (Cond.methodLink "BeltSums$Plant" (170 : Nat) ({ cls := "BeltSums$Bins", name := "addToPresent", desc := "(II)V" } : Jvm.MethodName)) ∈ tblG := tG 432 (by decide +kernel) rfl
theorem t433 : (Cond.instanceMethod ({ cls := "BeltSums$Bins", name := "addToPresent", desc := "(II)V" } : Jvm.MethodName)) ∈ tblG := tG 433 (by decide +kernel) rfl
theorem t434 : (Cond.selects "BeltSums$Bins" ({ cls := "BeltSums$Bins", name := "addToPresent", desc := "(II)V" } : Jvm.MethodName) ({ cls := "BeltSums$Bins", name := "addToPresent", desc := "(II)V" } : Jvm.MethodName)) ∈ tblG := tG 434 (by decide +kernel) rfl
theorem t435 : (Cond.code ({ cls := "BeltSums$Bins", name := "addToPresent", desc := "(II)V" } : Jvm.MethodName) prog_4_method_4_code (3 : Nat) (Option.none : Option Jvm.ClassFile.FieldType)) ∈ tblG := tG 435 (by decide +kernel) rfl
theorem t436 : (Cond.methodLink "BeltSums$Plant" (173 : Nat) ({ cls := "BeltSums$Accounts", name := "enter", desc := "(II)V" } : Jvm.MethodName)) ∈ tblG := tG 436 (by decide +kernel) rfl
theorem t437 : (Cond.instanceMethod ({ cls := "BeltSums$Accounts", name := "enter", desc := "(II)V" } : Jvm.MethodName)) ∈ tblG := tG 437 (by decide +kernel) rfl
theorem t438 : (Cond.selects "BeltSums$Accounts" ({ cls := "BeltSums$Accounts", name := "enter", desc := "(II)V" } : Jvm.MethodName) ({ cls := "BeltSums$Accounts", name := "enter", desc := "(II)V" } : Jvm.MethodName)) ∈ tblG := tG 438 (by decide +kernel) rfl
theorem t439 : (Cond.code ({ cls := "BeltSums$Accounts", name := "enter", desc := "(II)V" } : Jvm.MethodName) prog_2_method_6_code (3 : Nat) (Option.none : Option Jvm.ClassFile.FieldType)) ∈ tblG := tG 439 (by decide +kernel) rfl
theorem t440 : (Cond.methodLink "BeltSums$Plant" (176 : Nat) ({ cls := "BeltSums$Bins", name := "countFilledTick", desc := "()V" } : Jvm.MethodName)) ∈ tblG := tG 440 (by decide +kernel) rfl
theorem t441 : (Cond.instanceMethod ({ cls := "BeltSums$Bins", name := "countFilledTick", desc := "()V" } : Jvm.MethodName)) ∈ tblG := tG 441 (by decide +kernel) rfl
theorem t442 : (Cond.selects "BeltSums$Bins" ({ cls := "BeltSums$Bins", name := "countFilledTick", desc := "()V" } : Jvm.MethodName) ({ cls := "BeltSums$Bins", name := "countFilledTick", desc := "()V" } : Jvm.MethodName)) ∈ tblG := tG 442 (by decide +kernel) rfl
theorem t443 : (Cond.code ({ cls := "BeltSums$Bins", name := "countFilledTick", desc := "()V" } : Jvm.MethodName) prog_4_method_6_code (1 : Nat) (Option.none : Option Jvm.ClassFile.FieldType)) ∈ tblG := tG 443 (by decide +kernel) rfl
theorem t444 : (Cond.methodLink "BeltSums$Plant" (139 : Nat) ({ cls := "BeltSums$Belt", name := "goOn", desc := "()V" } : Jvm.MethodName)) ∈ tblG := tG 444 (by decide +kernel) rfl
theorem t445 : (Cond.instanceMethod ({ cls := "BeltSums$Belt", name := "goOn", desc := "()V" } : Jvm.MethodName)) ∈ tblG := tG 445 (by decide +kernel) rfl
theorem t446 : (Cond.selects "BeltSums$Belt" ({ cls := "BeltSums$Belt", name := "goOn", desc := "()V" } : Jvm.MethodName) ({ cls := "BeltSums$Belt", name := "goOn", desc := "()V" } : Jvm.MethodName)) ∈ tblG := tG 446 (by decide +kernel) rfl
theorem t447 : (Cond.code ({ cls := "BeltSums$Belt", name := "goOn", desc := "()V" } : Jvm.MethodName) prog_3_method_6_code (1 : Nat) (Option.none : Option Jvm.ClassFile.FieldType)) ∈ tblG := tG 447 (by decide +kernel) rfl
theorem t448 : (Cond.methodLink "BeltSums$Plant" (142 : Nat) ({ cls := "BeltSums$Plant", name := "feed", desc := "()V" } : Jvm.MethodName)) ∈ tblG := tG 448 (by decide +kernel) rfl
theorem t450 : (Cond.instanceMethod ({ cls := "BeltSums$Plant", name := "feed", desc := "()V" } : Jvm.MethodName)) ∈ tblG := tG 450 (by decide +kernel) rfl
theorem t451 : (Cond.code ({ cls := "BeltSums$Plant", name := "feed", desc := "()V" } : Jvm.MethodName) prog_8_method_13_code (4 : Nat) (Option.none : Option Jvm.ClassFile.FieldType)) ∈ tblG := tG 451 (by decide +kernel) rfl
theorem t452 : (Cond.methodLink "BeltSums$Plant" (182 : Nat) ({ cls := "java/lang/Math", name := "min", desc := "(II)I" } : Jvm.MethodName)) ∈ tblG := tG 452 (by decide +kernel) rfl
theorem t453 : (Cond.methodLink "BeltSums$Plant" (190 : Nat) ({ cls := "BeltSums$Belt", name := "putAtStart", desc := "(II)V" } : Jvm.MethodName)) ∈ tblG := tG 453 (by decide +kernel) rfl
theorem t454 : (Cond.instanceMethod ({ cls := "BeltSums$Belt", name := "putAtStart", desc := "(II)V" } : Jvm.MethodName)) ∈ tblG := tG 454 (by decide +kernel) rfl
theorem t455 : (Cond.selects "BeltSums$Belt" ({ cls := "BeltSums$Belt", name := "putAtStart", desc := "(II)V" } : Jvm.MethodName) ({ cls := "BeltSums$Belt", name := "putAtStart", desc := "(II)V" } : Jvm.MethodName)) ∈ tblG := tG 455 (by decide +kernel) rfl
theorem t456 : (Cond.code ({ cls := "BeltSums$Belt", name := "putAtStart", desc := "(II)V" } : Jvm.MethodName) prog_3_method_5_code (3 : Nat) (Option.none : Option Jvm.ClassFile.FieldType)) ∈ tblG := tG 456 (by decide +kernel) rfl
theorem t457 : (Cond.methodLink "BeltSums$Plant" (193 : Nat) ({ cls := "BeltSums$Hopper", name := "takeFromFirst", desc := "(I)V" } : Jvm.MethodName)) ∈ tblG := tG 457 (by decide +kernel) rfl
theorem t458 : (Cond.instanceMethod ({ cls := "BeltSums$Hopper", name := "takeFromFirst", desc := "(I)V" } : Jvm.MethodName)) ∈ tblG := tG 458 (by decide +kernel) rfl
theorem t459 : (Cond.selects "BeltSums$Hopper" ({ cls := "BeltSums$Hopper", name := "takeFromFirst", desc := "(I)V" } : Jvm.MethodName) ({ cls := "BeltSums$Hopper", name := "takeFromFirst", desc := "(I)V" } : Jvm.MethodName)) ∈ tblG := tG 459 (by decide +kernel) rfl
theorem t460 : (Cond.code ({ cls := "BeltSums$Hopper", name := "takeFromFirst", desc := "(I)V" } : Jvm.MethodName) prog_7_method_4_code (3 : Nat) (Option.none : Option Jvm.ClassFile.FieldType)) ∈ tblG := tG 460 (by decide +kernel) rfl
theorem t461 : (Cond.methodLink "BeltSums$Plant" (145 : Nat) ({ cls := "BeltSums$Plant", name := "spillTooMuch", desc := "()V" } : Jvm.MethodName)) ∈ tblG := tG 461 (by decide +kernel) rfl
theorem t463 : (Cond.instanceMethod ({ cls := "BeltSums$Plant", name := "spillTooMuch", desc := "()V" } : Jvm.MethodName)) ∈ tblG := tG 463 (by decide +kernel) rfl
theorem t464 : (Cond.code ({ cls := "BeltSums$Plant", name := "spillTooMuch", desc := "()V" } : Jvm.MethodName) prog_8_method_14_code (4 : Nat) (Option.none : Option Jvm.ClassFile.FieldType)) ∈ tblG := tG 464 (by decide +kernel) rfl
theorem t465 : (Cond.methodLink "BeltSums$Plant" (196 : Nat) ({ cls := "BeltSums$Belt", name := "massOfPlace", desc := "(I)I" } : Jvm.MethodName)) ∈ tblG := tG 465 (by decide +kernel) rfl
theorem t466 : (Cond.methodLink "BeltSums$Plant" (148 : Nat) ({ cls := "BeltSums$Belt", name := "massSeen", desc := "()I" } : Jvm.MethodName)) ∈ tblG := tG 466 (by decide +kernel) rfl
theorem t467 : (Cond.instanceMethod ({ cls := "BeltSums$Belt", name := "massSeen", desc := "()I" } : Jvm.MethodName)) ∈ tblG := tG 467 (by decide +kernel) rfl
theorem t468 : (Cond.selects "BeltSums$Belt" ({ cls := "BeltSums$Belt", name := "massSeen", desc := "()I" } : Jvm.MethodName) ({ cls := "BeltSums$Belt", name := "massSeen", desc := "()I" } : Jvm.MethodName)) ∈ tblG := tG 468 (by decide +kernel) rfl
theorem t469 : (Cond.code ({ cls := "BeltSums$Belt", name := "massSeen", desc := "()I" } : Jvm.MethodName) prog_3_method_8_code (3 : Nat) (Option.some Jvm.ClassFile.FieldType.int)) ∈ tblG := tG 469 (by decide +kernel) rfl
theorem t470 : (Cond.methodLink "BeltSums$Belt" (26 : Nat) ({ cls := "BeltSums$Belt", name := "massOfPlace", desc := "(I)I" } : Jvm.MethodName)) ∈ tblG := tG 470 (by decide +kernel) rfl
theorem t471 : (Cond.methodLink "BeltSums$Plant" (151 : Nat) ({ cls := "BeltSums$Scale", name := "weigh", desc := "(I)I" } : Jvm.MethodName)) ∈ tblG := tG 471 (by decide +kernel) rfl
theorem t472 : (Cond.instanceMethod ({ cls := "BeltSums$Scale", name := "weigh", desc := "(I)I" } : Jvm.MethodName)) ∈ tblG := tG 472 (by decide +kernel) rfl
theorem t473 : (Cond.selects "BeltSums$Scale" ({ cls := "BeltSums$Scale", name := "weigh", desc := "(I)I" } : Jvm.MethodName) ({ cls := "BeltSums$Scale", name := "weigh", desc := "(I)I" } : Jvm.MethodName)) ∈ tblG := tG 473 (by decide +kernel) rfl
theorem t474 : (Cond.code ({ cls := "BeltSums$Scale", name := "weigh", desc := "(I)I" } : Jvm.MethodName) prog_10_method_4_code (4 : Nat) (Option.some Jvm.ClassFile.FieldType.int)) ∈ tblG := tG 474 (by decide +kernel) rfl
theorem t475 : (Cond.methodLink "BeltSums$Scale" (27 : Nat) ({ cls := "BeltSums$Scale", name := "reading", desc := "(I)I" } : Jvm.MethodName)) ∈ tblG := tG 475 (by decide +kernel) rfl
theorem t476 : (Cond.instanceMethod ({ cls := "BeltSums$Scale", name := "reading", desc := "(I)I" } : Jvm.MethodName)) ∈ tblG := tG 476 (by decide +kernel) rfl
theorem t477 : (Cond.selects "BeltSums$Scale" ({ cls := "BeltSums$Scale", name := "reading", desc := "(I)I" } : Jvm.MethodName) ({ cls := "BeltSums$Scale", name := "reading", desc := "(I)I" } : Jvm.MethodName)) ∈ tblG := tG 477 (by decide +kernel) rfl
theorem t478 : (Cond.code ({ cls := "BeltSums$Scale", name := "reading", desc := "(I)I" } : Jvm.MethodName) prog_10_method_3_code (2 : Nat) (Option.some Jvm.ClassFile.FieldType.int)) ∈ tblG := tG 478 (by decide +kernel) rfl
theorem t479 : (Cond.methodLink "BeltSums$Plant" (155 : Nat) ({ cls := "BeltSums$Bins", name := "growPresent", desc := "(I)V" } : Jvm.MethodName)) ∈ tblG := tG 479 (by decide +kernel) rfl
theorem t480 : (Cond.instanceMethod ({ cls := "BeltSums$Bins", name := "growPresent", desc := "(I)V" } : Jvm.MethodName)) ∈ tblG := tG 480 (by decide +kernel) rfl
theorem t481 : (Cond.selects "BeltSums$Bins" ({ cls := "BeltSums$Bins", name := "growPresent", desc := "(I)V" } : Jvm.MethodName) ({ cls := "BeltSums$Bins", name := "growPresent", desc := "(I)V" } : Jvm.MethodName)) ∈ tblG := tG 481 (by decide +kernel) rfl
theorem t482 : (Cond.code ({ cls := "BeltSums$Bins", name := "growPresent", desc := "(I)V" } : Jvm.MethodName) prog_4_method_5_code (2 : Nat) (Option.none : Option Jvm.ClassFile.FieldType)) ∈ tblG := tG 482 (by decide +kernel) rfl
theorem t483 : (Cond.methodLink "BeltSums$Plant" (159 : Nat) ({ cls := "BeltSums$Plant", name := "endBatch", desc := "()V" } : Jvm.MethodName)) ∈ tblG := tG 483 (by decide +kernel) rfl
theorem t485 : (Cond.instanceMethod ({ cls := "BeltSums$Plant", name := "endBatch", desc := "()V" } : Jvm.MethodName)) ∈ tblG := tG 485 (by decide +kernel) rfl
theorem t486 : (Cond.code ({ cls := "BeltSums$Plant", name := "endBatch", desc := "()V" } : Jvm.MethodName) prog_8_method_15_code (1 : Nat) (Option.none : Option Jvm.ClassFile.FieldType)) ∈ tblG := tG 486 (by decide +kernel) rfl
theorem t487 : (Cond.methodLink "BeltSums" (48 : Nat) ({ cls := "BeltSums", name := "recorded", desc := "(I)I" } : Jvm.MethodName)) ∈ tblG := tG 487 (by decide +kernel) rfl
theorem t489 : (Cond.instanceMethod ({ cls := "BeltSums", name := "recorded", desc := "(I)I" } : Jvm.MethodName)) ∈ tblG := tG 489 (by decide +kernel) rfl
theorem t490 : (Cond.code ({ cls := "BeltSums", name := "recorded", desc := "(I)I" } : Jvm.MethodName) prog_1_method_27_code (2 : Nat) (Option.some Jvm.ClassFile.FieldType.int)) ∈ tblG := tG 490 (by decide +kernel) rfl
theorem t491 : (Cond.methodLink "BeltSums" (279 : Nat) ({ cls := "BeltSums", name := "isError", desc := "(I)Z" } : Jvm.MethodName)) ∈ tblG := tG 491 (by decide +kernel) rfl
theorem t492 : (Cond.static ({ cls := "BeltSums", name := "isError", desc := "(I)Z" } : Jvm.MethodName)) ∈ tblG := tG 492 (by decide +kernel) rfl
theorem t493 : (Cond.code ({ cls := "BeltSums", name := "isError", desc := "(I)Z" } : Jvm.MethodName) prog_1_method_29_code (1 : Nat) (Option.some Jvm.ClassFile.FieldType.boolean)) ∈ tblG := tG 493 (by decide +kernel) rfl
theorem t494 : (Cond.methodLink "BeltSums" (273 : Nat) ({ cls := "BeltSums$History", name := "push", desc := "(LBeltSums$Plant;)V" } : Jvm.MethodName)) ∈ tblG := tG 494 (by decide +kernel) rfl
theorem t495 : (Cond.instanceMethod ({ cls := "BeltSums$History", name := "push", desc := "(LBeltSums$Plant;)V" } : Jvm.MethodName)) ∈ tblG := tG 495 (by decide +kernel) rfl
theorem t496 : (Cond.selects "BeltSums$History" ({ cls := "BeltSums$History", name := "push", desc := "(LBeltSums$Plant;)V" } : Jvm.MethodName) ({ cls := "BeltSums$History", name := "push", desc := "(LBeltSums$Plant;)V" } : Jvm.MethodName)) ∈ tblG := tG 496 (by decide +kernel) rfl
theorem t497 : (Cond.code ({ cls := "BeltSums$History", name := "push", desc := "(LBeltSums$Plant;)V" } : Jvm.MethodName) prog_6_method_2_code (3 : Nat) (Option.none : Option Jvm.ClassFile.FieldType)) ∈ tblG := tG 497 (by decide +kernel) rfl
theorem t498 : (Cond.methodLink "BeltSums$History" (27 : Nat) ({ cls := "BeltSums$Plant", name := "copyFrom", desc := "(LBeltSums$Plant;)V" } : Jvm.MethodName)) ∈ tblG := tG 498 (by decide +kernel) rfl
theorem t499 : (Cond.methodLink "BeltSums$History" (35 : Nat) ({ cls := "java/lang/Math", name := "min", desc := "(II)I" } : Jvm.MethodName)) ∈ tblG := tG 499 (by decide +kernel) rfl
theorem t500 : (Cond.methodLink "BeltSumsLaw" (28 : Nat) ({ cls := "BeltSums", name := "run", desc := "(I)I" } : Jvm.MethodName)) ∈ tblG := tG 500 (by decide +kernel) rfl
theorem t501 : (Cond.instanceMethod ({ cls := "BeltSums", name := "run", desc := "(I)I" } : Jvm.MethodName)) ∈ tblG := tG 501 (by decide +kernel) rfl
theorem t502 : (Cond.selects "BeltSums" ({ cls := "BeltSums", name := "run", desc := "(I)I" } : Jvm.MethodName) ({ cls := "BeltSums", name := "run", desc := "(I)I" } : Jvm.MethodName)) ∈ tblG := tG 502 (by decide +kernel) rfl
theorem t503 : (Cond.code ({ cls := "BeltSums", name := "run", desc := "(I)I" } : Jvm.MethodName) prog_1_method_4_code (2 : Nat) (Option.some Jvm.ClassFile.FieldType.int)) ∈ tblG := tG 503 (by decide +kernel) rfl
theorem t504 : (Cond.methodLink "BeltSums" (55 : Nat) ({ cls := "BeltSums$Plant", name := "switchBelt", desc := "(I)I" } : Jvm.MethodName)) ∈ tblG := tG 504 (by decide +kernel) rfl
theorem t505 : (Cond.instanceMethod ({ cls := "BeltSums$Plant", name := "switchBelt", desc := "(I)I" } : Jvm.MethodName)) ∈ tblG := tG 505 (by decide +kernel) rfl
theorem t506 : (Cond.selects "BeltSums$Plant" ({ cls := "BeltSums$Plant", name := "switchBelt", desc := "(I)I" } : Jvm.MethodName) ({ cls := "BeltSums$Plant", name := "switchBelt", desc := "(I)I" } : Jvm.MethodName)) ∈ tblG := tG 506 (by decide +kernel) rfl
theorem t507 : (Cond.code ({ cls := "BeltSums$Plant", name := "switchBelt", desc := "(I)I" } : Jvm.MethodName) prog_8_method_6_code (3 : Nat) (Option.some Jvm.ClassFile.FieldType.int)) ∈ tblG := tG 507 (by decide +kernel) rfl
theorem t508 : (Cond.constant "BeltSums$Plant" (119 : Nat) (-1000002 : Int32)) ∈ tblG := tG 508 (by decide +kernel) rfl
theorem t509 : (Cond.constant "BeltSumsLaw" (31 : Nat) (-1000002 : Int32)) ∈ tblG := tG 509 (by decide +kernel) rfl
theorem t510 : (Cond.methodLink "BeltSumsLaw" (32 : Nat) ({ cls := "BeltSums", name := "bin", desc := "()I" } : Jvm.MethodName)) ∈ tblG := tG 510 (by decide +kernel) rfl
theorem t511 : (Cond.instanceMethod ({ cls := "BeltSums", name := "bin", desc := "()I" } : Jvm.MethodName)) ∈ tblG := tG 511 (by decide +kernel) rfl
theorem t512 : (Cond.selects "BeltSums" ({ cls := "BeltSums", name := "bin", desc := "()I" } : Jvm.MethodName) ({ cls := "BeltSums", name := "bin", desc := "()I" } : Jvm.MethodName)) ∈ tblG := tG 512 (by decide +kernel) rfl
theorem t513 : (Cond.code ({ cls := "BeltSums", name := "bin", desc := "()I" } : Jvm.MethodName) prog_1_method_5_code (1 : Nat) (Option.some Jvm.ClassFile.FieldType.int)) ∈ tblG := tG 513 (by decide +kernel) rfl
theorem t514 : (Cond.methodLink "BeltSums" (58 : Nat) ({ cls := "BeltSums$Plant", name := "putBin", desc := "()I" } : Jvm.MethodName)) ∈ tblG := tG 514 (by decide +kernel) rfl
theorem t515 : (Cond.instanceMethod ({ cls := "BeltSums$Plant", name := "putBin", desc := "()I" } : Jvm.MethodName)) ∈ tblG := tG 515 (by decide +kernel) rfl
theorem t516 : (Cond.selects "BeltSums$Plant" ({ cls := "BeltSums$Plant", name := "putBin", desc := "()I" } : Jvm.MethodName) ({ cls := "BeltSums$Plant", name := "putBin", desc := "()I" } : Jvm.MethodName)) ∈ tblG := tG 516 (by decide +kernel) rfl
theorem t517 : (Cond.code ({ cls := "BeltSums$Plant", name := "putBin", desc := "()I" } : Jvm.MethodName) prog_8_method_7_code (1 : Nat) (Option.some Jvm.ClassFile.FieldType.int)) ∈ tblG := tG 517 (by decide +kernel) rfl
theorem t518 : (Cond.constant "BeltSumsLaw" (36 : Nat) (-1000003 : Int32)) ∈ tblG := tG 518 (by decide +kernel) rfl
theorem t519 : (Cond.methodLink "BeltSumsLaw" (37 : Nat) ({ cls := "BeltSums", name := "batch", desc := "(I)I" } : Jvm.MethodName)) ∈ tblG := tG 519 (by decide +kernel) rfl
theorem t520 : (Cond.instanceMethod ({ cls := "BeltSums", name := "batch", desc := "(I)I" } : Jvm.MethodName)) ∈ tblG := tG 520 (by decide +kernel) rfl
theorem t521 : (Cond.selects "BeltSums" ({ cls := "BeltSums", name := "batch", desc := "(I)I" } : Jvm.MethodName) ({ cls := "BeltSums", name := "batch", desc := "(I)I" } : Jvm.MethodName)) ∈ tblG := tG 521 (by decide +kernel) rfl
theorem t522 : (Cond.code ({ cls := "BeltSums", name := "batch", desc := "(I)I" } : Jvm.MethodName) prog_1_method_6_code (2 : Nat) (Option.some Jvm.ClassFile.FieldType.int)) ∈ tblG := tG 522 (by decide +kernel) rfl
theorem t523 : (Cond.methodLink "BeltSums" (62 : Nat) ({ cls := "BeltSums$Plant", name := "beginBatch", desc := "(I)I" } : Jvm.MethodName)) ∈ tblG := tG 523 (by decide +kernel) rfl
theorem t524 : (Cond.instanceMethod ({ cls := "BeltSums$Plant", name := "beginBatch", desc := "(I)I" } : Jvm.MethodName)) ∈ tblG := tG 524 (by decide +kernel) rfl
theorem t525 : (Cond.selects "BeltSums$Plant" ({ cls := "BeltSums$Plant", name := "beginBatch", desc := "(I)I" } : Jvm.MethodName) ({ cls := "BeltSums$Plant", name := "beginBatch", desc := "(I)I" } : Jvm.MethodName)) ∈ tblG := tG 525 (by decide +kernel) rfl
theorem t526 : (Cond.code ({ cls := "BeltSums$Plant", name := "beginBatch", desc := "(I)I" } : Jvm.MethodName) prog_8_method_8_code (2 : Nat) (Option.some Jvm.ClassFile.FieldType.int)) ∈ tblG := tG 526 (by decide +kernel) rfl
theorem t527 : (Cond.methodLink "BeltSumsLaw" (49 : Nat) ({ cls := "BeltSums", name := "lot", desc := "(II)I" } : Jvm.MethodName)) ∈ tblG := tG 527 (by decide +kernel) rfl
theorem t528 : (Cond.instanceMethod ({ cls := "BeltSums", name := "lot", desc := "(II)I" } : Jvm.MethodName)) ∈ tblG := tG 528 (by decide +kernel) rfl
theorem t529 : (Cond.selects "BeltSums" ({ cls := "BeltSums", name := "lot", desc := "(II)I" } : Jvm.MethodName) ({ cls := "BeltSums", name := "lot", desc := "(II)I" } : Jvm.MethodName)) ∈ tblG := tG 529 (by decide +kernel) rfl
theorem t530 : (Cond.code ({ cls := "BeltSums", name := "lot", desc := "(II)I" } : Jvm.MethodName) prog_1_method_2_code (3 : Nat) (Option.some Jvm.ClassFile.FieldType.int)) ∈ tblG := tG 530 (by decide +kernel) rfl
theorem t531 : (Cond.methodLink "BeltSums" (44 : Nat) ({ cls := "BeltSums$Plant", name := "putLot", desc := "(II)I" } : Jvm.MethodName)) ∈ tblG := tG 531 (by decide +kernel) rfl
theorem t532 : (Cond.instanceMethod ({ cls := "BeltSums$Plant", name := "putLot", desc := "(II)I" } : Jvm.MethodName)) ∈ tblG := tG 532 (by decide +kernel) rfl
theorem t533 : (Cond.selects "BeltSums$Plant" ({ cls := "BeltSums$Plant", name := "putLot", desc := "(II)I" } : Jvm.MethodName) ({ cls := "BeltSums$Plant", name := "putLot", desc := "(II)I" } : Jvm.MethodName)) ∈ tblG := tG 533 (by decide +kernel) rfl
theorem t534 : (Cond.code ({ cls := "BeltSums$Plant", name := "putLot", desc := "(II)I" } : Jvm.MethodName) prog_8_method_4_code (3 : Nat) (Option.some Jvm.ClassFile.FieldType.int)) ∈ tblG := tG 534 (by decide +kernel) rfl
theorem t536 : (Cond.methodLink "BeltSums$Plant" (111 : Nat) ({ cls := "BeltSums$Hopper", name := "append", desc := "(II)V" } : Jvm.MethodName)) ∈ tblG := tG 536 (by decide +kernel) rfl
theorem t537 : (Cond.instanceMethod ({ cls := "BeltSums$Hopper", name := "append", desc := "(II)V" } : Jvm.MethodName)) ∈ tblG := tG 537 (by decide +kernel) rfl
theorem t538 : (Cond.selects "BeltSums$Hopper" ({ cls := "BeltSums$Hopper", name := "append", desc := "(II)V" } : Jvm.MethodName) ({ cls := "BeltSums$Hopper", name := "append", desc := "(II)V" } : Jvm.MethodName)) ∈ tblG := tG 538 (by decide +kernel) rfl
theorem t539 : (Cond.code ({ cls := "BeltSums$Hopper", name := "append", desc := "(II)V" } : Jvm.MethodName) prog_7_method_3_code (3 : Nat) (Option.none : Option Jvm.ClassFile.FieldType)) ∈ tblG := tG 539 (by decide +kernel) rfl
theorem t540 : (Cond.methodLink "BeltSumsLaw" (52 : Nat) ({ cls := "BeltSums", name := "gate", desc := "(I)I" } : Jvm.MethodName)) ∈ tblG := tG 540 (by decide +kernel) rfl
theorem t541 : (Cond.instanceMethod ({ cls := "BeltSums", name := "gate", desc := "(I)I" } : Jvm.MethodName)) ∈ tblG := tG 541 (by decide +kernel) rfl
theorem t542 : (Cond.selects "BeltSums" ({ cls := "BeltSums", name := "gate", desc := "(I)I" } : Jvm.MethodName) ({ cls := "BeltSums", name := "gate", desc := "(I)I" } : Jvm.MethodName)) ∈ tblG := tG 542 (by decide +kernel) rfl
theorem t543 : (Cond.code ({ cls := "BeltSums", name := "gate", desc := "(I)I" } : Jvm.MethodName) prog_1_method_3_code (2 : Nat) (Option.some Jvm.ClassFile.FieldType.int)) ∈ tblG := tG 543 (by decide +kernel) rfl
theorem t544 : (Cond.methodLink "BeltSums" (52 : Nat) ({ cls := "BeltSums$Plant", name := "setGate", desc := "(I)I" } : Jvm.MethodName)) ∈ tblG := tG 544 (by decide +kernel) rfl
theorem t545 : (Cond.instanceMethod ({ cls := "BeltSums$Plant", name := "setGate", desc := "(I)I" } : Jvm.MethodName)) ∈ tblG := tG 545 (by decide +kernel) rfl
theorem t546 : (Cond.selects "BeltSums$Plant" ({ cls := "BeltSums$Plant", name := "setGate", desc := "(I)I" } : Jvm.MethodName) ({ cls := "BeltSums$Plant", name := "setGate", desc := "(I)I" } : Jvm.MethodName)) ∈ tblG := tG 546 (by decide +kernel) rfl
theorem t547 : (Cond.code ({ cls := "BeltSums$Plant", name := "setGate", desc := "(I)I" } : Jvm.MethodName) prog_8_method_5_code (3 : Nat) (Option.some Jvm.ClassFile.FieldType.int)) ∈ tblG := tG 547 (by decide +kernel) rfl
theorem t548 : (Cond.methodLink "BeltSumsLaw" (55 : Nat) ({ cls := "BeltSums", name := "zero", desc := "()I" } : Jvm.MethodName)) ∈ tblG := tG 548 (by decide +kernel) rfl
theorem t549 : (Cond.instanceMethod ({ cls := "BeltSums", name := "zero", desc := "()I" } : Jvm.MethodName)) ∈ tblG := tG 549 (by decide +kernel) rfl
theorem t550 : (Cond.selects "BeltSums" ({ cls := "BeltSums", name := "zero", desc := "()I" } : Jvm.MethodName) ({ cls := "BeltSums", name := "zero", desc := "()I" } : Jvm.MethodName)) ∈ tblG := tG 550 (by decide +kernel) rfl
theorem t551 : (Cond.code ({ cls := "BeltSums", name := "zero", desc := "()I" } : Jvm.MethodName) prog_1_method_8_code (1 : Nat) (Option.some Jvm.ClassFile.FieldType.int)) ∈ tblG := tG 551 (by decide +kernel) rfl
theorem t552 : (Cond.methodLink "BeltSums" (68 : Nat) ({ cls := "BeltSums$Plant", name := "setZero", desc := "()I" } : Jvm.MethodName)) ∈ tblG := tG 552 (by decide +kernel) rfl
theorem t553 : (Cond.instanceMethod ({ cls := "BeltSums$Plant", name := "setZero", desc := "()I" } : Jvm.MethodName)) ∈ tblG := tG 553 (by decide +kernel) rfl
theorem t554 : (Cond.selects "BeltSums$Plant" ({ cls := "BeltSums$Plant", name := "setZero", desc := "()I" } : Jvm.MethodName) ({ cls := "BeltSums$Plant", name := "setZero", desc := "()I" } : Jvm.MethodName)) ∈ tblG := tG 554 (by decide +kernel) rfl
theorem t555 : (Cond.code ({ cls := "BeltSums$Plant", name := "setZero", desc := "()I" } : Jvm.MethodName) prog_8_method_16_code (3 : Nat) (Option.some Jvm.ClassFile.FieldType.int)) ∈ tblG := tG 555 (by decide +kernel) rfl
theorem t556 : (Cond.constant "BeltSums$Plant" (202 : Nat) (1000000 : Int32)) ∈ tblG := tG 556 (by decide +kernel) rfl
theorem t557 : (Cond.constant "BeltSumsLaw" (58 : Nat) (1000000 : Int32)) ∈ tblG := tG 557 (by decide +kernel) rfl
theorem t558 : (Cond.methodLink "BeltSumsLaw" (59 : Nat) ({ cls := "BeltSums", name := "correct", desc := "(I)I" } : Jvm.MethodName)) ∈ tblG := tG 558 (by decide +kernel) rfl
theorem t559 : (Cond.instanceMethod ({ cls := "BeltSums", name := "correct", desc := "(I)I" } : Jvm.MethodName)) ∈ tblG := tG 559 (by decide +kernel) rfl
theorem t560 : (Cond.selects "BeltSums" ({ cls := "BeltSums", name := "correct", desc := "(I)I" } : Jvm.MethodName) ({ cls := "BeltSums", name := "correct", desc := "(I)I" } : Jvm.MethodName)) ∈ tblG := tG 560 (by decide +kernel) rfl
theorem t561 : (Cond.code ({ cls := "BeltSums", name := "correct", desc := "(I)I" } : Jvm.MethodName) prog_1_method_9_code (2 : Nat) (Option.some Jvm.ClassFile.FieldType.int)) ∈ tblG := tG 561 (by decide +kernel) rfl
theorem t562 : (Cond.methodLink "BeltSums" (71 : Nat) ({ cls := "BeltSums$Plant", name := "correctBy", desc := "(I)I" } : Jvm.MethodName)) ∈ tblG := tG 562 (by decide +kernel) rfl
theorem t563 : (Cond.instanceMethod ({ cls := "BeltSums$Plant", name := "correctBy", desc := "(I)I" } : Jvm.MethodName)) ∈ tblG := tG 563 (by decide +kernel) rfl
theorem t564 : (Cond.selects "BeltSums$Plant" ({ cls := "BeltSums$Plant", name := "correctBy", desc := "(I)I" } : Jvm.MethodName) ({ cls := "BeltSums$Plant", name := "correctBy", desc := "(I)I" } : Jvm.MethodName)) ∈ tblG := tG 564 (by decide +kernel) rfl
theorem t565 : (Cond.code ({ cls := "BeltSums$Plant", name := "correctBy", desc := "(I)I" } : Jvm.MethodName) prog_8_method_17_code (4 : Nat) (Option.some Jvm.ClassFile.FieldType.int)) ∈ tblG := tG 565 (by decide +kernel) rfl
theorem t566 : (Cond.methodLink "BeltSums$Plant" (203 : Nat) ({ cls := "BeltSums$Bins", name := "has", desc := "(I)Z" } : Jvm.MethodName)) ∈ tblG := tG 566 (by decide +kernel) rfl
theorem t567 : (Cond.instanceMethod ({ cls := "BeltSums$Bins", name := "has", desc := "(I)Z" } : Jvm.MethodName)) ∈ tblG := tG 567 (by decide +kernel) rfl
theorem t568 : (Cond.selects "BeltSums$Bins" ({ cls := "BeltSums$Bins", name := "has", desc := "(I)Z" } : Jvm.MethodName) ({ cls := "BeltSums$Bins", name := "has", desc := "(I)Z" } : Jvm.MethodName)) ∈ tblG := tG 568 (by decide +kernel) rfl
theorem t569 : (Cond.code ({ cls := "BeltSums$Bins", name := "has", desc := "(I)Z" } : Jvm.MethodName) prog_4_method_3_code (2 : Nat) (Option.some Jvm.ClassFile.FieldType.boolean)) ∈ tblG := tG 569 (by decide +kernel) rfl
theorem t570 : (Cond.methodLink "BeltSums$Plant" (209 : Nat) ({ cls := "BeltSums$Bins", name := "massOf", desc := "(I)I" } : Jvm.MethodName)) ∈ tblG := tG 570 (by decide +kernel) rfl
theorem t571 : (Cond.instanceMethod ({ cls := "BeltSums$Bins", name := "massOf", desc := "(I)I" } : Jvm.MethodName)) ∈ tblG := tG 571 (by decide +kernel) rfl
theorem t572 : (Cond.selects "BeltSums$Bins" ({ cls := "BeltSums$Bins", name := "massOf", desc := "(I)I" } : Jvm.MethodName) ({ cls := "BeltSums$Bins", name := "massOf", desc := "(I)I" } : Jvm.MethodName)) ∈ tblG := tG 572 (by decide +kernel) rfl
theorem t573 : (Cond.code ({ cls := "BeltSums$Bins", name := "massOf", desc := "(I)I" } : Jvm.MethodName) prog_4_method_7_code (4 : Nat) (Option.some Jvm.ClassFile.FieldType.int)) ∈ tblG := tG 573 (by decide +kernel) rfl
theorem t574 : (Cond.constant "BeltSumsLaw" (62 : Nat) (-1000001 : Int32)) ∈ tblG := tG 574 (by decide +kernel) rfl
theorem t575 : (Cond.constantLong "BeltSumsLaw" (63 : Nat) (1000 : Int64)) ∈ tblG := tG 575 (by decide +kernel) rfl
theorem t576 : (Cond.constantLong "BeltSumsLaw" (65 : Nat) (-1 : Int64)) ∈ tblG := tG 576 (by decide +kernel) rfl
theorem t577 : (Cond.constantLong "BeltSumsLaw" (67 : Nat) (500 : Int64)) ∈ tblG := tG 577 (by decide +kernel) rfl
theorem t578 : (Cond.constantLong "BeltSumsLaw" (69 : Nat) (2000 : Int64)) ∈ tblG := tG 578 (by decide +kernel) rfl
theorem t579 : (Cond.methodLink "BeltSumsLaw" (71 : Nat) ({ cls := "BeltSums", name := "account", desc := "(I)I" } : Jvm.MethodName)) ∈ tblG := tG 579 (by decide +kernel) rfl
theorem t580 : (Cond.instanceMethod ({ cls := "BeltSums", name := "account", desc := "(I)I" } : Jvm.MethodName)) ∈ tblG := tG 580 (by decide +kernel) rfl
theorem t581 : (Cond.selects "BeltSums" ({ cls := "BeltSums", name := "account", desc := "(I)I" } : Jvm.MethodName) ({ cls := "BeltSums", name := "account", desc := "(I)I" } : Jvm.MethodName)) ∈ tblG := tG 581 (by decide +kernel) rfl
theorem t582 : (Cond.code ({ cls := "BeltSums", name := "account", desc := "(I)I" } : Jvm.MethodName) prog_1_method_11_code (2 : Nat) (Option.some Jvm.ClassFile.FieldType.int)) ∈ tblG := tG 582 (by decide +kernel) rfl
theorem t583 : (Cond.methodLink "BeltSums" (81 : Nat) ({ cls := "BeltSums$Accounts", name := "add", desc := "(I)I" } : Jvm.MethodName)) ∈ tblG := tG 583 (by decide +kernel) rfl
theorem t584 : (Cond.instanceMethod ({ cls := "BeltSums$Accounts", name := "add", desc := "(I)I" } : Jvm.MethodName)) ∈ tblG := tG 584 (by decide +kernel) rfl
theorem t585 : (Cond.selects "BeltSums$Accounts" ({ cls := "BeltSums$Accounts", name := "add", desc := "(I)I" } : Jvm.MethodName) ({ cls := "BeltSums$Accounts", name := "add", desc := "(I)I" } : Jvm.MethodName)) ∈ tblG := tG 585 (by decide +kernel) rfl
theorem t586 : (Cond.code ({ cls := "BeltSums$Accounts", name := "add", desc := "(I)I" } : Jvm.MethodName) prog_2_method_4_code (2 : Nat) (Option.some Jvm.ClassFile.FieldType.int)) ∈ tblG := tG 586 (by decide +kernel) rfl
theorem t587 : (Cond.methodLink "BeltSums$Accounts" (29 : Nat) ({ cls := "BeltSums$Accounts", name := "has", desc := "(I)Z" } : Jvm.MethodName)) ∈ tblG := tG 587 (by decide +kernel) rfl
theorem t588 : (Cond.instanceMethod ({ cls := "BeltSums$Accounts", name := "has", desc := "(I)Z" } : Jvm.MethodName)) ∈ tblG := tG 588 (by decide +kernel) rfl
theorem t589 : (Cond.selects "BeltSums$Accounts" ({ cls := "BeltSums$Accounts", name := "has", desc := "(I)Z" } : Jvm.MethodName) ({ cls := "BeltSums$Accounts", name := "has", desc := "(I)Z" } : Jvm.MethodName)) ∈ tblG := tG 589 (by decide +kernel) rfl
theorem t590 : (Cond.code ({ cls := "BeltSums$Accounts", name := "has", desc := "(I)Z" } : Jvm.MethodName) prog_2_method_3_code (2 : Nat) (Option.some Jvm.ClassFile.FieldType.boolean)) ∈ tblG := tG 590 (by decide +kernel) rfl
theorem t591 : (Cond.constant "BeltSums$Accounts" (33 : Nat) (-1000001 : Int32)) ∈ tblG := tG 591 (by decide +kernel) rfl
theorem t592 : (Cond.constant "BeltSums$Accounts" (34 : Nat) (-1000003 : Int32)) ∈ tblG := tG 592 (by decide +kernel) rfl
theorem t593 : (Cond.methodLink "BeltSumsLaw" (74 : Nat) ({ cls := "BeltSums", name := "book", desc := "(II)I" } : Jvm.MethodName)) ∈ tblG := tG 593 (by decide +kernel) rfl
theorem t594 : (Cond.instanceMethod ({ cls := "BeltSums", name := "book", desc := "(II)I" } : Jvm.MethodName)) ∈ tblG := tG 594 (by decide +kernel) rfl
theorem t595 : (Cond.selects "BeltSums" ({ cls := "BeltSums", name := "book", desc := "(II)I" } : Jvm.MethodName) ({ cls := "BeltSums", name := "book", desc := "(II)I" } : Jvm.MethodName)) ∈ tblG := tG 595 (by decide +kernel) rfl
theorem t596 : (Cond.code ({ cls := "BeltSums", name := "book", desc := "(II)I" } : Jvm.MethodName) prog_1_method_12_code (3 : Nat) (Option.some Jvm.ClassFile.FieldType.int)) ∈ tblG := tG 596 (by decide +kernel) rfl
theorem t597 : (Cond.methodLink "BeltSums" (86 : Nat) ({ cls := "BeltSums$Accounts", name := "assign", desc := "(II)I" } : Jvm.MethodName)) ∈ tblG := tG 597 (by decide +kernel) rfl
theorem t598 : (Cond.instanceMethod ({ cls := "BeltSums$Accounts", name := "assign", desc := "(II)I" } : Jvm.MethodName)) ∈ tblG := tG 598 (by decide +kernel) rfl
theorem t599 : (Cond.selects "BeltSums$Accounts" ({ cls := "BeltSums$Accounts", name := "assign", desc := "(II)I" } : Jvm.MethodName) ({ cls := "BeltSums$Accounts", name := "assign", desc := "(II)I" } : Jvm.MethodName)) ∈ tblG := tG 599 (by decide +kernel) rfl
theorem t600 : (Cond.code ({ cls := "BeltSums$Accounts", name := "assign", desc := "(II)I" } : Jvm.MethodName) prog_2_method_5_code (4 : Nat) (Option.some Jvm.ClassFile.FieldType.int)) ∈ tblG := tG 600 (by decide +kernel) rfl
theorem t602 : (Cond.methodLink "BeltSumsLaw" (77 : Nat) ({ cls := "BeltSums", name := "set", desc := "(II)I" } : Jvm.MethodName)) ∈ tblG := tG 602 (by decide +kernel) rfl
theorem t603 : (Cond.instanceMethod ({ cls := "BeltSums", name := "set", desc := "(II)I" } : Jvm.MethodName)) ∈ tblG := tG 603 (by decide +kernel) rfl
theorem t604 : (Cond.selects "BeltSums" ({ cls := "BeltSums", name := "set", desc := "(II)I" } : Jvm.MethodName) ({ cls := "BeltSums", name := "set", desc := "(II)I" } : Jvm.MethodName)) ∈ tblG := tG 604 (by decide +kernel) rfl
theorem t605 : (Cond.code ({ cls := "BeltSums", name := "set", desc := "(II)I" } : Jvm.MethodName) prog_1_method_10_code (3 : Nat) (Option.some Jvm.ClassFile.FieldType.int)) ∈ tblG := tG 605 (by decide +kernel) rfl
theorem t606 : (Cond.methodLink "BeltSums" (74 : Nat) ({ cls := "BeltSums$Plant", name := "changeSetting", desc := "(II)I" } : Jvm.MethodName)) ∈ tblG := tG 606 (by decide +kernel) rfl
theorem t607 : (Cond.instanceMethod ({ cls := "BeltSums$Plant", name := "changeSetting", desc := "(II)I" } : Jvm.MethodName)) ∈ tblG := tG 607 (by decide +kernel) rfl
theorem t608 : (Cond.selects "BeltSums$Plant" ({ cls := "BeltSums$Plant", name := "changeSetting", desc := "(II)I" } : Jvm.MethodName) ({ cls := "BeltSums$Plant", name := "changeSetting", desc := "(II)I" } : Jvm.MethodName)) ∈ tblG := tG 608 (by decide +kernel) rfl
theorem t609 : (Cond.code ({ cls := "BeltSums$Plant", name := "changeSetting", desc := "(II)I" } : Jvm.MethodName) prog_8_method_18_code (4 : Nat) (Option.some Jvm.ClassFile.FieldType.int)) ∈ tblG := tG 609 (by decide +kernel) rfl
theorem t614 : (Cond.methodLink "BeltSumsLaw" (110 : Nat) ({ cls := "BeltSumsLaw", name := "isSo", desc := "(LBeltSums;[I[I[I[I[I)Z" } : Jvm.MethodName)) ∈ tblG := tG 614 (by decide +kernel) rfl
theorem t615 : (Cond.static ({ cls := "BeltSumsLaw", name := "isSo", desc := "(LBeltSums;[I[I[I[I[I)Z" } : Jvm.MethodName)) ∈ tblG := tG 615 (by decide +kernel) rfl
theorem t617 : (Cond.methodLink "BeltSumsLaw" (84 : Nat) ({ cls := "BeltSumsLaw", name := "areBins", desc := "(LBeltSums;[I[I)Z" } : Jvm.MethodName)) ∈ tblG := tG 617 (by decide +kernel) rfl
theorem t618 : (Cond.static ({ cls := "BeltSumsLaw", name := "areBins", desc := "(LBeltSums;[I[I)Z" } : Jvm.MethodName)) ∈ tblG := tG 618 (by decide +kernel) rfl
theorem t619 : (Cond.code ({ cls := "BeltSumsLaw", name := "areBins", desc := "(LBeltSums;[I[I)Z" } : Jvm.MethodName) method_9_code (7 : Nat) (Option.some Jvm.ClassFile.FieldType.boolean)) ∈ tblG := tG 619 (by decide +kernel) rfl
theorem t620 : (Cond.methodLink "BeltSumsLaw" (80 : Nat) ({ cls := "BeltSums", name := "binOf", desc := "(II)I" } : Jvm.MethodName)) ∈ tblG := tG 620 (by decide +kernel) rfl
theorem t621 : (Cond.instanceMethod ({ cls := "BeltSums", name := "binOf", desc := "(II)I" } : Jvm.MethodName)) ∈ tblG := tG 621 (by decide +kernel) rfl
theorem t622 : (Cond.selects "BeltSums" ({ cls := "BeltSums", name := "binOf", desc := "(II)I" } : Jvm.MethodName) ({ cls := "BeltSums", name := "binOf", desc := "(II)I" } : Jvm.MethodName)) ∈ tblG := tG 622 (by decide +kernel) rfl
theorem t623 : (Cond.code ({ cls := "BeltSums", name := "binOf", desc := "(II)I" } : Jvm.MethodName) prog_1_method_16_code (4 : Nat) (Option.some Jvm.ClassFile.FieldType.int)) ∈ tblG := tG 623 (by decide +kernel) rfl
theorem t624 : (Cond.methodLink "BeltSums" (143 : Nat) ({ cls := "BeltSums$Bins", name := "has", desc := "(I)Z" } : Jvm.MethodName)) ∈ tblG := tG 624 (by decide +kernel) rfl
theorem t625 : (Cond.methodLink "BeltSums" (150 : Nat) ({ cls := "BeltSums$Bins", name := "massOf", desc := "(I)I" } : Jvm.MethodName)) ∈ tblG := tG 625 (by decide +kernel) rfl
theorem t626 : (Cond.constant "BeltSums" (156 : Nat) (1000000000 : Int32)) ∈ tblG := tG 626 (by decide +kernel) rfl
theorem t627 : (Cond.constant "BeltSumsLaw" (83 : Nat) (1000000000 : Int32)) ∈ tblG := tG 627 (by decide +kernel) rfl
theorem t628 : (Cond.constant "BeltSumsLaw" (94 : Nat) (-1000004 : Int32)) ∈ tblG := tG 628 (by decide +kernel) rfl
theorem t629 : (Cond.methodLink "BeltSumsLaw" (95 : Nat) ({ cls := "BeltSums", name := "accountOf", desc := "(II)I" } : Jvm.MethodName)) ∈ tblG := tG 629 (by decide +kernel) rfl
theorem t630 : (Cond.instanceMethod ({ cls := "BeltSums", name := "accountOf", desc := "(II)I" } : Jvm.MethodName)) ∈ tblG := tG 630 (by decide +kernel) rfl
theorem t631 : (Cond.selects "BeltSums" ({ cls := "BeltSums", name := "accountOf", desc := "(II)I" } : Jvm.MethodName) ({ cls := "BeltSums", name := "accountOf", desc := "(II)I" } : Jvm.MethodName)) ∈ tblG := tG 631 (by decide +kernel) rfl
theorem t632 : (Cond.code ({ cls := "BeltSums", name := "accountOf", desc := "(II)I" } : Jvm.MethodName) prog_1_method_13_code (4 : Nat) (Option.some Jvm.ClassFile.FieldType.int)) ∈ tblG := tG 632 (by decide +kernel) rfl
theorem t633 : (Cond.methodLink "BeltSums" (89 : Nat) ({ cls := "BeltSums$Accounts", name := "has", desc := "(I)Z" } : Jvm.MethodName)) ∈ tblG := tG 633 (by decide +kernel) rfl
theorem t634 : (Cond.methodLink "BeltSums" (102 : Nat) ({ cls := "BeltSums$Accounts", name := "massWithAllUnder", desc := "(I)I" } : Jvm.MethodName)) ∈ tblG := tG 634 (by decide +kernel) rfl
theorem t635 : (Cond.instanceMethod ({ cls := "BeltSums$Accounts", name := "massWithAllUnder", desc := "(I)I" } : Jvm.MethodName)) ∈ tblG := tG 635 (by decide +kernel) rfl
theorem t636 : (Cond.selects "BeltSums$Accounts" ({ cls := "BeltSums$Accounts", name := "massWithAllUnder", desc := "(I)I" } : Jvm.MethodName) ({ cls := "BeltSums$Accounts", name := "massWithAllUnder", desc := "(I)I" } : Jvm.MethodName)) ∈ tblG := tG 636 (by decide +kernel) rfl
theorem t637 : (Cond.code ({ cls := "BeltSums$Accounts", name := "massWithAllUnder", desc := "(I)I" } : Jvm.MethodName) prog_2_method_8_code (4 : Nat) (Option.some Jvm.ClassFile.FieldType.int)) ∈ tblG := tG 637 (by decide +kernel) rfl
theorem t638 : (Cond.methodLink "BeltSums$Accounts" (38 : Nat) ({ cls := "BeltSums$Accounts", name := "isUnder", desc := "(II)Z" } : Jvm.MethodName)) ∈ tblG := tG 638 (by decide +kernel) rfl
theorem t639 : (Cond.instanceMethod ({ cls := "BeltSums$Accounts", name := "isUnder", desc := "(II)Z" } : Jvm.MethodName)) ∈ tblG := tG 639 (by decide +kernel) rfl
theorem t640 : (Cond.selects "BeltSums$Accounts" ({ cls := "BeltSums$Accounts", name := "isUnder", desc := "(II)Z" } : Jvm.MethodName) ({ cls := "BeltSums$Accounts", name := "isUnder", desc := "(II)Z" } : Jvm.MethodName)) ∈ tblG := tG 640 (by decide +kernel) rfl
theorem t641 : (Cond.code ({ cls := "BeltSums$Accounts", name := "isUnder", desc := "(II)Z" } : Jvm.MethodName) prog_2_method_7_code (5 : Nat) (Option.some Jvm.ClassFile.FieldType.boolean)) ∈ tblG := tG 641 (by decide +kernel) rfl
theorem t642 : (Cond.methodLink "BeltSums" (105 : Nat) ({ cls := "BeltSums$Accounts", name := "countUnder", desc := "(I)I" } : Jvm.MethodName)) ∈ tblG := tG 642 (by decide +kernel) rfl
theorem t643 : (Cond.instanceMethod ({ cls := "BeltSums$Accounts", name := "countUnder", desc := "(I)I" } : Jvm.MethodName)) ∈ tblG := tG 643 (by decide +kernel) rfl
theorem t644 : (Cond.selects "BeltSums$Accounts" ({ cls := "BeltSums$Accounts", name := "countUnder", desc := "(I)I" } : Jvm.MethodName) ({ cls := "BeltSums$Accounts", name := "countUnder", desc := "(I)I" } : Jvm.MethodName)) ∈ tblG := tG 644 (by decide +kernel) rfl
theorem t645 : (Cond.code ({ cls := "BeltSums$Accounts", name := "countUnder", desc := "(I)I" } : Jvm.MethodName) prog_2_method_9_code (4 : Nat) (Option.some Jvm.ClassFile.FieldType.int)) ∈ tblG := tG 645 (by decide +kernel) rfl
theorem t646 : (Cond.methodLink "BeltSums" (108 : Nat) ({ cls := "BeltSums$Accounts", name := "depth", desc := "(I)I" } : Jvm.MethodName)) ∈ tblG := tG 646 (by decide +kernel) rfl
theorem t647 : (Cond.instanceMethod ({ cls := "BeltSums$Accounts", name := "depth", desc := "(I)I" } : Jvm.MethodName)) ∈ tblG := tG 647 (by decide +kernel) rfl
theorem t648 : (Cond.selects "BeltSums$Accounts" ({ cls := "BeltSums$Accounts", name := "depth", desc := "(I)I" } : Jvm.MethodName) ({ cls := "BeltSums$Accounts", name := "depth", desc := "(I)I" } : Jvm.MethodName)) ∈ tblG := tG 648 (by decide +kernel) rfl
theorem t649 : (Cond.code ({ cls := "BeltSums$Accounts", name := "depth", desc := "(I)I" } : Jvm.MethodName) prog_2_method_10_code (5 : Nat) (Option.some Jvm.ClassFile.FieldType.int)) ∈ tblG := tG 649 (by decide +kernel) rfl
theorem t650 : (Cond.methodLink "BeltSumsLaw" (101 : Nat) ({ cls := "BeltSums", name := "scale", desc := "(I)I" } : Jvm.MethodName)) ∈ tblG := tG 650 (by decide +kernel) rfl
theorem t651 : (Cond.instanceMethod ({ cls := "BeltSums", name := "scale", desc := "(I)I" } : Jvm.MethodName)) ∈ tblG := tG 651 (by decide +kernel) rfl
theorem t652 : (Cond.selects "BeltSums" ({ cls := "BeltSums", name := "scale", desc := "(I)I" } : Jvm.MethodName) ({ cls := "BeltSums", name := "scale", desc := "(I)I" } : Jvm.MethodName)) ∈ tblG := tG 652 (by decide +kernel) rfl
theorem t653 : (Cond.code ({ cls := "BeltSums", name := "scale", desc := "(I)I" } : Jvm.MethodName) prog_1_method_17_code (3 : Nat) (Option.some Jvm.ClassFile.FieldType.int)) ∈ tblG := tG 653 (by decide +kernel) rfl
theorem t654 : (Cond.methodLink "BeltSums" (164 : Nat) ({ cls := "BeltSums$Belt", name := "massSeen", desc := "()I" } : Jvm.MethodName)) ∈ tblG := tG 654 (by decide +kernel) rfl
theorem t655 : (Cond.methodLink "BeltSums" (167 : Nat) ({ cls := "BeltSums$Scale", name := "reading", desc := "(I)I" } : Jvm.MethodName)) ∈ tblG := tG 655 (by decide +kernel) rfl
theorem t656 : (Cond.constant "BeltSums" (172 : Nat) (1000000 : Int32)) ∈ tblG := tG 656 (by decide +kernel) rfl
theorem t657 : (Cond.methodLink "BeltSums" (182 : Nat) ({ cls := "BeltSums$Scale", name := "toldTotal", desc := "()I" } : Jvm.MethodName)) ∈ tblG := tG 657 (by decide +kernel) rfl
theorem t658 : (Cond.instanceMethod ({ cls := "BeltSums$Scale", name := "toldTotal", desc := "()I" } : Jvm.MethodName)) ∈ tblG := tG 658 (by decide +kernel) rfl
theorem t659 : (Cond.selects "BeltSums$Scale" ({ cls := "BeltSums$Scale", name := "toldTotal", desc := "()I" } : Jvm.MethodName) ({ cls := "BeltSums$Scale", name := "toldTotal", desc := "()I" } : Jvm.MethodName)) ∈ tblG := tG 659 (by decide +kernel) rfl
theorem t660 : (Cond.code ({ cls := "BeltSums$Scale", name := "toldTotal", desc := "()I" } : Jvm.MethodName) prog_10_method_5_code (1 : Nat) (Option.some Jvm.ClassFile.FieldType.int)) ∈ tblG := tG 660 (by decide +kernel) rfl
theorem t661 : (Cond.constantLong "BeltSums$Scale" (31 : Nat) (1000 : Int64)) ∈ tblG := tG 661 (by decide +kernel) rfl
theorem t662 : (Cond.constantLong "BeltSumsLaw" (104 : Nat) (1000000000 : Int64)) ∈ tblG := tG 662 (by decide +kernel) rfl
theorem t663 : (Cond.methodLink "BeltSumsLaw" (106 : Nat) ({ cls := "BeltSums", name := "error", desc := "()I" } : Jvm.MethodName)) ∈ tblG := tG 663 (by decide +kernel) rfl
theorem t664 : (Cond.instanceMethod ({ cls := "BeltSums", name := "error", desc := "()I" } : Jvm.MethodName)) ∈ tblG := tG 664 (by decide +kernel) rfl
theorem t665 : (Cond.selects "BeltSums" ({ cls := "BeltSums", name := "error", desc := "()I" } : Jvm.MethodName) ({ cls := "BeltSums", name := "error", desc := "()I" } : Jvm.MethodName)) ∈ tblG := tG 665 (by decide +kernel) rfl
theorem t666 : (Cond.code ({ cls := "BeltSums", name := "error", desc := "()I" } : Jvm.MethodName) prog_1_method_21_code (1 : Nat) (Option.some Jvm.ClassFile.FieldType.int)) ∈ tblG := tG 666 (by decide +kernel) rfl
def nestWs : List Cond := [(Jvm.Cond.methodLinkNest "BeltSums$Plant" (11 : Nat) ({ cls := "BeltSums$Hopper", name := "<init>", desc := "()V" } : Jvm.MethodName) "BeltSums"), (Jvm.Cond.methodLinkNest "BeltSums$Plant" (20 : Nat) ({ cls := "BeltSums$Belt", name := "<init>", desc := "()V" } : Jvm.MethodName) "BeltSums"), (Jvm.Cond.methodLinkNest "BeltSums$Plant" (27 : Nat) ({ cls := "BeltSums$Bins", name := "<init>", desc := "()V" } : Jvm.MethodName) "BeltSums"), (Jvm.Cond.methodLinkNest "BeltSums$Plant" (34 : Nat) ({ cls := "BeltSums$Scale", name := "<init>", desc := "()V" } : Jvm.MethodName) "BeltSums"), (Jvm.Cond.methodLinkNest "BeltSums$Plant" (41 : Nat) ({ cls := "BeltSums$Accounts", name := "<init>", desc := "()V" } : Jvm.MethodName) "BeltSums"), (Jvm.Cond.fieldLinkNest "BeltSums$Plant" (54 : Nat) "BeltSums" "FIRST_SETTINGS" "[I" "BeltSums"), (Jvm.Cond.methodLinkNest "BeltSums$Plant" (57 : Nat) ({ cls := "BeltSums", name := "copyInto", desc := "([I[I)V" } : Jvm.MethodName) "BeltSums"), (Jvm.Cond.methodLinkNest "BeltSums" (21 : Nat) ({ cls := "BeltSums$History", name := "<init>", desc := "()V" } : Jvm.MethodName) "BeltSums"), (Jvm.Cond.methodLinkNest "BeltSums" (28 : Nat) ({ cls := "BeltSums$Text", name := "<init>", desc := "()V" } : Jvm.MethodName) "BeltSums"), (Jvm.Cond.methodLinkNest "BeltSums" (35 : Nat) ({ cls := "BeltSums$Rehearsal", name := "<init>", desc := "()V" } : Jvm.MethodName) "BeltSums"), (Jvm.Cond.methodLinkNest "BeltSums$Rehearsal" (11 : Nat) ({ cls := "BeltSums$Command", name := "<init>", desc := "()V" } : Jvm.MethodName) "BeltSums"), (Jvm.Cond.methodLinkNest "BeltSums$Hopper" (18 : Nat) ({ cls := "BeltSums", name := "copyInto", desc := "([I[I)V" } : Jvm.MethodName) "BeltSums"), (Jvm.Cond.methodLinkNest "BeltSums$Belt" (15 : Nat) ({ cls := "BeltSums", name := "copyInto", desc := "([I[I)V" } : Jvm.MethodName) "BeltSums"), (Jvm.Cond.methodLinkNest "BeltSums$Bins" (21 : Nat) ({ cls := "BeltSums", name := "copyInto", desc := "([I[I)V" } : Jvm.MethodName) "BeltSums"), (Jvm.Cond.methodLinkNest "BeltSums$Accounts" (25 : Nat) ({ cls := "BeltSums", name := "copyInto", desc := "([I[I)V" } : Jvm.MethodName) "BeltSums"), (Jvm.Cond.methodLinkNest "BeltSums$Plant" (102 : Nat) ({ cls := "BeltSums", name := "isKind", desc := "(I)Z" } : Jvm.MethodName) "BeltSums"), (Jvm.Cond.methodLinkNest "BeltSums$Accounts" (35 : Nat) ({ cls := "BeltSums", name := "isKind", desc := "(I)Z" } : Jvm.MethodName) "BeltSums"), (Jvm.Cond.fieldLinkNest "BeltSums$Plant" (215 : Nat) "BeltSums" "LEAST_SETTINGS" "[I" "BeltSums"), (Jvm.Cond.fieldLinkNest "BeltSums$Plant" (218 : Nat) "BeltSums" "MOST_SETTINGS" "[I" "BeltSums")]
theorem inW0 : ∀ w ∈ u_ws RX0 TX0 4, w ∈ tblG := by
  have e : u_ws RX0 TX0 4 = [(Jvm.Cond.laysFinal "BeltSums$Accounts" "BeltSums$Accounts" "within" "[I"), (Jvm.Cond.laysFinal "BeltSums$Accounts" "BeltSums$Accounts" "own" "[I"), (Jvm.Cond.laysFinal "BeltSums$Accounts" "BeltSums$Accounts" "assigned" "[I"), (Jvm.Cond.lays "BeltSums$Accounts" "BeltSums$Accounts" "many" "I")] := rfl
  rw [e]
  exact List.forall_mem_cons.mpr ⟨t147, List.forall_mem_cons.mpr ⟨t149, List.forall_mem_cons.mpr ⟨t151, List.forall_mem_cons.mpr ⟨t153, fun _ h => absurd h List.not_mem_nil⟩⟩⟩⟩
theorem inW1 : ∀ w ∈ u_ws RX1 TX1 3, w ∈ tblG := by
  have e : u_ws RX1 TX1 3 = [(Jvm.Cond.laysFinal "BeltSums$Belt" "BeltSums$Belt" "masses" "[I"), (Jvm.Cond.lays "BeltSums$Belt" "BeltSums$Belt" "start" "I"), (Jvm.Cond.lays "BeltSums$Belt" "BeltSums$Belt" "total" "I")] := rfl
  rw [e]
  exact List.forall_mem_cons.mpr ⟨t72, List.forall_mem_cons.mpr ⟨t74, List.forall_mem_cons.mpr ⟨t76, fun _ h => absurd h List.not_mem_nil⟩⟩⟩
theorem inW2 : ∀ w ∈ u_ws RX2 TX2 4, w ∈ tblG := by
  have e : u_ws RX2 TX2 4 = [(Jvm.Cond.laysFinal "BeltSums$Bins" "BeltSums$Bins" "masses" "[I"), (Jvm.Cond.laysFinal "BeltSums$Bins" "BeltSums$Bins" "grown" "[I"), (Jvm.Cond.laysFinal "BeltSums$Bins" "BeltSums$Bins" "ticksFilled" "[I"), (Jvm.Cond.lays "BeltSums$Bins" "BeltSums$Bins" "many" "I")] := rfl
  rw [e]
  exact List.forall_mem_cons.mpr ⟨t95, List.forall_mem_cons.mpr ⟨t97, List.forall_mem_cons.mpr ⟨t99, List.forall_mem_cons.mpr ⟨t101, fun _ h => absurd h List.not_mem_nil⟩⟩⟩⟩
theorem inW3 : ∀ w ∈ u_ws RX3 TX3 4, w ∈ tblG := by
  have e : u_ws RX3 TX3 4 = [(Jvm.Cond.lays "BeltSums$Command" "BeltSums$Command" "letter" "I"), (Jvm.Cond.lays "BeltSums$Command" "BeltSums$Command" "first" "I"), (Jvm.Cond.lays "BeltSums$Command" "BeltSums$Command" "second" "I"), (Jvm.Cond.lays "BeltSums$Command" "BeltSums$Command" "end" "I")] := rfl
  rw [e]
  exact List.forall_mem_cons.mpr ⟨t278, List.forall_mem_cons.mpr ⟨t280, List.forall_mem_cons.mpr ⟨t282, List.forall_mem_cons.mpr ⟨t284, fun _ h => absurd h List.not_mem_nil⟩⟩⟩⟩
theorem inW4 : ∀ w ∈ u_ws RX4 TX4 5, w ∈ tblG := by
  have e : u_ws RX4 TX4 5 = [(Jvm.Cond.lays "BeltSums$History" "BeltSums$History" "latest" "LBeltSums$Plant;"), (Jvm.Cond.lays "BeltSums$History" "BeltSums$History" "second" "LBeltSums$Plant;"), (Jvm.Cond.lays "BeltSums$History" "BeltSums$History" "third" "LBeltSums$Plant;"), (Jvm.Cond.lays "BeltSums$History" "BeltSums$History" "oldest" "LBeltSums$Plant;"), (Jvm.Cond.lays "BeltSums$History" "BeltSums$History" "states" "I")] := rfl
  rw [e]
  exact List.forall_mem_cons.mpr ⟨t241, List.forall_mem_cons.mpr ⟨t243, List.forall_mem_cons.mpr ⟨t245, List.forall_mem_cons.mpr ⟨t247, List.forall_mem_cons.mpr ⟨t249, fun _ h => absurd h List.not_mem_nil⟩⟩⟩⟩⟩
theorem inW5 : ∀ w ∈ u_ws RX5 TX5 4, w ∈ tblG := by
  have e : u_ws RX5 TX5 4 = [(Jvm.Cond.laysFinal "BeltSums$Hopper" "BeltSums$Hopper" "kinds" "[I"), (Jvm.Cond.laysFinal "BeltSums$Hopper" "BeltSums$Hopper" "masses" "[I"), (Jvm.Cond.lays "BeltSums$Hopper" "BeltSums$Hopper" "lots" "I"), (Jvm.Cond.lays "BeltSums$Hopper" "BeltSums$Hopper" "putSoFar" "I")] := rfl
  rw [e]
  exact List.forall_mem_cons.mpr ⟨t51, List.forall_mem_cons.mpr ⟨t53, List.forall_mem_cons.mpr ⟨t55, List.forall_mem_cons.mpr ⟨t57, fun _ h => absurd h List.not_mem_nil⟩⟩⟩⟩
theorem inW6 : ∀ w ∈ u_ws RX6 TX6 15, w ∈ tblG := by
  have e : u_ws RX6 TX6 15 = [(Jvm.Cond.laysFinal "BeltSums$Plant" "BeltSums$Plant" "hopper" "LBeltSums$Hopper;"), (Jvm.Cond.laysFinal "BeltSums$Plant" "BeltSums$Plant" "belt" "LBeltSums$Belt;"), (Jvm.Cond.laysFinal "BeltSums$Plant" "BeltSums$Plant" "bins" "LBeltSums$Bins;"), (Jvm.Cond.laysFinal "BeltSums$Plant" "BeltSums$Plant" "scale" "LBeltSums$Scale;"), (Jvm.Cond.laysFinal "BeltSums$Plant" "BeltSums$Plant" "accounts" "LBeltSums$Accounts;"), (Jvm.Cond.laysFinal "BeltSums$Plant" "BeltSums$Plant" "settings" "[I"), (Jvm.Cond.lays "BeltSums$Plant" "BeltSums$Plant" "gateWidth" "I"), (Jvm.Cond.lays "BeltSums$Plant" "BeltSums$Plant" "switchedOn" "I"), (Jvm.Cond.lays "BeltSums$Plant" "BeltSums$Plant" "batchMass" "I"), (Jvm.Cond.lays "BeltSums$Plant" "BeltSums$Plant" "batchStopped" "Z"), (Jvm.Cond.lays "BeltSums$Plant" "BeltSums$Plant" "cameInBatch" "I"), (Jvm.Cond.lays "BeltSums$Plant" "BeltSums$Plant" "time" "I"), (Jvm.Cond.lays "BeltSums$Plant" "BeltSums$Plant" "ticksStood" "I"), (Jvm.Cond.lays "BeltSums$Plant" "BeltSums$Plant" "spilt" "I"), (Jvm.Cond.lays "BeltSums$Plant" "BeltSums$Plant" "fallen" "I")] := rfl
  rw [e]
  exact List.forall_mem_cons.mpr ⟨t196, List.forall_mem_cons.mpr ⟨t198, List.forall_mem_cons.mpr ⟨t200, List.forall_mem_cons.mpr ⟨t202, List.forall_mem_cons.mpr ⟨t204, List.forall_mem_cons.mpr ⟨t206, List.forall_mem_cons.mpr ⟨t208, List.forall_mem_cons.mpr ⟨t210, List.forall_mem_cons.mpr ⟨t212, List.forall_mem_cons.mpr ⟨t214, List.forall_mem_cons.mpr ⟨t216, List.forall_mem_cons.mpr ⟨t218, List.forall_mem_cons.mpr ⟨t220, List.forall_mem_cons.mpr ⟨t222, List.forall_mem_cons.mpr ⟨t224, fun _ h => absurd h List.not_mem_nil⟩⟩⟩⟩⟩⟩⟩⟩⟩⟩⟩⟩⟩⟩⟩
theorem inW7 : ∀ w ∈ u_ws RX7 TX7 5, w ∈ tblG := by
  have e : u_ws RX7 TX7 5 = [(Jvm.Cond.laysFinal "BeltSums$Rehearsal" "BeltSums$Rehearsal" "command" "LBeltSums$Command;"), (Jvm.Cond.lays "BeltSums$Rehearsal" "BeltSums$Rehearsal" "position" "I"), (Jvm.Cond.lays "BeltSums$Rehearsal" "BeltSums$Rehearsal" "reason" "I"), (Jvm.Cond.lays "BeltSums$Rehearsal" "BeltSums$Rehearsal" "cause" "I"), (Jvm.Cond.lays "BeltSums$Rehearsal" "BeltSums$Rehearsal" "done" "I")] := rfl
  rw [e]
  exact List.forall_mem_cons.mpr ⟨t288, List.forall_mem_cons.mpr ⟨t290, List.forall_mem_cons.mpr ⟨t292, List.forall_mem_cons.mpr ⟨t294, List.forall_mem_cons.mpr ⟨t296, fun _ h => absurd h List.not_mem_nil⟩⟩⟩⟩⟩
theorem inW8 : ∀ w ∈ u_ws RX8 TX8 5, w ∈ tblG := by
  have e : u_ws RX8 TX8 5 = [(Jvm.Cond.lays "BeltSums$Scale" "BeltSums$Scale" "drift" "I"), (Jvm.Cond.lays "BeltSums$Scale" "BeltSums$Scale" "zero" "I"), (Jvm.Cond.lays "BeltSums$Scale" "BeltSums$Scale" "sum" "I"), (Jvm.Cond.lays "BeltSums$Scale" "BeltSums$Scale" "rest" "I"), (Jvm.Cond.lays "BeltSums$Scale" "BeltSums$Scale" "factor" "I")] := rfl
  rw [e]
  exact List.forall_mem_cons.mpr ⟨t122, List.forall_mem_cons.mpr ⟨t124, List.forall_mem_cons.mpr ⟨t126, List.forall_mem_cons.mpr ⟨t128, List.forall_mem_cons.mpr ⟨t130, fun _ h => absurd h List.not_mem_nil⟩⟩⟩⟩⟩
theorem inW9 : ∀ w ∈ u_ws RX9 TX9 2, w ∈ tblG := by
  have e : u_ws RX9 TX9 2 = [(Jvm.Cond.laysFinal "BeltSums$Text" "BeltSums$Text" "characters" "[C"), (Jvm.Cond.lays "BeltSums$Text" "BeltSums$Text" "length" "I")] := rfl
  rw [e]
  exact List.forall_mem_cons.mpr ⟨t260, List.forall_mem_cons.mpr ⟨t262, fun _ h => absurd h List.not_mem_nil⟩⟩
theorem inW10 : ∀ w ∈ u_ws RX10 TX10 5, w ∈ tblG := by
  have e : u_ws RX10 TX10 5 = [(Jvm.Cond.laysFinal "BeltSums" "BeltSums" "now" "LBeltSums$Plant;"), (Jvm.Cond.laysFinal "BeltSums" "BeltSums" "spare" "LBeltSums$Plant;"), (Jvm.Cond.laysFinal "BeltSums" "BeltSums" "history" "LBeltSums$History;"), (Jvm.Cond.laysFinal "BeltSums" "BeltSums" "text" "LBeltSums$Text;"), (Jvm.Cond.laysFinal "BeltSums" "BeltSums" "rehearsal" "LBeltSums$Rehearsal;")] := rfl
  rw [e]
  exact List.forall_mem_cons.mpr ⟨t304, List.forall_mem_cons.mpr ⟨t306, List.forall_mem_cons.mpr ⟨t308, List.forall_mem_cons.mpr ⟨t310, List.forall_mem_cons.mpr ⟨t312, fun _ h => absurd h List.not_mem_nil⟩⟩⟩⟩⟩
theorem n36 : (Cond.methodLinkNest "BeltSums$Plant" (11 : Nat) ({ cls := "BeltSums$Hopper", name := "<init>", desc := "()V" } : Jvm.MethodName) "BeltSums") ∈ nestWs := List.mem_of_getElem? (i := 0) rfl
theorem nt36 : (Cond.methodLinkNest "BeltSums$Plant" (11 : Nat) ({ cls := "BeltSums$Hopper", name := "<init>", desc := "()V" } : Jvm.MethodName) "BeltSums") ∈ lw_tbl := List.mem_of_getElem? (i := 36) (by decide +kernel)
theorem n63 : (Cond.methodLinkNest "BeltSums$Plant" (20 : Nat) ({ cls := "BeltSums$Belt", name := "<init>", desc := "()V" } : Jvm.MethodName) "BeltSums") ∈ nestWs := List.mem_of_getElem? (i := 1) rfl
theorem nt63 : (Cond.methodLinkNest "BeltSums$Plant" (20 : Nat) ({ cls := "BeltSums$Belt", name := "<init>", desc := "()V" } : Jvm.MethodName) "BeltSums") ∈ lw_tbl := List.mem_of_getElem? (i := 63) (by decide +kernel)
theorem n81 : (Cond.methodLinkNest "BeltSums$Plant" (27 : Nat) ({ cls := "BeltSums$Bins", name := "<init>", desc := "()V" } : Jvm.MethodName) "BeltSums") ∈ nestWs := List.mem_of_getElem? (i := 2) rfl
theorem nt81 : (Cond.methodLinkNest "BeltSums$Plant" (27 : Nat) ({ cls := "BeltSums$Bins", name := "<init>", desc := "()V" } : Jvm.MethodName) "BeltSums") ∈ lw_tbl := List.mem_of_getElem? (i := 81) (by decide +kernel)
theorem n106 : (Cond.methodLinkNest "BeltSums$Plant" (34 : Nat) ({ cls := "BeltSums$Scale", name := "<init>", desc := "()V" } : Jvm.MethodName) "BeltSums") ∈ nestWs := List.mem_of_getElem? (i := 3) rfl
theorem nt106 : (Cond.methodLinkNest "BeltSums$Plant" (34 : Nat) ({ cls := "BeltSums$Scale", name := "<init>", desc := "()V" } : Jvm.MethodName) "BeltSums") ∈ lw_tbl := List.mem_of_getElem? (i := 106) (by decide +kernel)
theorem n135 : (Cond.methodLinkNest "BeltSums$Plant" (41 : Nat) ({ cls := "BeltSums$Accounts", name := "<init>", desc := "()V" } : Jvm.MethodName) "BeltSums") ∈ nestWs := List.mem_of_getElem? (i := 4) rfl
theorem nt135 : (Cond.methodLinkNest "BeltSums$Plant" (41 : Nat) ({ cls := "BeltSums$Accounts", name := "<init>", desc := "()V" } : Jvm.MethodName) "BeltSums") ∈ lw_tbl := List.mem_of_getElem? (i := 135) (by decide +kernel)
theorem n156 : (Cond.fieldLinkNest "BeltSums$Plant" (54 : Nat) "BeltSums" "FIRST_SETTINGS" "[I" "BeltSums") ∈ nestWs := List.mem_of_getElem? (i := 5) rfl
theorem nt156 : (Cond.fieldLinkNest "BeltSums$Plant" (54 : Nat) "BeltSums" "FIRST_SETTINGS" "[I" "BeltSums") ∈ lw_tbl := List.mem_of_getElem? (i := 156) (by decide +kernel)
theorem n158 : (Cond.methodLinkNest "BeltSums$Plant" (57 : Nat) ({ cls := "BeltSums", name := "copyInto", desc := "([I[I)V" } : Jvm.MethodName) "BeltSums") ∈ nestWs := List.mem_of_getElem? (i := 6) rfl
theorem nt158 : (Cond.methodLinkNest "BeltSums$Plant" (57 : Nat) ({ cls := "BeltSums", name := "copyInto", desc := "([I[I)V" } : Jvm.MethodName) "BeltSums") ∈ lw_tbl := List.mem_of_getElem? (i := 158) (by decide +kernel)
theorem n229 : (Cond.methodLinkNest "BeltSums" (21 : Nat) ({ cls := "BeltSums$History", name := "<init>", desc := "()V" } : Jvm.MethodName) "BeltSums") ∈ nestWs := List.mem_of_getElem? (i := 7) rfl
theorem nt229 : (Cond.methodLinkNest "BeltSums" (21 : Nat) ({ cls := "BeltSums$History", name := "<init>", desc := "()V" } : Jvm.MethodName) "BeltSums") ∈ lw_tbl := List.mem_of_getElem? (i := 229) (by decide +kernel)
theorem n254 : (Cond.methodLinkNest "BeltSums" (28 : Nat) ({ cls := "BeltSums$Text", name := "<init>", desc := "()V" } : Jvm.MethodName) "BeltSums") ∈ nestWs := List.mem_of_getElem? (i := 8) rfl
theorem nt254 : (Cond.methodLinkNest "BeltSums" (28 : Nat) ({ cls := "BeltSums$Text", name := "<init>", desc := "()V" } : Jvm.MethodName) "BeltSums") ∈ lw_tbl := List.mem_of_getElem? (i := 254) (by decide +kernel)
theorem n268 : (Cond.methodLinkNest "BeltSums" (35 : Nat) ({ cls := "BeltSums$Rehearsal", name := "<init>", desc := "()V" } : Jvm.MethodName) "BeltSums") ∈ nestWs := List.mem_of_getElem? (i := 9) rfl
theorem nt268 : (Cond.methodLinkNest "BeltSums" (35 : Nat) ({ cls := "BeltSums$Rehearsal", name := "<init>", desc := "()V" } : Jvm.MethodName) "BeltSums") ∈ lw_tbl := List.mem_of_getElem? (i := 268) (by decide +kernel)
theorem n274 : (Cond.methodLinkNest "BeltSums$Rehearsal" (11 : Nat) ({ cls := "BeltSums$Command", name := "<init>", desc := "()V" } : Jvm.MethodName) "BeltSums") ∈ nestWs := List.mem_of_getElem? (i := 10) rfl
theorem nt274 : (Cond.methodLinkNest "BeltSums$Rehearsal" (11 : Nat) ({ cls := "BeltSums$Command", name := "<init>", desc := "()V" } : Jvm.MethodName) "BeltSums") ∈ lw_tbl := List.mem_of_getElem? (i := 274) (by decide +kernel)
theorem n388 : (Cond.methodLinkNest "BeltSums$Hopper" (18 : Nat) ({ cls := "BeltSums", name := "copyInto", desc := "([I[I)V" } : Jvm.MethodName) "BeltSums") ∈ nestWs := List.mem_of_getElem? (i := 11) rfl
theorem nt388 : (Cond.methodLinkNest "BeltSums$Hopper" (18 : Nat) ({ cls := "BeltSums", name := "copyInto", desc := "([I[I)V" } : Jvm.MethodName) "BeltSums") ∈ lw_tbl := List.mem_of_getElem? (i := 388) (by decide +kernel)
theorem n393 : (Cond.methodLinkNest "BeltSums$Belt" (15 : Nat) ({ cls := "BeltSums", name := "copyInto", desc := "([I[I)V" } : Jvm.MethodName) "BeltSums") ∈ nestWs := List.mem_of_getElem? (i := 12) rfl
theorem nt393 : (Cond.methodLinkNest "BeltSums$Belt" (15 : Nat) ({ cls := "BeltSums", name := "copyInto", desc := "([I[I)V" } : Jvm.MethodName) "BeltSums") ∈ lw_tbl := List.mem_of_getElem? (i := 393) (by decide +kernel)
theorem n398 : (Cond.methodLinkNest "BeltSums$Bins" (21 : Nat) ({ cls := "BeltSums", name := "copyInto", desc := "([I[I)V" } : Jvm.MethodName) "BeltSums") ∈ nestWs := List.mem_of_getElem? (i := 13) rfl
theorem nt398 : (Cond.methodLinkNest "BeltSums$Bins" (21 : Nat) ({ cls := "BeltSums", name := "copyInto", desc := "([I[I)V" } : Jvm.MethodName) "BeltSums") ∈ lw_tbl := List.mem_of_getElem? (i := 398) (by decide +kernel)
theorem n407 : (Cond.methodLinkNest "BeltSums$Accounts" (25 : Nat) ({ cls := "BeltSums", name := "copyInto", desc := "([I[I)V" } : Jvm.MethodName) "BeltSums") ∈ nestWs := List.mem_of_getElem? (i := 14) rfl
theorem nt407 : (Cond.methodLinkNest "BeltSums$Accounts" (25 : Nat) ({ cls := "BeltSums", name := "copyInto", desc := "([I[I)V" } : Jvm.MethodName) "BeltSums") ∈ lw_tbl := List.mem_of_getElem? (i := 407) (by decide +kernel)
theorem n535 : (Cond.methodLinkNest "BeltSums$Plant" (102 : Nat) ({ cls := "BeltSums", name := "isKind", desc := "(I)Z" } : Jvm.MethodName) "BeltSums") ∈ nestWs := List.mem_of_getElem? (i := 15) rfl
theorem nt535 : (Cond.methodLinkNest "BeltSums$Plant" (102 : Nat) ({ cls := "BeltSums", name := "isKind", desc := "(I)Z" } : Jvm.MethodName) "BeltSums") ∈ lw_tbl := List.mem_of_getElem? (i := 535) (by decide +kernel)
theorem n601 : (Cond.methodLinkNest "BeltSums$Accounts" (35 : Nat) ({ cls := "BeltSums", name := "isKind", desc := "(I)Z" } : Jvm.MethodName) "BeltSums") ∈ nestWs := List.mem_of_getElem? (i := 16) rfl
theorem nt601 : (Cond.methodLinkNest "BeltSums$Accounts" (35 : Nat) ({ cls := "BeltSums", name := "isKind", desc := "(I)Z" } : Jvm.MethodName) "BeltSums") ∈ lw_tbl := List.mem_of_getElem? (i := 601) (by decide +kernel)
theorem n610 : (Cond.fieldLinkNest "BeltSums$Plant" (215 : Nat) "BeltSums" "LEAST_SETTINGS" "[I" "BeltSums") ∈ nestWs := List.mem_of_getElem? (i := 17) rfl
theorem nt610 : (Cond.fieldLinkNest "BeltSums$Plant" (215 : Nat) "BeltSums" "LEAST_SETTINGS" "[I" "BeltSums") ∈ lw_tbl := List.mem_of_getElem? (i := 610) (by decide +kernel)
theorem n612 : (Cond.fieldLinkNest "BeltSums$Plant" (218 : Nat) "BeltSums" "MOST_SETTINGS" "[I" "BeltSums") ∈ nestWs := List.mem_of_getElem? (i := 18) rfl
theorem nt612 : (Cond.fieldLinkNest "BeltSums$Plant" (218 : Nat) "BeltSums" "MOST_SETTINGS" "[I" "BeltSums") ∈ lw_tbl := List.mem_of_getElem? (i := 612) (by decide +kernel)
