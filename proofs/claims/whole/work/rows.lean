section
/-- a private method of a class that the tables say can be made, by its rows of tables_1 -/
def lw_okq (q : MethodName × Nat) : Prop := (q.1.cls ≠ "java/lang/invoke/MethodHandle" ∧ q.1.cls ≠ "java/lang/invoke/VarHandle") ∧ Cond.instantiable q.1.cls q.2 ∈ tables_1 ∧ Cond.privateMethod q.1 ∈ tables_1 ∧ Cond.instanceMethod q.1 ∈ tables_1
theorem lw_p0 : lw_okq (⟨"BeltSums", "recorded", "(I)I"⟩, 5) := ⟨⟨by decide +kernel, by decide +kernel⟩, List.mem_of_getElem? (i := 16) (by decide +kernel), List.mem_of_getElem? (i := 371) (by decide +kernel), List.mem_of_getElem? (i := 372) (by decide +kernel)⟩
theorem lw_p1 : lw_okq (⟨"BeltSums$Plant", "wantsMore", "()Z"⟩, 15) := ⟨⟨by decide +kernel, by decide +kernel⟩, List.mem_of_getElem? (i := 24) (by decide +kernel), List.mem_of_getElem? (i := 435) (by decide +kernel), List.mem_of_getElem? (i := 436) (by decide +kernel)⟩
theorem lw_p2 : lw_okq (⟨"BeltSums$Plant", "dropAtEnd", "()I"⟩, 15) := ⟨⟨by decide +kernel, by decide +kernel⟩, List.mem_of_getElem? (i := 24) (by decide +kernel), List.mem_of_getElem? (i := 439) (by decide +kernel), List.mem_of_getElem? (i := 440) (by decide +kernel)⟩
theorem lw_p3 : lw_okq (⟨"BeltSums$Plant", "feed", "()V"⟩, 15) := ⟨⟨by decide +kernel, by decide +kernel⟩, List.mem_of_getElem? (i := 24) (by decide +kernel), List.mem_of_getElem? (i := 467) (by decide +kernel), List.mem_of_getElem? (i := 468) (by decide +kernel)⟩
theorem lw_p4 : lw_okq (⟨"BeltSums$Plant", "spillTooMuch", "()V"⟩, 15) := ⟨⟨by decide +kernel, by decide +kernel⟩, List.mem_of_getElem? (i := 24) (by decide +kernel), List.mem_of_getElem? (i := 480) (by decide +kernel), List.mem_of_getElem? (i := 481) (by decide +kernel)⟩
theorem lw_p5 : lw_okq (⟨"BeltSums$Plant", "endBatch", "()V"⟩, 15) := ⟨⟨by decide +kernel, by decide +kernel⟩, List.mem_of_getElem? (i := 24) (by decide +kernel), List.mem_of_getElem? (i := 505) (by decide +kernel), List.mem_of_getElem? (i := 506) (by decide +kernel)⟩
theorem lw_p6 : lw_okq (⟨"BeltSums", "foretell", "()I"⟩, 5) := ⟨⟨by decide +kernel, by decide +kernel⟩, List.mem_of_getElem? (i := 16) (by decide +kernel), List.mem_of_getElem? (i := 637) (by decide +kernel), List.mem_of_getElem? (i := 638) (by decide +kernel)⟩
theorem lw_p7 : lw_okq (⟨"BeltSums$Command", "passes", "(LBeltSums$Text;I)Z"⟩, 4) := ⟨⟨by decide +kernel, by decide +kernel⟩, List.mem_of_getElem? (i := 270) (by decide +kernel), List.mem_of_getElem? (i := 694) (by decide +kernel), List.mem_of_getElem? (i := 695) (by decide +kernel)⟩
theorem lw_p8 : lw_okq (⟨"BeltSums$Command", "readNumber", "(LBeltSums$Text;)I"⟩, 4) := ⟨⟨by decide +kernel, by decide +kernel⟩, List.mem_of_getElem? (i := 270) (by decide +kernel), List.mem_of_getElem? (i := 698) (by decide +kernel), List.mem_of_getElem? (i := 699) (by decide +kernel)⟩
theorem lw_p9 : lw_okq (⟨"BeltSumsModel", "changes", "()V"⟩, 14) := ⟨⟨by decide +kernel, by decide +kernel⟩, List.mem_of_getElem? (i := 723) (by decide +kernel), List.mem_of_getElem? (i := 782) (by decide +kernel), List.mem_of_getElem? (i := 783) (by decide +kernel)⟩
theorem lw_p10 : lw_okq (⟨"BeltSumsModel", "hasBatch", "()Z"⟩, 14) := ⟨⟨by decide +kernel, by decide +kernel⟩, List.mem_of_getElem? (i := 723) (by decide +kernel), List.mem_of_getElem? (i := 794) (by decide +kernel), List.mem_of_getElem? (i := 795) (by decide +kernel)⟩
theorem lw_p11 : lw_okq (⟨"BeltSumsModel", "mass", "(II)I"⟩, 14) := ⟨⟨by decide +kernel, by decide +kernel⟩, List.mem_of_getElem? (i := 723) (by decide +kernel), List.mem_of_getElem? (i := 807) (by decide +kernel), List.mem_of_getElem? (i := 808) (by decide +kernel)⟩
theorem lw_p12 : lw_okq (⟨"BeltSumsModel", "ticks", "()V"⟩, 14) := ⟨⟨by decide +kernel, by decide +kernel⟩, List.mem_of_getElem? (i := 723) (by decide +kernel), List.mem_of_getElem? (i := 815) (by decide +kernel), List.mem_of_getElem? (i := 816) (by decide +kernel)⟩
theorem lw_p13 : lw_okq (⟨"BeltSumsModel", "goes", "()V"⟩, 14) := ⟨⟨by decide +kernel, by decide +kernel⟩, List.mem_of_getElem? (i := 723) (by decide +kernel), List.mem_of_getElem? (i := 819) (by decide +kernel), List.mem_of_getElem? (i := 820) (by decide +kernel)⟩
theorem lw_p14 : lw_okq (⟨"BeltSumsModel", "falls", "()V"⟩, 14) := ⟨⟨by decide +kernel, by decide +kernel⟩, List.mem_of_getElem? (i := 723) (by decide +kernel), List.mem_of_getElem? (i := 823) (by decide +kernel), List.mem_of_getElem? (i := 824) (by decide +kernel)⟩
theorem lw_p15 : lw_okq (⟨"BeltSumsModel", "feeds", "()V"⟩, 14) := ⟨⟨by decide +kernel, by decide +kernel⟩, List.mem_of_getElem? (i := 723) (by decide +kernel), List.mem_of_getElem? (i := 827) (by decide +kernel), List.mem_of_getElem? (i := 828) (by decide +kernel)⟩
def lw_privs_1 : List (MethodName × Nat) := [(⟨"BeltSums", "recorded", "(I)I"⟩, 5), (⟨"BeltSums$Plant", "wantsMore", "()Z"⟩, 15), (⟨"BeltSums$Plant", "dropAtEnd", "()I"⟩, 15), (⟨"BeltSums$Plant", "feed", "()V"⟩, 15), (⟨"BeltSums$Plant", "spillTooMuch", "()V"⟩, 15), (⟨"BeltSums$Plant", "endBatch", "()V"⟩, 15), (⟨"BeltSums", "foretell", "()I"⟩, 5), (⟨"BeltSums$Command", "passes", "(LBeltSums$Text;I)Z"⟩, 4), (⟨"BeltSums$Command", "readNumber", "(LBeltSums$Text;)I"⟩, 4), (⟨"BeltSumsModel", "changes", "()V"⟩, 14), (⟨"BeltSumsModel", "hasBatch", "()Z"⟩, 14), (⟨"BeltSumsModel", "mass", "(II)I"⟩, 14), (⟨"BeltSumsModel", "ticks", "()V"⟩, 14), (⟨"BeltSumsModel", "goes", "()V"⟩, 14), (⟨"BeltSumsModel", "falls", "()V"⟩, 14), (⟨"BeltSumsModel", "feeds", "()V"⟩, 14)]
theorem lw_r1 : ∀ q ∈ lw_privs_1, lw_okq q := List.forall_mem_cons.mpr ⟨lw_p0, List.forall_mem_cons.mpr ⟨lw_p1, List.forall_mem_cons.mpr ⟨lw_p2, List.forall_mem_cons.mpr ⟨lw_p3, List.forall_mem_cons.mpr ⟨lw_p4, List.forall_mem_cons.mpr ⟨lw_p5, List.forall_mem_cons.mpr ⟨lw_p6, List.forall_mem_cons.mpr ⟨lw_p7, List.forall_mem_cons.mpr ⟨lw_p8, List.forall_mem_cons.mpr ⟨lw_p9, List.forall_mem_cons.mpr ⟨lw_p10, List.forall_mem_cons.mpr ⟨lw_p11, List.forall_mem_cons.mpr ⟨lw_p12, List.forall_mem_cons.mpr ⟨lw_p13, List.forall_mem_cons.mpr ⟨lw_p14, List.forall_mem_cons.mpr ⟨lw_p15, fun _ h => absurd h List.not_mem_nil⟩⟩⟩⟩⟩⟩⟩⟩⟩⟩⟩⟩⟩⟩⟩⟩
theorem lw_p16 : lw_okq (⟨"BeltSumsModel", "reads", "()V"⟩, 14) := ⟨⟨by decide +kernel, by decide +kernel⟩, List.mem_of_getElem? (i := 723) (by decide +kernel), List.mem_of_getElem? (i := 831) (by decide +kernel), List.mem_of_getElem? (i := 832) (by decide +kernel)⟩
theorem lw_p17 : lw_okq (⟨"BeltSumsModel", "reading", "()I"⟩, 14) := ⟨⟨by decide +kernel, by decide +kernel⟩, List.mem_of_getElem? (i := 723) (by decide +kernel), List.mem_of_getElem? (i := 835) (by decide +kernel), List.mem_of_getElem? (i := 836) (by decide +kernel)⟩
theorem lw_p18 : lw_okq (⟨"BeltSumsModel", "isBin", "(I)Z"⟩, 14) := ⟨⟨by decide +kernel, by decide +kernel⟩, List.mem_of_getElem? (i := 723) (by decide +kernel), List.mem_of_getElem? (i := 848) (by decide +kernel), List.mem_of_getElem? (i := 849) (by decide +kernel)⟩
theorem lw_p19 : lw_okq (⟨"BeltSumsModel", "binMass", "(I)I"⟩, 14) := ⟨⟨by decide +kernel, by decide +kernel⟩, List.mem_of_getElem? (i := 723) (by decide +kernel), List.mem_of_getElem? (i := 853) (by decide +kernel), List.mem_of_getElem? (i := 854) (by decide +kernel)⟩
theorem lw_p20 : lw_okq (⟨"BeltSumsModel", "isAccount", "(I)Z"⟩, 14) := ⟨⟨by decide +kernel, by decide +kernel⟩, List.mem_of_getElem? (i := 723) (by decide +kernel), List.mem_of_getElem? (i := 867) (by decide +kernel), List.mem_of_getElem? (i := 868) (by decide +kernel)⟩
theorem lw_p21 : lw_okq (⟨"BeltSumsModel", "isUnder", "(II)Z"⟩, 14) := ⟨⟨by decide +kernel, by decide +kernel⟩, List.mem_of_getElem? (i := 723) (by decide +kernel), List.mem_of_getElem? (i := 879) (by decide +kernel), List.mem_of_getElem? (i := 880) (by decide +kernel)⟩
theorem lw_p22 : lw_okq (⟨"BeltSumsModel", "depth", "(I)I"⟩, 14) := ⟨⟨by decide +kernel, by decide +kernel⟩, List.mem_of_getElem? (i := 723) (by decide +kernel), List.mem_of_getElem? (i := 883) (by decide +kernel), List.mem_of_getElem? (i := 884) (by decide +kernel)⟩
theorem lw_p23 : lw_okq (⟨"BeltSumsModel", "total", "()I"⟩, 14) := ⟨⟨by decide +kernel, by decide +kernel⟩, List.mem_of_getElem? (i := 723) (by decide +kernel), List.mem_of_getElem? (i := 904) (by decide +kernel), List.mem_of_getElem? (i := 905) (by decide +kernel)⟩
theorem lw_p24 : lw_okq (⟨"BeltSumsModel", "batchTold", "(I)I"⟩, 14) := ⟨⟨by decide +kernel, by decide +kernel⟩, List.mem_of_getElem? (i := 723) (by decide +kernel), List.mem_of_getElem? (i := 912) (by decide +kernel), List.mem_of_getElem? (i := 913) (by decide +kernel)⟩
theorem lw_p25 : lw_okq (⟨"BeltSumsModel", "hopper", "()I"⟩, 14) := ⟨⟨by decide +kernel, by decide +kernel⟩, List.mem_of_getElem? (i := 723) (by decide +kernel), List.mem_of_getElem? (i := 916) (by decide +kernel), List.mem_of_getElem? (i := 917) (by decide +kernel)⟩
theorem lw_p26 : lw_okq (⟨"BeltSumsModel", "inBins", "()I"⟩, 14) := ⟨⟨by decide +kernel, by decide +kernel⟩, List.mem_of_getElem? (i := 723) (by decide +kernel), List.mem_of_getElem? (i := 920) (by decide +kernel), List.mem_of_getElem? (i := 921) (by decide +kernel)⟩
theorem lw_p27 : lw_okq (⟨"BeltSumsModel", "lasts", "()I"⟩, 14) := ⟨⟨by decide +kernel, by decide +kernel⟩, List.mem_of_getElem? (i := 723) (by decide +kernel), List.mem_of_getElem? (i := 928) (by decide +kernel), List.mem_of_getElem? (i := 929) (by decide +kernel)⟩
theorem lw_p28 : lw_okq (⟨"BeltSumsModel", "plays", "()I"⟩, 14) := ⟨⟨by decide +kernel, by decide +kernel⟩, List.mem_of_getElem? (i := 723) (by decide +kernel), List.mem_of_getElem? (i := 959) (by decide +kernel), List.mem_of_getElem? (i := 960) (by decide +kernel)⟩
theorem lw_p29 : lw_okq (⟨"BeltSumsModel", "parses", "()Z"⟩, 14) := ⟨⟨by decide +kernel, by decide +kernel⟩, List.mem_of_getElem? (i := 723) (by decide +kernel), List.mem_of_getElem? (i := 963) (by decide +kernel), List.mem_of_getElem? (i := 964) (by decide +kernel)⟩
theorem lw_p30 : lw_okq (⟨"BeltSumsModel", "passes", "(I)Z"⟩, 14) := ⟨⟨by decide +kernel, by decide +kernel⟩, List.mem_of_getElem? (i := 723) (by decide +kernel), List.mem_of_getElem? (i := 967) (by decide +kernel), List.mem_of_getElem? (i := 968) (by decide +kernel)⟩
theorem lw_p31 : lw_okq (⟨"BeltSumsModel", "isAt", "(II)Z"⟩, 14) := ⟨⟨by decide +kernel, by decide +kernel⟩, List.mem_of_getElem? (i := 723) (by decide +kernel), List.mem_of_getElem? (i := 971) (by decide +kernel), List.mem_of_getElem? (i := 972) (by decide +kernel)⟩
def lw_privs_2 : List (MethodName × Nat) := [(⟨"BeltSumsModel", "reads", "()V"⟩, 14), (⟨"BeltSumsModel", "reading", "()I"⟩, 14), (⟨"BeltSumsModel", "isBin", "(I)Z"⟩, 14), (⟨"BeltSumsModel", "binMass", "(I)I"⟩, 14), (⟨"BeltSumsModel", "isAccount", "(I)Z"⟩, 14), (⟨"BeltSumsModel", "isUnder", "(II)Z"⟩, 14), (⟨"BeltSumsModel", "depth", "(I)I"⟩, 14), (⟨"BeltSumsModel", "total", "()I"⟩, 14), (⟨"BeltSumsModel", "batchTold", "(I)I"⟩, 14), (⟨"BeltSumsModel", "hopper", "()I"⟩, 14), (⟨"BeltSumsModel", "inBins", "()I"⟩, 14), (⟨"BeltSumsModel", "lasts", "()I"⟩, 14), (⟨"BeltSumsModel", "plays", "()I"⟩, 14), (⟨"BeltSumsModel", "parses", "()Z"⟩, 14), (⟨"BeltSumsModel", "passes", "(I)Z"⟩, 14), (⟨"BeltSumsModel", "isAt", "(II)Z"⟩, 14)]
theorem lw_r2 : ∀ q ∈ lw_privs_2, lw_okq q := List.forall_mem_cons.mpr ⟨lw_p16, List.forall_mem_cons.mpr ⟨lw_p17, List.forall_mem_cons.mpr ⟨lw_p18, List.forall_mem_cons.mpr ⟨lw_p19, List.forall_mem_cons.mpr ⟨lw_p20, List.forall_mem_cons.mpr ⟨lw_p21, List.forall_mem_cons.mpr ⟨lw_p22, List.forall_mem_cons.mpr ⟨lw_p23, List.forall_mem_cons.mpr ⟨lw_p24, List.forall_mem_cons.mpr ⟨lw_p25, List.forall_mem_cons.mpr ⟨lw_p26, List.forall_mem_cons.mpr ⟨lw_p27, List.forall_mem_cons.mpr ⟨lw_p28, List.forall_mem_cons.mpr ⟨lw_p29, List.forall_mem_cons.mpr ⟨lw_p30, List.forall_mem_cons.mpr ⟨lw_p31, fun _ h => absurd h List.not_mem_nil⟩⟩⟩⟩⟩⟩⟩⟩⟩⟩⟩⟩⟩⟩⟩⟩
theorem lw_p32 : lw_okq (⟨"BeltSumsModel", "number", "(I)Z"⟩, 14) := ⟨⟨by decide +kernel, by decide +kernel⟩, List.mem_of_getElem? (i := 723) (by decide +kernel), List.mem_of_getElem? (i := 975) (by decide +kernel), List.mem_of_getElem? (i := 976) (by decide +kernel)⟩
theorem lw_p33 : lw_okq (⟨"BeltSumsModel", "calls", "()I"⟩, 14) := ⟨⟨by decide +kernel, by decide +kernel⟩, List.mem_of_getElem? (i := 723) (by decide +kernel), List.mem_of_getElem? (i := 979) (by decide +kernel), List.mem_of_getElem? (i := 980) (by decide +kernel)⟩
def lw_privs_3 : List (MethodName × Nat) := [(⟨"BeltSumsModel", "number", "(I)Z"⟩, 14), (⟨"BeltSumsModel", "calls", "()I"⟩, 14)]
theorem lw_r3 : ∀ q ∈ lw_privs_3, lw_okq q := List.forall_mem_cons.mpr ⟨lw_p32, List.forall_mem_cons.mpr ⟨lw_p33, fun _ h => absurd h List.not_mem_nil⟩⟩
def lw_privs : List (MethodName × Nat) := lw_privs_1 ++ (lw_privs_2 ++ (lw_privs_3))
def lw_tbl : List Cond := k2_sels lw_privs ++ tables_1
theorem lw_privs_ok : ∀ q ∈ lw_privs, lw_okq q := by
  show ∀ q ∈ lw_privs_1 ++ (lw_privs_2 ++ (lw_privs_3)), lw_okq q
  exact List.forall_mem_append.mpr ⟨lw_r1, List.forall_mem_append.mpr ⟨lw_r2, lw_r3⟩⟩
def RX0 : String := "BeltSums$Accounts"
def TX0 : u_T := fun k => match k with
  | 0 => ("BeltSums$Accounts", "within", "[I", true)
  | 1 => ("BeltSums$Accounts", "own", "[I", true)
  | 2 => ("BeltSums$Accounts", "assigned", "[I", true)
  | _ => ("BeltSums$Accounts", "many", "I", false)
def tyX0 : Nat → FieldType := fun k => match k with
  | 0 => .array .int
  | 1 => .array .int
  | 2 => .array .int
  | _ => .int
abbrev wsX00 : List Cond := u_ws RX0 TX0 4
theorem nmX0 : ∀ a, a < 4 → ∀ b, b < 4 → a ≠ b → (TX0 a).2.1 ≠ (TX0 b).2.1 := by decide +kernel
theorem tyX0_ok : ∀ k, k < 4 → parseFieldDescriptor (TX0 k).2.2.1 = some (tyX0 k) := by decide +kernel
abbrev cX0_init : ByteArray := prog_2_method_1_code
def yX0_init : MethodName := ⟨RX0, "<init>", "()V"⟩
abbrev cX0_copyFrom : ByteArray := prog_2_method_2_code
def yX0_copyFrom : MethodName := ⟨RX0, "copyFrom", "(LBeltSums$Accounts;)V"⟩
abbrev cX0_has : ByteArray := prog_2_method_3_code
def yX0_has : MethodName := ⟨RX0, "has", "(I)Z"⟩
abbrev cX0_add : ByteArray := prog_2_method_4_code
def yX0_add : MethodName := ⟨RX0, "add", "(I)I"⟩
abbrev cX0_assign : ByteArray := prog_2_method_5_code
def yX0_assign : MethodName := ⟨RX0, "assign", "(II)I"⟩
abbrev cX0_enter : ByteArray := prog_2_method_6_code
def yX0_enter : MethodName := ⟨RX0, "enter", "(II)V"⟩
abbrev cX0_isUnder : ByteArray := prog_2_method_7_code
def yX0_isUnder : MethodName := ⟨RX0, "isUnder", "(II)Z"⟩
abbrev cX0_massWithAllUnder : ByteArray := prog_2_method_8_code
def yX0_massWithAllUnder : MethodName := ⟨RX0, "massWithAllUnder", "(I)I"⟩
abbrev cX0_countUnder : ByteArray := prog_2_method_9_code
def yX0_countUnder : MethodName := ⟨RX0, "countUnder", "(I)I"⟩
abbrev cX0_depth : ByteArray := prog_2_method_10_code
def yX0_depth : MethodName := ⟨RX0, "depth", "(I)I"⟩
def RX1 : String := "BeltSums$Belt"
def TX1 : u_T := fun k => match k with
  | 0 => ("BeltSums$Belt", "masses", "[I", true)
  | 1 => ("BeltSums$Belt", "start", "I", false)
  | _ => ("BeltSums$Belt", "total", "I", false)
def tyX1 : Nat → FieldType := fun k => match k with
  | 0 => .array .int
  | 1 => .int
  | _ => .int
abbrev wsX10 : List Cond := u_ws RX1 TX1 3
theorem nmX1 : ∀ a, a < 3 → ∀ b, b < 3 → a ≠ b → (TX1 a).2.1 ≠ (TX1 b).2.1 := by decide +kernel
theorem tyX1_ok : ∀ k, k < 3 → parseFieldDescriptor (TX1 k).2.2.1 = some (tyX1 k) := by decide +kernel
abbrev cX1_init : ByteArray := prog_3_method_1_code
def yX1_init : MethodName := ⟨RX1, "<init>", "()V"⟩
abbrev cX1_copyFrom : ByteArray := prog_3_method_2_code
def yX1_copyFrom : MethodName := ⟨RX1, "copyFrom", "(LBeltSums$Belt;)V"⟩
abbrev cX1_mass : ByteArray := prog_3_method_3_code
def yX1_mass : MethodName := ⟨RX1, "mass", "(II)I"⟩
abbrev cX1_take : ByteArray := prog_3_method_4_code
def yX1_take : MethodName := ⟨RX1, "take", "(III)V"⟩
abbrev cX1_putAtStart : ByteArray := prog_3_method_5_code
def yX1_putAtStart : MethodName := ⟨RX1, "putAtStart", "(II)V"⟩
abbrev cX1_goOn : ByteArray := prog_3_method_6_code
def yX1_goOn : MethodName := ⟨RX1, "goOn", "()V"⟩
abbrev cX1_massOfPlace : ByteArray := prog_3_method_7_code
def yX1_massOfPlace : MethodName := ⟨RX1, "massOfPlace", "(I)I"⟩
abbrev cX1_massSeen : ByteArray := prog_3_method_8_code
def yX1_massSeen : MethodName := ⟨RX1, "massSeen", "()I"⟩
def RX2 : String := "BeltSums$Bins"
def TX2 : u_T := fun k => match k with
  | 0 => ("BeltSums$Bins", "masses", "[I", true)
  | 1 => ("BeltSums$Bins", "grown", "[I", true)
  | 2 => ("BeltSums$Bins", "ticksFilled", "[I", true)
  | _ => ("BeltSums$Bins", "many", "I", false)
def tyX2 : Nat → FieldType := fun k => match k with
  | 0 => .array .int
  | 1 => .array .int
  | 2 => .array .int
  | _ => .int
abbrev wsX20 : List Cond := u_ws RX2 TX2 4
theorem nmX2 : ∀ a, a < 4 → ∀ b, b < 4 → a ≠ b → (TX2 a).2.1 ≠ (TX2 b).2.1 := by decide +kernel
theorem tyX2_ok : ∀ k, k < 4 → parseFieldDescriptor (TX2 k).2.2.1 = some (tyX2 k) := by decide +kernel
abbrev cX2_init : ByteArray := prog_4_method_1_code
def yX2_init : MethodName := ⟨RX2, "<init>", "()V"⟩
abbrev cX2_copyFrom : ByteArray := prog_4_method_2_code
def yX2_copyFrom : MethodName := ⟨RX2, "copyFrom", "(LBeltSums$Bins;)V"⟩
abbrev cX2_has : ByteArray := prog_4_method_3_code
def yX2_has : MethodName := ⟨RX2, "has", "(I)Z"⟩
abbrev cX2_addToPresent : ByteArray := prog_4_method_4_code
def yX2_addToPresent : MethodName := ⟨RX2, "addToPresent", "(II)V"⟩
abbrev cX2_growPresent : ByteArray := prog_4_method_5_code
def yX2_growPresent : MethodName := ⟨RX2, "growPresent", "(I)V"⟩
abbrev cX2_countFilledTick : ByteArray := prog_4_method_6_code
def yX2_countFilledTick : MethodName := ⟨RX2, "countFilledTick", "()V"⟩
abbrev cX2_massOf : ByteArray := prog_4_method_7_code
def yX2_massOf : MethodName := ⟨RX2, "massOf", "(I)I"⟩
abbrev cX2_massOfPresent : ByteArray := prog_4_method_8_code
def yX2_massOfPresent : MethodName := ⟨RX2, "massOfPresent", "()I"⟩
abbrev cX2_massOfAll : ByteArray := prog_4_method_9_code
def yX2_massOfAll : MethodName := ⟨RX2, "massOfAll", "()I"⟩
def RX3 : String := "BeltSums$Command"
def TX3 : u_T := fun k => match k with
  | 0 => ("BeltSums$Command", "letter", "I", false)
  | 1 => ("BeltSums$Command", "first", "I", false)
  | 2 => ("BeltSums$Command", "second", "I", false)
  | _ => ("BeltSums$Command", "end", "I", false)
def tyX3 : Nat → FieldType := fun k => match k with
  | 0 => .int
  | 1 => .int
  | 2 => .int
  | _ => .int
abbrev wsX30 : List Cond := u_ws RX3 TX3 4
theorem nmX3 : ∀ a, a < 4 → ∀ b, b < 4 → a ≠ b → (TX3 a).2.1 ≠ (TX3 b).2.1 := by decide +kernel
theorem tyX3_ok : ∀ k, k < 4 → parseFieldDescriptor (TX3 k).2.2.1 = some (tyX3 k) := by decide +kernel
abbrev cX3_init : ByteArray := prog_5_method_1_code
def yX3_init : MethodName := ⟨RX3, "<init>", "()V"⟩
abbrev cX3_read : ByteArray := prog_5_method_2_code
def yX3_read : MethodName := ⟨RX3, "read", "(LBeltSums$Text;I)Z"⟩
abbrev cX3_passes : ByteArray := prog_5_method_3_code
def yX3_passes : MethodName := ⟨RX3, "passes", "(LBeltSums$Text;I)Z"⟩
abbrev cX3_readNumber : ByteArray := prog_5_method_4_code
def yX3_readNumber : MethodName := ⟨RX3, "readNumber", "(LBeltSums$Text;)I"⟩
abbrev cX3_carryOut : ByteArray := prog_5_method_5_code
def yX3_carryOut : MethodName := ⟨RX3, "carryOut", "(LBeltSums$Plant;)I"⟩
def RX4 : String := "BeltSums$History"
def TX4 : u_T := fun k => match k with
  | 0 => ("BeltSums$History", "latest", "LBeltSums$Plant;", false)
  | 1 => ("BeltSums$History", "second", "LBeltSums$Plant;", false)
  | 2 => ("BeltSums$History", "third", "LBeltSums$Plant;", false)
  | 3 => ("BeltSums$History", "oldest", "LBeltSums$Plant;", false)
  | _ => ("BeltSums$History", "states", "I", false)
def tyX4 : Nat → FieldType := fun k => match k with
  | 0 => .object "BeltSums$Plant"
  | 1 => .object "BeltSums$Plant"
  | 2 => .object "BeltSums$Plant"
  | 3 => .object "BeltSums$Plant"
  | _ => .int
abbrev wsX40 : List Cond := u_ws RX4 TX4 5
theorem nmX4 : ∀ a, a < 5 → ∀ b, b < 5 → a ≠ b → (TX4 a).2.1 ≠ (TX4 b).2.1 := by decide +kernel
theorem tyX4_ok : ∀ k, k < 5 → parseFieldDescriptor (TX4 k).2.2.1 = some (tyX4 k) := by decide +kernel
abbrev cX4_init : ByteArray := prog_6_method_1_code
def yX4_init : MethodName := ⟨RX4, "<init>", "()V"⟩
abbrev cX4_push : ByteArray := prog_6_method_2_code
def yX4_push : MethodName := ⟨RX4, "push", "(LBeltSums$Plant;)V"⟩
abbrev cX4_pullInto : ByteArray := prog_6_method_3_code
def yX4_pullInto : MethodName := ⟨RX4, "pullInto", "(LBeltSums$Plant;)V"⟩
def RX5 : String := "BeltSums$Hopper"
def TX5 : u_T := fun k => match k with
  | 0 => ("BeltSums$Hopper", "kinds", "[I", true)
  | 1 => ("BeltSums$Hopper", "masses", "[I", true)
  | 2 => ("BeltSums$Hopper", "lots", "I", false)
  | _ => ("BeltSums$Hopper", "putSoFar", "I", false)
def tyX5 : Nat → FieldType := fun k => match k with
  | 0 => .array .int
  | 1 => .array .int
  | 2 => .int
  | _ => .int
abbrev wsX50 : List Cond := u_ws RX5 TX5 4
theorem nmX5 : ∀ a, a < 4 → ∀ b, b < 4 → a ≠ b → (TX5 a).2.1 ≠ (TX5 b).2.1 := by decide +kernel
theorem tyX5_ok : ∀ k, k < 4 → parseFieldDescriptor (TX5 k).2.2.1 = some (tyX5 k) := by decide +kernel
abbrev cX5_init : ByteArray := prog_7_method_1_code
def yX5_init : MethodName := ⟨RX5, "<init>", "()V"⟩
abbrev cX5_copyFrom : ByteArray := prog_7_method_2_code
def yX5_copyFrom : MethodName := ⟨RX5, "copyFrom", "(LBeltSums$Hopper;)V"⟩
abbrev cX5_append : ByteArray := prog_7_method_3_code
def yX5_append : MethodName := ⟨RX5, "append", "(II)V"⟩
abbrev cX5_takeFromFirst : ByteArray := prog_7_method_4_code
def yX5_takeFromFirst : MethodName := ⟨RX5, "takeFromFirst", "(I)V"⟩
abbrev cX5_massInside : ByteArray := prog_7_method_5_code
def yX5_massInside : MethodName := ⟨RX5, "massInside", "()I"⟩
def RX6 : String := "BeltSums$Plant"
def TX6 : u_T := fun k => match k with
  | 0 => ("BeltSums$Plant", "hopper", "LBeltSums$Hopper;", true)
  | 1 => ("BeltSums$Plant", "belt", "LBeltSums$Belt;", true)
  | 2 => ("BeltSums$Plant", "bins", "LBeltSums$Bins;", true)
  | 3 => ("BeltSums$Plant", "scale", "LBeltSums$Scale;", true)
  | 4 => ("BeltSums$Plant", "accounts", "LBeltSums$Accounts;", true)
  | 5 => ("BeltSums$Plant", "settings", "[I", true)
  | 6 => ("BeltSums$Plant", "gateWidth", "I", false)
  | 7 => ("BeltSums$Plant", "switchedOn", "I", false)
  | 8 => ("BeltSums$Plant", "batchMass", "I", false)
  | 9 => ("BeltSums$Plant", "batchStopped", "Z", false)
  | 10 => ("BeltSums$Plant", "cameInBatch", "I", false)
  | 11 => ("BeltSums$Plant", "time", "I", false)
  | 12 => ("BeltSums$Plant", "ticksStood", "I", false)
  | 13 => ("BeltSums$Plant", "spilt", "I", false)
  | _ => ("BeltSums$Plant", "fallen", "I", false)
def tyX6 : Nat → FieldType := fun k => match k with
  | 0 => .object "BeltSums$Hopper"
  | 1 => .object "BeltSums$Belt"
  | 2 => .object "BeltSums$Bins"
  | 3 => .object "BeltSums$Scale"
  | 4 => .object "BeltSums$Accounts"
  | 5 => .array .int
  | 6 => .int
  | 7 => .int
  | 8 => .int
  | 9 => .boolean
  | 10 => .int
  | 11 => .int
  | 12 => .int
  | 13 => .int
  | _ => .int
abbrev wsX60 : List Cond := u_ws RX6 TX6 15
theorem nmX6 : ∀ a, a < 15 → ∀ b, b < 15 → a ≠ b → (TX6 a).2.1 ≠ (TX6 b).2.1 := by decide +kernel
theorem tyX6_ok : ∀ k, k < 15 → parseFieldDescriptor (TX6 k).2.2.1 = some (tyX6 k) := by decide +kernel
abbrev cX6_init : ByteArray := prog_8_method_1_code
def yX6_init : MethodName := ⟨RX6, "<init>", "()V"⟩
abbrev cX6_copyFrom : ByteArray := prog_8_method_2_code
def yX6_copyFrom : MethodName := ⟨RX6, "copyFrom", "(LBeltSums$Plant;)V"⟩
abbrev cX6_hasBatch : ByteArray := prog_8_method_3_code
def yX6_hasBatch : MethodName := ⟨RX6, "hasBatch", "()Z"⟩
abbrev cX6_putLot : ByteArray := prog_8_method_4_code
def yX6_putLot : MethodName := ⟨RX6, "putLot", "(II)I"⟩
abbrev cX6_setGate : ByteArray := prog_8_method_5_code
def yX6_setGate : MethodName := ⟨RX6, "setGate", "(I)I"⟩
abbrev cX6_switchBelt : ByteArray := prog_8_method_6_code
def yX6_switchBelt : MethodName := ⟨RX6, "switchBelt", "(I)I"⟩
abbrev cX6_putBin : ByteArray := prog_8_method_7_code
def yX6_putBin : MethodName := ⟨RX6, "putBin", "()I"⟩
abbrev cX6_beginBatch : ByteArray := prog_8_method_8_code
def yX6_beginBatch : MethodName := ⟨RX6, "beginBatch", "(I)I"⟩
abbrev cX6_passTicks : ByteArray := prog_8_method_9_code
def yX6_passTicks : MethodName := ⟨RX6, "passTicks", "(I)I"⟩
abbrev cX6_passTick : ByteArray := prog_8_method_10_code
def yX6_passTick : MethodName := ⟨RX6, "passTick", "()I"⟩
abbrev cX6_wantsMore : ByteArray := prog_8_method_11_code
def yX6_wantsMore : MethodName := ⟨RX6, "wantsMore", "()Z"⟩
abbrev cX6_dropAtEnd : ByteArray := prog_8_method_12_code
def yX6_dropAtEnd : MethodName := ⟨RX6, "dropAtEnd", "()I"⟩
abbrev cX6_feed : ByteArray := prog_8_method_13_code
def yX6_feed : MethodName := ⟨RX6, "feed", "()V"⟩
abbrev cX6_spillTooMuch : ByteArray := prog_8_method_14_code
def yX6_spillTooMuch : MethodName := ⟨RX6, "spillTooMuch", "()V"⟩
abbrev cX6_endBatch : ByteArray := prog_8_method_15_code
def yX6_endBatch : MethodName := ⟨RX6, "endBatch", "()V"⟩
abbrev cX6_setZero : ByteArray := prog_8_method_16_code
def yX6_setZero : MethodName := ⟨RX6, "setZero", "()I"⟩
abbrev cX6_correctBy : ByteArray := prog_8_method_17_code
def yX6_correctBy : MethodName := ⟨RX6, "correctBy", "(I)I"⟩
abbrev cX6_changeSetting : ByteArray := prog_8_method_18_code
def yX6_changeSetting : MethodName := ⟨RX6, "changeSetting", "(II)I"⟩
def RX7 : String := "BeltSums$Rehearsal"
def TX7 : u_T := fun k => match k with
  | 0 => ("BeltSums$Rehearsal", "command", "LBeltSums$Command;", true)
  | 1 => ("BeltSums$Rehearsal", "position", "I", false)
  | 2 => ("BeltSums$Rehearsal", "reason", "I", false)
  | 3 => ("BeltSums$Rehearsal", "cause", "I", false)
  | _ => ("BeltSums$Rehearsal", "done", "I", false)
def tyX7 : Nat → FieldType := fun k => match k with
  | 0 => .object "BeltSums$Command"
  | 1 => .int
  | 2 => .int
  | 3 => .int
  | _ => .int
abbrev wsX70 : List Cond := u_ws RX7 TX7 5
theorem nmX7 : ∀ a, a < 5 → ∀ b, b < 5 → a ≠ b → (TX7 a).2.1 ≠ (TX7 b).2.1 := by decide +kernel
theorem tyX7_ok : ∀ k, k < 5 → parseFieldDescriptor (TX7 k).2.2.1 = some (tyX7 k) := by decide +kernel
abbrev cX7_init : ByteArray := prog_9_method_1_code
def yX7_init : MethodName := ⟨RX7, "<init>", "()V"⟩
abbrev cX7_perform : ByteArray := prog_9_method_2_code
def yX7_perform : MethodName := ⟨RX7, "perform", "(LBeltSums$Text;LBeltSums$Plant;LBeltSums$Plant;)V"⟩
def RX8 : String := "BeltSums$Scale"
def TX8 : u_T := fun k => match k with
  | 0 => ("BeltSums$Scale", "drift", "I", false)
  | 1 => ("BeltSums$Scale", "zero", "I", false)
  | 2 => ("BeltSums$Scale", "sum", "I", false)
  | 3 => ("BeltSums$Scale", "rest", "I", false)
  | _ => ("BeltSums$Scale", "factor", "I", false)
def tyX8 : Nat → FieldType := fun k => match k with
  | 0 => .int
  | 1 => .int
  | 2 => .int
  | 3 => .int
  | _ => .int
abbrev wsX80 : List Cond := u_ws RX8 TX8 5
theorem nmX8 : ∀ a, a < 5 → ∀ b, b < 5 → a ≠ b → (TX8 a).2.1 ≠ (TX8 b).2.1 := by decide +kernel
theorem tyX8_ok : ∀ k, k < 5 → parseFieldDescriptor (TX8 k).2.2.1 = some (tyX8 k) := by decide +kernel
abbrev cX8_init : ByteArray := prog_10_method_1_code
def yX8_init : MethodName := ⟨RX8, "<init>", "()V"⟩
abbrev cX8_copyFrom : ByteArray := prog_10_method_2_code
def yX8_copyFrom : MethodName := ⟨RX8, "copyFrom", "(LBeltSums$Scale;)V"⟩
abbrev cX8_reading : ByteArray := prog_10_method_3_code
def yX8_reading : MethodName := ⟨RX8, "reading", "(I)I"⟩
abbrev cX8_weigh : ByteArray := prog_10_method_4_code
def yX8_weigh : MethodName := ⟨RX8, "weigh", "(I)I"⟩
abbrev cX8_toldTotal : ByteArray := prog_10_method_5_code
def yX8_toldTotal : MethodName := ⟨RX8, "toldTotal", "()I"⟩
def RX9 : String := "BeltSums$Text"
def TX9 : u_T := fun k => match k with
  | 0 => ("BeltSums$Text", "characters", "[C", true)
  | _ => ("BeltSums$Text", "length", "I", false)
def tyX9 : Nat → FieldType := fun k => match k with
  | 0 => .array .char
  | _ => .int
abbrev wsX90 : List Cond := u_ws RX9 TX9 2
theorem nmX9 : ∀ a, a < 2 → ∀ b, b < 2 → a ≠ b → (TX9 a).2.1 ≠ (TX9 b).2.1 := by decide +kernel
theorem tyX9_ok : ∀ k, k < 2 → parseFieldDescriptor (TX9 k).2.2.1 = some (tyX9 k) := by decide +kernel
abbrev cX9_init : ByteArray := prog_11_method_1_code
def yX9_init : MethodName := ⟨RX9, "<init>", "()V"⟩
abbrev cX9_append : ByteArray := prog_11_method_2_code
def yX9_append : MethodName := ⟨RX9, "append", "(C)V"⟩
abbrev cX9_at : ByteArray := prog_11_method_3_code
def yX9_at : MethodName := ⟨RX9, "at", "(I)I"⟩
def RX10 : String := "BeltSums"
def TX10 : u_T := fun k => match k with
  | 0 => ("BeltSums", "now", "LBeltSums$Plant;", true)
  | 1 => ("BeltSums", "spare", "LBeltSums$Plant;", true)
  | 2 => ("BeltSums", "history", "LBeltSums$History;", true)
  | 3 => ("BeltSums", "text", "LBeltSums$Text;", true)
  | _ => ("BeltSums", "rehearsal", "LBeltSums$Rehearsal;", true)
def tyX10 : Nat → FieldType := fun k => match k with
  | 0 => .object "BeltSums$Plant"
  | 1 => .object "BeltSums$Plant"
  | 2 => .object "BeltSums$History"
  | 3 => .object "BeltSums$Text"
  | _ => .object "BeltSums$Rehearsal"
abbrev wsX100 : List Cond := u_ws RX10 TX10 5
theorem nmX10 : ∀ a, a < 5 → ∀ b, b < 5 → a ≠ b → (TX10 a).2.1 ≠ (TX10 b).2.1 := by decide +kernel
theorem tyX10_ok : ∀ k, k < 5 → parseFieldDescriptor (TX10 k).2.2.1 = some (tyX10 k) := by decide +kernel
abbrev cX10_init : ByteArray := prog_1_method_1_code
def yX10_init : MethodName := ⟨RX10, "<init>", "()V"⟩
abbrev cX10_lot : ByteArray := prog_1_method_2_code
def yX10_lot : MethodName := ⟨RX10, "lot", "(II)I"⟩
abbrev cX10_gate : ByteArray := prog_1_method_3_code
def yX10_gate : MethodName := ⟨RX10, "gate", "(I)I"⟩
abbrev cX10_run : ByteArray := prog_1_method_4_code
def yX10_run : MethodName := ⟨RX10, "run", "(I)I"⟩
abbrev cX10_bin : ByteArray := prog_1_method_5_code
def yX10_bin : MethodName := ⟨RX10, "bin", "()I"⟩
abbrev cX10_batch : ByteArray := prog_1_method_6_code
def yX10_batch : MethodName := ⟨RX10, "batch", "(I)I"⟩
abbrev cX10_tick : ByteArray := prog_1_method_7_code
def yX10_tick : MethodName := ⟨RX10, "tick", "(I)I"⟩
abbrev cX10_zero : ByteArray := prog_1_method_8_code
def yX10_zero : MethodName := ⟨RX10, "zero", "()I"⟩
abbrev cX10_correct : ByteArray := prog_1_method_9_code
def yX10_correct : MethodName := ⟨RX10, "correct", "(I)I"⟩
abbrev cX10_set : ByteArray := prog_1_method_10_code
def yX10_set : MethodName := ⟨RX10, "set", "(II)I"⟩
abbrev cX10_account : ByteArray := prog_1_method_11_code
def yX10_account : MethodName := ⟨RX10, "account", "(I)I"⟩
abbrev cX10_book : ByteArray := prog_1_method_12_code
def yX10_book : MethodName := ⟨RX10, "book", "(II)I"⟩
abbrev cX10_accountOf : ByteArray := prog_1_method_13_code
def yX10_accountOf : MethodName := ⟨RX10, "accountOf", "(II)I"⟩
abbrev cX10_massAt : ByteArray := prog_1_method_14_code
def yX10_massAt : MethodName := ⟨RX10, "massAt", "(II)I"⟩
abbrev cX10_lotOf : ByteArray := prog_1_method_15_code
def yX10_lotOf : MethodName := ⟨RX10, "lotOf", "(II)I"⟩
abbrev cX10_binOf : ByteArray := prog_1_method_16_code
def yX10_binOf : MethodName := ⟨RX10, "binOf", "(II)I"⟩
abbrev cX10_scale : ByteArray := prog_1_method_17_code
def yX10_scale : MethodName := ⟨RX10, "scale", "(I)I"⟩
abbrev cX10_count : ByteArray := prog_1_method_18_code
def yX10_count : MethodName := ⟨RX10, "count", "(I)I"⟩
abbrev cX10_batchIn : ByteArray := prog_1_method_19_code
def yX10_batchIn : MethodName := ⟨RX10, "batchIn", "()I"⟩
abbrev cX10_batchOut : ByteArray := prog_1_method_20_code
def yX10_batchOut : MethodName := ⟨RX10, "batchOut", "()I"⟩
abbrev cX10_error : ByteArray := prog_1_method_21_code
def yX10_error : MethodName := ⟨RX10, "error", "()I"⟩
abbrev cX10_undo : ByteArray := prog_1_method_22_code
def yX10_undo : MethodName := ⟨RX10, "undo", "()I"⟩
abbrev cX10_type : ByteArray := prog_1_method_23_code
def yX10_type : MethodName := ⟨RX10, "type", "(I)I"⟩
abbrev cX10_clearText : ByteArray := prog_1_method_24_code
def yX10_clearText : MethodName := ⟨RX10, "clearText", "()I"⟩
abbrev cX10_fault : ByteArray := prog_1_method_25_code
def yX10_fault : MethodName := ⟨RX10, "fault", "(I)I"⟩
abbrev cX10_play : ByteArray := prog_1_method_26_code
def yX10_play : MethodName := ⟨RX10, "play", "()I"⟩
abbrev cX10_recorded : ByteArray := prog_1_method_27_code
def yX10_recorded : MethodName := ⟨RX10, "recorded", "(I)I"⟩
abbrev cX10_foretell : ByteArray := prog_1_method_28_code
def yX10_foretell : MethodName := ⟨RX10, "foretell", "()I"⟩
abbrev cX10_isError : ByteArray := prog_1_method_29_code
def yX10_isError : MethodName := ⟨RX10, "isError", "(I)Z"⟩
abbrev cX10_isKind : ByteArray := prog_1_method_30_code
def yX10_isKind : MethodName := ⟨RX10, "isKind", "(I)Z"⟩
abbrev cX10_copyInto : ByteArray := prog_1_method_31_code
def yX10_copyInto : MethodName := ⟨RX10, "copyInto", "([I[I)V"⟩
def RX11 : String := "BeltSumsModel"
def TX11 : u_T := fun k => match k with
  | 0 => ("BeltSumsModel", "s", "[I", true)
  | 1 => ("BeltSumsModel", "past", "[I", true)
  | 2 => ("BeltSumsModel", "held", "[I", true)
  | 3 => ("BeltSumsModel", "tried", "[I", true)
  | 4 => ("BeltSumsModel", "pasts", "I", false)
  | 5 => ("BeltSumsModel", "runs", "Z", false)
  | 6 => ("BeltSumsModel", "text", "[I", true)
  | 7 => ("BeltSumsModel", "typed", "I", false)
  | 8 => ("BeltSumsModel", "then", "I", false)
  | 9 => ("BeltSumsModel", "spot", "I", false)
  | 10 => ("BeltSumsModel", "cause", "I", false)
  | 11 => ("BeltSumsModel", "commands", "I", false)
  | 12 => ("BeltSumsModel", "kind", "I", false)
  | _ => ("BeltSumsModel", "told", "[I", true)
def tyX11 : Nat → FieldType := fun k => match k with
  | 0 => .array .int
  | 1 => .array .int
  | 2 => .array .int
  | 3 => .array .int
  | 4 => .int
  | 5 => .boolean
  | 6 => .array .int
  | 7 => .int
  | 8 => .int
  | 9 => .int
  | 10 => .int
  | 11 => .int
  | 12 => .int
  | _ => .array .int
abbrev wsX110 : List Cond := u_ws RX11 TX11 14
theorem nmX11 : ∀ a, a < 14 → ∀ b, b < 14 → a ≠ b → (TX11 a).2.1 ≠ (TX11 b).2.1 := by decide +kernel
theorem tyX11_ok : ∀ k, k < 14 → parseFieldDescriptor (TX11 k).2.2.1 = some (tyX11 k) := by decide +kernel
abbrev cX11_init : ByteArray := prog_13_method_1_code
def yX11_init : MethodName := ⟨RX11, "<init>", "()V"⟩
abbrev cX11_in : ByteArray := prog_13_method_3_code
def yX11_in : MethodName := ⟨RX11, "in", "(III)Z"⟩
abbrev cX11_copies : ByteArray := prog_13_method_4_code
def yX11_copies : MethodName := ⟨RX11, "copies", "([I[I)V"⟩
abbrev cX11_changes : ByteArray := prog_13_method_5_code
def yX11_changes : MethodName := ⟨RX11, "changes", "()V"⟩
abbrev cX11_hasBatch : ByteArray := prog_13_method_6_code
def yX11_hasBatch : MethodName := ⟨RX11, "hasBatch", "()Z"⟩
abbrev cX11_lot : ByteArray := prog_13_method_7_code
def yX11_lot : MethodName := ⟨RX11, "lot", "(II)I"⟩
abbrev cX11_gate : ByteArray := prog_13_method_8_code
def yX11_gate : MethodName := ⟨RX11, "gate", "(I)I"⟩
abbrev cX11_run : ByteArray := prog_13_method_9_code
def yX11_run : MethodName := ⟨RX11, "run", "(I)I"⟩
abbrev cX11_bin : ByteArray := prog_13_method_10_code
def yX11_bin : MethodName := ⟨RX11, "bin", "()I"⟩
abbrev cX11_mass : ByteArray := prog_13_method_11_code
def yX11_mass : MethodName := ⟨RX11, "mass", "(II)I"⟩
abbrev cX11_batch : ByteArray := prog_13_method_12_code
def yX11_batch : MethodName := ⟨RX11, "batch", "(I)I"⟩
abbrev cX11_falls : ByteArray := prog_13_method_13_code
def yX11_falls : MethodName := ⟨RX11, "falls", "()V"⟩
abbrev cX11_feeds : ByteArray := prog_13_method_14_code
def yX11_feeds : MethodName := ⟨RX11, "feeds", "()V"⟩
abbrev cX11_reading : ByteArray := prog_13_method_15_code
def yX11_reading : MethodName := ⟨RX11, "reading", "()I"⟩
abbrev cX11_reads : ByteArray := prog_13_method_16_code
def yX11_reads : MethodName := ⟨RX11, "reads", "()V"⟩
abbrev cX11_goes : ByteArray := prog_13_method_17_code
def yX11_goes : MethodName := ⟨RX11, "goes", "()V"⟩
abbrev cX11_ticks : ByteArray := prog_13_method_18_code
def yX11_ticks : MethodName := ⟨RX11, "ticks", "()V"⟩
abbrev cX11_tick : ByteArray := prog_13_method_19_code
def yX11_tick : MethodName := ⟨RX11, "tick", "(I)I"⟩
abbrev cX11_zero : ByteArray := prog_13_method_20_code
def yX11_zero : MethodName := ⟨RX11, "zero", "()I"⟩
abbrev cX11_isBin : ByteArray := prog_13_method_21_code
def yX11_isBin : MethodName := ⟨RX11, "isBin", "(I)Z"⟩
abbrev cX11_binMass : ByteArray := prog_13_method_22_code
def yX11_binMass : MethodName := ⟨RX11, "binMass", "(I)I"⟩
abbrev cX11_correct : ByteArray := prog_13_method_23_code
def yX11_correct : MethodName := ⟨RX11, "correct", "(I)I"⟩
abbrev cX11_set : ByteArray := prog_13_method_24_code
def yX11_set : MethodName := ⟨RX11, "set", "(II)I"⟩
abbrev cX11_isAccount : ByteArray := prog_13_method_25_code
def yX11_isAccount : MethodName := ⟨RX11, "isAccount", "(I)Z"⟩
abbrev cX11_account : ByteArray := prog_13_method_26_code
def yX11_account : MethodName := ⟨RX11, "account", "(I)I"⟩
abbrev cX11_book : ByteArray := prog_13_method_27_code
def yX11_book : MethodName := ⟨RX11, "book", "(II)I"⟩
abbrev cX11_isUnder : ByteArray := prog_13_method_28_code
def yX11_isUnder : MethodName := ⟨RX11, "isUnder", "(II)Z"⟩
abbrev cX11_depth : ByteArray := prog_13_method_29_code
def yX11_depth : MethodName := ⟨RX11, "depth", "(I)I"⟩
abbrev cX11_accountOf : ByteArray := prog_13_method_30_code
def yX11_accountOf : MethodName := ⟨RX11, "accountOf", "(II)I"⟩
abbrev cX11_massAt : ByteArray := prog_13_method_31_code
def yX11_massAt : MethodName := ⟨RX11, "massAt", "(II)I"⟩
abbrev cX11_lotOf : ByteArray := prog_13_method_32_code
def yX11_lotOf : MethodName := ⟨RX11, "lotOf", "(II)I"⟩
abbrev cX11_binOf : ByteArray := prog_13_method_33_code
def yX11_binOf : MethodName := ⟨RX11, "binOf", "(II)I"⟩
abbrev cX11_total : ByteArray := prog_13_method_34_code
def yX11_total : MethodName := ⟨RX11, "total", "()I"⟩
abbrev cX11_scale : ByteArray := prog_13_method_35_code
def yX11_scale : MethodName := ⟨RX11, "scale", "(I)I"⟩
abbrev cX11_hopper : ByteArray := prog_13_method_36_code
def yX11_hopper : MethodName := ⟨RX11, "hopper", "()I"⟩
abbrev cX11_inBins : ByteArray := prog_13_method_37_code
def yX11_inBins : MethodName := ⟨RX11, "inBins", "()I"⟩
abbrev cX11_batchTold : ByteArray := prog_13_method_38_code
def yX11_batchTold : MethodName := ⟨RX11, "batchTold", "(I)I"⟩
abbrev cX11_count : ByteArray := prog_13_method_39_code
def yX11_count : MethodName := ⟨RX11, "count", "(I)I"⟩
abbrev cX11_lasts : ByteArray := prog_13_method_40_code
def yX11_lasts : MethodName := ⟨RX11, "lasts", "()I"⟩
abbrev cX11_batchIn : ByteArray := prog_13_method_41_code
def yX11_batchIn : MethodName := ⟨RX11, "batchIn", "()I"⟩
abbrev cX11_batchOut : ByteArray := prog_13_method_42_code
def yX11_batchOut : MethodName := ⟨RX11, "batchOut", "()I"⟩
abbrev cX11_error : ByteArray := prog_13_method_43_code
def yX11_error : MethodName := ⟨RX11, "error", "()I"⟩
abbrev cX11_undo : ByteArray := prog_13_method_44_code
def yX11_undo : MethodName := ⟨RX11, "undo", "()I"⟩
abbrev cX11_type : ByteArray := prog_13_method_45_code
def yX11_type : MethodName := ⟨RX11, "type", "(I)I"⟩
abbrev cX11_clearText : ByteArray := prog_13_method_46_code
def yX11_clearText : MethodName := ⟨RX11, "clearText", "()I"⟩
abbrev cX11_isAt : ByteArray := prog_13_method_47_code
def yX11_isAt : MethodName := ⟨RX11, "isAt", "(II)Z"⟩
abbrev cX11_passes : ByteArray := prog_13_method_48_code
def yX11_passes : MethodName := ⟨RX11, "passes", "(I)Z"⟩
abbrev cX11_number : ByteArray := prog_13_method_49_code
def yX11_number : MethodName := ⟨RX11, "number", "(I)Z"⟩
abbrev cX11_parses : ByteArray := prog_13_method_50_code
def yX11_parses : MethodName := ⟨RX11, "parses", "()Z"⟩
abbrev cX11_calls : ByteArray := prog_13_method_51_code
def yX11_calls : MethodName := ⟨RX11, "calls", "()I"⟩
abbrev cX11_plays : ByteArray := prog_13_method_52_code
def yX11_plays : MethodName := ⟨RX11, "plays", "()I"⟩
abbrev cX11_fault : ByteArray := prog_13_method_53_code
def yX11_fault : MethodName := ⟨RX11, "fault", "(I)I"⟩
abbrev cX11_play : ByteArray := prog_13_method_54_code
def yX11_play : MethodName := ⟨RX11, "play", "()I"⟩
def RJ9 : String := "java/lang/Math"
def TJ9 : u_T := fun k => match k with
  | _ => ("", "", "", false)
def tyJ9 : Nat → FieldType := fun k => match k with
  | _ => .int
abbrev wsJ90 : List Cond := u_ws RJ9 TJ9 0
theorem nmJ9 : ∀ a, a < 0 → ∀ b, b < 0 → a ≠ b → (TJ9 a).2.1 ≠ (TJ9 b).2.1 := by decide +kernel
theorem tyJ9_ok : ∀ k, k < 0 → parseFieldDescriptor (TJ9 k).2.2.1 = some (tyJ9 k) := by decide +kernel
abbrev cJ9_max_7cf53 : ByteArray := prog_14_method_65_code
def yJ9_max_7cf53 : MethodName := ⟨RJ9, "max", "(II)I"⟩
abbrev cJ9_min_7cf53 : ByteArray := prog_14_method_69_code
def yJ9_min_7cf53 : MethodName := ⟨RJ9, "min", "(II)I"⟩
def RJ10 : String := "java/lang/System"
def TJ10 : u_T := fun k => match k with
  | _ => ("", "", "", false)
def tyJ10 : Nat → FieldType := fun k => match k with
  | _ => .int
abbrev wsJ100 : List Cond := u_ws RJ10 TJ10 0
theorem nmJ10 : ∀ a, a < 0 → ∀ b, b < 0 → a ≠ b → (TJ10 a).2.1 ≠ (TJ10 b).2.1 := by decide +kernel
theorem tyJ10_ok : ∀ k, k < 0 → parseFieldDescriptor (TJ10 k).2.2.1 = some (tyJ10 k) := by decide +kernel
def RL : String := "BeltSumsLaw"
abbrev cL_law : ByteArray := code
def yL_law : MethodName := ⟨RL, "law", "([I)Z"⟩
abbrev vwCl : List vw_C := [(RX0, TX0, 4), (RX1, TX1, 3), (RX2, TX2, 4), (RX3, TX3, 4), (RX4, TX4, 5), (RX5, TX5, 4), (RX6, TX6, 15), (RX7, TX7, 5), (RX8, TX8, 5), (RX9, TX9, 2), (RX10, TX10, 5), (RX11, TX11, 14)]
def tblG : List Cond := lw_tbl.filter goodWord
theorem tG {w : Cond} (i : Nat) (h : lw_tbl[i]? = some w) (hg : goodWord w = true) : w ∈ tblG := List.mem_filter.mpr ⟨List.mem_of_getElem? h, hg⟩
theorem t0 : (Cond.selects "BeltSums" ({ cls := "BeltSums", name := "recorded", desc := "(I)I" } : Jvm.MethodName) ({ cls := "BeltSums", name := "recorded", desc := "(I)I" } : Jvm.MethodName)) ∈ tblG := tG 0 (by decide +kernel) rfl
theorem t1 : (Cond.selects "BeltSums$Plant" ({ cls := "BeltSums$Plant", name := "wantsMore", desc := "()Z" } : Jvm.MethodName) ({ cls := "BeltSums$Plant", name := "wantsMore", desc := "()Z" } : Jvm.MethodName)) ∈ tblG := tG 1 (by decide +kernel) rfl
theorem t2 : (Cond.selects "BeltSums$Plant" ({ cls := "BeltSums$Plant", name := "dropAtEnd", desc := "()I" } : Jvm.MethodName) ({ cls := "BeltSums$Plant", name := "dropAtEnd", desc := "()I" } : Jvm.MethodName)) ∈ tblG := tG 2 (by decide +kernel) rfl
theorem t3 : (Cond.selects "BeltSums$Plant" ({ cls := "BeltSums$Plant", name := "feed", desc := "()V" } : Jvm.MethodName) ({ cls := "BeltSums$Plant", name := "feed", desc := "()V" } : Jvm.MethodName)) ∈ tblG := tG 3 (by decide +kernel) rfl
theorem t4 : (Cond.selects "BeltSums$Plant" ({ cls := "BeltSums$Plant", name := "spillTooMuch", desc := "()V" } : Jvm.MethodName) ({ cls := "BeltSums$Plant", name := "spillTooMuch", desc := "()V" } : Jvm.MethodName)) ∈ tblG := tG 4 (by decide +kernel) rfl
theorem t5 : (Cond.selects "BeltSums$Plant" ({ cls := "BeltSums$Plant", name := "endBatch", desc := "()V" } : Jvm.MethodName) ({ cls := "BeltSums$Plant", name := "endBatch", desc := "()V" } : Jvm.MethodName)) ∈ tblG := tG 5 (by decide +kernel) rfl
theorem t6 : (Cond.selects "BeltSums" ({ cls := "BeltSums", name := "foretell", desc := "()I" } : Jvm.MethodName) ({ cls := "BeltSums", name := "foretell", desc := "()I" } : Jvm.MethodName)) ∈ tblG := tG 6 (by decide +kernel) rfl
theorem t7 : (Cond.selects "BeltSums$Command" ({ cls := "BeltSums$Command", name := "passes", desc := "(LBeltSums$Text;I)Z" } : Jvm.MethodName) ({ cls := "BeltSums$Command", name := "passes", desc := "(LBeltSums$Text;I)Z" } : Jvm.MethodName)) ∈ tblG := tG 7 (by decide +kernel) rfl
theorem t8 : (Cond.selects "BeltSums$Command" ({ cls := "BeltSums$Command", name := "readNumber", desc := "(LBeltSums$Text;)I" } : Jvm.MethodName) ({ cls := "BeltSums$Command", name := "readNumber", desc := "(LBeltSums$Text;)I" } : Jvm.MethodName)) ∈ tblG := tG 8 (by decide +kernel) rfl
theorem t9 : (Cond.selects "BeltSumsModel" ({ cls := "BeltSumsModel", name := "changes", desc := "()V" } : Jvm.MethodName) ({ cls := "BeltSumsModel", name := "changes", desc := "()V" } : Jvm.MethodName)) ∈ tblG := tG 9 (by decide +kernel) rfl
theorem t10 : (Cond.selects "BeltSumsModel" ({ cls := "BeltSumsModel", name := "hasBatch", desc := "()Z" } : Jvm.MethodName) ({ cls := "BeltSumsModel", name := "hasBatch", desc := "()Z" } : Jvm.MethodName)) ∈ tblG := tG 10 (by decide +kernel) rfl
theorem t11 : (Cond.selects "BeltSumsModel" ({ cls := "BeltSumsModel", name := "mass", desc := "(II)I" } : Jvm.MethodName) ({ cls := "BeltSumsModel", name := "mass", desc := "(II)I" } : Jvm.MethodName)) ∈ tblG := tG 11 (by decide +kernel) rfl
theorem t12 : (Cond.selects "BeltSumsModel" ({ cls := "BeltSumsModel", name := "ticks", desc := "()V" } : Jvm.MethodName) ({ cls := "BeltSumsModel", name := "ticks", desc := "()V" } : Jvm.MethodName)) ∈ tblG := tG 12 (by decide +kernel) rfl
theorem t13 : (Cond.selects "BeltSumsModel" ({ cls := "BeltSumsModel", name := "goes", desc := "()V" } : Jvm.MethodName) ({ cls := "BeltSumsModel", name := "goes", desc := "()V" } : Jvm.MethodName)) ∈ tblG := tG 13 (by decide +kernel) rfl
theorem t14 : (Cond.selects "BeltSumsModel" ({ cls := "BeltSumsModel", name := "falls", desc := "()V" } : Jvm.MethodName) ({ cls := "BeltSumsModel", name := "falls", desc := "()V" } : Jvm.MethodName)) ∈ tblG := tG 14 (by decide +kernel) rfl
theorem t15 : (Cond.selects "BeltSumsModel" ({ cls := "BeltSumsModel", name := "feeds", desc := "()V" } : Jvm.MethodName) ({ cls := "BeltSumsModel", name := "feeds", desc := "()V" } : Jvm.MethodName)) ∈ tblG := tG 15 (by decide +kernel) rfl
theorem t16 : (Cond.selects "BeltSumsModel" ({ cls := "BeltSumsModel", name := "reads", desc := "()V" } : Jvm.MethodName) ({ cls := "BeltSumsModel", name := "reads", desc := "()V" } : Jvm.MethodName)) ∈ tblG := tG 16 (by decide +kernel) rfl
theorem t17 : (Cond.selects "BeltSumsModel" ({ cls := "BeltSumsModel", name := "reading", desc := "()I" } : Jvm.MethodName) ({ cls := "BeltSumsModel", name := "reading", desc := "()I" } : Jvm.MethodName)) ∈ tblG := tG 17 (by decide +kernel) rfl
theorem t18 : (Cond.selects "BeltSumsModel" ({ cls := "BeltSumsModel", name := "isBin", desc := "(I)Z" } : Jvm.MethodName) ({ cls := "BeltSumsModel", name := "isBin", desc := "(I)Z" } : Jvm.MethodName)) ∈ tblG := tG 18 (by decide +kernel) rfl
theorem t19 : (Cond.selects "BeltSumsModel" ({ cls := "BeltSumsModel", name := "binMass", desc := "(I)I" } : Jvm.MethodName) ({ cls := "BeltSumsModel", name := "binMass", desc := "(I)I" } : Jvm.MethodName)) ∈ tblG := tG 19 (by decide +kernel) rfl
theorem t20 : (Cond.selects "BeltSumsModel" ({ cls := "BeltSumsModel", name := "isAccount", desc := "(I)Z" } : Jvm.MethodName) ({ cls := "BeltSumsModel", name := "isAccount", desc := "(I)Z" } : Jvm.MethodName)) ∈ tblG := tG 20 (by decide +kernel) rfl
theorem t21 : (Cond.selects "BeltSumsModel" ({ cls := "BeltSumsModel", name := "isUnder", desc := "(II)Z" } : Jvm.MethodName) ({ cls := "BeltSumsModel", name := "isUnder", desc := "(II)Z" } : Jvm.MethodName)) ∈ tblG := tG 21 (by decide +kernel) rfl
theorem t22 : (Cond.selects "BeltSumsModel" ({ cls := "BeltSumsModel", name := "depth", desc := "(I)I" } : Jvm.MethodName) ({ cls := "BeltSumsModel", name := "depth", desc := "(I)I" } : Jvm.MethodName)) ∈ tblG := tG 22 (by decide +kernel) rfl
theorem t23 : (Cond.selects "BeltSumsModel" ({ cls := "BeltSumsModel", name := "total", desc := "()I" } : Jvm.MethodName) ({ cls := "BeltSumsModel", name := "total", desc := "()I" } : Jvm.MethodName)) ∈ tblG := tG 23 (by decide +kernel) rfl
theorem t24 : (Cond.selects "BeltSumsModel" ({ cls := "BeltSumsModel", name := "batchTold", desc := "(I)I" } : Jvm.MethodName) ({ cls := "BeltSumsModel", name := "batchTold", desc := "(I)I" } : Jvm.MethodName)) ∈ tblG := tG 24 (by decide +kernel) rfl
theorem t25 : (Cond.selects "BeltSumsModel" ({ cls := "BeltSumsModel", name := "hopper", desc := "()I" } : Jvm.MethodName) ({ cls := "BeltSumsModel", name := "hopper", desc := "()I" } : Jvm.MethodName)) ∈ tblG := tG 25 (by decide +kernel) rfl
theorem t26 : (Cond.selects "BeltSumsModel" ({ cls := "BeltSumsModel", name := "inBins", desc := "()I" } : Jvm.MethodName) ({ cls := "BeltSumsModel", name := "inBins", desc := "()I" } : Jvm.MethodName)) ∈ tblG := tG 26 (by decide +kernel) rfl
theorem t27 : (Cond.selects "BeltSumsModel" ({ cls := "BeltSumsModel", name := "lasts", desc := "()I" } : Jvm.MethodName) ({ cls := "BeltSumsModel", name := "lasts", desc := "()I" } : Jvm.MethodName)) ∈ tblG := tG 27 (by decide +kernel) rfl
theorem t28 : (Cond.selects "BeltSumsModel" ({ cls := "BeltSumsModel", name := "plays", desc := "()I" } : Jvm.MethodName) ({ cls := "BeltSumsModel", name := "plays", desc := "()I" } : Jvm.MethodName)) ∈ tblG := tG 28 (by decide +kernel) rfl
theorem t29 : (Cond.selects "BeltSumsModel" ({ cls := "BeltSumsModel", name := "parses", desc := "()Z" } : Jvm.MethodName) ({ cls := "BeltSumsModel", name := "parses", desc := "()Z" } : Jvm.MethodName)) ∈ tblG := tG 29 (by decide +kernel) rfl
theorem t30 : (Cond.selects "BeltSumsModel" ({ cls := "BeltSumsModel", name := "passes", desc := "(I)Z" } : Jvm.MethodName) ({ cls := "BeltSumsModel", name := "passes", desc := "(I)Z" } : Jvm.MethodName)) ∈ tblG := tG 30 (by decide +kernel) rfl
theorem t31 : (Cond.selects "BeltSumsModel" ({ cls := "BeltSumsModel", name := "isAt", desc := "(II)Z" } : Jvm.MethodName) ({ cls := "BeltSumsModel", name := "isAt", desc := "(II)Z" } : Jvm.MethodName)) ∈ tblG := tG 31 (by decide +kernel) rfl
theorem t32 : (Cond.selects "BeltSumsModel" ({ cls := "BeltSumsModel", name := "number", desc := "(I)Z" } : Jvm.MethodName) ({ cls := "BeltSumsModel", name := "number", desc := "(I)Z" } : Jvm.MethodName)) ∈ tblG := tG 32 (by decide +kernel) rfl
theorem t33 : (Cond.selects "BeltSumsModel" ({ cls := "BeltSumsModel", name := "calls", desc := "()I" } : Jvm.MethodName) ({ cls := "BeltSumsModel", name := "calls", desc := "()I" } : Jvm.MethodName)) ∈ tblG := tG 33 (by decide +kernel) rfl
theorem t34 : (Cond.initialized "BeltSumsLaw") ∈ tblG := tG 34 (by decide +kernel) rfl
theorem t35 : (Cond.initialized "BeltSums") ∈ tblG := tG 35 (by decide +kernel) rfl
theorem t36 : (Cond.initialized "BeltSums$Plant") ∈ tblG := tG 36 (by decide +kernel) rfl
theorem t37 : (Cond.initialized "BeltSums$Hopper") ∈ tblG := tG 37 (by decide +kernel) rfl
theorem t38 : (Cond.initialized "BeltSums$Belt") ∈ tblG := tG 38 (by decide +kernel) rfl
theorem t39 : (Cond.initialized "BeltSums$Bins") ∈ tblG := tG 39 (by decide +kernel) rfl
theorem t40 : (Cond.initialized "BeltSums$Scale") ∈ tblG := tG 40 (by decide +kernel) rfl
theorem t41 : (Cond.initialized "BeltSums$Accounts") ∈ tblG := tG 41 (by decide +kernel) rfl
theorem t42 : (Cond.initialized "java/lang/Math") ∈ tblG := tG 42 (by decide +kernel) rfl
theorem t43 : (Cond.initialized "java/lang/System") ∈ tblG := tG 43 (by decide +kernel) rfl
theorem t44 : (Cond.initialized "BeltSums$History") ∈ tblG := tG 44 (by decide +kernel) rfl
theorem t45 : (Cond.initialized "BeltSums$Text") ∈ tblG := tG 45 (by decide +kernel) rfl
theorem t46 : (Cond.initialized "BeltSums$Rehearsal") ∈ tblG := tG 46 (by decide +kernel) rfl
theorem t47 : (Cond.initialized "BeltSums$Command") ∈ tblG := tG 47 (by decide +kernel) rfl
theorem t48 : (Cond.initialized "BeltSumsModel") ∈ tblG := tG 48 (by decide +kernel) rfl
theorem t49 : (Cond.classLink "BeltSumsLaw" (7 : Nat) "BeltSums") ∈ tblG := tG 49 (by decide +kernel) rfl
theorem t50 : (Cond.instantiable "BeltSums" (5 : Nat)) ∈ tblG := tG 50 (by decide +kernel) rfl
theorem t51 : (Cond.methodLink "BeltSumsLaw" (9 : Nat) ({ cls := "BeltSums", name := "<init>", desc := "()V" } : Jvm.MethodName)) ∈ tblG := tG 51 (by decide +kernel) rfl
theorem t52 : (Cond.instanceMethod ({ cls := "BeltSums", name := "<init>", desc := "()V" } : Jvm.MethodName)) ∈ tblG := tG 52 (by decide +kernel) rfl
theorem t53 : (Cond.code ({ cls := "BeltSums", name := "<init>", desc := "()V" } : Jvm.MethodName) prog_1_method_1_code (1 : Nat) (Option.none : Option Jvm.ClassFile.FieldType)) ∈ tblG := tG 53 (by decide +kernel) rfl
theorem t54 : (Cond.methodLink "BeltSums" (1 : Nat) ({ cls := "java/lang/Object", name := "<init>", desc := "()V" } : Jvm.MethodName)) ∈ tblG := tG 54 (by decide +kernel) rfl
theorem t55 : (Cond.instanceMethod ({ cls := "java/lang/Object", name := "<init>", desc := "()V" } : Jvm.MethodName)) ∈ tblG := tG 55 (by decide +kernel) rfl
theorem t56 : (Cond.code ({ cls := "java/lang/Object", name := "<init>", desc := "()V" } : Jvm.MethodName) object_method_1_code (1 : Nat) (Option.none : Option Jvm.ClassFile.FieldType)) ∈ tblG := tG 56 (by decide +kernel) rfl
theorem t57 : (Cond.classLink "BeltSums" (7 : Nat) "BeltSums$Plant") ∈ tblG := tG 57 (by decide +kernel) rfl
theorem t58 : (Cond.instantiable "BeltSums$Plant" (15 : Nat)) ∈ tblG := tG 58 (by decide +kernel) rfl
theorem t59 : (Cond.methodLink "BeltSums" (9 : Nat) ({ cls := "BeltSums$Plant", name := "<init>", desc := "()V" } : Jvm.MethodName)) ∈ tblG := tG 59 (by decide +kernel) rfl
theorem t60 : (Cond.instanceMethod ({ cls := "BeltSums$Plant", name := "<init>", desc := "()V" } : Jvm.MethodName)) ∈ tblG := tG 60 (by decide +kernel) rfl
theorem t61 : (Cond.code ({ cls := "BeltSums$Plant", name := "<init>", desc := "()V" } : Jvm.MethodName) prog_8_method_1_code (1 : Nat) (Option.none : Option Jvm.ClassFile.FieldType)) ∈ tblG := tG 61 (by decide +kernel) rfl
theorem t62 : (Cond.methodLink "BeltSums$Plant" (3 : Nat) ({ cls := "java/lang/Object", name := "<init>", desc := "()V" } : Jvm.MethodName)) ∈ tblG := tG 62 (by decide +kernel) rfl
theorem t63 : (Cond.classLink "BeltSums$Plant" (9 : Nat) "BeltSums$Hopper") ∈ tblG := tG 63 (by decide +kernel) rfl
theorem t64 : (Cond.instantiable "BeltSums$Hopper" (4 : Nat)) ∈ tblG := tG 64 (by decide +kernel) rfl
theorem t66 : (Cond.instanceMethod ({ cls := "BeltSums$Hopper", name := "<init>", desc := "()V" } : Jvm.MethodName)) ∈ tblG := tG 66 (by decide +kernel) rfl
theorem t67 : (Cond.code ({ cls := "BeltSums$Hopper", name := "<init>", desc := "()V" } : Jvm.MethodName) prog_7_method_1_code (1 : Nat) (Option.none : Option Jvm.ClassFile.FieldType)) ∈ tblG := tG 67 (by decide +kernel) rfl
theorem t68 : (Cond.methodLink "BeltSums$Hopper" (3 : Nat) ({ cls := "java/lang/Object", name := "<init>", desc := "()V" } : Jvm.MethodName)) ∈ tblG := tG 68 (by decide +kernel) rfl
theorem t69 : (Cond.fieldLink "BeltSums$Hopper" (9 : Nat) "BeltSums$Hopper" "kinds" "[I") ∈ tblG := tG 69 (by decide +kernel) rfl
theorem t70 : (Cond.fieldLink "BeltSums$Plant" (187 : Nat) "BeltSums$Hopper" "kinds" "[I") ∈ tblG := tG 70 (by decide +kernel) rfl
theorem t71 : (Cond.fieldLink "BeltSums" (133 : Nat) "BeltSums$Hopper" "kinds" "[I") ∈ tblG := tG 71 (by decide +kernel) rfl
theorem t72 : (Cond.fieldLink "BeltSums$Hopper" (15 : Nat) "BeltSums$Hopper" "masses" "[I") ∈ tblG := tG 72 (by decide +kernel) rfl
theorem t73 : (Cond.fieldLink "BeltSums$Plant" (179 : Nat) "BeltSums$Hopper" "masses" "[I") ∈ tblG := tG 73 (by decide +kernel) rfl
theorem t74 : (Cond.fieldLink "BeltSums" (136 : Nat) "BeltSums$Hopper" "masses" "[I") ∈ tblG := tG 74 (by decide +kernel) rfl
theorem t75 : (Cond.fieldLink "BeltSums$Hopper" (22 : Nat) "BeltSums$Hopper" "lots" "I") ∈ tblG := tG 75 (by decide +kernel) rfl
theorem t76 : (Cond.fieldLink "BeltSums$Plant" (107 : Nat) "BeltSums$Hopper" "lots" "I") ∈ tblG := tG 76 (by decide +kernel) rfl
theorem t77 : (Cond.fieldLink "BeltSums" (127 : Nat) "BeltSums$Hopper" "lots" "I") ∈ tblG := tG 77 (by decide +kernel) rfl
theorem t78 : (Cond.fieldLink "BeltSums$Hopper" (26 : Nat) "BeltSums$Hopper" "putSoFar" "I") ∈ tblG := tG 78 (by decide +kernel) rfl
theorem t79 : (Cond.fieldLink "BeltSums" (226 : Nat) "BeltSums$Hopper" "putSoFar" "I") ∈ tblG := tG 79 (by decide +kernel) rfl
theorem t80 : (Cond.laysFinal "BeltSums$Hopper" "BeltSums$Hopper" "kinds" "[I") ∈ tblG := tG 80 (by decide +kernel) rfl
theorem t82 : (Cond.laysFinal "BeltSums$Hopper" "BeltSums$Hopper" "masses" "[I") ∈ tblG := tG 82 (by decide +kernel) rfl
theorem t84 : (Cond.lays "BeltSums$Hopper" "BeltSums$Hopper" "lots" "I") ∈ tblG := tG 84 (by decide +kernel) rfl
theorem t86 : (Cond.lays "BeltSums$Hopper" "BeltSums$Hopper" "putSoFar" "I") ∈ tblG := tG 86 (by decide +kernel) rfl
theorem t89 : (Cond.arrayClass Jvm.ClassFile.FieldType.int) ∈ tblG := tG 89 (by decide +kernel) rfl
theorem t90 : (Cond.classLink "BeltSums$Plant" (18 : Nat) "BeltSums$Belt") ∈ tblG := tG 90 (by decide +kernel) rfl
theorem t91 : (Cond.instantiable "BeltSums$Belt" (3 : Nat)) ∈ tblG := tG 91 (by decide +kernel) rfl
theorem t93 : (Cond.instanceMethod ({ cls := "BeltSums$Belt", name := "<init>", desc := "()V" } : Jvm.MethodName)) ∈ tblG := tG 93 (by decide +kernel) rfl
theorem t94 : (Cond.code ({ cls := "BeltSums$Belt", name := "<init>", desc := "()V" } : Jvm.MethodName) prog_3_method_1_code (1 : Nat) (Option.none : Option Jvm.ClassFile.FieldType)) ∈ tblG := tG 94 (by decide +kernel) rfl
theorem t95 : (Cond.methodLink "BeltSums$Belt" (3 : Nat) ({ cls := "java/lang/Object", name := "<init>", desc := "()V" } : Jvm.MethodName)) ∈ tblG := tG 95 (by decide +kernel) rfl
theorem t96 : (Cond.fieldLink "BeltSums$Belt" (9 : Nat) "BeltSums$Belt" "masses" "[I") ∈ tblG := tG 96 (by decide +kernel) rfl
theorem t97 : (Cond.fieldLink "BeltSums$Belt" (19 : Nat) "BeltSums$Belt" "start" "I") ∈ tblG := tG 97 (by decide +kernel) rfl
theorem t98 : (Cond.fieldLink "BeltSums$Belt" (23 : Nat) "BeltSums$Belt" "total" "I") ∈ tblG := tG 98 (by decide +kernel) rfl
theorem t99 : (Cond.fieldLink "BeltSums$Plant" (123 : Nat) "BeltSums$Belt" "total" "I") ∈ tblG := tG 99 (by decide +kernel) rfl
theorem t100 : (Cond.fieldLink "BeltSums" (220 : Nat) "BeltSums$Belt" "total" "I") ∈ tblG := tG 100 (by decide +kernel) rfl
theorem t101 : (Cond.laysFinal "BeltSums$Belt" "BeltSums$Belt" "masses" "[I") ∈ tblG := tG 101 (by decide +kernel) rfl
theorem t103 : (Cond.lays "BeltSums$Belt" "BeltSums$Belt" "start" "I") ∈ tblG := tG 103 (by decide +kernel) rfl
theorem t105 : (Cond.lays "BeltSums$Belt" "BeltSums$Belt" "total" "I") ∈ tblG := tG 105 (by decide +kernel) rfl
theorem t108 : (Cond.classLink "BeltSums$Plant" (25 : Nat) "BeltSums$Bins") ∈ tblG := tG 108 (by decide +kernel) rfl
theorem t109 : (Cond.instantiable "BeltSums$Bins" (4 : Nat)) ∈ tblG := tG 109 (by decide +kernel) rfl
theorem t111 : (Cond.instanceMethod ({ cls := "BeltSums$Bins", name := "<init>", desc := "()V" } : Jvm.MethodName)) ∈ tblG := tG 111 (by decide +kernel) rfl
theorem t112 : (Cond.code ({ cls := "BeltSums$Bins", name := "<init>", desc := "()V" } : Jvm.MethodName) prog_4_method_1_code (1 : Nat) (Option.none : Option Jvm.ClassFile.FieldType)) ∈ tblG := tG 112 (by decide +kernel) rfl
theorem t113 : (Cond.methodLink "BeltSums$Bins" (3 : Nat) ({ cls := "java/lang/Object", name := "<init>", desc := "()V" } : Jvm.MethodName)) ∈ tblG := tG 113 (by decide +kernel) rfl
theorem t114 : (Cond.fieldLink "BeltSums$Bins" (9 : Nat) "BeltSums$Bins" "masses" "[I") ∈ tblG := tG 114 (by decide +kernel) rfl
theorem t115 : (Cond.fieldLink "BeltSums" (149 : Nat) "BeltSums$Bins" "masses" "[I") ∈ tblG := tG 115 (by decide +kernel) rfl
theorem t116 : (Cond.fieldLink "BeltSums$Bins" (15 : Nat) "BeltSums$Bins" "grown" "[I") ∈ tblG := tG 116 (by decide +kernel) rfl
theorem t117 : (Cond.fieldLink "BeltSums" (153 : Nat) "BeltSums$Bins" "grown" "[I") ∈ tblG := tG 117 (by decide +kernel) rfl
theorem t118 : (Cond.fieldLink "BeltSums$Plant" (206 : Nat) "BeltSums$Bins" "grown" "[I") ∈ tblG := tG 118 (by decide +kernel) rfl
theorem t119 : (Cond.fieldLink "BeltSums$Bins" (18 : Nat) "BeltSums$Bins" "ticksFilled" "[I") ∈ tblG := tG 119 (by decide +kernel) rfl
theorem t120 : (Cond.fieldLink "BeltSums" (157 : Nat) "BeltSums$Bins" "ticksFilled" "[I") ∈ tblG := tG 120 (by decide +kernel) rfl
theorem t121 : (Cond.fieldLink "BeltSums$Bins" (25 : Nat) "BeltSums$Bins" "many" "I") ∈ tblG := tG 121 (by decide +kernel) rfl
theorem t122 : (Cond.fieldLink "BeltSums$Plant" (120 : Nat) "BeltSums$Bins" "many" "I") ∈ tblG := tG 122 (by decide +kernel) rfl
theorem t123 : (Cond.fieldLink "BeltSums" (203 : Nat) "BeltSums$Bins" "many" "I") ∈ tblG := tG 123 (by decide +kernel) rfl
theorem t124 : (Cond.laysFinal "BeltSums$Bins" "BeltSums$Bins" "masses" "[I") ∈ tblG := tG 124 (by decide +kernel) rfl
theorem t126 : (Cond.laysFinal "BeltSums$Bins" "BeltSums$Bins" "grown" "[I") ∈ tblG := tG 126 (by decide +kernel) rfl
theorem t128 : (Cond.laysFinal "BeltSums$Bins" "BeltSums$Bins" "ticksFilled" "[I") ∈ tblG := tG 128 (by decide +kernel) rfl
theorem t130 : (Cond.lays "BeltSums$Bins" "BeltSums$Bins" "many" "I") ∈ tblG := tG 130 (by decide +kernel) rfl
theorem t133 : (Cond.classLink "BeltSums$Plant" (32 : Nat) "BeltSums$Scale") ∈ tblG := tG 133 (by decide +kernel) rfl
theorem t134 : (Cond.instantiable "BeltSums$Scale" (5 : Nat)) ∈ tblG := tG 134 (by decide +kernel) rfl
theorem t136 : (Cond.instanceMethod ({ cls := "BeltSums$Scale", name := "<init>", desc := "()V" } : Jvm.MethodName)) ∈ tblG := tG 136 (by decide +kernel) rfl
theorem t137 : (Cond.code ({ cls := "BeltSums$Scale", name := "<init>", desc := "()V" } : Jvm.MethodName) prog_10_method_1_code (1 : Nat) (Option.none : Option Jvm.ClassFile.FieldType)) ∈ tblG := tG 137 (by decide +kernel) rfl
theorem t138 : (Cond.methodLink "BeltSums$Scale" (3 : Nat) ({ cls := "java/lang/Object", name := "<init>", desc := "()V" } : Jvm.MethodName)) ∈ tblG := tG 138 (by decide +kernel) rfl
theorem t139 : (Cond.fieldLink "BeltSums$Scale" (15 : Nat) "BeltSums$Scale" "drift" "I") ∈ tblG := tG 139 (by decide +kernel) rfl
theorem t140 : (Cond.fieldLink "BeltSums$Plant" (130 : Nat) "BeltSums$Scale" "drift" "I") ∈ tblG := tG 140 (by decide +kernel) rfl
theorem t141 : (Cond.fieldLink "BeltSums" (173 : Nat) "BeltSums$Scale" "drift" "I") ∈ tblG := tG 141 (by decide +kernel) rfl
theorem t142 : (Cond.fieldLink "BeltSums$Scale" (18 : Nat) "BeltSums$Scale" "zero" "I") ∈ tblG := tG 142 (by decide +kernel) rfl
theorem t143 : (Cond.fieldLink "BeltSums$Plant" (199 : Nat) "BeltSums$Scale" "zero" "I") ∈ tblG := tG 143 (by decide +kernel) rfl
theorem t144 : (Cond.fieldLink "BeltSums" (176 : Nat) "BeltSums$Scale" "zero" "I") ∈ tblG := tG 144 (by decide +kernel) rfl
theorem t145 : (Cond.fieldLink "BeltSums$Scale" (21 : Nat) "BeltSums$Scale" "sum" "I") ∈ tblG := tG 145 (by decide +kernel) rfl
theorem t146 : (Cond.fieldLink "BeltSums" (179 : Nat) "BeltSums$Scale" "sum" "I") ∈ tblG := tG 146 (by decide +kernel) rfl
theorem t147 : (Cond.fieldLink "BeltSums$Scale" (24 : Nat) "BeltSums$Scale" "rest" "I") ∈ tblG := tG 147 (by decide +kernel) rfl
theorem t148 : (Cond.fieldLink "BeltSums$Scale" (9 : Nat) "BeltSums$Scale" "factor" "I") ∈ tblG := tG 148 (by decide +kernel) rfl
theorem t149 : (Cond.fieldLink "BeltSums$Plant" (212 : Nat) "BeltSums$Scale" "factor" "I") ∈ tblG := tG 149 (by decide +kernel) rfl
theorem t150 : (Cond.fieldLink "BeltSums" (185 : Nat) "BeltSums$Scale" "factor" "I") ∈ tblG := tG 150 (by decide +kernel) rfl
theorem t151 : (Cond.lays "BeltSums$Scale" "BeltSums$Scale" "drift" "I") ∈ tblG := tG 151 (by decide +kernel) rfl
theorem t153 : (Cond.lays "BeltSums$Scale" "BeltSums$Scale" "zero" "I") ∈ tblG := tG 153 (by decide +kernel) rfl
theorem t155 : (Cond.lays "BeltSums$Scale" "BeltSums$Scale" "sum" "I") ∈ tblG := tG 155 (by decide +kernel) rfl
theorem t157 : (Cond.lays "BeltSums$Scale" "BeltSums$Scale" "rest" "I") ∈ tblG := tG 157 (by decide +kernel) rfl
theorem t159 : (Cond.lays "BeltSums$Scale" "BeltSums$Scale" "factor" "I") ∈ tblG := tG 159 (by decide +kernel) rfl
theorem t162 : (Cond.classLink "BeltSums$Plant" (39 : Nat) "BeltSums$Accounts") ∈ tblG := tG 162 (by decide +kernel) rfl
theorem t163 : (Cond.instantiable "BeltSums$Accounts" (4 : Nat)) ∈ tblG := tG 163 (by decide +kernel) rfl
theorem t165 : (Cond.instanceMethod ({ cls := "BeltSums$Accounts", name := "<init>", desc := "()V" } : Jvm.MethodName)) ∈ tblG := tG 165 (by decide +kernel) rfl
theorem t166 : (Cond.code ({ cls := "BeltSums$Accounts", name := "<init>", desc := "()V" } : Jvm.MethodName) prog_2_method_1_code (1 : Nat) (Option.none : Option Jvm.ClassFile.FieldType)) ∈ tblG := tG 166 (by decide +kernel) rfl
theorem t167 : (Cond.methodLink "BeltSums$Accounts" (3 : Nat) ({ cls := "java/lang/Object", name := "<init>", desc := "()V" } : Jvm.MethodName)) ∈ tblG := tG 167 (by decide +kernel) rfl
theorem t168 : (Cond.fieldLink "BeltSums$Accounts" (9 : Nat) "BeltSums$Accounts" "within" "[I") ∈ tblG := tG 168 (by decide +kernel) rfl
theorem t169 : (Cond.fieldLink "BeltSums" (95 : Nat) "BeltSums$Accounts" "within" "[I") ∈ tblG := tG 169 (by decide +kernel) rfl
theorem t170 : (Cond.fieldLink "BeltSums$Accounts" (15 : Nat) "BeltSums$Accounts" "own" "[I") ∈ tblG := tG 170 (by decide +kernel) rfl
theorem t171 : (Cond.fieldLink "BeltSums" (99 : Nat) "BeltSums$Accounts" "own" "[I") ∈ tblG := tG 171 (by decide +kernel) rfl
theorem t172 : (Cond.fieldLink "BeltSums$Accounts" (18 : Nat) "BeltSums$Accounts" "assigned" "[I") ∈ tblG := tG 172 (by decide +kernel) rfl
theorem t173 : (Cond.fieldLink "BeltSums" (194 : Nat) "BeltSums$Accounts" "assigned" "[I") ∈ tblG := tG 173 (by decide +kernel) rfl
theorem t174 : (Cond.fieldLink "BeltSums$Accounts" (21 : Nat) "BeltSums$Accounts" "many" "I") ∈ tblG := tG 174 (by decide +kernel) rfl
theorem t175 : (Cond.fieldLink "BeltSums" (235 : Nat) "BeltSums$Accounts" "many" "I") ∈ tblG := tG 175 (by decide +kernel) rfl
theorem t176 : (Cond.laysFinal "BeltSums$Accounts" "BeltSums$Accounts" "within" "[I") ∈ tblG := tG 176 (by decide +kernel) rfl
theorem t178 : (Cond.laysFinal "BeltSums$Accounts" "BeltSums$Accounts" "own" "[I") ∈ tblG := tG 178 (by decide +kernel) rfl
theorem t180 : (Cond.laysFinal "BeltSums$Accounts" "BeltSums$Accounts" "assigned" "[I") ∈ tblG := tG 180 (by decide +kernel) rfl
theorem t182 : (Cond.lays "BeltSums$Accounts" "BeltSums$Accounts" "many" "I") ∈ tblG := tG 182 (by decide +kernel) rfl
theorem t188 : (Cond.static ({ cls := "BeltSums", name := "copyInto", desc := "([I[I)V" } : Jvm.MethodName)) ∈ tblG := tG 188 (by decide +kernel) rfl
theorem t189 : (Cond.code ({ cls := "BeltSums", name := "copyInto", desc := "([I[I)V" } : Jvm.MethodName) prog_1_method_31_code (2 : Nat) (Option.none : Option Jvm.ClassFile.FieldType)) ∈ tblG := tG 189 (by decide +kernel) rfl
theorem t190 : (Cond.methodLink "BeltSums" (285 : Nat) ({ cls := "java/lang/Math", name := "min", desc := "(II)I" } : Jvm.MethodName)) ∈ tblG := tG 190 (by decide +kernel) rfl
theorem t191 : (Cond.static ({ cls := "java/lang/Math", name := "min", desc := "(II)I" } : Jvm.MethodName)) ∈ tblG := tG 191 (by decide +kernel) rfl
theorem t192 : (Cond.code ({ cls := "java/lang/Math", name := "min", desc := "(II)I" } : Jvm.MethodName) prog_14_method_69_code (2 : Nat) (Option.some Jvm.ClassFile.FieldType.int)) ∈ tblG := tG 192 (by decide +kernel) rfl
theorem t193 : (Cond.methodLink "BeltSums" (290 : Nat) ({ cls := "java/lang/System", name := "arraycopy", desc := "(Ljava/lang/Object;ILjava/lang/Object;II)V" } : Jvm.MethodName)) ∈ tblG := tG 193 (by decide +kernel) rfl
theorem t194 : (Cond.static ({ cls := "java/lang/System", name := "arraycopy", desc := "(Ljava/lang/Object;ILjava/lang/Object;II)V" } : Jvm.MethodName)) ∈ tblG := tG 194 (by decide +kernel) rfl
theorem t195 : (Cond.native ({ cls := "java/lang/System", name := "arraycopy", desc := "(Ljava/lang/Object;ILjava/lang/Object;II)V" } : Jvm.MethodName)) ∈ tblG := tG 195 (by decide +kernel) rfl
theorem t196 : (Cond.fieldLink "BeltSums$Plant" (12 : Nat) "BeltSums$Plant" "hopper" "LBeltSums$Hopper;") ∈ tblG := tG 196 (by decide +kernel) rfl
theorem t197 : (Cond.fieldLink "BeltSums" (123 : Nat) "BeltSums$Plant" "hopper" "LBeltSums$Hopper;") ∈ tblG := tG 197 (by decide +kernel) rfl
theorem t198 : (Cond.fieldLink "BeltSums$Plant" (21 : Nat) "BeltSums$Plant" "belt" "LBeltSums$Belt;") ∈ tblG := tG 198 (by decide +kernel) rfl
theorem t199 : (Cond.fieldLink "BeltSums" (111 : Nat) "BeltSums$Plant" "belt" "LBeltSums$Belt;") ∈ tblG := tG 199 (by decide +kernel) rfl
theorem t200 : (Cond.fieldLink "BeltSums$Plant" (28 : Nat) "BeltSums$Plant" "bins" "LBeltSums$Bins;") ∈ tblG := tG 200 (by decide +kernel) rfl
theorem t201 : (Cond.fieldLink "BeltSums" (139 : Nat) "BeltSums$Plant" "bins" "LBeltSums$Bins;") ∈ tblG := tG 201 (by decide +kernel) rfl
theorem t202 : (Cond.fieldLink "BeltSums$Plant" (35 : Nat) "BeltSums$Plant" "scale" "LBeltSums$Scale;") ∈ tblG := tG 202 (by decide +kernel) rfl
theorem t203 : (Cond.fieldLink "BeltSums" (160 : Nat) "BeltSums$Plant" "scale" "LBeltSums$Scale;") ∈ tblG := tG 203 (by decide +kernel) rfl
theorem t204 : (Cond.fieldLink "BeltSums$Plant" (42 : Nat) "BeltSums$Plant" "accounts" "LBeltSums$Accounts;") ∈ tblG := tG 204 (by decide +kernel) rfl
theorem t205 : (Cond.fieldLink "BeltSums" (77 : Nat) "BeltSums$Plant" "accounts" "LBeltSums$Accounts;") ∈ tblG := tG 205 (by decide +kernel) rfl
theorem t206 : (Cond.fieldLink "BeltSums$Plant" (46 : Nat) "BeltSums$Plant" "settings" "[I") ∈ tblG := tG 206 (by decide +kernel) rfl
theorem t207 : (Cond.fieldLink "BeltSums" (191 : Nat) "BeltSums$Plant" "settings" "[I") ∈ tblG := tG 207 (by decide +kernel) rfl
theorem t208 : (Cond.fieldLink "BeltSums$Plant" (50 : Nat) "BeltSums$Plant" "gateWidth" "I") ∈ tblG := tG 208 (by decide +kernel) rfl
theorem t209 : (Cond.fieldLink "BeltSums" (197 : Nat) "BeltSums$Plant" "gateWidth" "I") ∈ tblG := tG 209 (by decide +kernel) rfl
theorem t210 : (Cond.fieldLink "BeltSums$Plant" (77 : Nat) "BeltSums$Plant" "switchedOn" "I") ∈ tblG := tG 210 (by decide +kernel) rfl
theorem t211 : (Cond.fieldLink "BeltSums" (200 : Nat) "BeltSums$Plant" "switchedOn" "I") ∈ tblG := tG 211 (by decide +kernel) rfl
theorem t212 : (Cond.fieldLink "BeltSums$Plant" (80 : Nat) "BeltSums$Plant" "batchMass" "I") ∈ tblG := tG 212 (by decide +kernel) rfl
theorem t213 : (Cond.fieldLink "BeltSums" (210 : Nat) "BeltSums$Plant" "batchMass" "I") ∈ tblG := tG 213 (by decide +kernel) rfl
theorem t214 : (Cond.fieldLink "BeltSums$Plant" (83 : Nat) "BeltSums$Plant" "batchStopped" "Z") ∈ tblG := tG 214 (by decide +kernel) rfl
theorem t215 : (Cond.fieldLink "BeltSums" (213 : Nat) "BeltSums$Plant" "batchStopped" "Z") ∈ tblG := tG 215 (by decide +kernel) rfl
theorem t216 : (Cond.fieldLink "BeltSums$Plant" (87 : Nat) "BeltSums$Plant" "cameInBatch" "I") ∈ tblG := tG 216 (by decide +kernel) rfl
theorem t217 : (Cond.fieldLink "BeltSums$Plant" (90 : Nat) "BeltSums$Plant" "time" "I") ∈ tblG := tG 217 (by decide +kernel) rfl
theorem t218 : (Cond.fieldLink "BeltSums" (217 : Nat) "BeltSums$Plant" "time" "I") ∈ tblG := tG 218 (by decide +kernel) rfl
theorem t219 : (Cond.fieldLink "BeltSums$Plant" (93 : Nat) "BeltSums$Plant" "ticksStood" "I") ∈ tblG := tG 219 (by decide +kernel) rfl
theorem t220 : (Cond.fieldLink "BeltSums" (188 : Nat) "BeltSums$Plant" "ticksStood" "I") ∈ tblG := tG 220 (by decide +kernel) rfl
theorem t221 : (Cond.fieldLink "BeltSums$Plant" (96 : Nat) "BeltSums$Plant" "spilt" "I") ∈ tblG := tG 221 (by decide +kernel) rfl
theorem t222 : (Cond.fieldLink "BeltSums" (232 : Nat) "BeltSums$Plant" "spilt" "I") ∈ tblG := tG 222 (by decide +kernel) rfl
theorem t223 : (Cond.fieldLink "BeltSums$Plant" (99 : Nat) "BeltSums$Plant" "fallen" "I") ∈ tblG := tG 223 (by decide +kernel) rfl
theorem t224 : (Cond.fieldLink "BeltSums" (249 : Nat) "BeltSums$Plant" "fallen" "I") ∈ tblG := tG 224 (by decide +kernel) rfl
theorem t225 : (Cond.laysFinal "BeltSums$Plant" "BeltSums$Plant" "hopper" "LBeltSums$Hopper;") ∈ tblG := tG 225 (by decide +kernel) rfl
theorem t227 : (Cond.laysFinal "BeltSums$Plant" "BeltSums$Plant" "belt" "LBeltSums$Belt;") ∈ tblG := tG 227 (by decide +kernel) rfl
theorem t229 : (Cond.laysFinal "BeltSums$Plant" "BeltSums$Plant" "bins" "LBeltSums$Bins;") ∈ tblG := tG 229 (by decide +kernel) rfl
theorem t231 : (Cond.laysFinal "BeltSums$Plant" "BeltSums$Plant" "scale" "LBeltSums$Scale;") ∈ tblG := tG 231 (by decide +kernel) rfl
theorem t233 : (Cond.laysFinal "BeltSums$Plant" "BeltSums$Plant" "accounts" "LBeltSums$Accounts;") ∈ tblG := tG 233 (by decide +kernel) rfl
theorem t235 : (Cond.laysFinal "BeltSums$Plant" "BeltSums$Plant" "settings" "[I") ∈ tblG := tG 235 (by decide +kernel) rfl
theorem t237 : (Cond.lays "BeltSums$Plant" "BeltSums$Plant" "gateWidth" "I") ∈ tblG := tG 237 (by decide +kernel) rfl
theorem t239 : (Cond.lays "BeltSums$Plant" "BeltSums$Plant" "switchedOn" "I") ∈ tblG := tG 239 (by decide +kernel) rfl
theorem t241 : (Cond.lays "BeltSums$Plant" "BeltSums$Plant" "batchMass" "I") ∈ tblG := tG 241 (by decide +kernel) rfl
theorem t243 : (Cond.lays "BeltSums$Plant" "BeltSums$Plant" "batchStopped" "Z") ∈ tblG := tG 243 (by decide +kernel) rfl
theorem t245 : (Cond.lays "BeltSums$Plant" "BeltSums$Plant" "cameInBatch" "I") ∈ tblG := tG 245 (by decide +kernel) rfl
theorem t247 : (Cond.lays "BeltSums$Plant" "BeltSums$Plant" "time" "I") ∈ tblG := tG 247 (by decide +kernel) rfl
theorem t249 : (Cond.lays "BeltSums$Plant" "BeltSums$Plant" "ticksStood" "I") ∈ tblG := tG 249 (by decide +kernel) rfl
theorem t251 : (Cond.lays "BeltSums$Plant" "BeltSums$Plant" "spilt" "I") ∈ tblG := tG 251 (by decide +kernel) rfl
theorem t253 : (Cond.lays "BeltSums$Plant" "BeltSums$Plant" "fallen" "I") ∈ tblG := tG 253 (by decide +kernel) rfl
theorem t256 : (Cond.classLink "BeltSums" (19 : Nat) "BeltSums$History") ∈ tblG := tG 256 (by decide +kernel) rfl
theorem t257 : (Cond.instantiable "BeltSums$History" (5 : Nat)) ∈ tblG := tG 257 (by decide +kernel) rfl
theorem t259 : (Cond.instanceMethod ({ cls := "BeltSums$History", name := "<init>", desc := "()V" } : Jvm.MethodName)) ∈ tblG := tG 259 (by decide +kernel) rfl
theorem t260 : (Cond.code ({ cls := "BeltSums$History", name := "<init>", desc := "()V" } : Jvm.MethodName) prog_6_method_1_code (1 : Nat) (Option.none : Option Jvm.ClassFile.FieldType)) ∈ tblG := tG 260 (by decide +kernel) rfl
theorem t261 : (Cond.methodLink "BeltSums$History" (3 : Nat) ({ cls := "java/lang/Object", name := "<init>", desc := "()V" } : Jvm.MethodName)) ∈ tblG := tG 261 (by decide +kernel) rfl
theorem t262 : (Cond.classLink "BeltSums$History" (9 : Nat) "BeltSums$Plant") ∈ tblG := tG 262 (by decide +kernel) rfl
theorem t263 : (Cond.methodLink "BeltSums$History" (11 : Nat) ({ cls := "BeltSums$Plant", name := "<init>", desc := "()V" } : Jvm.MethodName)) ∈ tblG := tG 263 (by decide +kernel) rfl
theorem t264 : (Cond.fieldLink "BeltSums$History" (12 : Nat) "BeltSums$History" "latest" "LBeltSums$Plant;") ∈ tblG := tG 264 (by decide +kernel) rfl
theorem t265 : (Cond.fieldLink "BeltSums$History" (18 : Nat) "BeltSums$History" "second" "LBeltSums$Plant;") ∈ tblG := tG 265 (by decide +kernel) rfl
theorem t266 : (Cond.fieldLink "BeltSums$History" (21 : Nat) "BeltSums$History" "third" "LBeltSums$Plant;") ∈ tblG := tG 266 (by decide +kernel) rfl
theorem t267 : (Cond.fieldLink "BeltSums$History" (24 : Nat) "BeltSums$History" "oldest" "LBeltSums$Plant;") ∈ tblG := tG 267 (by decide +kernel) rfl
theorem t268 : (Cond.fieldLink "BeltSums$History" (31 : Nat) "BeltSums$History" "states" "I") ∈ tblG := tG 268 (by decide +kernel) rfl
theorem t269 : (Cond.fieldLink "BeltSums" (236 : Nat) "BeltSums$History" "states" "I") ∈ tblG := tG 269 (by decide +kernel) rfl
theorem t270 : (Cond.lays "BeltSums$History" "BeltSums$History" "latest" "LBeltSums$Plant;") ∈ tblG := tG 270 (by decide +kernel) rfl
theorem t272 : (Cond.lays "BeltSums$History" "BeltSums$History" "second" "LBeltSums$Plant;") ∈ tblG := tG 272 (by decide +kernel) rfl
theorem t274 : (Cond.lays "BeltSums$History" "BeltSums$History" "third" "LBeltSums$Plant;") ∈ tblG := tG 274 (by decide +kernel) rfl
theorem t276 : (Cond.lays "BeltSums$History" "BeltSums$History" "oldest" "LBeltSums$Plant;") ∈ tblG := tG 276 (by decide +kernel) rfl
theorem t278 : (Cond.lays "BeltSums$History" "BeltSums$History" "states" "I") ∈ tblG := tG 278 (by decide +kernel) rfl
theorem t281 : (Cond.classLink "BeltSums" (26 : Nat) "BeltSums$Text") ∈ tblG := tG 281 (by decide +kernel) rfl
theorem t282 : (Cond.instantiable "BeltSums$Text" (2 : Nat)) ∈ tblG := tG 282 (by decide +kernel) rfl
theorem t284 : (Cond.instanceMethod ({ cls := "BeltSums$Text", name := "<init>", desc := "()V" } : Jvm.MethodName)) ∈ tblG := tG 284 (by decide +kernel) rfl
theorem t285 : (Cond.code ({ cls := "BeltSums$Text", name := "<init>", desc := "()V" } : Jvm.MethodName) prog_11_method_1_code (1 : Nat) (Option.none : Option Jvm.ClassFile.FieldType)) ∈ tblG := tG 285 (by decide +kernel) rfl
theorem t286 : (Cond.methodLink "BeltSums$Text" (3 : Nat) ({ cls := "java/lang/Object", name := "<init>", desc := "()V" } : Jvm.MethodName)) ∈ tblG := tG 286 (by decide +kernel) rfl
theorem t287 : (Cond.fieldLink "BeltSums$Text" (9 : Nat) "BeltSums$Text" "characters" "[C") ∈ tblG := tG 287 (by decide +kernel) rfl
theorem t288 : (Cond.fieldLink "BeltSums$Text" (15 : Nat) "BeltSums$Text" "length" "I") ∈ tblG := tG 288 (by decide +kernel) rfl
theorem t289 : (Cond.fieldLink "BeltSums$Rehearsal" (37 : Nat) "BeltSums$Text" "length" "I") ∈ tblG := tG 289 (by decide +kernel) rfl
theorem t290 : (Cond.fieldLink "BeltSums" (239 : Nat) "BeltSums$Text" "length" "I") ∈ tblG := tG 290 (by decide +kernel) rfl
theorem t291 : (Cond.laysFinal "BeltSums$Text" "BeltSums$Text" "characters" "[C") ∈ tblG := tG 291 (by decide +kernel) rfl
theorem t293 : (Cond.lays "BeltSums$Text" "BeltSums$Text" "length" "I") ∈ tblG := tG 293 (by decide +kernel) rfl
theorem t296 : (Cond.arrayClass Jvm.ClassFile.FieldType.char) ∈ tblG := tG 296 (by decide +kernel) rfl
theorem t297 : (Cond.classLink "BeltSums" (33 : Nat) "BeltSums$Rehearsal") ∈ tblG := tG 297 (by decide +kernel) rfl
theorem t298 : (Cond.instantiable "BeltSums$Rehearsal" (5 : Nat)) ∈ tblG := tG 298 (by decide +kernel) rfl
theorem t300 : (Cond.instanceMethod ({ cls := "BeltSums$Rehearsal", name := "<init>", desc := "()V" } : Jvm.MethodName)) ∈ tblG := tG 300 (by decide +kernel) rfl
theorem t301 : (Cond.code ({ cls := "BeltSums$Rehearsal", name := "<init>", desc := "()V" } : Jvm.MethodName) prog_9_method_1_code (1 : Nat) (Option.none : Option Jvm.ClassFile.FieldType)) ∈ tblG := tG 301 (by decide +kernel) rfl
theorem t302 : (Cond.methodLink "BeltSums$Rehearsal" (3 : Nat) ({ cls := "java/lang/Object", name := "<init>", desc := "()V" } : Jvm.MethodName)) ∈ tblG := tG 302 (by decide +kernel) rfl
theorem t303 : (Cond.classLink "BeltSums$Rehearsal" (9 : Nat) "BeltSums$Command") ∈ tblG := tG 303 (by decide +kernel) rfl
theorem t304 : (Cond.instantiable "BeltSums$Command" (4 : Nat)) ∈ tblG := tG 304 (by decide +kernel) rfl
theorem t306 : (Cond.instanceMethod ({ cls := "BeltSums$Command", name := "<init>", desc := "()V" } : Jvm.MethodName)) ∈ tblG := tG 306 (by decide +kernel) rfl
theorem t307 : (Cond.code ({ cls := "BeltSums$Command", name := "<init>", desc := "()V" } : Jvm.MethodName) prog_5_method_1_code (1 : Nat) (Option.none : Option Jvm.ClassFile.FieldType)) ∈ tblG := tG 307 (by decide +kernel) rfl
theorem t308 : (Cond.methodLink "BeltSums$Command" (3 : Nat) ({ cls := "java/lang/Object", name := "<init>", desc := "()V" } : Jvm.MethodName)) ∈ tblG := tG 308 (by decide +kernel) rfl
theorem t309 : (Cond.fieldLink "BeltSums$Command" (15 : Nat) "BeltSums$Command" "letter" "I") ∈ tblG := tG 309 (by decide +kernel) rfl
theorem t310 : (Cond.fieldLink "BeltSums$Command" (21 : Nat) "BeltSums$Command" "first" "I") ∈ tblG := tG 310 (by decide +kernel) rfl
theorem t311 : (Cond.fieldLink "BeltSums$Command" (24 : Nat) "BeltSums$Command" "second" "I") ∈ tblG := tG 311 (by decide +kernel) rfl
theorem t312 : (Cond.fieldLink "BeltSums$Command" (27 : Nat) "BeltSums$Command" "end" "I") ∈ tblG := tG 312 (by decide +kernel) rfl
theorem t313 : (Cond.fieldLink "BeltSums$Rehearsal" (54 : Nat) "BeltSums$Command" "end" "I") ∈ tblG := tG 313 (by decide +kernel) rfl
theorem t314 : (Cond.lays "BeltSums$Command" "BeltSums$Command" "letter" "I") ∈ tblG := tG 314 (by decide +kernel) rfl
theorem t316 : (Cond.lays "BeltSums$Command" "BeltSums$Command" "first" "I") ∈ tblG := tG 316 (by decide +kernel) rfl
theorem t318 : (Cond.lays "BeltSums$Command" "BeltSums$Command" "second" "I") ∈ tblG := tG 318 (by decide +kernel) rfl
theorem t320 : (Cond.lays "BeltSums$Command" "BeltSums$Command" "end" "I") ∈ tblG := tG 320 (by decide +kernel) rfl
theorem t323 : (Cond.fieldLink "BeltSums$Rehearsal" (12 : Nat) "BeltSums$Rehearsal" "command" "LBeltSums$Command;") ∈ tblG := tG 323 (by decide +kernel) rfl
theorem t324 : (Cond.fieldLink "BeltSums$Rehearsal" (24 : Nat) "BeltSums$Rehearsal" "position" "I") ∈ tblG := tG 324 (by decide +kernel) rfl
theorem t325 : (Cond.fieldLink "BeltSums" (267 : Nat) "BeltSums$Rehearsal" "position" "I") ∈ tblG := tG 325 (by decide +kernel) rfl
theorem t326 : (Cond.fieldLink "BeltSums$Rehearsal" (28 : Nat) "BeltSums$Rehearsal" "reason" "I") ∈ tblG := tG 326 (by decide +kernel) rfl
theorem t327 : (Cond.fieldLink "BeltSums" (264 : Nat) "BeltSums$Rehearsal" "reason" "I") ∈ tblG := tG 327 (by decide +kernel) rfl
theorem t328 : (Cond.fieldLink "BeltSums$Rehearsal" (31 : Nat) "BeltSums$Rehearsal" "cause" "I") ∈ tblG := tG 328 (by decide +kernel) rfl
theorem t329 : (Cond.fieldLink "BeltSums" (270 : Nat) "BeltSums$Rehearsal" "cause" "I") ∈ tblG := tG 329 (by decide +kernel) rfl
theorem t330 : (Cond.fieldLink "BeltSums$Rehearsal" (34 : Nat) "BeltSums$Rehearsal" "done" "I") ∈ tblG := tG 330 (by decide +kernel) rfl
theorem t331 : (Cond.fieldLink "BeltSums" (276 : Nat) "BeltSums$Rehearsal" "done" "I") ∈ tblG := tG 331 (by decide +kernel) rfl
theorem t332 : (Cond.laysFinal "BeltSums$Rehearsal" "BeltSums$Rehearsal" "command" "LBeltSums$Command;") ∈ tblG := tG 332 (by decide +kernel) rfl
theorem t334 : (Cond.lays "BeltSums$Rehearsal" "BeltSums$Rehearsal" "position" "I") ∈ tblG := tG 334 (by decide +kernel) rfl
theorem t336 : (Cond.lays "BeltSums$Rehearsal" "BeltSums$Rehearsal" "reason" "I") ∈ tblG := tG 336 (by decide +kernel) rfl
theorem t338 : (Cond.lays "BeltSums$Rehearsal" "BeltSums$Rehearsal" "cause" "I") ∈ tblG := tG 338 (by decide +kernel) rfl
theorem t340 : (Cond.lays "BeltSums$Rehearsal" "BeltSums$Rehearsal" "done" "I") ∈ tblG := tG 340 (by decide +kernel) rfl
theorem t343 : (Cond.fieldLink "BeltSums" (10 : Nat) "BeltSums" "now" "LBeltSums$Plant;") ∈ tblG := tG 343 (by decide +kernel) rfl
theorem t344 : (Cond.fieldLink "BeltSums" (16 : Nat) "BeltSums" "spare" "LBeltSums$Plant;") ∈ tblG := tG 344 (by decide +kernel) rfl
theorem t345 : (Cond.fieldLink "BeltSums" (22 : Nat) "BeltSums" "history" "LBeltSums$History;") ∈ tblG := tG 345 (by decide +kernel) rfl
theorem t346 : (Cond.fieldLink "BeltSums" (29 : Nat) "BeltSums" "text" "LBeltSums$Text;") ∈ tblG := tG 346 (by decide +kernel) rfl
theorem t347 : (Cond.fieldLink "BeltSums" (36 : Nat) "BeltSums" "rehearsal" "LBeltSums$Rehearsal;") ∈ tblG := tG 347 (by decide +kernel) rfl
theorem t348 : (Cond.laysFinal "BeltSums" "BeltSums" "now" "LBeltSums$Plant;") ∈ tblG := tG 348 (by decide +kernel) rfl
theorem t350 : (Cond.laysFinal "BeltSums" "BeltSums" "spare" "LBeltSums$Plant;") ∈ tblG := tG 350 (by decide +kernel) rfl
theorem t352 : (Cond.laysFinal "BeltSums" "BeltSums" "history" "LBeltSums$History;") ∈ tblG := tG 352 (by decide +kernel) rfl
theorem t354 : (Cond.laysFinal "BeltSums" "BeltSums" "text" "LBeltSums$Text;") ∈ tblG := tG 354 (by decide +kernel) rfl
theorem t356 : (Cond.laysFinal "BeltSums" "BeltSums" "rehearsal" "LBeltSums$Rehearsal;") ∈ tblG := tG 356 (by decide +kernel) rfl
theorem t359 : (Cond.methodLink "BeltSumsLaw" (13 : Nat) ({ cls := "BeltSums", name := "lot", desc := "(II)I" } : Jvm.MethodName)) ∈ tblG := tG 359 (by decide +kernel) rfl
theorem t360 : (Cond.instanceMethod ({ cls := "BeltSums", name := "lot", desc := "(II)I" } : Jvm.MethodName)) ∈ tblG := tG 360 (by decide +kernel) rfl
theorem t361 : (Cond.selects "BeltSums" ({ cls := "BeltSums", name := "lot", desc := "(II)I" } : Jvm.MethodName) ({ cls := "BeltSums", name := "lot", desc := "(II)I" } : Jvm.MethodName)) ∈ tblG := tG 361 (by decide +kernel) rfl
theorem t362 : (Cond.code ({ cls := "BeltSums", name := "lot", desc := "(II)I" } : Jvm.MethodName) prog_1_method_2_code (3 : Nat) (Option.some Jvm.ClassFile.FieldType.int)) ∈ tblG := tG 362 (by decide +kernel) rfl
theorem t363 : (Cond.methodLink "BeltSums" (40 : Nat) ({ cls := "BeltSums$Plant", name := "copyFrom", desc := "(LBeltSums$Plant;)V" } : Jvm.MethodName)) ∈ tblG := tG 363 (by decide +kernel) rfl
theorem t364 : (Cond.instanceMethod ({ cls := "BeltSums$Plant", name := "copyFrom", desc := "(LBeltSums$Plant;)V" } : Jvm.MethodName)) ∈ tblG := tG 364 (by decide +kernel) rfl
theorem t365 : (Cond.selects "BeltSums$Plant" ({ cls := "BeltSums$Plant", name := "copyFrom", desc := "(LBeltSums$Plant;)V" } : Jvm.MethodName) ({ cls := "BeltSums$Plant", name := "copyFrom", desc := "(LBeltSums$Plant;)V" } : Jvm.MethodName)) ∈ tblG := tG 365 (by decide +kernel) rfl
theorem t366 : (Cond.code ({ cls := "BeltSums$Plant", name := "copyFrom", desc := "(LBeltSums$Plant;)V" } : Jvm.MethodName) prog_8_method_2_code (2 : Nat) (Option.none : Option Jvm.ClassFile.FieldType)) ∈ tblG := tG 366 (by decide +kernel) rfl
theorem t367 : (Cond.methodLink "BeltSums$Plant" (61 : Nat) ({ cls := "BeltSums$Hopper", name := "copyFrom", desc := "(LBeltSums$Hopper;)V" } : Jvm.MethodName)) ∈ tblG := tG 367 (by decide +kernel) rfl
theorem t368 : (Cond.instanceMethod ({ cls := "BeltSums$Hopper", name := "copyFrom", desc := "(LBeltSums$Hopper;)V" } : Jvm.MethodName)) ∈ tblG := tG 368 (by decide +kernel) rfl
theorem t369 : (Cond.selects "BeltSums$Hopper" ({ cls := "BeltSums$Hopper", name := "copyFrom", desc := "(LBeltSums$Hopper;)V" } : Jvm.MethodName) ({ cls := "BeltSums$Hopper", name := "copyFrom", desc := "(LBeltSums$Hopper;)V" } : Jvm.MethodName)) ∈ tblG := tG 369 (by decide +kernel) rfl
theorem t370 : (Cond.code ({ cls := "BeltSums$Hopper", name := "copyFrom", desc := "(LBeltSums$Hopper;)V" } : Jvm.MethodName) prog_7_method_2_code (2 : Nat) (Option.none : Option Jvm.ClassFile.FieldType)) ∈ tblG := tG 370 (by decide +kernel) rfl
theorem t372 : (Cond.methodLink "BeltSums$Plant" (65 : Nat) ({ cls := "BeltSums$Belt", name := "copyFrom", desc := "(LBeltSums$Belt;)V" } : Jvm.MethodName)) ∈ tblG := tG 372 (by decide +kernel) rfl
theorem t373 : (Cond.instanceMethod ({ cls := "BeltSums$Belt", name := "copyFrom", desc := "(LBeltSums$Belt;)V" } : Jvm.MethodName)) ∈ tblG := tG 373 (by decide +kernel) rfl
theorem t374 : (Cond.selects "BeltSums$Belt" ({ cls := "BeltSums$Belt", name := "copyFrom", desc := "(LBeltSums$Belt;)V" } : Jvm.MethodName) ({ cls := "BeltSums$Belt", name := "copyFrom", desc := "(LBeltSums$Belt;)V" } : Jvm.MethodName)) ∈ tblG := tG 374 (by decide +kernel) rfl
theorem t375 : (Cond.code ({ cls := "BeltSums$Belt", name := "copyFrom", desc := "(LBeltSums$Belt;)V" } : Jvm.MethodName) prog_3_method_2_code (2 : Nat) (Option.none : Option Jvm.ClassFile.FieldType)) ∈ tblG := tG 375 (by decide +kernel) rfl
theorem t377 : (Cond.methodLink "BeltSums$Plant" (68 : Nat) ({ cls := "BeltSums$Bins", name := "copyFrom", desc := "(LBeltSums$Bins;)V" } : Jvm.MethodName)) ∈ tblG := tG 377 (by decide +kernel) rfl
theorem t378 : (Cond.instanceMethod ({ cls := "BeltSums$Bins", name := "copyFrom", desc := "(LBeltSums$Bins;)V" } : Jvm.MethodName)) ∈ tblG := tG 378 (by decide +kernel) rfl
theorem t379 : (Cond.selects "BeltSums$Bins" ({ cls := "BeltSums$Bins", name := "copyFrom", desc := "(LBeltSums$Bins;)V" } : Jvm.MethodName) ({ cls := "BeltSums$Bins", name := "copyFrom", desc := "(LBeltSums$Bins;)V" } : Jvm.MethodName)) ∈ tblG := tG 379 (by decide +kernel) rfl
theorem t380 : (Cond.code ({ cls := "BeltSums$Bins", name := "copyFrom", desc := "(LBeltSums$Bins;)V" } : Jvm.MethodName) prog_4_method_2_code (2 : Nat) (Option.none : Option Jvm.ClassFile.FieldType)) ∈ tblG := tG 380 (by decide +kernel) rfl
theorem t382 : (Cond.methodLink "BeltSums$Plant" (71 : Nat) ({ cls := "BeltSums$Scale", name := "copyFrom", desc := "(LBeltSums$Scale;)V" } : Jvm.MethodName)) ∈ tblG := tG 382 (by decide +kernel) rfl
theorem t383 : (Cond.instanceMethod ({ cls := "BeltSums$Scale", name := "copyFrom", desc := "(LBeltSums$Scale;)V" } : Jvm.MethodName)) ∈ tblG := tG 383 (by decide +kernel) rfl
theorem t384 : (Cond.selects "BeltSums$Scale" ({ cls := "BeltSums$Scale", name := "copyFrom", desc := "(LBeltSums$Scale;)V" } : Jvm.MethodName) ({ cls := "BeltSums$Scale", name := "copyFrom", desc := "(LBeltSums$Scale;)V" } : Jvm.MethodName)) ∈ tblG := tG 384 (by decide +kernel) rfl
theorem t385 : (Cond.code ({ cls := "BeltSums$Scale", name := "copyFrom", desc := "(LBeltSums$Scale;)V" } : Jvm.MethodName) prog_10_method_2_code (2 : Nat) (Option.none : Option Jvm.ClassFile.FieldType)) ∈ tblG := tG 385 (by decide +kernel) rfl
theorem t386 : (Cond.methodLink "BeltSums$Plant" (74 : Nat) ({ cls := "BeltSums$Accounts", name := "copyFrom", desc := "(LBeltSums$Accounts;)V" } : Jvm.MethodName)) ∈ tblG := tG 386 (by decide +kernel) rfl
theorem t387 : (Cond.instanceMethod ({ cls := "BeltSums$Accounts", name := "copyFrom", desc := "(LBeltSums$Accounts;)V" } : Jvm.MethodName)) ∈ tblG := tG 387 (by decide +kernel) rfl
theorem t388 : (Cond.selects "BeltSums$Accounts" ({ cls := "BeltSums$Accounts", name := "copyFrom", desc := "(LBeltSums$Accounts;)V" } : Jvm.MethodName) ({ cls := "BeltSums$Accounts", name := "copyFrom", desc := "(LBeltSums$Accounts;)V" } : Jvm.MethodName)) ∈ tblG := tG 388 (by decide +kernel) rfl
theorem t389 : (Cond.code ({ cls := "BeltSums$Accounts", name := "copyFrom", desc := "(LBeltSums$Accounts;)V" } : Jvm.MethodName) prog_2_method_2_code (2 : Nat) (Option.none : Option Jvm.ClassFile.FieldType)) ∈ tblG := tG 389 (by decide +kernel) rfl
theorem t391 : (Cond.methodLink "BeltSums" (44 : Nat) ({ cls := "BeltSums$Plant", name := "putLot", desc := "(II)I" } : Jvm.MethodName)) ∈ tblG := tG 391 (by decide +kernel) rfl
theorem t392 : (Cond.instanceMethod ({ cls := "BeltSums$Plant", name := "putLot", desc := "(II)I" } : Jvm.MethodName)) ∈ tblG := tG 392 (by decide +kernel) rfl
theorem t393 : (Cond.selects "BeltSums$Plant" ({ cls := "BeltSums$Plant", name := "putLot", desc := "(II)I" } : Jvm.MethodName) ({ cls := "BeltSums$Plant", name := "putLot", desc := "(II)I" } : Jvm.MethodName)) ∈ tblG := tG 393 (by decide +kernel) rfl
theorem t394 : (Cond.code ({ cls := "BeltSums$Plant", name := "putLot", desc := "(II)I" } : Jvm.MethodName) prog_8_method_4_code (3 : Nat) (Option.some Jvm.ClassFile.FieldType.int)) ∈ tblG := tG 394 (by decide +kernel) rfl
theorem t396 : (Cond.static ({ cls := "BeltSums", name := "isKind", desc := "(I)Z" } : Jvm.MethodName)) ∈ tblG := tG 396 (by decide +kernel) rfl
theorem t397 : (Cond.code ({ cls := "BeltSums", name := "isKind", desc := "(I)Z" } : Jvm.MethodName) prog_1_method_30_code (1 : Nat) (Option.some Jvm.ClassFile.FieldType.boolean)) ∈ tblG := tG 397 (by decide +kernel) rfl
theorem t398 : (Cond.constant "BeltSums$Plant" (106 : Nat) (-1000001 : Int32)) ∈ tblG := tG 398 (by decide +kernel) rfl
theorem t399 : (Cond.constant "BeltSums$Plant" (110 : Nat) (-1000003 : Int32)) ∈ tblG := tG 399 (by decide +kernel) rfl
theorem t400 : (Cond.methodLink "BeltSums$Plant" (111 : Nat) ({ cls := "BeltSums$Hopper", name := "append", desc := "(II)V" } : Jvm.MethodName)) ∈ tblG := tG 400 (by decide +kernel) rfl
theorem t401 : (Cond.instanceMethod ({ cls := "BeltSums$Hopper", name := "append", desc := "(II)V" } : Jvm.MethodName)) ∈ tblG := tG 401 (by decide +kernel) rfl
theorem t402 : (Cond.selects "BeltSums$Hopper" ({ cls := "BeltSums$Hopper", name := "append", desc := "(II)V" } : Jvm.MethodName) ({ cls := "BeltSums$Hopper", name := "append", desc := "(II)V" } : Jvm.MethodName)) ∈ tblG := tG 402 (by decide +kernel) rfl
theorem t403 : (Cond.code ({ cls := "BeltSums$Hopper", name := "append", desc := "(II)V" } : Jvm.MethodName) prog_7_method_3_code (3 : Nat) (Option.none : Option Jvm.ClassFile.FieldType)) ∈ tblG := tG 403 (by decide +kernel) rfl
theorem t404 : (Cond.methodLink "BeltSums" (48 : Nat) ({ cls := "BeltSums", name := "recorded", desc := "(I)I" } : Jvm.MethodName)) ∈ tblG := tG 404 (by decide +kernel) rfl
theorem t406 : (Cond.instanceMethod ({ cls := "BeltSums", name := "recorded", desc := "(I)I" } : Jvm.MethodName)) ∈ tblG := tG 406 (by decide +kernel) rfl
theorem t407 : (Cond.code ({ cls := "BeltSums", name := "recorded", desc := "(I)I" } : Jvm.MethodName) prog_1_method_27_code (2 : Nat) (Option.some Jvm.ClassFile.FieldType.int)) ∈ tblG := tG 407 (by decide +kernel) rfl
theorem t408 : (Cond.methodLink "BeltSums" (279 : Nat) ({ cls := "BeltSums", name := "isError", desc := "(I)Z" } : Jvm.MethodName)) ∈ tblG := tG 408 (by decide +kernel) rfl
theorem t409 : (Cond.static ({ cls := "BeltSums", name := "isError", desc := "(I)Z" } : Jvm.MethodName)) ∈ tblG := tG 409 (by decide +kernel) rfl
theorem t410 : (Cond.code ({ cls := "BeltSums", name := "isError", desc := "(I)Z" } : Jvm.MethodName) prog_1_method_29_code (1 : Nat) (Option.some Jvm.ClassFile.FieldType.boolean)) ∈ tblG := tG 410 (by decide +kernel) rfl
theorem t411 : (Cond.constant "BeltSums" (94 : Nat) (-1000004 : Int32)) ∈ tblG := tG 411 (by decide +kernel) rfl
theorem t412 : (Cond.constant "BeltSums" (93 : Nat) (-1000001 : Int32)) ∈ tblG := tG 412 (by decide +kernel) rfl
theorem t413 : (Cond.methodLink "BeltSums" (273 : Nat) ({ cls := "BeltSums$History", name := "push", desc := "(LBeltSums$Plant;)V" } : Jvm.MethodName)) ∈ tblG := tG 413 (by decide +kernel) rfl
theorem t414 : (Cond.instanceMethod ({ cls := "BeltSums$History", name := "push", desc := "(LBeltSums$Plant;)V" } : Jvm.MethodName)) ∈ tblG := tG 414 (by decide +kernel) rfl
theorem t415 : (Cond.selects "BeltSums$History" ({ cls := "BeltSums$History", name := "push", desc := "(LBeltSums$Plant;)V" } : Jvm.MethodName) ({ cls := "BeltSums$History", name := "push", desc := "(LBeltSums$Plant;)V" } : Jvm.MethodName)) ∈ tblG := tG 415 (by decide +kernel) rfl
theorem t416 : (Cond.code ({ cls := "BeltSums$History", name := "push", desc := "(LBeltSums$Plant;)V" } : Jvm.MethodName) prog_6_method_2_code (3 : Nat) (Option.none : Option Jvm.ClassFile.FieldType)) ∈ tblG := tG 416 (by decide +kernel) rfl
theorem t417 : (Cond.methodLink "BeltSums$History" (27 : Nat) ({ cls := "BeltSums$Plant", name := "copyFrom", desc := "(LBeltSums$Plant;)V" } : Jvm.MethodName)) ∈ tblG := tG 417 (by decide +kernel) rfl
theorem t418 : (Cond.methodLink "BeltSums$History" (35 : Nat) ({ cls := "java/lang/Math", name := "min", desc := "(II)I" } : Jvm.MethodName)) ∈ tblG := tG 418 (by decide +kernel) rfl
theorem t419 : (Cond.methodLink "BeltSumsLaw" (18 : Nat) ({ cls := "BeltSums", name := "gate", desc := "(I)I" } : Jvm.MethodName)) ∈ tblG := tG 419 (by decide +kernel) rfl
theorem t420 : (Cond.instanceMethod ({ cls := "BeltSums", name := "gate", desc := "(I)I" } : Jvm.MethodName)) ∈ tblG := tG 420 (by decide +kernel) rfl
theorem t421 : (Cond.selects "BeltSums" ({ cls := "BeltSums", name := "gate", desc := "(I)I" } : Jvm.MethodName) ({ cls := "BeltSums", name := "gate", desc := "(I)I" } : Jvm.MethodName)) ∈ tblG := tG 421 (by decide +kernel) rfl
theorem t422 : (Cond.code ({ cls := "BeltSums", name := "gate", desc := "(I)I" } : Jvm.MethodName) prog_1_method_3_code (2 : Nat) (Option.some Jvm.ClassFile.FieldType.int)) ∈ tblG := tG 422 (by decide +kernel) rfl
theorem t423 : (Cond.methodLink "BeltSums" (52 : Nat) ({ cls := "BeltSums$Plant", name := "setGate", desc := "(I)I" } : Jvm.MethodName)) ∈ tblG := tG 423 (by decide +kernel) rfl
theorem t424 : (Cond.instanceMethod ({ cls := "BeltSums$Plant", name := "setGate", desc := "(I)I" } : Jvm.MethodName)) ∈ tblG := tG 424 (by decide +kernel) rfl
theorem t425 : (Cond.selects "BeltSums$Plant" ({ cls := "BeltSums$Plant", name := "setGate", desc := "(I)I" } : Jvm.MethodName) ({ cls := "BeltSums$Plant", name := "setGate", desc := "(I)I" } : Jvm.MethodName)) ∈ tblG := tG 425 (by decide +kernel) rfl
theorem t426 : (Cond.code ({ cls := "BeltSums$Plant", name := "setGate", desc := "(I)I" } : Jvm.MethodName) prog_8_method_5_code (3 : Nat) (Option.some Jvm.ClassFile.FieldType.int)) ∈ tblG := tG 426 (by decide +kernel) rfl
theorem t427 : (Cond.methodLink "BeltSumsLaw" (23 : Nat) ({ cls := "BeltSums", name := "run", desc := "(I)I" } : Jvm.MethodName)) ∈ tblG := tG 427 (by decide +kernel) rfl
theorem t428 : (Cond.instanceMethod ({ cls := "BeltSums", name := "run", desc := "(I)I" } : Jvm.MethodName)) ∈ tblG := tG 428 (by decide +kernel) rfl
theorem t429 : (Cond.selects "BeltSums" ({ cls := "BeltSums", name := "run", desc := "(I)I" } : Jvm.MethodName) ({ cls := "BeltSums", name := "run", desc := "(I)I" } : Jvm.MethodName)) ∈ tblG := tG 429 (by decide +kernel) rfl
theorem t430 : (Cond.code ({ cls := "BeltSums", name := "run", desc := "(I)I" } : Jvm.MethodName) prog_1_method_4_code (2 : Nat) (Option.some Jvm.ClassFile.FieldType.int)) ∈ tblG := tG 430 (by decide +kernel) rfl
theorem t431 : (Cond.methodLink "BeltSums" (55 : Nat) ({ cls := "BeltSums$Plant", name := "switchBelt", desc := "(I)I" } : Jvm.MethodName)) ∈ tblG := tG 431 (by decide +kernel) rfl
theorem t432 : (Cond.instanceMethod ({ cls := "BeltSums$Plant", name := "switchBelt", desc := "(I)I" } : Jvm.MethodName)) ∈ tblG := tG 432 (by decide +kernel) rfl
theorem t433 : (Cond.selects "BeltSums$Plant" ({ cls := "BeltSums$Plant", name := "switchBelt", desc := "(I)I" } : Jvm.MethodName) ({ cls := "BeltSums$Plant", name := "switchBelt", desc := "(I)I" } : Jvm.MethodName)) ∈ tblG := tG 433 (by decide +kernel) rfl
theorem t434 : (Cond.code ({ cls := "BeltSums$Plant", name := "switchBelt", desc := "(I)I" } : Jvm.MethodName) prog_8_method_6_code (3 : Nat) (Option.some Jvm.ClassFile.FieldType.int)) ∈ tblG := tG 434 (by decide +kernel) rfl
theorem t435 : (Cond.methodLink "BeltSums$Plant" (115 : Nat) ({ cls := "BeltSums$Plant", name := "hasBatch", desc := "()Z" } : Jvm.MethodName)) ∈ tblG := tG 435 (by decide +kernel) rfl
theorem t436 : (Cond.instanceMethod ({ cls := "BeltSums$Plant", name := "hasBatch", desc := "()Z" } : Jvm.MethodName)) ∈ tblG := tG 436 (by decide +kernel) rfl
theorem t437 : (Cond.selects "BeltSums$Plant" ({ cls := "BeltSums$Plant", name := "hasBatch", desc := "()Z" } : Jvm.MethodName) ({ cls := "BeltSums$Plant", name := "hasBatch", desc := "()Z" } : Jvm.MethodName)) ∈ tblG := tG 437 (by decide +kernel) rfl
theorem t438 : (Cond.code ({ cls := "BeltSums$Plant", name := "hasBatch", desc := "()Z" } : Jvm.MethodName) prog_8_method_3_code (1 : Nat) (Option.some Jvm.ClassFile.FieldType.boolean)) ∈ tblG := tG 438 (by decide +kernel) rfl
theorem t439 : (Cond.constant "BeltSums$Plant" (119 : Nat) (-1000002 : Int32)) ∈ tblG := tG 439 (by decide +kernel) rfl
theorem t440 : (Cond.methodLink "BeltSumsLaw" (27 : Nat) ({ cls := "BeltSums", name := "bin", desc := "()I" } : Jvm.MethodName)) ∈ tblG := tG 440 (by decide +kernel) rfl
theorem t441 : (Cond.instanceMethod ({ cls := "BeltSums", name := "bin", desc := "()I" } : Jvm.MethodName)) ∈ tblG := tG 441 (by decide +kernel) rfl
theorem t442 : (Cond.selects "BeltSums" ({ cls := "BeltSums", name := "bin", desc := "()I" } : Jvm.MethodName) ({ cls := "BeltSums", name := "bin", desc := "()I" } : Jvm.MethodName)) ∈ tblG := tG 442 (by decide +kernel) rfl
theorem t443 : (Cond.code ({ cls := "BeltSums", name := "bin", desc := "()I" } : Jvm.MethodName) prog_1_method_5_code (1 : Nat) (Option.some Jvm.ClassFile.FieldType.int)) ∈ tblG := tG 443 (by decide +kernel) rfl
theorem t444 : (Cond.methodLink "BeltSums" (58 : Nat) ({ cls := "BeltSums$Plant", name := "putBin", desc := "()I" } : Jvm.MethodName)) ∈ tblG := tG 444 (by decide +kernel) rfl
theorem t445 : (Cond.instanceMethod ({ cls := "BeltSums$Plant", name := "putBin", desc := "()I" } : Jvm.MethodName)) ∈ tblG := tG 445 (by decide +kernel) rfl
theorem t446 : (Cond.selects "BeltSums$Plant" ({ cls := "BeltSums$Plant", name := "putBin", desc := "()I" } : Jvm.MethodName) ({ cls := "BeltSums$Plant", name := "putBin", desc := "()I" } : Jvm.MethodName)) ∈ tblG := tG 446 (by decide +kernel) rfl
theorem t447 : (Cond.code ({ cls := "BeltSums$Plant", name := "putBin", desc := "()I" } : Jvm.MethodName) prog_8_method_7_code (1 : Nat) (Option.some Jvm.ClassFile.FieldType.int)) ∈ tblG := tG 447 (by decide +kernel) rfl
theorem t448 : (Cond.methodLink "BeltSumsLaw" (32 : Nat) ({ cls := "BeltSums", name := "batch", desc := "(I)I" } : Jvm.MethodName)) ∈ tblG := tG 448 (by decide +kernel) rfl
theorem t449 : (Cond.instanceMethod ({ cls := "BeltSums", name := "batch", desc := "(I)I" } : Jvm.MethodName)) ∈ tblG := tG 449 (by decide +kernel) rfl
theorem t450 : (Cond.selects "BeltSums" ({ cls := "BeltSums", name := "batch", desc := "(I)I" } : Jvm.MethodName) ({ cls := "BeltSums", name := "batch", desc := "(I)I" } : Jvm.MethodName)) ∈ tblG := tG 450 (by decide +kernel) rfl
theorem t451 : (Cond.code ({ cls := "BeltSums", name := "batch", desc := "(I)I" } : Jvm.MethodName) prog_1_method_6_code (2 : Nat) (Option.some Jvm.ClassFile.FieldType.int)) ∈ tblG := tG 451 (by decide +kernel) rfl
theorem t452 : (Cond.methodLink "BeltSums" (62 : Nat) ({ cls := "BeltSums$Plant", name := "beginBatch", desc := "(I)I" } : Jvm.MethodName)) ∈ tblG := tG 452 (by decide +kernel) rfl
theorem t453 : (Cond.instanceMethod ({ cls := "BeltSums$Plant", name := "beginBatch", desc := "(I)I" } : Jvm.MethodName)) ∈ tblG := tG 453 (by decide +kernel) rfl
theorem t454 : (Cond.selects "BeltSums$Plant" ({ cls := "BeltSums$Plant", name := "beginBatch", desc := "(I)I" } : Jvm.MethodName) ({ cls := "BeltSums$Plant", name := "beginBatch", desc := "(I)I" } : Jvm.MethodName)) ∈ tblG := tG 454 (by decide +kernel) rfl
theorem t455 : (Cond.code ({ cls := "BeltSums$Plant", name := "beginBatch", desc := "(I)I" } : Jvm.MethodName) prog_8_method_8_code (2 : Nat) (Option.some Jvm.ClassFile.FieldType.int)) ∈ tblG := tG 455 (by decide +kernel) rfl
theorem t456 : (Cond.methodLink "BeltSumsLaw" (36 : Nat) ({ cls := "BeltSums", name := "tick", desc := "(I)I" } : Jvm.MethodName)) ∈ tblG := tG 456 (by decide +kernel) rfl
theorem t457 : (Cond.instanceMethod ({ cls := "BeltSums", name := "tick", desc := "(I)I" } : Jvm.MethodName)) ∈ tblG := tG 457 (by decide +kernel) rfl
theorem t458 : (Cond.selects "BeltSums" ({ cls := "BeltSums", name := "tick", desc := "(I)I" } : Jvm.MethodName) ({ cls := "BeltSums", name := "tick", desc := "(I)I" } : Jvm.MethodName)) ∈ tblG := tG 458 (by decide +kernel) rfl
theorem t459 : (Cond.code ({ cls := "BeltSums", name := "tick", desc := "(I)I" } : Jvm.MethodName) prog_1_method_7_code (2 : Nat) (Option.some Jvm.ClassFile.FieldType.int)) ∈ tblG := tG 459 (by decide +kernel) rfl
theorem t460 : (Cond.methodLink "BeltSums" (65 : Nat) ({ cls := "BeltSums$Plant", name := "passTicks", desc := "(I)I" } : Jvm.MethodName)) ∈ tblG := tG 460 (by decide +kernel) rfl
theorem t461 : (Cond.instanceMethod ({ cls := "BeltSums$Plant", name := "passTicks", desc := "(I)I" } : Jvm.MethodName)) ∈ tblG := tG 461 (by decide +kernel) rfl
theorem t462 : (Cond.selects "BeltSums$Plant" ({ cls := "BeltSums$Plant", name := "passTicks", desc := "(I)I" } : Jvm.MethodName) ({ cls := "BeltSums$Plant", name := "passTicks", desc := "(I)I" } : Jvm.MethodName)) ∈ tblG := tG 462 (by decide +kernel) rfl
theorem t463 : (Cond.code ({ cls := "BeltSums$Plant", name := "passTicks", desc := "(I)I" } : Jvm.MethodName) prog_8_method_9_code (4 : Nat) (Option.some Jvm.ClassFile.FieldType.int)) ∈ tblG := tG 463 (by decide +kernel) rfl
theorem t464 : (Cond.methodLink "BeltSums$Plant" (126 : Nat) ({ cls := "BeltSums$Plant", name := "passTick", desc := "()I" } : Jvm.MethodName)) ∈ tblG := tG 464 (by decide +kernel) rfl
theorem t465 : (Cond.instanceMethod ({ cls := "BeltSums$Plant", name := "passTick", desc := "()I" } : Jvm.MethodName)) ∈ tblG := tG 465 (by decide +kernel) rfl
theorem t466 : (Cond.selects "BeltSums$Plant" ({ cls := "BeltSums$Plant", name := "passTick", desc := "()I" } : Jvm.MethodName) ({ cls := "BeltSums$Plant", name := "passTick", desc := "()I" } : Jvm.MethodName)) ∈ tblG := tG 466 (by decide +kernel) rfl
theorem t467 : (Cond.code ({ cls := "BeltSums$Plant", name := "passTick", desc := "()I" } : Jvm.MethodName) prog_8_method_10_code (3 : Nat) (Option.some Jvm.ClassFile.FieldType.int)) ∈ tblG := tG 467 (by decide +kernel) rfl
theorem t468 : (Cond.methodLink "BeltSums$Plant" (133 : Nat) ({ cls := "BeltSums$Plant", name := "wantsMore", desc := "()Z" } : Jvm.MethodName)) ∈ tblG := tG 468 (by decide +kernel) rfl
theorem t470 : (Cond.instanceMethod ({ cls := "BeltSums$Plant", name := "wantsMore", desc := "()Z" } : Jvm.MethodName)) ∈ tblG := tG 470 (by decide +kernel) rfl
theorem t471 : (Cond.code ({ cls := "BeltSums$Plant", name := "wantsMore", desc := "()Z" } : Jvm.MethodName) prog_8_method_11_code (1 : Nat) (Option.some Jvm.ClassFile.FieldType.boolean)) ∈ tblG := tG 471 (by decide +kernel) rfl
theorem t472 : (Cond.methodLink "BeltSums$Plant" (136 : Nat) ({ cls := "BeltSums$Plant", name := "dropAtEnd", desc := "()I" } : Jvm.MethodName)) ∈ tblG := tG 472 (by decide +kernel) rfl
theorem t474 : (Cond.instanceMethod ({ cls := "BeltSums$Plant", name := "dropAtEnd", desc := "()I" } : Jvm.MethodName)) ∈ tblG := tG 474 (by decide +kernel) rfl
theorem t475 : (Cond.code ({ cls := "BeltSums$Plant", name := "dropAtEnd", desc := "()I" } : Jvm.MethodName) prog_8_method_12_code (4 : Nat) (Option.some Jvm.ClassFile.FieldType.int)) ∈ tblG := tG 475 (by decide +kernel) rfl
theorem t476 : (Cond.methodLink "BeltSums$Plant" (162 : Nat) ({ cls := "BeltSums$Belt", name := "mass", desc := "(II)I" } : Jvm.MethodName)) ∈ tblG := tG 476 (by decide +kernel) rfl
theorem t477 : (Cond.instanceMethod ({ cls := "BeltSums$Belt", name := "mass", desc := "(II)I" } : Jvm.MethodName)) ∈ tblG := tG 477 (by decide +kernel) rfl
theorem t478 : (Cond.selects "BeltSums$Belt" ({ cls := "BeltSums$Belt", name := "mass", desc := "(II)I" } : Jvm.MethodName) ({ cls := "BeltSums$Belt", name := "mass", desc := "(II)I" } : Jvm.MethodName)) ∈ tblG := tG 478 (by decide +kernel) rfl
theorem t479 : (Cond.code ({ cls := "BeltSums$Belt", name := "mass", desc := "(II)I" } : Jvm.MethodName) prog_3_method_3_code (3 : Nat) (Option.some Jvm.ClassFile.FieldType.int)) ∈ tblG := tG 479 (by decide +kernel) rfl
theorem t480 : (Cond.methodLink "BeltSums$Plant" (166 : Nat) ({ cls := "BeltSums$Belt", name := "take", desc := "(III)V" } : Jvm.MethodName)) ∈ tblG := tG 480 (by decide +kernel) rfl
theorem t481 : (Cond.instanceMethod ({ cls := "BeltSums$Belt", name := "take", desc := "(III)V" } : Jvm.MethodName)) ∈ tblG := tG 481 (by decide +kernel) rfl
theorem t482 : (Cond.selects "BeltSums$Belt" ({ cls := "BeltSums$Belt", name := "take", desc := "(III)V" } : Jvm.MethodName) ({ cls := "BeltSums$Belt", name := "take", desc := "(III)V" } : Jvm.MethodName)) ∈ tblG := tG 482 (by decide +kernel) rfl
theorem t483 : (Cond.code ({ cls := "BeltSums$Belt", name := "take", desc := "(III)V" } : Jvm.MethodName) prog_3_method_4_code (4 : Nat) (Option.none : Option Jvm.ClassFile.FieldType)) ∈ tblG := tG 483 (by decide +kernel) rfl
theorem t484 : (Cond.methodLink "BeltSums$Plant" (170 : Nat) ({ cls := "BeltSums$Bins", name := "addToPresent", desc := "(II)V" } : Jvm.MethodName)) ∈ tblG := tG 484 (by decide +kernel) rfl
theorem t485 : (Cond.instanceMethod ({ cls := "BeltSums$Bins", name := "addToPresent", desc := "(II)V" } : Jvm.MethodName)) ∈ tblG := tG 485 (by decide +kernel) rfl
theorem t486 : (Cond.selects "BeltSums$Bins" ({ cls := "BeltSums$Bins", name := "addToPresent", desc := "(II)V" } : Jvm.MethodName) ({ cls := "BeltSums$Bins", name := "addToPresent", desc := "(II)V" } : Jvm.MethodName)) ∈ tblG := tG 486 (by decide +kernel) rfl
theorem t487 : (Cond.code ({ cls := "BeltSums$Bins", name := "addToPresent", desc := "(II)V" } : Jvm.MethodName) prog_4_method_4_code (3 : Nat) (Option.none : Option Jvm.ClassFile.FieldType)) ∈ tblG := tG 487 (by decide +kernel) rfl
theorem t488 : (Cond.methodLink "BeltSums$Plant" (173 : Nat) ({ cls := "BeltSums$Accounts", name := "enter", desc := "(II)V" } : Jvm.MethodName)) ∈ tblG := tG 488 (by decide +kernel) rfl
theorem t489 : (Cond.instanceMethod ({ cls := "BeltSums$Accounts", name := "enter", desc := "(II)V" } : Jvm.MethodName)) ∈ tblG := tG 489 (by decide +kernel) rfl
theorem t490 : (Cond.selects "BeltSums$Accounts" ({ cls := "BeltSums$Accounts", name := "enter", desc := "(II)V" } : Jvm.MethodName) ({ cls := "BeltSums$Accounts", name := "enter", desc := "(II)V" } : Jvm.MethodName)) ∈ tblG := tG 490 (by decide +kernel) rfl
theorem t491 : (Cond.code ({ cls := "BeltSums$Accounts", name := "enter", desc := "(II)V" } : Jvm.MethodName) prog_2_method_6_code (3 : Nat) (Option.none : Option Jvm.ClassFile.FieldType)) ∈ tblG := tG 491 (by decide +kernel) rfl
theorem t492 : (Cond.methodLink "BeltSums$Plant" (176 : Nat) ({ cls := "BeltSums$Bins", name := "countFilledTick", desc := "()V" } : Jvm.MethodName)) ∈ tblG := tG 492 (by decide +kernel) rfl
theorem t493 : (Cond.instanceMethod ({ cls := "BeltSums$Bins", name := "countFilledTick", desc := "()V" } : Jvm.MethodName)) ∈ tblG := tG 493 (by decide +kernel) rfl
theorem t494 : (Cond.selects "BeltSums$Bins" ({ cls := "BeltSums$Bins", name := "countFilledTick", desc := "()V" } : Jvm.MethodName) ({ cls := "BeltSums$Bins", name := "countFilledTick", desc := "()V" } : Jvm.MethodName)) ∈ tblG := tG 494 (by decide +kernel) rfl
theorem t495 : (Cond.code ({ cls := "BeltSums$Bins", name := "countFilledTick", desc := "()V" } : Jvm.MethodName) prog_4_method_6_code (1 : Nat) (Option.none : Option Jvm.ClassFile.FieldType)) ∈ tblG := tG 495 (by decide +kernel) rfl
theorem t496 : (Cond.methodLink "BeltSums$Plant" (139 : Nat) ({ cls := "BeltSums$Belt", name := "goOn", desc := "()V" } : Jvm.MethodName)) ∈ tblG := tG 496 (by decide +kernel) rfl
theorem t497 : (Cond.instanceMethod ({ cls := "BeltSums$Belt", name := "goOn", desc := "()V" } : Jvm.MethodName)) ∈ tblG := tG 497 (by decide +kernel) rfl
theorem t498 : (Cond.selects "BeltSums$Belt" ({ cls := "BeltSums$Belt", name := "goOn", desc := "()V" } : Jvm.MethodName) ({ cls := "BeltSums$Belt", name := "goOn", desc := "()V" } : Jvm.MethodName)) ∈ tblG := tG 498 (by decide +kernel) rfl
theorem t499 : (Cond.code ({ cls := "BeltSums$Belt", name := "goOn", desc := "()V" } : Jvm.MethodName) prog_3_method_6_code (1 : Nat) (Option.none : Option Jvm.ClassFile.FieldType)) ∈ tblG := tG 499 (by decide +kernel) rfl
theorem t500 : (Cond.methodLink "BeltSums$Plant" (142 : Nat) ({ cls := "BeltSums$Plant", name := "feed", desc := "()V" } : Jvm.MethodName)) ∈ tblG := tG 500 (by decide +kernel) rfl
theorem t502 : (Cond.instanceMethod ({ cls := "BeltSums$Plant", name := "feed", desc := "()V" } : Jvm.MethodName)) ∈ tblG := tG 502 (by decide +kernel) rfl
theorem t503 : (Cond.code ({ cls := "BeltSums$Plant", name := "feed", desc := "()V" } : Jvm.MethodName) prog_8_method_13_code (4 : Nat) (Option.none : Option Jvm.ClassFile.FieldType)) ∈ tblG := tG 503 (by decide +kernel) rfl
theorem t504 : (Cond.methodLink "BeltSums$Plant" (182 : Nat) ({ cls := "java/lang/Math", name := "min", desc := "(II)I" } : Jvm.MethodName)) ∈ tblG := tG 504 (by decide +kernel) rfl
theorem t505 : (Cond.methodLink "BeltSums$Plant" (190 : Nat) ({ cls := "BeltSums$Belt", name := "putAtStart", desc := "(II)V" } : Jvm.MethodName)) ∈ tblG := tG 505 (by decide +kernel) rfl
theorem t506 : (Cond.instanceMethod ({ cls := "BeltSums$Belt", name := "putAtStart", desc := "(II)V" } : Jvm.MethodName)) ∈ tblG := tG 506 (by decide +kernel) rfl
theorem t507 : (Cond.selects "BeltSums$Belt" ({ cls := "BeltSums$Belt", name := "putAtStart", desc := "(II)V" } : Jvm.MethodName) ({ cls := "BeltSums$Belt", name := "putAtStart", desc := "(II)V" } : Jvm.MethodName)) ∈ tblG := tG 507 (by decide +kernel) rfl
theorem t508 : (Cond.code ({ cls := "BeltSums$Belt", name := "putAtStart", desc := "(II)V" } : Jvm.MethodName) prog_3_method_5_code (3 : Nat) (Option.none : Option Jvm.ClassFile.FieldType)) ∈ tblG := tG 508 (by decide +kernel) rfl
theorem t509 : (Cond.methodLink "BeltSums$Plant" (193 : Nat) ({ cls := "BeltSums$Hopper", name := "takeFromFirst", desc := "(I)V" } : Jvm.MethodName)) ∈ tblG := tG 509 (by decide +kernel) rfl
theorem t510 : (Cond.instanceMethod ({ cls := "BeltSums$Hopper", name := "takeFromFirst", desc := "(I)V" } : Jvm.MethodName)) ∈ tblG := tG 510 (by decide +kernel) rfl
theorem t511 : (Cond.selects "BeltSums$Hopper" ({ cls := "BeltSums$Hopper", name := "takeFromFirst", desc := "(I)V" } : Jvm.MethodName) ({ cls := "BeltSums$Hopper", name := "takeFromFirst", desc := "(I)V" } : Jvm.MethodName)) ∈ tblG := tG 511 (by decide +kernel) rfl
theorem t512 : (Cond.code ({ cls := "BeltSums$Hopper", name := "takeFromFirst", desc := "(I)V" } : Jvm.MethodName) prog_7_method_4_code (3 : Nat) (Option.none : Option Jvm.ClassFile.FieldType)) ∈ tblG := tG 512 (by decide +kernel) rfl
theorem t513 : (Cond.methodLink "BeltSums$Plant" (145 : Nat) ({ cls := "BeltSums$Plant", name := "spillTooMuch", desc := "()V" } : Jvm.MethodName)) ∈ tblG := tG 513 (by decide +kernel) rfl
theorem t515 : (Cond.instanceMethod ({ cls := "BeltSums$Plant", name := "spillTooMuch", desc := "()V" } : Jvm.MethodName)) ∈ tblG := tG 515 (by decide +kernel) rfl
theorem t516 : (Cond.code ({ cls := "BeltSums$Plant", name := "spillTooMuch", desc := "()V" } : Jvm.MethodName) prog_8_method_14_code (4 : Nat) (Option.none : Option Jvm.ClassFile.FieldType)) ∈ tblG := tG 516 (by decide +kernel) rfl
theorem t517 : (Cond.methodLink "BeltSums$Plant" (196 : Nat) ({ cls := "BeltSums$Belt", name := "massOfPlace", desc := "(I)I" } : Jvm.MethodName)) ∈ tblG := tG 517 (by decide +kernel) rfl
theorem t518 : (Cond.instanceMethod ({ cls := "BeltSums$Belt", name := "massOfPlace", desc := "(I)I" } : Jvm.MethodName)) ∈ tblG := tG 518 (by decide +kernel) rfl
theorem t519 : (Cond.selects "BeltSums$Belt" ({ cls := "BeltSums$Belt", name := "massOfPlace", desc := "(I)I" } : Jvm.MethodName) ({ cls := "BeltSums$Belt", name := "massOfPlace", desc := "(I)I" } : Jvm.MethodName)) ∈ tblG := tG 519 (by decide +kernel) rfl
theorem t520 : (Cond.code ({ cls := "BeltSums$Belt", name := "massOfPlace", desc := "(I)I" } : Jvm.MethodName) prog_3_method_7_code (5 : Nat) (Option.some Jvm.ClassFile.FieldType.int)) ∈ tblG := tG 520 (by decide +kernel) rfl
theorem t521 : (Cond.methodLink "BeltSums$Plant" (148 : Nat) ({ cls := "BeltSums$Belt", name := "massSeen", desc := "()I" } : Jvm.MethodName)) ∈ tblG := tG 521 (by decide +kernel) rfl
theorem t522 : (Cond.instanceMethod ({ cls := "BeltSums$Belt", name := "massSeen", desc := "()I" } : Jvm.MethodName)) ∈ tblG := tG 522 (by decide +kernel) rfl
theorem t523 : (Cond.selects "BeltSums$Belt" ({ cls := "BeltSums$Belt", name := "massSeen", desc := "()I" } : Jvm.MethodName) ({ cls := "BeltSums$Belt", name := "massSeen", desc := "()I" } : Jvm.MethodName)) ∈ tblG := tG 523 (by decide +kernel) rfl
theorem t524 : (Cond.code ({ cls := "BeltSums$Belt", name := "massSeen", desc := "()I" } : Jvm.MethodName) prog_3_method_8_code (3 : Nat) (Option.some Jvm.ClassFile.FieldType.int)) ∈ tblG := tG 524 (by decide +kernel) rfl
theorem t525 : (Cond.methodLink "BeltSums$Belt" (26 : Nat) ({ cls := "BeltSums$Belt", name := "massOfPlace", desc := "(I)I" } : Jvm.MethodName)) ∈ tblG := tG 525 (by decide +kernel) rfl
theorem t526 : (Cond.methodLink "BeltSums$Plant" (151 : Nat) ({ cls := "BeltSums$Scale", name := "weigh", desc := "(I)I" } : Jvm.MethodName)) ∈ tblG := tG 526 (by decide +kernel) rfl
theorem t527 : (Cond.instanceMethod ({ cls := "BeltSums$Scale", name := "weigh", desc := "(I)I" } : Jvm.MethodName)) ∈ tblG := tG 527 (by decide +kernel) rfl
theorem t528 : (Cond.selects "BeltSums$Scale" ({ cls := "BeltSums$Scale", name := "weigh", desc := "(I)I" } : Jvm.MethodName) ({ cls := "BeltSums$Scale", name := "weigh", desc := "(I)I" } : Jvm.MethodName)) ∈ tblG := tG 528 (by decide +kernel) rfl
theorem t529 : (Cond.code ({ cls := "BeltSums$Scale", name := "weigh", desc := "(I)I" } : Jvm.MethodName) prog_10_method_4_code (4 : Nat) (Option.some Jvm.ClassFile.FieldType.int)) ∈ tblG := tG 529 (by decide +kernel) rfl
theorem t530 : (Cond.methodLink "BeltSums$Scale" (27 : Nat) ({ cls := "BeltSums$Scale", name := "reading", desc := "(I)I" } : Jvm.MethodName)) ∈ tblG := tG 530 (by decide +kernel) rfl
theorem t531 : (Cond.instanceMethod ({ cls := "BeltSums$Scale", name := "reading", desc := "(I)I" } : Jvm.MethodName)) ∈ tblG := tG 531 (by decide +kernel) rfl
theorem t532 : (Cond.selects "BeltSums$Scale" ({ cls := "BeltSums$Scale", name := "reading", desc := "(I)I" } : Jvm.MethodName) ({ cls := "BeltSums$Scale", name := "reading", desc := "(I)I" } : Jvm.MethodName)) ∈ tblG := tG 532 (by decide +kernel) rfl
theorem t533 : (Cond.code ({ cls := "BeltSums$Scale", name := "reading", desc := "(I)I" } : Jvm.MethodName) prog_10_method_3_code (2 : Nat) (Option.some Jvm.ClassFile.FieldType.int)) ∈ tblG := tG 533 (by decide +kernel) rfl
theorem t534 : (Cond.methodLink "BeltSums$Plant" (155 : Nat) ({ cls := "BeltSums$Bins", name := "growPresent", desc := "(I)V" } : Jvm.MethodName)) ∈ tblG := tG 534 (by decide +kernel) rfl
theorem t535 : (Cond.instanceMethod ({ cls := "BeltSums$Bins", name := "growPresent", desc := "(I)V" } : Jvm.MethodName)) ∈ tblG := tG 535 (by decide +kernel) rfl
theorem t536 : (Cond.selects "BeltSums$Bins" ({ cls := "BeltSums$Bins", name := "growPresent", desc := "(I)V" } : Jvm.MethodName) ({ cls := "BeltSums$Bins", name := "growPresent", desc := "(I)V" } : Jvm.MethodName)) ∈ tblG := tG 536 (by decide +kernel) rfl
theorem t537 : (Cond.code ({ cls := "BeltSums$Bins", name := "growPresent", desc := "(I)V" } : Jvm.MethodName) prog_4_method_5_code (2 : Nat) (Option.none : Option Jvm.ClassFile.FieldType)) ∈ tblG := tG 537 (by decide +kernel) rfl
theorem t538 : (Cond.methodLink "BeltSums$Plant" (159 : Nat) ({ cls := "BeltSums$Plant", name := "endBatch", desc := "()V" } : Jvm.MethodName)) ∈ tblG := tG 538 (by decide +kernel) rfl
theorem t540 : (Cond.instanceMethod ({ cls := "BeltSums$Plant", name := "endBatch", desc := "()V" } : Jvm.MethodName)) ∈ tblG := tG 540 (by decide +kernel) rfl
theorem t541 : (Cond.code ({ cls := "BeltSums$Plant", name := "endBatch", desc := "()V" } : Jvm.MethodName) prog_8_method_15_code (1 : Nat) (Option.none : Option Jvm.ClassFile.FieldType)) ∈ tblG := tG 541 (by decide +kernel) rfl
theorem t542 : (Cond.methodLink "BeltSumsLaw" (40 : Nat) ({ cls := "BeltSums", name := "zero", desc := "()I" } : Jvm.MethodName)) ∈ tblG := tG 542 (by decide +kernel) rfl
theorem t543 : (Cond.instanceMethod ({ cls := "BeltSums", name := "zero", desc := "()I" } : Jvm.MethodName)) ∈ tblG := tG 543 (by decide +kernel) rfl
theorem t544 : (Cond.selects "BeltSums" ({ cls := "BeltSums", name := "zero", desc := "()I" } : Jvm.MethodName) ({ cls := "BeltSums", name := "zero", desc := "()I" } : Jvm.MethodName)) ∈ tblG := tG 544 (by decide +kernel) rfl
theorem t545 : (Cond.code ({ cls := "BeltSums", name := "zero", desc := "()I" } : Jvm.MethodName) prog_1_method_8_code (1 : Nat) (Option.some Jvm.ClassFile.FieldType.int)) ∈ tblG := tG 545 (by decide +kernel) rfl
theorem t546 : (Cond.methodLink "BeltSums" (68 : Nat) ({ cls := "BeltSums$Plant", name := "setZero", desc := "()I" } : Jvm.MethodName)) ∈ tblG := tG 546 (by decide +kernel) rfl
theorem t547 : (Cond.instanceMethod ({ cls := "BeltSums$Plant", name := "setZero", desc := "()I" } : Jvm.MethodName)) ∈ tblG := tG 547 (by decide +kernel) rfl
theorem t548 : (Cond.selects "BeltSums$Plant" ({ cls := "BeltSums$Plant", name := "setZero", desc := "()I" } : Jvm.MethodName) ({ cls := "BeltSums$Plant", name := "setZero", desc := "()I" } : Jvm.MethodName)) ∈ tblG := tG 548 (by decide +kernel) rfl
theorem t549 : (Cond.code ({ cls := "BeltSums$Plant", name := "setZero", desc := "()I" } : Jvm.MethodName) prog_8_method_16_code (3 : Nat) (Option.some Jvm.ClassFile.FieldType.int)) ∈ tblG := tG 549 (by decide +kernel) rfl
theorem t550 : (Cond.constant "BeltSums$Plant" (202 : Nat) (1000000 : Int32)) ∈ tblG := tG 550 (by decide +kernel) rfl
theorem t551 : (Cond.methodLink "BeltSumsLaw" (44 : Nat) ({ cls := "BeltSums", name := "correct", desc := "(I)I" } : Jvm.MethodName)) ∈ tblG := tG 551 (by decide +kernel) rfl
theorem t552 : (Cond.instanceMethod ({ cls := "BeltSums", name := "correct", desc := "(I)I" } : Jvm.MethodName)) ∈ tblG := tG 552 (by decide +kernel) rfl
theorem t553 : (Cond.selects "BeltSums" ({ cls := "BeltSums", name := "correct", desc := "(I)I" } : Jvm.MethodName) ({ cls := "BeltSums", name := "correct", desc := "(I)I" } : Jvm.MethodName)) ∈ tblG := tG 553 (by decide +kernel) rfl
theorem t554 : (Cond.code ({ cls := "BeltSums", name := "correct", desc := "(I)I" } : Jvm.MethodName) prog_1_method_9_code (2 : Nat) (Option.some Jvm.ClassFile.FieldType.int)) ∈ tblG := tG 554 (by decide +kernel) rfl
theorem t555 : (Cond.methodLink "BeltSums" (71 : Nat) ({ cls := "BeltSums$Plant", name := "correctBy", desc := "(I)I" } : Jvm.MethodName)) ∈ tblG := tG 555 (by decide +kernel) rfl
theorem t556 : (Cond.instanceMethod ({ cls := "BeltSums$Plant", name := "correctBy", desc := "(I)I" } : Jvm.MethodName)) ∈ tblG := tG 556 (by decide +kernel) rfl
theorem t557 : (Cond.selects "BeltSums$Plant" ({ cls := "BeltSums$Plant", name := "correctBy", desc := "(I)I" } : Jvm.MethodName) ({ cls := "BeltSums$Plant", name := "correctBy", desc := "(I)I" } : Jvm.MethodName)) ∈ tblG := tG 557 (by decide +kernel) rfl
theorem t558 : (Cond.code ({ cls := "BeltSums$Plant", name := "correctBy", desc := "(I)I" } : Jvm.MethodName) prog_8_method_17_code (4 : Nat) (Option.some Jvm.ClassFile.FieldType.int)) ∈ tblG := tG 558 (by decide +kernel) rfl
theorem t559 : (Cond.methodLink "BeltSums$Plant" (203 : Nat) ({ cls := "BeltSums$Bins", name := "has", desc := "(I)Z" } : Jvm.MethodName)) ∈ tblG := tG 559 (by decide +kernel) rfl
theorem t560 : (Cond.instanceMethod ({ cls := "BeltSums$Bins", name := "has", desc := "(I)Z" } : Jvm.MethodName)) ∈ tblG := tG 560 (by decide +kernel) rfl
theorem t561 : (Cond.selects "BeltSums$Bins" ({ cls := "BeltSums$Bins", name := "has", desc := "(I)Z" } : Jvm.MethodName) ({ cls := "BeltSums$Bins", name := "has", desc := "(I)Z" } : Jvm.MethodName)) ∈ tblG := tG 561 (by decide +kernel) rfl
theorem t562 : (Cond.code ({ cls := "BeltSums$Bins", name := "has", desc := "(I)Z" } : Jvm.MethodName) prog_4_method_3_code (2 : Nat) (Option.some Jvm.ClassFile.FieldType.boolean)) ∈ tblG := tG 562 (by decide +kernel) rfl
theorem t563 : (Cond.methodLink "BeltSums$Plant" (209 : Nat) ({ cls := "BeltSums$Bins", name := "massOf", desc := "(I)I" } : Jvm.MethodName)) ∈ tblG := tG 563 (by decide +kernel) rfl
theorem t564 : (Cond.instanceMethod ({ cls := "BeltSums$Bins", name := "massOf", desc := "(I)I" } : Jvm.MethodName)) ∈ tblG := tG 564 (by decide +kernel) rfl
theorem t565 : (Cond.selects "BeltSums$Bins" ({ cls := "BeltSums$Bins", name := "massOf", desc := "(I)I" } : Jvm.MethodName) ({ cls := "BeltSums$Bins", name := "massOf", desc := "(I)I" } : Jvm.MethodName)) ∈ tblG := tG 565 (by decide +kernel) rfl
theorem t566 : (Cond.code ({ cls := "BeltSums$Bins", name := "massOf", desc := "(I)I" } : Jvm.MethodName) prog_4_method_7_code (4 : Nat) (Option.some Jvm.ClassFile.FieldType.int)) ∈ tblG := tG 566 (by decide +kernel) rfl
theorem t567 : (Cond.methodLink "BeltSumsLaw" (48 : Nat) ({ cls := "BeltSums", name := "set", desc := "(II)I" } : Jvm.MethodName)) ∈ tblG := tG 567 (by decide +kernel) rfl
theorem t568 : (Cond.instanceMethod ({ cls := "BeltSums", name := "set", desc := "(II)I" } : Jvm.MethodName)) ∈ tblG := tG 568 (by decide +kernel) rfl
theorem t569 : (Cond.selects "BeltSums" ({ cls := "BeltSums", name := "set", desc := "(II)I" } : Jvm.MethodName) ({ cls := "BeltSums", name := "set", desc := "(II)I" } : Jvm.MethodName)) ∈ tblG := tG 569 (by decide +kernel) rfl
theorem t570 : (Cond.code ({ cls := "BeltSums", name := "set", desc := "(II)I" } : Jvm.MethodName) prog_1_method_10_code (3 : Nat) (Option.some Jvm.ClassFile.FieldType.int)) ∈ tblG := tG 570 (by decide +kernel) rfl
theorem t571 : (Cond.methodLink "BeltSums" (74 : Nat) ({ cls := "BeltSums$Plant", name := "changeSetting", desc := "(II)I" } : Jvm.MethodName)) ∈ tblG := tG 571 (by decide +kernel) rfl
theorem t572 : (Cond.instanceMethod ({ cls := "BeltSums$Plant", name := "changeSetting", desc := "(II)I" } : Jvm.MethodName)) ∈ tblG := tG 572 (by decide +kernel) rfl
theorem t573 : (Cond.selects "BeltSums$Plant" ({ cls := "BeltSums$Plant", name := "changeSetting", desc := "(II)I" } : Jvm.MethodName) ({ cls := "BeltSums$Plant", name := "changeSetting", desc := "(II)I" } : Jvm.MethodName)) ∈ tblG := tG 573 (by decide +kernel) rfl
theorem t574 : (Cond.code ({ cls := "BeltSums$Plant", name := "changeSetting", desc := "(II)I" } : Jvm.MethodName) prog_8_method_18_code (4 : Nat) (Option.some Jvm.ClassFile.FieldType.int)) ∈ tblG := tG 574 (by decide +kernel) rfl
theorem t579 : (Cond.methodLink "BeltSumsLaw" (52 : Nat) ({ cls := "BeltSums", name := "account", desc := "(I)I" } : Jvm.MethodName)) ∈ tblG := tG 579 (by decide +kernel) rfl
theorem t580 : (Cond.instanceMethod ({ cls := "BeltSums", name := "account", desc := "(I)I" } : Jvm.MethodName)) ∈ tblG := tG 580 (by decide +kernel) rfl
theorem t581 : (Cond.selects "BeltSums" ({ cls := "BeltSums", name := "account", desc := "(I)I" } : Jvm.MethodName) ({ cls := "BeltSums", name := "account", desc := "(I)I" } : Jvm.MethodName)) ∈ tblG := tG 581 (by decide +kernel) rfl
theorem t582 : (Cond.code ({ cls := "BeltSums", name := "account", desc := "(I)I" } : Jvm.MethodName) prog_1_method_11_code (2 : Nat) (Option.some Jvm.ClassFile.FieldType.int)) ∈ tblG := tG 582 (by decide +kernel) rfl
theorem t583 : (Cond.methodLink "BeltSums" (81 : Nat) ({ cls := "BeltSums$Accounts", name := "add", desc := "(I)I" } : Jvm.MethodName)) ∈ tblG := tG 583 (by decide +kernel) rfl
theorem t584 : (Cond.instanceMethod ({ cls := "BeltSums$Accounts", name := "add", desc := "(I)I" } : Jvm.MethodName)) ∈ tblG := tG 584 (by decide +kernel) rfl
theorem t585 : (Cond.selects "BeltSums$Accounts" ({ cls := "BeltSums$Accounts", name := "add", desc := "(I)I" } : Jvm.MethodName) ({ cls := "BeltSums$Accounts", name := "add", desc := "(I)I" } : Jvm.MethodName)) ∈ tblG := tG 585 (by decide +kernel) rfl
theorem t586 : (Cond.code ({ cls := "BeltSums$Accounts", name := "add", desc := "(I)I" } : Jvm.MethodName) prog_2_method_4_code (2 : Nat) (Option.some Jvm.ClassFile.FieldType.int)) ∈ tblG := tG 586 (by decide +kernel) rfl
theorem t587 : (Cond.methodLink "BeltSums$Accounts" (29 : Nat) ({ cls := "BeltSums$Accounts", name := "has", desc := "(I)Z" } : Jvm.MethodName)) ∈ tblG := tG 587 (by decide +kernel) rfl
theorem t588 : (Cond.instanceMethod ({ cls := "BeltSums$Accounts", name := "has", desc := "(I)Z" } : Jvm.MethodName)) ∈ tblG := tG 588 (by decide +kernel) rfl
theorem t589 : (Cond.selects "BeltSums$Accounts" ({ cls := "BeltSums$Accounts", name := "has", desc := "(I)Z" } : Jvm.MethodName) ({ cls := "BeltSums$Accounts", name := "has", desc := "(I)Z" } : Jvm.MethodName)) ∈ tblG := tG 589 (by decide +kernel) rfl
theorem t590 : (Cond.code ({ cls := "BeltSums$Accounts", name := "has", desc := "(I)Z" } : Jvm.MethodName) prog_2_method_3_code (2 : Nat) (Option.some Jvm.ClassFile.FieldType.boolean)) ∈ tblG := tG 590 (by decide +kernel) rfl
theorem t591 : (Cond.constant "BeltSums$Accounts" (33 : Nat) (-1000001 : Int32)) ∈ tblG := tG 591 (by decide +kernel) rfl
theorem t592 : (Cond.constant "BeltSums$Accounts" (34 : Nat) (-1000003 : Int32)) ∈ tblG := tG 592 (by decide +kernel) rfl
theorem t593 : (Cond.methodLink "BeltSumsLaw" (56 : Nat) ({ cls := "BeltSums", name := "book", desc := "(II)I" } : Jvm.MethodName)) ∈ tblG := tG 593 (by decide +kernel) rfl
theorem t594 : (Cond.instanceMethod ({ cls := "BeltSums", name := "book", desc := "(II)I" } : Jvm.MethodName)) ∈ tblG := tG 594 (by decide +kernel) rfl
theorem t595 : (Cond.selects "BeltSums" ({ cls := "BeltSums", name := "book", desc := "(II)I" } : Jvm.MethodName) ({ cls := "BeltSums", name := "book", desc := "(II)I" } : Jvm.MethodName)) ∈ tblG := tG 595 (by decide +kernel) rfl
theorem t596 : (Cond.code ({ cls := "BeltSums", name := "book", desc := "(II)I" } : Jvm.MethodName) prog_1_method_12_code (3 : Nat) (Option.some Jvm.ClassFile.FieldType.int)) ∈ tblG := tG 596 (by decide +kernel) rfl
theorem t597 : (Cond.methodLink "BeltSums" (86 : Nat) ({ cls := "BeltSums$Accounts", name := "assign", desc := "(II)I" } : Jvm.MethodName)) ∈ tblG := tG 597 (by decide +kernel) rfl
theorem t598 : (Cond.instanceMethod ({ cls := "BeltSums$Accounts", name := "assign", desc := "(II)I" } : Jvm.MethodName)) ∈ tblG := tG 598 (by decide +kernel) rfl
theorem t599 : (Cond.selects "BeltSums$Accounts" ({ cls := "BeltSums$Accounts", name := "assign", desc := "(II)I" } : Jvm.MethodName) ({ cls := "BeltSums$Accounts", name := "assign", desc := "(II)I" } : Jvm.MethodName)) ∈ tblG := tG 599 (by decide +kernel) rfl
theorem t600 : (Cond.code ({ cls := "BeltSums$Accounts", name := "assign", desc := "(II)I" } : Jvm.MethodName) prog_2_method_5_code (4 : Nat) (Option.some Jvm.ClassFile.FieldType.int)) ∈ tblG := tG 600 (by decide +kernel) rfl
theorem t602 : (Cond.methodLink "BeltSumsLaw" (60 : Nat) ({ cls := "BeltSums", name := "accountOf", desc := "(II)I" } : Jvm.MethodName)) ∈ tblG := tG 602 (by decide +kernel) rfl
theorem t603 : (Cond.instanceMethod ({ cls := "BeltSums", name := "accountOf", desc := "(II)I" } : Jvm.MethodName)) ∈ tblG := tG 603 (by decide +kernel) rfl
theorem t604 : (Cond.selects "BeltSums" ({ cls := "BeltSums", name := "accountOf", desc := "(II)I" } : Jvm.MethodName) ({ cls := "BeltSums", name := "accountOf", desc := "(II)I" } : Jvm.MethodName)) ∈ tblG := tG 604 (by decide +kernel) rfl
theorem t605 : (Cond.code ({ cls := "BeltSums", name := "accountOf", desc := "(II)I" } : Jvm.MethodName) prog_1_method_13_code (4 : Nat) (Option.some Jvm.ClassFile.FieldType.int)) ∈ tblG := tG 605 (by decide +kernel) rfl
theorem t606 : (Cond.methodLink "BeltSums" (89 : Nat) ({ cls := "BeltSums$Accounts", name := "has", desc := "(I)Z" } : Jvm.MethodName)) ∈ tblG := tG 606 (by decide +kernel) rfl
theorem t607 : (Cond.methodLink "BeltSums" (102 : Nat) ({ cls := "BeltSums$Accounts", name := "massWithAllUnder", desc := "(I)I" } : Jvm.MethodName)) ∈ tblG := tG 607 (by decide +kernel) rfl
theorem t608 : (Cond.instanceMethod ({ cls := "BeltSums$Accounts", name := "massWithAllUnder", desc := "(I)I" } : Jvm.MethodName)) ∈ tblG := tG 608 (by decide +kernel) rfl
theorem t609 : (Cond.selects "BeltSums$Accounts" ({ cls := "BeltSums$Accounts", name := "massWithAllUnder", desc := "(I)I" } : Jvm.MethodName) ({ cls := "BeltSums$Accounts", name := "massWithAllUnder", desc := "(I)I" } : Jvm.MethodName)) ∈ tblG := tG 609 (by decide +kernel) rfl
theorem t610 : (Cond.code ({ cls := "BeltSums$Accounts", name := "massWithAllUnder", desc := "(I)I" } : Jvm.MethodName) prog_2_method_8_code (4 : Nat) (Option.some Jvm.ClassFile.FieldType.int)) ∈ tblG := tG 610 (by decide +kernel) rfl
theorem t611 : (Cond.methodLink "BeltSums$Accounts" (38 : Nat) ({ cls := "BeltSums$Accounts", name := "isUnder", desc := "(II)Z" } : Jvm.MethodName)) ∈ tblG := tG 611 (by decide +kernel) rfl
theorem t612 : (Cond.instanceMethod ({ cls := "BeltSums$Accounts", name := "isUnder", desc := "(II)Z" } : Jvm.MethodName)) ∈ tblG := tG 612 (by decide +kernel) rfl
theorem t613 : (Cond.selects "BeltSums$Accounts" ({ cls := "BeltSums$Accounts", name := "isUnder", desc := "(II)Z" } : Jvm.MethodName) ({ cls := "BeltSums$Accounts", name := "isUnder", desc := "(II)Z" } : Jvm.MethodName)) ∈ tblG := tG 613 (by decide +kernel) rfl
theorem t614 : (Cond.code ({ cls := "BeltSums$Accounts", name := "isUnder", desc := "(II)Z" } : Jvm.MethodName) prog_2_method_7_code (5 : Nat) (Option.some Jvm.ClassFile.FieldType.boolean)) ∈ tblG := tG 614 (by decide +kernel) rfl
theorem t615 : (Cond.methodLink "BeltSums" (105 : Nat) ({ cls := "BeltSums$Accounts", name := "countUnder", desc := "(I)I" } : Jvm.MethodName)) ∈ tblG := tG 615 (by decide +kernel) rfl
theorem t616 : (Cond.instanceMethod ({ cls := "BeltSums$Accounts", name := "countUnder", desc := "(I)I" } : Jvm.MethodName)) ∈ tblG := tG 616 (by decide +kernel) rfl
theorem t617 : (Cond.selects "BeltSums$Accounts" ({ cls := "BeltSums$Accounts", name := "countUnder", desc := "(I)I" } : Jvm.MethodName) ({ cls := "BeltSums$Accounts", name := "countUnder", desc := "(I)I" } : Jvm.MethodName)) ∈ tblG := tG 617 (by decide +kernel) rfl
theorem t618 : (Cond.code ({ cls := "BeltSums$Accounts", name := "countUnder", desc := "(I)I" } : Jvm.MethodName) prog_2_method_9_code (4 : Nat) (Option.some Jvm.ClassFile.FieldType.int)) ∈ tblG := tG 618 (by decide +kernel) rfl
theorem t619 : (Cond.methodLink "BeltSums" (108 : Nat) ({ cls := "BeltSums$Accounts", name := "depth", desc := "(I)I" } : Jvm.MethodName)) ∈ tblG := tG 619 (by decide +kernel) rfl
theorem t620 : (Cond.instanceMethod ({ cls := "BeltSums$Accounts", name := "depth", desc := "(I)I" } : Jvm.MethodName)) ∈ tblG := tG 620 (by decide +kernel) rfl
theorem t621 : (Cond.selects "BeltSums$Accounts" ({ cls := "BeltSums$Accounts", name := "depth", desc := "(I)I" } : Jvm.MethodName) ({ cls := "BeltSums$Accounts", name := "depth", desc := "(I)I" } : Jvm.MethodName)) ∈ tblG := tG 621 (by decide +kernel) rfl
theorem t622 : (Cond.code ({ cls := "BeltSums$Accounts", name := "depth", desc := "(I)I" } : Jvm.MethodName) prog_2_method_10_code (5 : Nat) (Option.some Jvm.ClassFile.FieldType.int)) ∈ tblG := tG 622 (by decide +kernel) rfl
theorem t623 : (Cond.methodLink "BeltSumsLaw" (64 : Nat) ({ cls := "BeltSums", name := "massAt", desc := "(II)I" } : Jvm.MethodName)) ∈ tblG := tG 623 (by decide +kernel) rfl
theorem t624 : (Cond.instanceMethod ({ cls := "BeltSums", name := "massAt", desc := "(II)I" } : Jvm.MethodName)) ∈ tblG := tG 624 (by decide +kernel) rfl
theorem t625 : (Cond.selects "BeltSums" ({ cls := "BeltSums", name := "massAt", desc := "(II)I" } : Jvm.MethodName) ({ cls := "BeltSums", name := "massAt", desc := "(II)I" } : Jvm.MethodName)) ∈ tblG := tG 625 (by decide +kernel) rfl
theorem t626 : (Cond.code ({ cls := "BeltSums", name := "massAt", desc := "(II)I" } : Jvm.MethodName) prog_1_method_14_code (3 : Nat) (Option.some Jvm.ClassFile.FieldType.int)) ∈ tblG := tG 626 (by decide +kernel) rfl
theorem t627 : (Cond.methodLink "BeltSums" (115 : Nat) ({ cls := "BeltSums$Belt", name := "massOfPlace", desc := "(I)I" } : Jvm.MethodName)) ∈ tblG := tG 627 (by decide +kernel) rfl
theorem t628 : (Cond.methodLink "BeltSums" (120 : Nat) ({ cls := "BeltSums$Belt", name := "mass", desc := "(II)I" } : Jvm.MethodName)) ∈ tblG := tG 628 (by decide +kernel) rfl
theorem t629 : (Cond.methodLink "BeltSumsLaw" (68 : Nat) ({ cls := "BeltSums", name := "lotOf", desc := "(II)I" } : Jvm.MethodName)) ∈ tblG := tG 629 (by decide +kernel) rfl
theorem t630 : (Cond.instanceMethod ({ cls := "BeltSums", name := "lotOf", desc := "(II)I" } : Jvm.MethodName)) ∈ tblG := tG 630 (by decide +kernel) rfl
theorem t631 : (Cond.selects "BeltSums" ({ cls := "BeltSums", name := "lotOf", desc := "(II)I" } : Jvm.MethodName) ({ cls := "BeltSums", name := "lotOf", desc := "(II)I" } : Jvm.MethodName)) ∈ tblG := tG 631 (by decide +kernel) rfl
theorem t632 : (Cond.code ({ cls := "BeltSums", name := "lotOf", desc := "(II)I" } : Jvm.MethodName) prog_1_method_15_code (3 : Nat) (Option.some Jvm.ClassFile.FieldType.int)) ∈ tblG := tG 632 (by decide +kernel) rfl
theorem t633 : (Cond.methodLink "BeltSumsLaw" (72 : Nat) ({ cls := "BeltSums", name := "binOf", desc := "(II)I" } : Jvm.MethodName)) ∈ tblG := tG 633 (by decide +kernel) rfl
theorem t634 : (Cond.instanceMethod ({ cls := "BeltSums", name := "binOf", desc := "(II)I" } : Jvm.MethodName)) ∈ tblG := tG 634 (by decide +kernel) rfl
theorem t635 : (Cond.selects "BeltSums" ({ cls := "BeltSums", name := "binOf", desc := "(II)I" } : Jvm.MethodName) ({ cls := "BeltSums", name := "binOf", desc := "(II)I" } : Jvm.MethodName)) ∈ tblG := tG 635 (by decide +kernel) rfl
theorem t636 : (Cond.code ({ cls := "BeltSums", name := "binOf", desc := "(II)I" } : Jvm.MethodName) prog_1_method_16_code (4 : Nat) (Option.some Jvm.ClassFile.FieldType.int)) ∈ tblG := tG 636 (by decide +kernel) rfl
theorem t637 : (Cond.methodLink "BeltSums" (143 : Nat) ({ cls := "BeltSums$Bins", name := "has", desc := "(I)Z" } : Jvm.MethodName)) ∈ tblG := tG 637 (by decide +kernel) rfl
theorem t638 : (Cond.methodLink "BeltSums" (146 : Nat) ({ cls := "BeltSums", name := "isKind", desc := "(I)Z" } : Jvm.MethodName)) ∈ tblG := tG 638 (by decide +kernel) rfl
theorem t639 : (Cond.methodLink "BeltSums" (150 : Nat) ({ cls := "BeltSums$Bins", name := "massOf", desc := "(I)I" } : Jvm.MethodName)) ∈ tblG := tG 639 (by decide +kernel) rfl
theorem t640 : (Cond.constant "BeltSums" (156 : Nat) (1000000000 : Int32)) ∈ tblG := tG 640 (by decide +kernel) rfl
theorem t641 : (Cond.methodLink "BeltSumsLaw" (76 : Nat) ({ cls := "BeltSums", name := "scale", desc := "(I)I" } : Jvm.MethodName)) ∈ tblG := tG 641 (by decide +kernel) rfl
theorem t642 : (Cond.instanceMethod ({ cls := "BeltSums", name := "scale", desc := "(I)I" } : Jvm.MethodName)) ∈ tblG := tG 642 (by decide +kernel) rfl
theorem t643 : (Cond.selects "BeltSums" ({ cls := "BeltSums", name := "scale", desc := "(I)I" } : Jvm.MethodName) ({ cls := "BeltSums", name := "scale", desc := "(I)I" } : Jvm.MethodName)) ∈ tblG := tG 643 (by decide +kernel) rfl
theorem t644 : (Cond.code ({ cls := "BeltSums", name := "scale", desc := "(I)I" } : Jvm.MethodName) prog_1_method_17_code (3 : Nat) (Option.some Jvm.ClassFile.FieldType.int)) ∈ tblG := tG 644 (by decide +kernel) rfl
theorem t645 : (Cond.methodLink "BeltSums" (164 : Nat) ({ cls := "BeltSums$Belt", name := "massSeen", desc := "()I" } : Jvm.MethodName)) ∈ tblG := tG 645 (by decide +kernel) rfl
theorem t646 : (Cond.methodLink "BeltSums" (167 : Nat) ({ cls := "BeltSums$Scale", name := "reading", desc := "(I)I" } : Jvm.MethodName)) ∈ tblG := tG 646 (by decide +kernel) rfl
theorem t647 : (Cond.constant "BeltSums" (172 : Nat) (1000000 : Int32)) ∈ tblG := tG 647 (by decide +kernel) rfl
theorem t648 : (Cond.methodLink "BeltSums" (182 : Nat) ({ cls := "BeltSums$Scale", name := "toldTotal", desc := "()I" } : Jvm.MethodName)) ∈ tblG := tG 648 (by decide +kernel) rfl
theorem t649 : (Cond.instanceMethod ({ cls := "BeltSums$Scale", name := "toldTotal", desc := "()I" } : Jvm.MethodName)) ∈ tblG := tG 649 (by decide +kernel) rfl
theorem t650 : (Cond.selects "BeltSums$Scale" ({ cls := "BeltSums$Scale", name := "toldTotal", desc := "()I" } : Jvm.MethodName) ({ cls := "BeltSums$Scale", name := "toldTotal", desc := "()I" } : Jvm.MethodName)) ∈ tblG := tG 650 (by decide +kernel) rfl
theorem t651 : (Cond.code ({ cls := "BeltSums$Scale", name := "toldTotal", desc := "()I" } : Jvm.MethodName) prog_10_method_5_code (1 : Nat) (Option.some Jvm.ClassFile.FieldType.int)) ∈ tblG := tG 651 (by decide +kernel) rfl
theorem t652 : (Cond.constantLong "BeltSums$Scale" (31 : Nat) (1000 : Int64)) ∈ tblG := tG 652 (by decide +kernel) rfl
theorem t653 : (Cond.methodLink "BeltSumsLaw" (80 : Nat) ({ cls := "BeltSums", name := "count", desc := "(I)I" } : Jvm.MethodName)) ∈ tblG := tG 653 (by decide +kernel) rfl
theorem t654 : (Cond.instanceMethod ({ cls := "BeltSums", name := "count", desc := "(I)I" } : Jvm.MethodName)) ∈ tblG := tG 654 (by decide +kernel) rfl
theorem t655 : (Cond.selects "BeltSums" ({ cls := "BeltSums", name := "count", desc := "(I)I" } : Jvm.MethodName) ({ cls := "BeltSums", name := "count", desc := "(I)I" } : Jvm.MethodName)) ∈ tblG := tG 655 (by decide +kernel) rfl
theorem t656 : (Cond.code ({ cls := "BeltSums", name := "count", desc := "(I)I" } : Jvm.MethodName) prog_1_method_18_code (3 : Nat) (Option.some Jvm.ClassFile.FieldType.int)) ∈ tblG := tG 656 (by decide +kernel) rfl
theorem t657 : (Cond.methodLink "BeltSums" (206 : Nat) ({ cls := "BeltSums$Plant", name := "hasBatch", desc := "()Z" } : Jvm.MethodName)) ∈ tblG := tG 657 (by decide +kernel) rfl
theorem t658 : (Cond.methodLink "BeltSums" (223 : Nat) ({ cls := "BeltSums$Hopper", name := "massInside", desc := "()I" } : Jvm.MethodName)) ∈ tblG := tG 658 (by decide +kernel) rfl
theorem t659 : (Cond.instanceMethod ({ cls := "BeltSums$Hopper", name := "massInside", desc := "()I" } : Jvm.MethodName)) ∈ tblG := tG 659 (by decide +kernel) rfl
theorem t660 : (Cond.selects "BeltSums$Hopper" ({ cls := "BeltSums$Hopper", name := "massInside", desc := "()I" } : Jvm.MethodName) ({ cls := "BeltSums$Hopper", name := "massInside", desc := "()I" } : Jvm.MethodName)) ∈ tblG := tG 660 (by decide +kernel) rfl
theorem t661 : (Cond.code ({ cls := "BeltSums$Hopper", name := "massInside", desc := "()I" } : Jvm.MethodName) prog_7_method_5_code (3 : Nat) (Option.some Jvm.ClassFile.FieldType.int)) ∈ tblG := tG 661 (by decide +kernel) rfl
theorem t662 : (Cond.methodLink "BeltSums" (229 : Nat) ({ cls := "BeltSums$Bins", name := "massOfAll", desc := "()I" } : Jvm.MethodName)) ∈ tblG := tG 662 (by decide +kernel) rfl
theorem t663 : (Cond.instanceMethod ({ cls := "BeltSums$Bins", name := "massOfAll", desc := "()I" } : Jvm.MethodName)) ∈ tblG := tG 663 (by decide +kernel) rfl
theorem t664 : (Cond.selects "BeltSums$Bins" ({ cls := "BeltSums$Bins", name := "massOfAll", desc := "()I" } : Jvm.MethodName) ({ cls := "BeltSums$Bins", name := "massOfAll", desc := "()I" } : Jvm.MethodName)) ∈ tblG := tG 664 (by decide +kernel) rfl
theorem t665 : (Cond.code ({ cls := "BeltSums$Bins", name := "massOfAll", desc := "()I" } : Jvm.MethodName) prog_4_method_9_code (3 : Nat) (Option.some Jvm.ClassFile.FieldType.int)) ∈ tblG := tG 665 (by decide +kernel) rfl
theorem t666 : (Cond.methodLink "BeltSumsLaw" (84 : Nat) ({ cls := "BeltSums", name := "batchIn", desc := "()I" } : Jvm.MethodName)) ∈ tblG := tG 666 (by decide +kernel) rfl
theorem t667 : (Cond.instanceMethod ({ cls := "BeltSums", name := "batchIn", desc := "()I" } : Jvm.MethodName)) ∈ tblG := tG 667 (by decide +kernel) rfl
theorem t668 : (Cond.selects "BeltSums" ({ cls := "BeltSums", name := "batchIn", desc := "()I" } : Jvm.MethodName) ({ cls := "BeltSums", name := "batchIn", desc := "()I" } : Jvm.MethodName)) ∈ tblG := tG 668 (by decide +kernel) rfl
theorem t669 : (Cond.code ({ cls := "BeltSums", name := "batchIn", desc := "()I" } : Jvm.MethodName) prog_1_method_19_code (1 : Nat) (Option.some Jvm.ClassFile.FieldType.int)) ∈ tblG := tG 669 (by decide +kernel) rfl
theorem t670 : (Cond.methodLink "BeltSums" (242 : Nat) ({ cls := "BeltSums", name := "foretell", desc := "()I" } : Jvm.MethodName)) ∈ tblG := tG 670 (by decide +kernel) rfl
theorem t672 : (Cond.instanceMethod ({ cls := "BeltSums", name := "foretell", desc := "()I" } : Jvm.MethodName)) ∈ tblG := tG 672 (by decide +kernel) rfl
theorem t673 : (Cond.code ({ cls := "BeltSums", name := "foretell", desc := "()I" } : Jvm.MethodName) prog_1_method_28_code (2 : Nat) (Option.some Jvm.ClassFile.FieldType.int)) ∈ tblG := tG 673 (by decide +kernel) rfl
theorem t674 : (Cond.methodLink "BeltSums" (282 : Nat) ({ cls := "BeltSums$Plant", name := "passTick", desc := "()I" } : Jvm.MethodName)) ∈ tblG := tG 674 (by decide +kernel) rfl
theorem t675 : (Cond.constant "BeltSums" (245 : Nat) (-1000002 : Int32)) ∈ tblG := tG 675 (by decide +kernel) rfl
theorem t676 : (Cond.methodLink "BeltSumsLaw" (88 : Nat) ({ cls := "BeltSums", name := "batchOut", desc := "()I" } : Jvm.MethodName)) ∈ tblG := tG 676 (by decide +kernel) rfl
theorem t677 : (Cond.instanceMethod ({ cls := "BeltSums", name := "batchOut", desc := "()I" } : Jvm.MethodName)) ∈ tblG := tG 677 (by decide +kernel) rfl
theorem t678 : (Cond.selects "BeltSums" ({ cls := "BeltSums", name := "batchOut", desc := "()I" } : Jvm.MethodName) ({ cls := "BeltSums", name := "batchOut", desc := "()I" } : Jvm.MethodName)) ∈ tblG := tG 678 (by decide +kernel) rfl
theorem t679 : (Cond.code ({ cls := "BeltSums", name := "batchOut", desc := "()I" } : Jvm.MethodName) prog_1_method_20_code (1 : Nat) (Option.some Jvm.ClassFile.FieldType.int)) ∈ tblG := tG 679 (by decide +kernel) rfl
theorem t680 : (Cond.methodLink "BeltSums" (246 : Nat) ({ cls := "BeltSums$Bins", name := "massOfPresent", desc := "()I" } : Jvm.MethodName)) ∈ tblG := tG 680 (by decide +kernel) rfl
theorem t681 : (Cond.instanceMethod ({ cls := "BeltSums$Bins", name := "massOfPresent", desc := "()I" } : Jvm.MethodName)) ∈ tblG := tG 681 (by decide +kernel) rfl
theorem t682 : (Cond.selects "BeltSums$Bins" ({ cls := "BeltSums$Bins", name := "massOfPresent", desc := "()I" } : Jvm.MethodName) ({ cls := "BeltSums$Bins", name := "massOfPresent", desc := "()I" } : Jvm.MethodName)) ∈ tblG := tG 682 (by decide +kernel) rfl
theorem t683 : (Cond.code ({ cls := "BeltSums$Bins", name := "massOfPresent", desc := "()I" } : Jvm.MethodName) prog_4_method_8_code (1 : Nat) (Option.some Jvm.ClassFile.FieldType.int)) ∈ tblG := tG 683 (by decide +kernel) rfl
theorem t684 : (Cond.methodLink "BeltSums$Bins" (29 : Nat) ({ cls := "BeltSums$Bins", name := "massOf", desc := "(I)I" } : Jvm.MethodName)) ∈ tblG := tG 684 (by decide +kernel) rfl
theorem t685 : (Cond.methodLink "BeltSumsLaw" (92 : Nat) ({ cls := "BeltSums", name := "error", desc := "()I" } : Jvm.MethodName)) ∈ tblG := tG 685 (by decide +kernel) rfl
theorem t686 : (Cond.instanceMethod ({ cls := "BeltSums", name := "error", desc := "()I" } : Jvm.MethodName)) ∈ tblG := tG 686 (by decide +kernel) rfl
theorem t687 : (Cond.selects "BeltSums" ({ cls := "BeltSums", name := "error", desc := "()I" } : Jvm.MethodName) ({ cls := "BeltSums", name := "error", desc := "()I" } : Jvm.MethodName)) ∈ tblG := tG 687 (by decide +kernel) rfl
theorem t688 : (Cond.code ({ cls := "BeltSums", name := "error", desc := "()I" } : Jvm.MethodName) prog_1_method_21_code (1 : Nat) (Option.some Jvm.ClassFile.FieldType.int)) ∈ tblG := tG 688 (by decide +kernel) rfl
theorem t689 : (Cond.methodLink "BeltSumsLaw" (96 : Nat) ({ cls := "BeltSums", name := "undo", desc := "()I" } : Jvm.MethodName)) ∈ tblG := tG 689 (by decide +kernel) rfl
theorem t690 : (Cond.instanceMethod ({ cls := "BeltSums", name := "undo", desc := "()I" } : Jvm.MethodName)) ∈ tblG := tG 690 (by decide +kernel) rfl
theorem t691 : (Cond.selects "BeltSums" ({ cls := "BeltSums", name := "undo", desc := "()I" } : Jvm.MethodName) ({ cls := "BeltSums", name := "undo", desc := "()I" } : Jvm.MethodName)) ∈ tblG := tG 691 (by decide +kernel) rfl
theorem t692 : (Cond.code ({ cls := "BeltSums", name := "undo", desc := "()I" } : Jvm.MethodName) prog_1_method_22_code (1 : Nat) (Option.some Jvm.ClassFile.FieldType.int)) ∈ tblG := tG 692 (by decide +kernel) rfl
theorem t693 : (Cond.methodLink "BeltSums" (252 : Nat) ({ cls := "BeltSums$History", name := "pullInto", desc := "(LBeltSums$Plant;)V" } : Jvm.MethodName)) ∈ tblG := tG 693 (by decide +kernel) rfl
theorem t694 : (Cond.instanceMethod ({ cls := "BeltSums$History", name := "pullInto", desc := "(LBeltSums$Plant;)V" } : Jvm.MethodName)) ∈ tblG := tG 694 (by decide +kernel) rfl
theorem t695 : (Cond.selects "BeltSums$History" ({ cls := "BeltSums$History", name := "pullInto", desc := "(LBeltSums$Plant;)V" } : Jvm.MethodName) ({ cls := "BeltSums$History", name := "pullInto", desc := "(LBeltSums$Plant;)V" } : Jvm.MethodName)) ∈ tblG := tG 695 (by decide +kernel) rfl
theorem t696 : (Cond.code ({ cls := "BeltSums$History", name := "pullInto", desc := "(LBeltSums$Plant;)V" } : Jvm.MethodName) prog_6_method_3_code (3 : Nat) (Option.none : Option Jvm.ClassFile.FieldType)) ∈ tblG := tG 696 (by decide +kernel) rfl
theorem t697 : (Cond.methodLink "BeltSumsLaw" (100 : Nat) ({ cls := "BeltSums", name := "type", desc := "(I)I" } : Jvm.MethodName)) ∈ tblG := tG 697 (by decide +kernel) rfl
theorem t698 : (Cond.instanceMethod ({ cls := "BeltSums", name := "type", desc := "(I)I" } : Jvm.MethodName)) ∈ tblG := tG 698 (by decide +kernel) rfl
theorem t699 : (Cond.selects "BeltSums" ({ cls := "BeltSums", name := "type", desc := "(I)I" } : Jvm.MethodName) ({ cls := "BeltSums", name := "type", desc := "(I)I" } : Jvm.MethodName)) ∈ tblG := tG 699 (by decide +kernel) rfl
theorem t700 : (Cond.code ({ cls := "BeltSums", name := "type", desc := "(I)I" } : Jvm.MethodName) prog_1_method_23_code (2 : Nat) (Option.some Jvm.ClassFile.FieldType.int)) ∈ tblG := tG 700 (by decide +kernel) rfl
theorem t701 : (Cond.constant "BeltSums" (255 : Nat) (-1000003 : Int32)) ∈ tblG := tG 701 (by decide +kernel) rfl
theorem t702 : (Cond.methodLink "BeltSums" (256 : Nat) ({ cls := "BeltSums$Text", name := "append", desc := "(C)V" } : Jvm.MethodName)) ∈ tblG := tG 702 (by decide +kernel) rfl
theorem t703 : (Cond.instanceMethod ({ cls := "BeltSums$Text", name := "append", desc := "(C)V" } : Jvm.MethodName)) ∈ tblG := tG 703 (by decide +kernel) rfl
theorem t704 : (Cond.selects "BeltSums$Text" ({ cls := "BeltSums$Text", name := "append", desc := "(C)V" } : Jvm.MethodName) ({ cls := "BeltSums$Text", name := "append", desc := "(C)V" } : Jvm.MethodName)) ∈ tblG := tG 704 (by decide +kernel) rfl
theorem t705 : (Cond.code ({ cls := "BeltSums$Text", name := "append", desc := "(C)V" } : Jvm.MethodName) prog_11_method_2_code (2 : Nat) (Option.none : Option Jvm.ClassFile.FieldType)) ∈ tblG := tG 705 (by decide +kernel) rfl
theorem t706 : (Cond.methodLink "BeltSumsLaw" (104 : Nat) ({ cls := "BeltSums", name := "clearText", desc := "()I" } : Jvm.MethodName)) ∈ tblG := tG 706 (by decide +kernel) rfl
theorem t707 : (Cond.instanceMethod ({ cls := "BeltSums", name := "clearText", desc := "()I" } : Jvm.MethodName)) ∈ tblG := tG 707 (by decide +kernel) rfl
theorem t708 : (Cond.selects "BeltSums" ({ cls := "BeltSums", name := "clearText", desc := "()I" } : Jvm.MethodName) ({ cls := "BeltSums", name := "clearText", desc := "()I" } : Jvm.MethodName)) ∈ tblG := tG 708 (by decide +kernel) rfl
theorem t709 : (Cond.code ({ cls := "BeltSums", name := "clearText", desc := "()I" } : Jvm.MethodName) prog_1_method_24_code (2 : Nat) (Option.some Jvm.ClassFile.FieldType.int)) ∈ tblG := tG 709 (by decide +kernel) rfl
theorem t710 : (Cond.methodLink "BeltSumsLaw" (108 : Nat) ({ cls := "BeltSums", name := "fault", desc := "(I)I" } : Jvm.MethodName)) ∈ tblG := tG 710 (by decide +kernel) rfl
theorem t711 : (Cond.instanceMethod ({ cls := "BeltSums", name := "fault", desc := "(I)I" } : Jvm.MethodName)) ∈ tblG := tG 711 (by decide +kernel) rfl
theorem t712 : (Cond.selects "BeltSums" ({ cls := "BeltSums", name := "fault", desc := "(I)I" } : Jvm.MethodName) ({ cls := "BeltSums", name := "fault", desc := "(I)I" } : Jvm.MethodName)) ∈ tblG := tG 712 (by decide +kernel) rfl
theorem t713 : (Cond.code ({ cls := "BeltSums", name := "fault", desc := "(I)I" } : Jvm.MethodName) prog_1_method_25_code (2 : Nat) (Option.some Jvm.ClassFile.FieldType.int)) ∈ tblG := tG 713 (by decide +kernel) rfl
theorem t714 : (Cond.methodLink "BeltSums" (260 : Nat) ({ cls := "BeltSums$Rehearsal", name := "perform", desc := "(LBeltSums$Text;LBeltSums$Plant;LBeltSums$Plant;)V" } : Jvm.MethodName)) ∈ tblG := tG 714 (by decide +kernel) rfl
theorem t715 : (Cond.instanceMethod ({ cls := "BeltSums$Rehearsal", name := "perform", desc := "(LBeltSums$Text;LBeltSums$Plant;LBeltSums$Plant;)V" } : Jvm.MethodName)) ∈ tblG := tG 715 (by decide +kernel) rfl
theorem t716 : (Cond.selects "BeltSums$Rehearsal" ({ cls := "BeltSums$Rehearsal", name := "perform", desc := "(LBeltSums$Text;LBeltSums$Plant;LBeltSums$Plant;)V" } : Jvm.MethodName) ({ cls := "BeltSums$Rehearsal", name := "perform", desc := "(LBeltSums$Text;LBeltSums$Plant;LBeltSums$Plant;)V" } : Jvm.MethodName)) ∈ tblG := tG 716 (by decide +kernel) rfl
theorem t717 : (Cond.code ({ cls := "BeltSums$Rehearsal", name := "perform", desc := "(LBeltSums$Text;LBeltSums$Plant;LBeltSums$Plant;)V" } : Jvm.MethodName) prog_9_method_2_code (6 : Nat) (Option.none : Option Jvm.ClassFile.FieldType)) ∈ tblG := tG 717 (by decide +kernel) rfl
theorem t718 : (Cond.methodLink "BeltSums$Rehearsal" (18 : Nat) ({ cls := "BeltSums$Plant", name := "copyFrom", desc := "(LBeltSums$Plant;)V" } : Jvm.MethodName)) ∈ tblG := tG 718 (by decide +kernel) rfl
theorem t719 : (Cond.methodLink "BeltSums$Rehearsal" (42 : Nat) ({ cls := "BeltSums$Command", name := "read", desc := "(LBeltSums$Text;I)Z" } : Jvm.MethodName)) ∈ tblG := tG 719 (by decide +kernel) rfl
theorem t720 : (Cond.instanceMethod ({ cls := "BeltSums$Command", name := "read", desc := "(LBeltSums$Text;I)Z" } : Jvm.MethodName)) ∈ tblG := tG 720 (by decide +kernel) rfl
theorem t721 : (Cond.selects "BeltSums$Command" ({ cls := "BeltSums$Command", name := "read", desc := "(LBeltSums$Text;I)Z" } : Jvm.MethodName) ({ cls := "BeltSums$Command", name := "read", desc := "(LBeltSums$Text;I)Z" } : Jvm.MethodName)) ∈ tblG := tG 721 (by decide +kernel) rfl
theorem t722 : (Cond.code ({ cls := "BeltSums$Command", name := "read", desc := "(LBeltSums$Text;I)Z" } : Jvm.MethodName) prog_5_method_2_code (3 : Nat) (Option.some Jvm.ClassFile.FieldType.boolean)) ∈ tblG := tG 722 (by decide +kernel) rfl
theorem t723 : (Cond.methodLink "BeltSums$Command" (9 : Nat) ({ cls := "BeltSums$Text", name := "at", desc := "(I)I" } : Jvm.MethodName)) ∈ tblG := tG 723 (by decide +kernel) rfl
theorem t724 : (Cond.instanceMethod ({ cls := "BeltSums$Text", name := "at", desc := "(I)I" } : Jvm.MethodName)) ∈ tblG := tG 724 (by decide +kernel) rfl
theorem t725 : (Cond.selects "BeltSums$Text" ({ cls := "BeltSums$Text", name := "at", desc := "(I)I" } : Jvm.MethodName) ({ cls := "BeltSums$Text", name := "at", desc := "(I)I" } : Jvm.MethodName)) ∈ tblG := tG 725 (by decide +kernel) rfl
theorem t726 : (Cond.code ({ cls := "BeltSums$Text", name := "at", desc := "(I)I" } : Jvm.MethodName) prog_11_method_3_code (2 : Nat) (Option.some Jvm.ClassFile.FieldType.int)) ∈ tblG := tG 726 (by decide +kernel) rfl
theorem t727 : (Cond.methodLink "BeltSums$Command" (30 : Nat) ({ cls := "BeltSums$Command", name := "passes", desc := "(LBeltSums$Text;I)Z" } : Jvm.MethodName)) ∈ tblG := tG 727 (by decide +kernel) rfl
theorem t729 : (Cond.instanceMethod ({ cls := "BeltSums$Command", name := "passes", desc := "(LBeltSums$Text;I)Z" } : Jvm.MethodName)) ∈ tblG := tG 729 (by decide +kernel) rfl
theorem t730 : (Cond.code ({ cls := "BeltSums$Command", name := "passes", desc := "(LBeltSums$Text;I)Z" } : Jvm.MethodName) prog_5_method_3_code (3 : Nat) (Option.some Jvm.ClassFile.FieldType.boolean)) ∈ tblG := tG 730 (by decide +kernel) rfl
theorem t731 : (Cond.methodLink "BeltSums$Command" (34 : Nat) ({ cls := "BeltSums$Command", name := "readNumber", desc := "(LBeltSums$Text;)I" } : Jvm.MethodName)) ∈ tblG := tG 731 (by decide +kernel) rfl
theorem t733 : (Cond.instanceMethod ({ cls := "BeltSums$Command", name := "readNumber", desc := "(LBeltSums$Text;)I" } : Jvm.MethodName)) ∈ tblG := tG 733 (by decide +kernel) rfl
theorem t734 : (Cond.code ({ cls := "BeltSums$Command", name := "readNumber", desc := "(LBeltSums$Text;)I" } : Jvm.MethodName) prog_5_method_4_code (5 : Nat) (Option.some Jvm.ClassFile.FieldType.int)) ∈ tblG := tG 734 (by decide +kernel) rfl
theorem t735 : (Cond.methodLink "BeltSums$Command" (38 : Nat) ({ cls := "java/lang/Math", name := "max", desc := "(II)I" } : Jvm.MethodName)) ∈ tblG := tG 735 (by decide +kernel) rfl
theorem t736 : (Cond.static ({ cls := "java/lang/Math", name := "max", desc := "(II)I" } : Jvm.MethodName)) ∈ tblG := tG 736 (by decide +kernel) rfl
theorem t737 : (Cond.code ({ cls := "java/lang/Math", name := "max", desc := "(II)I" } : Jvm.MethodName) prog_14_method_65_code (2 : Nat) (Option.some Jvm.ClassFile.FieldType.int)) ∈ tblG := tG 737 (by decide +kernel) rfl
theorem t738 : (Cond.methodLink "BeltSums$Rehearsal" (46 : Nat) ({ cls := "BeltSums$Command", name := "carryOut", desc := "(LBeltSums$Plant;)I" } : Jvm.MethodName)) ∈ tblG := tG 738 (by decide +kernel) rfl
theorem t739 : (Cond.instanceMethod ({ cls := "BeltSums$Command", name := "carryOut", desc := "(LBeltSums$Plant;)I" } : Jvm.MethodName)) ∈ tblG := tG 739 (by decide +kernel) rfl
theorem t740 : (Cond.selects "BeltSums$Command" ({ cls := "BeltSums$Command", name := "carryOut", desc := "(LBeltSums$Plant;)I" } : Jvm.MethodName) ({ cls := "BeltSums$Command", name := "carryOut", desc := "(LBeltSums$Plant;)I" } : Jvm.MethodName)) ∈ tblG := tG 740 (by decide +kernel) rfl
theorem t741 : (Cond.code ({ cls := "BeltSums$Command", name := "carryOut", desc := "(LBeltSums$Plant;)I" } : Jvm.MethodName) prog_5_method_5_code (2 : Nat) (Option.some Jvm.ClassFile.FieldType.int)) ∈ tblG := tG 741 (by decide +kernel) rfl
theorem t742 : (Cond.methodLink "BeltSums$Command" (44 : Nat) ({ cls := "BeltSums$Plant", name := "putLot", desc := "(II)I" } : Jvm.MethodName)) ∈ tblG := tG 742 (by decide +kernel) rfl
theorem t743 : (Cond.methodLink "BeltSums$Command" (49 : Nat) ({ cls := "BeltSums$Plant", name := "setGate", desc := "(I)I" } : Jvm.MethodName)) ∈ tblG := tG 743 (by decide +kernel) rfl
theorem t744 : (Cond.methodLink "BeltSums$Command" (52 : Nat) ({ cls := "BeltSums$Plant", name := "putBin", desc := "()I" } : Jvm.MethodName)) ∈ tblG := tG 744 (by decide +kernel) rfl
theorem t745 : (Cond.methodLink "BeltSums$Command" (56 : Nat) ({ cls := "BeltSums$Plant", name := "switchBelt", desc := "(I)I" } : Jvm.MethodName)) ∈ tblG := tG 745 (by decide +kernel) rfl
theorem t746 : (Cond.methodLink "BeltSums$Command" (59 : Nat) ({ cls := "BeltSums$Plant", name := "beginBatch", desc := "(I)I" } : Jvm.MethodName)) ∈ tblG := tG 746 (by decide +kernel) rfl
theorem t747 : (Cond.methodLink "BeltSums$Command" (62 : Nat) ({ cls := "BeltSums$Plant", name := "setZero", desc := "()I" } : Jvm.MethodName)) ∈ tblG := tG 747 (by decide +kernel) rfl
theorem t748 : (Cond.methodLink "BeltSums$Command" (65 : Nat) ({ cls := "BeltSums$Plant", name := "correctBy", desc := "(I)I" } : Jvm.MethodName)) ∈ tblG := tG 748 (by decide +kernel) rfl
theorem t749 : (Cond.methodLink "BeltSums$Command" (68 : Nat) ({ cls := "BeltSums$Plant", name := "passTicks", desc := "(I)I" } : Jvm.MethodName)) ∈ tblG := tG 749 (by decide +kernel) rfl
theorem t750 : (Cond.constant "BeltSums$Command" (71 : Nat) (-1000001 : Int32)) ∈ tblG := tG 750 (by decide +kernel) rfl
theorem t752 : (Cond.methodLink "BeltSumsLaw" (112 : Nat) ({ cls := "BeltSums", name := "play", desc := "()I" } : Jvm.MethodName)) ∈ tblG := tG 752 (by decide +kernel) rfl
theorem t753 : (Cond.instanceMethod ({ cls := "BeltSums", name := "play", desc := "()I" } : Jvm.MethodName)) ∈ tblG := tG 753 (by decide +kernel) rfl
theorem t754 : (Cond.selects "BeltSums" ({ cls := "BeltSums", name := "play", desc := "()I" } : Jvm.MethodName) ({ cls := "BeltSums", name := "play", desc := "()I" } : Jvm.MethodName)) ∈ tblG := tG 754 (by decide +kernel) rfl
theorem t755 : (Cond.code ({ cls := "BeltSums", name := "play", desc := "()I" } : Jvm.MethodName) prog_1_method_26_code (1 : Nat) (Option.some Jvm.ClassFile.FieldType.int)) ∈ tblG := tG 755 (by decide +kernel) rfl
theorem t756 : (Cond.classLink "BeltSumsLaw" (10 : Nat) "BeltSumsModel") ∈ tblG := tG 756 (by decide +kernel) rfl
theorem t757 : (Cond.instantiable "BeltSumsModel" (14 : Nat)) ∈ tblG := tG 757 (by decide +kernel) rfl
theorem t758 : (Cond.methodLink "BeltSumsLaw" (12 : Nat) ({ cls := "BeltSumsModel", name := "<init>", desc := "()V" } : Jvm.MethodName)) ∈ tblG := tG 758 (by decide +kernel) rfl
theorem t759 : (Cond.instanceMethod ({ cls := "BeltSumsModel", name := "<init>", desc := "()V" } : Jvm.MethodName)) ∈ tblG := tG 759 (by decide +kernel) rfl
theorem t760 : (Cond.code ({ cls := "BeltSumsModel", name := "<init>", desc := "()V" } : Jvm.MethodName) prog_13_method_1_code (1 : Nat) (Option.none : Option Jvm.ClassFile.FieldType)) ∈ tblG := tG 760 (by decide +kernel) rfl
theorem t761 : (Cond.methodLink "BeltSumsModel" (1 : Nat) ({ cls := "java/lang/Object", name := "<init>", desc := "()V" } : Jvm.MethodName)) ∈ tblG := tG 761 (by decide +kernel) rfl
theorem t762 : (Cond.constant "BeltSumsModel" (28 : Nat) (-1000004 : Int32)) ∈ tblG := tG 762 (by decide +kernel) rfl
theorem t763 : (Cond.fieldLink "BeltSumsModel" (7 : Nat) "BeltSumsModel" "s" "[I") ∈ tblG := tG 763 (by decide +kernel) rfl
theorem t764 : (Cond.fieldLink "BeltSumsModel" (13 : Nat) "BeltSumsModel" "past" "[I") ∈ tblG := tG 764 (by decide +kernel) rfl
theorem t765 : (Cond.fieldLink "BeltSumsModel" (16 : Nat) "BeltSumsModel" "held" "[I") ∈ tblG := tG 765 (by decide +kernel) rfl
theorem t766 : (Cond.fieldLink "BeltSumsModel" (19 : Nat) "BeltSumsModel" "tried" "[I") ∈ tblG := tG 766 (by decide +kernel) rfl
theorem t767 : (Cond.fieldLink "BeltSumsModel" (33 : Nat) "BeltSumsModel" "pasts" "I") ∈ tblG := tG 767 (by decide +kernel) rfl
theorem t768 : (Cond.fieldLink "BeltSumsModel" (29 : Nat) "BeltSumsModel" "runs" "Z") ∈ tblG := tG 768 (by decide +kernel) rfl
theorem t769 : (Cond.fieldLink "BeltSumsModel" (22 : Nat) "BeltSumsModel" "text" "[I") ∈ tblG := tG 769 (by decide +kernel) rfl
theorem t770 : (Cond.fieldLink "BeltSumsModel" (112 : Nat) "BeltSumsModel" "typed" "I") ∈ tblG := tG 770 (by decide +kernel) rfl
theorem t771 : (Cond.fieldLink "BeltSumsModel" (119 : Nat) "BeltSumsModel" "then" "I") ∈ tblG := tG 771 (by decide +kernel) rfl
theorem t772 : (Cond.fieldLink "BeltSumsModel" (125 : Nat) "BeltSumsModel" "spot" "I") ∈ tblG := tG 772 (by decide +kernel) rfl
theorem t773 : (Cond.fieldLink "BeltSumsModel" (173 : Nat) "BeltSumsModel" "cause" "I") ∈ tblG := tG 773 (by decide +kernel) rfl
theorem t774 : (Cond.fieldLink "BeltSumsModel" (164 : Nat) "BeltSumsModel" "commands" "I") ∈ tblG := tG 774 (by decide +kernel) rfl
theorem t775 : (Cond.fieldLink "BeltSumsModel" (131 : Nat) "BeltSumsModel" "kind" "I") ∈ tblG := tG 775 (by decide +kernel) rfl
theorem t776 : (Cond.fieldLink "BeltSumsModel" (25 : Nat) "BeltSumsModel" "told" "[I") ∈ tblG := tG 776 (by decide +kernel) rfl
theorem t777 : (Cond.laysFinal "BeltSumsModel" "BeltSumsModel" "s" "[I") ∈ tblG := tG 777 (by decide +kernel) rfl
theorem t779 : (Cond.laysFinal "BeltSumsModel" "BeltSumsModel" "past" "[I") ∈ tblG := tG 779 (by decide +kernel) rfl
theorem t781 : (Cond.laysFinal "BeltSumsModel" "BeltSumsModel" "held" "[I") ∈ tblG := tG 781 (by decide +kernel) rfl
theorem t783 : (Cond.laysFinal "BeltSumsModel" "BeltSumsModel" "tried" "[I") ∈ tblG := tG 783 (by decide +kernel) rfl
theorem t785 : (Cond.lays "BeltSumsModel" "BeltSumsModel" "pasts" "I") ∈ tblG := tG 785 (by decide +kernel) rfl
theorem t787 : (Cond.lays "BeltSumsModel" "BeltSumsModel" "runs" "Z") ∈ tblG := tG 787 (by decide +kernel) rfl
theorem t789 : (Cond.laysFinal "BeltSumsModel" "BeltSumsModel" "text" "[I") ∈ tblG := tG 789 (by decide +kernel) rfl
theorem t791 : (Cond.lays "BeltSumsModel" "BeltSumsModel" "typed" "I") ∈ tblG := tG 791 (by decide +kernel) rfl
theorem t793 : (Cond.lays "BeltSumsModel" "BeltSumsModel" "then" "I") ∈ tblG := tG 793 (by decide +kernel) rfl
theorem t795 : (Cond.lays "BeltSumsModel" "BeltSumsModel" "spot" "I") ∈ tblG := tG 795 (by decide +kernel) rfl
theorem t797 : (Cond.lays "BeltSumsModel" "BeltSumsModel" "cause" "I") ∈ tblG := tG 797 (by decide +kernel) rfl
theorem t799 : (Cond.lays "BeltSumsModel" "BeltSumsModel" "commands" "I") ∈ tblG := tG 799 (by decide +kernel) rfl
theorem t801 : (Cond.lays "BeltSumsModel" "BeltSumsModel" "kind" "I") ∈ tblG := tG 801 (by decide +kernel) rfl
theorem t803 : (Cond.laysFinal "BeltSumsModel" "BeltSumsModel" "told" "[I") ∈ tblG := tG 803 (by decide +kernel) rfl
theorem t806 : (Cond.methodLink "BeltSumsLaw" (17 : Nat) ({ cls := "BeltSumsModel", name := "lot", desc := "(II)I" } : Jvm.MethodName)) ∈ tblG := tG 806 (by decide +kernel) rfl
theorem t807 : (Cond.instanceMethod ({ cls := "BeltSumsModel", name := "lot", desc := "(II)I" } : Jvm.MethodName)) ∈ tblG := tG 807 (by decide +kernel) rfl
theorem t808 : (Cond.selects "BeltSumsModel" ({ cls := "BeltSumsModel", name := "lot", desc := "(II)I" } : Jvm.MethodName) ({ cls := "BeltSumsModel", name := "lot", desc := "(II)I" } : Jvm.MethodName)) ∈ tblG := tG 808 (by decide +kernel) rfl
theorem t809 : (Cond.code ({ cls := "BeltSumsModel", name := "lot", desc := "(II)I" } : Jvm.MethodName) prog_13_method_7_code (3 : Nat) (Option.some Jvm.ClassFile.FieldType.int)) ∈ tblG := tG 809 (by decide +kernel) rfl
theorem t810 : (Cond.methodLink "BeltSumsModel" (37 : Nat) ({ cls := "BeltSumsModel", name := "in", desc := "(III)Z" } : Jvm.MethodName)) ∈ tblG := tG 810 (by decide +kernel) rfl
theorem t811 : (Cond.static ({ cls := "BeltSumsModel", name := "in", desc := "(III)Z" } : Jvm.MethodName)) ∈ tblG := tG 811 (by decide +kernel) rfl
theorem t812 : (Cond.code ({ cls := "BeltSumsModel", name := "in", desc := "(III)Z" } : Jvm.MethodName) prog_13_method_3_code (3 : Nat) (Option.some Jvm.ClassFile.FieldType.boolean)) ∈ tblG := tG 812 (by decide +kernel) rfl
theorem t813 : (Cond.constant "BeltSumsModel" (41 : Nat) (-1000001 : Int32)) ∈ tblG := tG 813 (by decide +kernel) rfl
theorem t814 : (Cond.constant "BeltSumsModel" (42 : Nat) (-1000003 : Int32)) ∈ tblG := tG 814 (by decide +kernel) rfl
theorem t815 : (Cond.methodLink "BeltSumsModel" (43 : Nat) ({ cls := "BeltSumsModel", name := "changes", desc := "()V" } : Jvm.MethodName)) ∈ tblG := tG 815 (by decide +kernel) rfl
theorem t817 : (Cond.instanceMethod ({ cls := "BeltSumsModel", name := "changes", desc := "()V" } : Jvm.MethodName)) ∈ tblG := tG 817 (by decide +kernel) rfl
theorem t818 : (Cond.code ({ cls := "BeltSumsModel", name := "changes", desc := "()V" } : Jvm.MethodName) prog_13_method_5_code (2 : Nat) (Option.none : Option Jvm.ClassFile.FieldType)) ∈ tblG := tG 818 (by decide +kernel) rfl
theorem t819 : (Cond.methodLink "BeltSumsLaw" (22 : Nat) ({ cls := "BeltSumsModel", name := "gate", desc := "(I)I" } : Jvm.MethodName)) ∈ tblG := tG 819 (by decide +kernel) rfl
theorem t820 : (Cond.instanceMethod ({ cls := "BeltSumsModel", name := "gate", desc := "(I)I" } : Jvm.MethodName)) ∈ tblG := tG 820 (by decide +kernel) rfl
theorem t821 : (Cond.selects "BeltSumsModel" ({ cls := "BeltSumsModel", name := "gate", desc := "(I)I" } : Jvm.MethodName) ({ cls := "BeltSumsModel", name := "gate", desc := "(I)I" } : Jvm.MethodName)) ∈ tblG := tG 821 (by decide +kernel) rfl
theorem t822 : (Cond.code ({ cls := "BeltSumsModel", name := "gate", desc := "(I)I" } : Jvm.MethodName) prog_13_method_8_code (3 : Nat) (Option.some Jvm.ClassFile.FieldType.int)) ∈ tblG := tG 822 (by decide +kernel) rfl
theorem t823 : (Cond.methodLink "BeltSumsLaw" (26 : Nat) ({ cls := "BeltSumsModel", name := "run", desc := "(I)I" } : Jvm.MethodName)) ∈ tblG := tG 823 (by decide +kernel) rfl
theorem t824 : (Cond.instanceMethod ({ cls := "BeltSumsModel", name := "run", desc := "(I)I" } : Jvm.MethodName)) ∈ tblG := tG 824 (by decide +kernel) rfl
theorem t825 : (Cond.selects "BeltSumsModel" ({ cls := "BeltSumsModel", name := "run", desc := "(I)I" } : Jvm.MethodName) ({ cls := "BeltSumsModel", name := "run", desc := "(I)I" } : Jvm.MethodName)) ∈ tblG := tG 825 (by decide +kernel) rfl
theorem t826 : (Cond.code ({ cls := "BeltSumsModel", name := "run", desc := "(I)I" } : Jvm.MethodName) prog_13_method_9_code (3 : Nat) (Option.some Jvm.ClassFile.FieldType.int)) ∈ tblG := tG 826 (by decide +kernel) rfl
theorem t827 : (Cond.methodLink "BeltSumsModel" (46 : Nat) ({ cls := "BeltSumsModel", name := "hasBatch", desc := "()Z" } : Jvm.MethodName)) ∈ tblG := tG 827 (by decide +kernel) rfl
theorem t829 : (Cond.instanceMethod ({ cls := "BeltSumsModel", name := "hasBatch", desc := "()Z" } : Jvm.MethodName)) ∈ tblG := tG 829 (by decide +kernel) rfl
theorem t830 : (Cond.code ({ cls := "BeltSumsModel", name := "hasBatch", desc := "()Z" } : Jvm.MethodName) prog_13_method_6_code (1 : Nat) (Option.some Jvm.ClassFile.FieldType.boolean)) ∈ tblG := tG 830 (by decide +kernel) rfl
theorem t831 : (Cond.constant "BeltSumsModel" (50 : Nat) (-1000002 : Int32)) ∈ tblG := tG 831 (by decide +kernel) rfl
theorem t832 : (Cond.methodLink "BeltSumsLaw" (31 : Nat) ({ cls := "BeltSumsModel", name := "bin", desc := "()I" } : Jvm.MethodName)) ∈ tblG := tG 832 (by decide +kernel) rfl
theorem t833 : (Cond.instanceMethod ({ cls := "BeltSumsModel", name := "bin", desc := "()I" } : Jvm.MethodName)) ∈ tblG := tG 833 (by decide +kernel) rfl
theorem t834 : (Cond.selects "BeltSumsModel" ({ cls := "BeltSumsModel", name := "bin", desc := "()I" } : Jvm.MethodName) ({ cls := "BeltSumsModel", name := "bin", desc := "()I" } : Jvm.MethodName)) ∈ tblG := tG 834 (by decide +kernel) rfl
theorem t835 : (Cond.code ({ cls := "BeltSumsModel", name := "bin", desc := "()I" } : Jvm.MethodName) prog_13_method_10_code (3 : Nat) (Option.some Jvm.ClassFile.FieldType.int)) ∈ tblG := tG 835 (by decide +kernel) rfl
theorem t836 : (Cond.methodLink "BeltSumsLaw" (35 : Nat) ({ cls := "BeltSumsModel", name := "batch", desc := "(I)I" } : Jvm.MethodName)) ∈ tblG := tG 836 (by decide +kernel) rfl
theorem t837 : (Cond.instanceMethod ({ cls := "BeltSumsModel", name := "batch", desc := "(I)I" } : Jvm.MethodName)) ∈ tblG := tG 837 (by decide +kernel) rfl
theorem t838 : (Cond.selects "BeltSumsModel" ({ cls := "BeltSumsModel", name := "batch", desc := "(I)I" } : Jvm.MethodName) ({ cls := "BeltSumsModel", name := "batch", desc := "(I)I" } : Jvm.MethodName)) ∈ tblG := tG 838 (by decide +kernel) rfl
theorem t839 : (Cond.code ({ cls := "BeltSumsModel", name := "batch", desc := "(I)I" } : Jvm.MethodName) prog_13_method_12_code (2 : Nat) (Option.some Jvm.ClassFile.FieldType.int)) ∈ tblG := tG 839 (by decide +kernel) rfl
theorem t840 : (Cond.methodLink "BeltSumsModel" (51 : Nat) ({ cls := "BeltSumsModel", name := "mass", desc := "(II)I" } : Jvm.MethodName)) ∈ tblG := tG 840 (by decide +kernel) rfl
theorem t842 : (Cond.instanceMethod ({ cls := "BeltSumsModel", name := "mass", desc := "(II)I" } : Jvm.MethodName)) ∈ tblG := tG 842 (by decide +kernel) rfl
theorem t843 : (Cond.code ({ cls := "BeltSumsModel", name := "mass", desc := "(II)I" } : Jvm.MethodName) prog_13_method_11_code (5 : Nat) (Option.some Jvm.ClassFile.FieldType.int)) ∈ tblG := tG 843 (by decide +kernel) rfl
theorem t844 : (Cond.methodLink "BeltSumsLaw" (39 : Nat) ({ cls := "BeltSumsModel", name := "tick", desc := "(I)I" } : Jvm.MethodName)) ∈ tblG := tG 844 (by decide +kernel) rfl
theorem t845 : (Cond.instanceMethod ({ cls := "BeltSumsModel", name := "tick", desc := "(I)I" } : Jvm.MethodName)) ∈ tblG := tG 845 (by decide +kernel) rfl
theorem t846 : (Cond.selects "BeltSumsModel" ({ cls := "BeltSumsModel", name := "tick", desc := "(I)I" } : Jvm.MethodName) ({ cls := "BeltSumsModel", name := "tick", desc := "(I)I" } : Jvm.MethodName)) ∈ tblG := tG 846 (by decide +kernel) rfl
theorem t847 : (Cond.code ({ cls := "BeltSumsModel", name := "tick", desc := "(I)I" } : Jvm.MethodName) prog_13_method_19_code (4 : Nat) (Option.some Jvm.ClassFile.FieldType.int)) ∈ tblG := tG 847 (by decide +kernel) rfl
theorem t848 : (Cond.methodLink "BeltSumsModel" (71 : Nat) ({ cls := "BeltSumsModel", name := "ticks", desc := "()V" } : Jvm.MethodName)) ∈ tblG := tG 848 (by decide +kernel) rfl
theorem t850 : (Cond.instanceMethod ({ cls := "BeltSumsModel", name := "ticks", desc := "()V" } : Jvm.MethodName)) ∈ tblG := tG 850 (by decide +kernel) rfl
theorem t851 : (Cond.code ({ cls := "BeltSumsModel", name := "ticks", desc := "()V" } : Jvm.MethodName) prog_13_method_18_code (1 : Nat) (Option.none : Option Jvm.ClassFile.FieldType)) ∈ tblG := tG 851 (by decide +kernel) rfl
theorem t852 : (Cond.methodLink "BeltSumsModel" (68 : Nat) ({ cls := "BeltSumsModel", name := "goes", desc := "()V" } : Jvm.MethodName)) ∈ tblG := tG 852 (by decide +kernel) rfl
theorem t854 : (Cond.instanceMethod ({ cls := "BeltSumsModel", name := "goes", desc := "()V" } : Jvm.MethodName)) ∈ tblG := tG 854 (by decide +kernel) rfl
theorem t855 : (Cond.code ({ cls := "BeltSumsModel", name := "goes", desc := "()V" } : Jvm.MethodName) prog_13_method_17_code (2 : Nat) (Option.none : Option Jvm.ClassFile.FieldType)) ∈ tblG := tG 855 (by decide +kernel) rfl
theorem t856 : (Cond.methodLink "BeltSumsModel" (59 : Nat) ({ cls := "BeltSumsModel", name := "falls", desc := "()V" } : Jvm.MethodName)) ∈ tblG := tG 856 (by decide +kernel) rfl
theorem t858 : (Cond.instanceMethod ({ cls := "BeltSumsModel", name := "falls", desc := "()V" } : Jvm.MethodName)) ∈ tblG := tG 858 (by decide +kernel) rfl
theorem t859 : (Cond.code ({ cls := "BeltSumsModel", name := "falls", desc := "()V" } : Jvm.MethodName) prog_13_method_13_code (5 : Nat) (Option.none : Option Jvm.ClassFile.FieldType)) ∈ tblG := tG 859 (by decide +kernel) rfl
theorem t860 : (Cond.methodLink "BeltSumsModel" (62 : Nat) ({ cls := "BeltSumsModel", name := "feeds", desc := "()V" } : Jvm.MethodName)) ∈ tblG := tG 860 (by decide +kernel) rfl
theorem t862 : (Cond.instanceMethod ({ cls := "BeltSumsModel", name := "feeds", desc := "()V" } : Jvm.MethodName)) ∈ tblG := tG 862 (by decide +kernel) rfl
theorem t863 : (Cond.code ({ cls := "BeltSumsModel", name := "feeds", desc := "()V" } : Jvm.MethodName) prog_13_method_14_code (5 : Nat) (Option.none : Option Jvm.ClassFile.FieldType)) ∈ tblG := tG 863 (by decide +kernel) rfl
theorem t864 : (Cond.methodLink "BeltSumsModel" (65 : Nat) ({ cls := "BeltSumsModel", name := "reads", desc := "()V" } : Jvm.MethodName)) ∈ tblG := tG 864 (by decide +kernel) rfl
theorem t866 : (Cond.instanceMethod ({ cls := "BeltSumsModel", name := "reads", desc := "()V" } : Jvm.MethodName)) ∈ tblG := tG 866 (by decide +kernel) rfl
theorem t867 : (Cond.code ({ cls := "BeltSumsModel", name := "reads", desc := "()V" } : Jvm.MethodName) prog_13_method_16_code (2 : Nat) (Option.none : Option Jvm.ClassFile.FieldType)) ∈ tblG := tG 867 (by decide +kernel) rfl
theorem t868 : (Cond.methodLink "BeltSumsModel" (55 : Nat) ({ cls := "BeltSumsModel", name := "reading", desc := "()I" } : Jvm.MethodName)) ∈ tblG := tG 868 (by decide +kernel) rfl
theorem t870 : (Cond.instanceMethod ({ cls := "BeltSumsModel", name := "reading", desc := "()I" } : Jvm.MethodName)) ∈ tblG := tG 870 (by decide +kernel) rfl
theorem t871 : (Cond.code ({ cls := "BeltSumsModel", name := "reading", desc := "()I" } : Jvm.MethodName) prog_13_method_15_code (1 : Nat) (Option.some Jvm.ClassFile.FieldType.int)) ∈ tblG := tG 871 (by decide +kernel) rfl
theorem t872 : (Cond.methodLink "BeltSumsLaw" (43 : Nat) ({ cls := "BeltSumsModel", name := "zero", desc := "()I" } : Jvm.MethodName)) ∈ tblG := tG 872 (by decide +kernel) rfl
theorem t873 : (Cond.instanceMethod ({ cls := "BeltSumsModel", name := "zero", desc := "()I" } : Jvm.MethodName)) ∈ tblG := tG 873 (by decide +kernel) rfl
theorem t874 : (Cond.selects "BeltSumsModel" ({ cls := "BeltSumsModel", name := "zero", desc := "()I" } : Jvm.MethodName) ({ cls := "BeltSumsModel", name := "zero", desc := "()I" } : Jvm.MethodName)) ∈ tblG := tG 874 (by decide +kernel) rfl
theorem t875 : (Cond.code ({ cls := "BeltSumsModel", name := "zero", desc := "()I" } : Jvm.MethodName) prog_13_method_20_code (2 : Nat) (Option.some Jvm.ClassFile.FieldType.int)) ∈ tblG := tG 875 (by decide +kernel) rfl
theorem t876 : (Cond.constant "BeltSumsModel" (74 : Nat) (1000000 : Int32)) ∈ tblG := tG 876 (by decide +kernel) rfl
theorem t877 : (Cond.methodLink "BeltSumsLaw" (47 : Nat) ({ cls := "BeltSumsModel", name := "correct", desc := "(I)I" } : Jvm.MethodName)) ∈ tblG := tG 877 (by decide +kernel) rfl
theorem t878 : (Cond.instanceMethod ({ cls := "BeltSumsModel", name := "correct", desc := "(I)I" } : Jvm.MethodName)) ∈ tblG := tG 878 (by decide +kernel) rfl
theorem t879 : (Cond.selects "BeltSumsModel" ({ cls := "BeltSumsModel", name := "correct", desc := "(I)I" } : Jvm.MethodName) ({ cls := "BeltSumsModel", name := "correct", desc := "(I)I" } : Jvm.MethodName)) ∈ tblG := tG 879 (by decide +kernel) rfl
theorem t880 : (Cond.code ({ cls := "BeltSumsModel", name := "correct", desc := "(I)I" } : Jvm.MethodName) prog_13_method_23_code (5 : Nat) (Option.some Jvm.ClassFile.FieldType.int)) ∈ tblG := tG 880 (by decide +kernel) rfl
theorem t881 : (Cond.methodLink "BeltSumsModel" (75 : Nat) ({ cls := "BeltSumsModel", name := "isBin", desc := "(I)Z" } : Jvm.MethodName)) ∈ tblG := tG 881 (by decide +kernel) rfl
theorem t883 : (Cond.instanceMethod ({ cls := "BeltSumsModel", name := "isBin", desc := "(I)Z" } : Jvm.MethodName)) ∈ tblG := tG 883 (by decide +kernel) rfl
theorem t884 : (Cond.code ({ cls := "BeltSumsModel", name := "isBin", desc := "(I)Z" } : Jvm.MethodName) prog_13_method_21_code (2 : Nat) (Option.some Jvm.ClassFile.FieldType.boolean)) ∈ tblG := tG 884 (by decide +kernel) rfl
theorem t885 : (Cond.constantLong "BeltSumsModel" (79 : Nat) (1000 : Int64)) ∈ tblG := tG 885 (by decide +kernel) rfl
theorem t886 : (Cond.methodLink "BeltSumsModel" (81 : Nat) ({ cls := "BeltSumsModel", name := "binMass", desc := "(I)I" } : Jvm.MethodName)) ∈ tblG := tG 886 (by decide +kernel) rfl
theorem t888 : (Cond.instanceMethod ({ cls := "BeltSumsModel", name := "binMass", desc := "(I)I" } : Jvm.MethodName)) ∈ tblG := tG 888 (by decide +kernel) rfl
theorem t889 : (Cond.code ({ cls := "BeltSumsModel", name := "binMass", desc := "(I)I" } : Jvm.MethodName) prog_13_method_22_code (3 : Nat) (Option.some Jvm.ClassFile.FieldType.int)) ∈ tblG := tG 889 (by decide +kernel) rfl
theorem t890 : (Cond.constantLong "BeltSumsModel" (85 : Nat) (500 : Int64)) ∈ tblG := tG 890 (by decide +kernel) rfl
theorem t891 : (Cond.constantLong "BeltSumsModel" (87 : Nat) (2000 : Int64)) ∈ tblG := tG 891 (by decide +kernel) rfl
theorem t892 : (Cond.methodLink "BeltSumsLaw" (51 : Nat) ({ cls := "BeltSumsModel", name := "set", desc := "(II)I" } : Jvm.MethodName)) ∈ tblG := tG 892 (by decide +kernel) rfl
theorem t893 : (Cond.instanceMethod ({ cls := "BeltSumsModel", name := "set", desc := "(II)I" } : Jvm.MethodName)) ∈ tblG := tG 893 (by decide +kernel) rfl
theorem t894 : (Cond.selects "BeltSumsModel" ({ cls := "BeltSumsModel", name := "set", desc := "(II)I" } : Jvm.MethodName) ({ cls := "BeltSumsModel", name := "set", desc := "(II)I" } : Jvm.MethodName)) ∈ tblG := tG 894 (by decide +kernel) rfl
theorem t895 : (Cond.code ({ cls := "BeltSumsModel", name := "set", desc := "(II)I" } : Jvm.MethodName) prog_13_method_24_code (4 : Nat) (Option.some Jvm.ClassFile.FieldType.int)) ∈ tblG := tG 895 (by decide +kernel) rfl
theorem t896 : (Cond.methodLink "BeltSumsLaw" (55 : Nat) ({ cls := "BeltSumsModel", name := "account", desc := "(I)I" } : Jvm.MethodName)) ∈ tblG := tG 896 (by decide +kernel) rfl
theorem t897 : (Cond.instanceMethod ({ cls := "BeltSumsModel", name := "account", desc := "(I)I" } : Jvm.MethodName)) ∈ tblG := tG 897 (by decide +kernel) rfl
theorem t898 : (Cond.selects "BeltSumsModel" ({ cls := "BeltSumsModel", name := "account", desc := "(I)I" } : Jvm.MethodName) ({ cls := "BeltSumsModel", name := "account", desc := "(I)I" } : Jvm.MethodName)) ∈ tblG := tG 898 (by decide +kernel) rfl
theorem t899 : (Cond.code ({ cls := "BeltSumsModel", name := "account", desc := "(I)I" } : Jvm.MethodName) prog_13_method_26_code (3 : Nat) (Option.some Jvm.ClassFile.FieldType.int)) ∈ tblG := tG 899 (by decide +kernel) rfl
theorem t900 : (Cond.methodLink "BeltSumsModel" (89 : Nat) ({ cls := "BeltSumsModel", name := "isAccount", desc := "(I)Z" } : Jvm.MethodName)) ∈ tblG := tG 900 (by decide +kernel) rfl
theorem t902 : (Cond.instanceMethod ({ cls := "BeltSumsModel", name := "isAccount", desc := "(I)Z" } : Jvm.MethodName)) ∈ tblG := tG 902 (by decide +kernel) rfl
theorem t903 : (Cond.code ({ cls := "BeltSumsModel", name := "isAccount", desc := "(I)Z" } : Jvm.MethodName) prog_13_method_25_code (2 : Nat) (Option.some Jvm.ClassFile.FieldType.boolean)) ∈ tblG := tG 903 (by decide +kernel) rfl
theorem t904 : (Cond.methodLink "BeltSumsLaw" (59 : Nat) ({ cls := "BeltSumsModel", name := "book", desc := "(II)I" } : Jvm.MethodName)) ∈ tblG := tG 904 (by decide +kernel) rfl
theorem t905 : (Cond.instanceMethod ({ cls := "BeltSumsModel", name := "book", desc := "(II)I" } : Jvm.MethodName)) ∈ tblG := tG 905 (by decide +kernel) rfl
theorem t906 : (Cond.selects "BeltSumsModel" ({ cls := "BeltSumsModel", name := "book", desc := "(II)I" } : Jvm.MethodName) ({ cls := "BeltSumsModel", name := "book", desc := "(II)I" } : Jvm.MethodName)) ∈ tblG := tG 906 (by decide +kernel) rfl
theorem t907 : (Cond.code ({ cls := "BeltSumsModel", name := "book", desc := "(II)I" } : Jvm.MethodName) prog_13_method_27_code (4 : Nat) (Option.some Jvm.ClassFile.FieldType.int)) ∈ tblG := tG 907 (by decide +kernel) rfl
theorem t908 : (Cond.methodLink "BeltSumsLaw" (63 : Nat) ({ cls := "BeltSumsModel", name := "accountOf", desc := "(II)I" } : Jvm.MethodName)) ∈ tblG := tG 908 (by decide +kernel) rfl
theorem t909 : (Cond.instanceMethod ({ cls := "BeltSumsModel", name := "accountOf", desc := "(II)I" } : Jvm.MethodName)) ∈ tblG := tG 909 (by decide +kernel) rfl
theorem t910 : (Cond.selects "BeltSumsModel" ({ cls := "BeltSumsModel", name := "accountOf", desc := "(II)I" } : Jvm.MethodName) ({ cls := "BeltSumsModel", name := "accountOf", desc := "(II)I" } : Jvm.MethodName)) ∈ tblG := tG 910 (by decide +kernel) rfl
theorem t911 : (Cond.code ({ cls := "BeltSumsModel", name := "accountOf", desc := "(II)I" } : Jvm.MethodName) prog_13_method_30_code (7 : Nat) (Option.some Jvm.ClassFile.FieldType.int)) ∈ tblG := tG 911 (by decide +kernel) rfl
theorem t912 : (Cond.methodLink "BeltSumsModel" (92 : Nat) ({ cls := "BeltSumsModel", name := "isUnder", desc := "(II)Z" } : Jvm.MethodName)) ∈ tblG := tG 912 (by decide +kernel) rfl
theorem t914 : (Cond.instanceMethod ({ cls := "BeltSumsModel", name := "isUnder", desc := "(II)Z" } : Jvm.MethodName)) ∈ tblG := tG 914 (by decide +kernel) rfl
theorem t915 : (Cond.code ({ cls := "BeltSumsModel", name := "isUnder", desc := "(II)Z" } : Jvm.MethodName) prog_13_method_28_code (4 : Nat) (Option.some Jvm.ClassFile.FieldType.boolean)) ∈ tblG := tG 915 (by decide +kernel) rfl
theorem t916 : (Cond.methodLink "BeltSumsModel" (96 : Nat) ({ cls := "BeltSumsModel", name := "depth", desc := "(I)I" } : Jvm.MethodName)) ∈ tblG := tG 916 (by decide +kernel) rfl
theorem t918 : (Cond.instanceMethod ({ cls := "BeltSumsModel", name := "depth", desc := "(I)I" } : Jvm.MethodName)) ∈ tblG := tG 918 (by decide +kernel) rfl
theorem t919 : (Cond.code ({ cls := "BeltSumsModel", name := "depth", desc := "(I)I" } : Jvm.MethodName) prog_13_method_29_code (4 : Nat) (Option.some Jvm.ClassFile.FieldType.int)) ∈ tblG := tG 919 (by decide +kernel) rfl
theorem t920 : (Cond.methodLink "BeltSumsLaw" (67 : Nat) ({ cls := "BeltSumsModel", name := "massAt", desc := "(II)I" } : Jvm.MethodName)) ∈ tblG := tG 920 (by decide +kernel) rfl
theorem t921 : (Cond.instanceMethod ({ cls := "BeltSumsModel", name := "massAt", desc := "(II)I" } : Jvm.MethodName)) ∈ tblG := tG 921 (by decide +kernel) rfl
theorem t922 : (Cond.selects "BeltSumsModel" ({ cls := "BeltSumsModel", name := "massAt", desc := "(II)I" } : Jvm.MethodName) ({ cls := "BeltSumsModel", name := "massAt", desc := "(II)I" } : Jvm.MethodName)) ∈ tblG := tG 922 (by decide +kernel) rfl
theorem t923 : (Cond.code ({ cls := "BeltSumsModel", name := "massAt", desc := "(II)I" } : Jvm.MethodName) prog_13_method_31_code (3 : Nat) (Option.some Jvm.ClassFile.FieldType.int)) ∈ tblG := tG 923 (by decide +kernel) rfl
theorem t924 : (Cond.methodLink "BeltSumsLaw" (71 : Nat) ({ cls := "BeltSumsModel", name := "lotOf", desc := "(II)I" } : Jvm.MethodName)) ∈ tblG := tG 924 (by decide +kernel) rfl
theorem t925 : (Cond.instanceMethod ({ cls := "BeltSumsModel", name := "lotOf", desc := "(II)I" } : Jvm.MethodName)) ∈ tblG := tG 925 (by decide +kernel) rfl
theorem t926 : (Cond.selects "BeltSumsModel" ({ cls := "BeltSumsModel", name := "lotOf", desc := "(II)I" } : Jvm.MethodName) ({ cls := "BeltSumsModel", name := "lotOf", desc := "(II)I" } : Jvm.MethodName)) ∈ tblG := tG 926 (by decide +kernel) rfl
theorem t927 : (Cond.code ({ cls := "BeltSumsModel", name := "lotOf", desc := "(II)I" } : Jvm.MethodName) prog_13_method_32_code (3 : Nat) (Option.some Jvm.ClassFile.FieldType.int)) ∈ tblG := tG 927 (by decide +kernel) rfl
theorem t928 : (Cond.methodLink "BeltSumsLaw" (75 : Nat) ({ cls := "BeltSumsModel", name := "binOf", desc := "(II)I" } : Jvm.MethodName)) ∈ tblG := tG 928 (by decide +kernel) rfl
theorem t929 : (Cond.instanceMethod ({ cls := "BeltSumsModel", name := "binOf", desc := "(II)I" } : Jvm.MethodName)) ∈ tblG := tG 929 (by decide +kernel) rfl
theorem t930 : (Cond.selects "BeltSumsModel" ({ cls := "BeltSumsModel", name := "binOf", desc := "(II)I" } : Jvm.MethodName) ({ cls := "BeltSumsModel", name := "binOf", desc := "(II)I" } : Jvm.MethodName)) ∈ tblG := tG 930 (by decide +kernel) rfl
theorem t931 : (Cond.code ({ cls := "BeltSumsModel", name := "binOf", desc := "(II)I" } : Jvm.MethodName) prog_13_method_33_code (3 : Nat) (Option.some Jvm.ClassFile.FieldType.int)) ∈ tblG := tG 931 (by decide +kernel) rfl
theorem t932 : (Cond.constant "BeltSumsModel" (99 : Nat) (1000000000 : Int32)) ∈ tblG := tG 932 (by decide +kernel) rfl
theorem t933 : (Cond.methodLink "BeltSumsLaw" (79 : Nat) ({ cls := "BeltSumsModel", name := "scale", desc := "(I)I" } : Jvm.MethodName)) ∈ tblG := tG 933 (by decide +kernel) rfl
theorem t934 : (Cond.instanceMethod ({ cls := "BeltSumsModel", name := "scale", desc := "(I)I" } : Jvm.MethodName)) ∈ tblG := tG 934 (by decide +kernel) rfl
theorem t935 : (Cond.selects "BeltSumsModel" ({ cls := "BeltSumsModel", name := "scale", desc := "(I)I" } : Jvm.MethodName) ({ cls := "BeltSumsModel", name := "scale", desc := "(I)I" } : Jvm.MethodName)) ∈ tblG := tG 935 (by decide +kernel) rfl
theorem t936 : (Cond.code ({ cls := "BeltSumsModel", name := "scale", desc := "(I)I" } : Jvm.MethodName) prog_13_method_35_code (2 : Nat) (Option.some Jvm.ClassFile.FieldType.int)) ∈ tblG := tG 936 (by decide +kernel) rfl
theorem t937 : (Cond.methodLink "BeltSumsModel" (100 : Nat) ({ cls := "BeltSumsModel", name := "total", desc := "()I" } : Jvm.MethodName)) ∈ tblG := tG 937 (by decide +kernel) rfl
theorem t939 : (Cond.instanceMethod ({ cls := "BeltSumsModel", name := "total", desc := "()I" } : Jvm.MethodName)) ∈ tblG := tG 939 (by decide +kernel) rfl
theorem t940 : (Cond.code ({ cls := "BeltSumsModel", name := "total", desc := "()I" } : Jvm.MethodName) prog_13_method_34_code (1 : Nat) (Option.some Jvm.ClassFile.FieldType.int)) ∈ tblG := tG 940 (by decide +kernel) rfl
theorem t941 : (Cond.methodLink "BeltSumsLaw" (83 : Nat) ({ cls := "BeltSumsModel", name := "count", desc := "(I)I" } : Jvm.MethodName)) ∈ tblG := tG 941 (by decide +kernel) rfl
theorem t942 : (Cond.instanceMethod ({ cls := "BeltSumsModel", name := "count", desc := "(I)I" } : Jvm.MethodName)) ∈ tblG := tG 942 (by decide +kernel) rfl
theorem t943 : (Cond.selects "BeltSumsModel" ({ cls := "BeltSumsModel", name := "count", desc := "(I)I" } : Jvm.MethodName) ({ cls := "BeltSumsModel", name := "count", desc := "(I)I" } : Jvm.MethodName)) ∈ tblG := tG 943 (by decide +kernel) rfl
theorem t944 : (Cond.code ({ cls := "BeltSumsModel", name := "count", desc := "(I)I" } : Jvm.MethodName) prog_13_method_39_code (2 : Nat) (Option.some Jvm.ClassFile.FieldType.int)) ∈ tblG := tG 944 (by decide +kernel) rfl
theorem t945 : (Cond.methodLink "BeltSumsModel" (103 : Nat) ({ cls := "BeltSumsModel", name := "batchTold", desc := "(I)I" } : Jvm.MethodName)) ∈ tblG := tG 945 (by decide +kernel) rfl
theorem t947 : (Cond.instanceMethod ({ cls := "BeltSumsModel", name := "batchTold", desc := "(I)I" } : Jvm.MethodName)) ∈ tblG := tG 947 (by decide +kernel) rfl
theorem t948 : (Cond.code ({ cls := "BeltSumsModel", name := "batchTold", desc := "(I)I" } : Jvm.MethodName) prog_13_method_38_code (2 : Nat) (Option.some Jvm.ClassFile.FieldType.int)) ∈ tblG := tG 948 (by decide +kernel) rfl
theorem t949 : (Cond.methodLink "BeltSumsModel" (106 : Nat) ({ cls := "BeltSumsModel", name := "hopper", desc := "()I" } : Jvm.MethodName)) ∈ tblG := tG 949 (by decide +kernel) rfl
theorem t951 : (Cond.instanceMethod ({ cls := "BeltSumsModel", name := "hopper", desc := "()I" } : Jvm.MethodName)) ∈ tblG := tG 951 (by decide +kernel) rfl
theorem t952 : (Cond.code ({ cls := "BeltSumsModel", name := "hopper", desc := "()I" } : Jvm.MethodName) prog_13_method_36_code (3 : Nat) (Option.some Jvm.ClassFile.FieldType.int)) ∈ tblG := tG 952 (by decide +kernel) rfl
theorem t953 : (Cond.methodLink "BeltSumsModel" (109 : Nat) ({ cls := "BeltSumsModel", name := "inBins", desc := "()I" } : Jvm.MethodName)) ∈ tblG := tG 953 (by decide +kernel) rfl
theorem t955 : (Cond.instanceMethod ({ cls := "BeltSumsModel", name := "inBins", desc := "()I" } : Jvm.MethodName)) ∈ tblG := tG 955 (by decide +kernel) rfl
theorem t956 : (Cond.code ({ cls := "BeltSumsModel", name := "inBins", desc := "()I" } : Jvm.MethodName) prog_13_method_37_code (3 : Nat) (Option.some Jvm.ClassFile.FieldType.int)) ∈ tblG := tG 956 (by decide +kernel) rfl
theorem t957 : (Cond.methodLink "BeltSumsLaw" (87 : Nat) ({ cls := "BeltSumsModel", name := "batchIn", desc := "()I" } : Jvm.MethodName)) ∈ tblG := tG 957 (by decide +kernel) rfl
theorem t958 : (Cond.instanceMethod ({ cls := "BeltSumsModel", name := "batchIn", desc := "()I" } : Jvm.MethodName)) ∈ tblG := tG 958 (by decide +kernel) rfl
theorem t959 : (Cond.selects "BeltSumsModel" ({ cls := "BeltSumsModel", name := "batchIn", desc := "()I" } : Jvm.MethodName) ({ cls := "BeltSumsModel", name := "batchIn", desc := "()I" } : Jvm.MethodName)) ∈ tblG := tG 959 (by decide +kernel) rfl
theorem t960 : (Cond.code ({ cls := "BeltSumsModel", name := "batchIn", desc := "()I" } : Jvm.MethodName) prog_13_method_41_code (1 : Nat) (Option.some Jvm.ClassFile.FieldType.int)) ∈ tblG := tG 960 (by decide +kernel) rfl
theorem t961 : (Cond.methodLink "BeltSumsModel" (122 : Nat) ({ cls := "BeltSumsModel", name := "lasts", desc := "()I" } : Jvm.MethodName)) ∈ tblG := tG 961 (by decide +kernel) rfl
theorem t963 : (Cond.instanceMethod ({ cls := "BeltSumsModel", name := "lasts", desc := "()I" } : Jvm.MethodName)) ∈ tblG := tG 963 (by decide +kernel) rfl
theorem t964 : (Cond.code ({ cls := "BeltSumsModel", name := "lasts", desc := "()I" } : Jvm.MethodName) prog_13_method_40_code (3 : Nat) (Option.some Jvm.ClassFile.FieldType.int)) ∈ tblG := tG 964 (by decide +kernel) rfl
theorem t965 : (Cond.methodLink "BeltSumsModel" (115 : Nat) ({ cls := "BeltSumsModel", name := "copies", desc := "([I[I)V" } : Jvm.MethodName)) ∈ tblG := tG 965 (by decide +kernel) rfl
theorem t966 : (Cond.static ({ cls := "BeltSumsModel", name := "copies", desc := "([I[I)V" } : Jvm.MethodName)) ∈ tblG := tG 966 (by decide +kernel) rfl
theorem t967 : (Cond.code ({ cls := "BeltSumsModel", name := "copies", desc := "([I[I)V" } : Jvm.MethodName) prog_13_method_4_code (3 : Nat) (Option.none : Option Jvm.ClassFile.FieldType)) ∈ tblG := tG 967 (by decide +kernel) rfl
theorem t968 : (Cond.methodLink "BeltSumsLaw" (91 : Nat) ({ cls := "BeltSumsModel", name := "batchOut", desc := "()I" } : Jvm.MethodName)) ∈ tblG := tG 968 (by decide +kernel) rfl
theorem t969 : (Cond.instanceMethod ({ cls := "BeltSumsModel", name := "batchOut", desc := "()I" } : Jvm.MethodName)) ∈ tblG := tG 969 (by decide +kernel) rfl
theorem t970 : (Cond.selects "BeltSumsModel" ({ cls := "BeltSumsModel", name := "batchOut", desc := "()I" } : Jvm.MethodName) ({ cls := "BeltSumsModel", name := "batchOut", desc := "()I" } : Jvm.MethodName)) ∈ tblG := tG 970 (by decide +kernel) rfl
theorem t971 : (Cond.code ({ cls := "BeltSumsModel", name := "batchOut", desc := "()I" } : Jvm.MethodName) prog_13_method_42_code (1 : Nat) (Option.some Jvm.ClassFile.FieldType.int)) ∈ tblG := tG 971 (by decide +kernel) rfl
theorem t972 : (Cond.methodLink "BeltSumsLaw" (95 : Nat) ({ cls := "BeltSumsModel", name := "error", desc := "()I" } : Jvm.MethodName)) ∈ tblG := tG 972 (by decide +kernel) rfl
theorem t973 : (Cond.instanceMethod ({ cls := "BeltSumsModel", name := "error", desc := "()I" } : Jvm.MethodName)) ∈ tblG := tG 973 (by decide +kernel) rfl
theorem t974 : (Cond.selects "BeltSumsModel" ({ cls := "BeltSumsModel", name := "error", desc := "()I" } : Jvm.MethodName) ({ cls := "BeltSumsModel", name := "error", desc := "()I" } : Jvm.MethodName)) ∈ tblG := tG 974 (by decide +kernel) rfl
theorem t975 : (Cond.code ({ cls := "BeltSumsModel", name := "error", desc := "()I" } : Jvm.MethodName) prog_13_method_43_code (1 : Nat) (Option.some Jvm.ClassFile.FieldType.int)) ∈ tblG := tG 975 (by decide +kernel) rfl
theorem t976 : (Cond.methodLink "BeltSumsLaw" (99 : Nat) ({ cls := "BeltSumsModel", name := "undo", desc := "()I" } : Jvm.MethodName)) ∈ tblG := tG 976 (by decide +kernel) rfl
theorem t977 : (Cond.instanceMethod ({ cls := "BeltSumsModel", name := "undo", desc := "()I" } : Jvm.MethodName)) ∈ tblG := tG 977 (by decide +kernel) rfl
theorem t978 : (Cond.selects "BeltSumsModel" ({ cls := "BeltSumsModel", name := "undo", desc := "()I" } : Jvm.MethodName) ({ cls := "BeltSumsModel", name := "undo", desc := "()I" } : Jvm.MethodName)) ∈ tblG := tG 978 (by decide +kernel) rfl
theorem t979 : (Cond.code ({ cls := "BeltSumsModel", name := "undo", desc := "()I" } : Jvm.MethodName) prog_13_method_44_code (2 : Nat) (Option.some Jvm.ClassFile.FieldType.int)) ∈ tblG := tG 979 (by decide +kernel) rfl
theorem t980 : (Cond.methodLink "BeltSumsLaw" (103 : Nat) ({ cls := "BeltSumsModel", name := "type", desc := "(I)I" } : Jvm.MethodName)) ∈ tblG := tG 980 (by decide +kernel) rfl
theorem t981 : (Cond.instanceMethod ({ cls := "BeltSumsModel", name := "type", desc := "(I)I" } : Jvm.MethodName)) ∈ tblG := tG 981 (by decide +kernel) rfl
theorem t982 : (Cond.selects "BeltSumsModel" ({ cls := "BeltSumsModel", name := "type", desc := "(I)I" } : Jvm.MethodName) ({ cls := "BeltSumsModel", name := "type", desc := "(I)I" } : Jvm.MethodName)) ∈ tblG := tG 982 (by decide +kernel) rfl
theorem t983 : (Cond.code ({ cls := "BeltSumsModel", name := "type", desc := "(I)I" } : Jvm.MethodName) prog_13_method_45_code (2 : Nat) (Option.some Jvm.ClassFile.FieldType.int)) ∈ tblG := tG 983 (by decide +kernel) rfl
theorem t984 : (Cond.methodLink "BeltSumsLaw" (107 : Nat) ({ cls := "BeltSumsModel", name := "clearText", desc := "()I" } : Jvm.MethodName)) ∈ tblG := tG 984 (by decide +kernel) rfl
theorem t985 : (Cond.instanceMethod ({ cls := "BeltSumsModel", name := "clearText", desc := "()I" } : Jvm.MethodName)) ∈ tblG := tG 985 (by decide +kernel) rfl
theorem t986 : (Cond.selects "BeltSumsModel" ({ cls := "BeltSumsModel", name := "clearText", desc := "()I" } : Jvm.MethodName) ({ cls := "BeltSumsModel", name := "clearText", desc := "()I" } : Jvm.MethodName)) ∈ tblG := tG 986 (by decide +kernel) rfl
theorem t987 : (Cond.code ({ cls := "BeltSumsModel", name := "clearText", desc := "()I" } : Jvm.MethodName) prog_13_method_46_code (2 : Nat) (Option.some Jvm.ClassFile.FieldType.int)) ∈ tblG := tG 987 (by decide +kernel) rfl
theorem t988 : (Cond.methodLink "BeltSumsLaw" (111 : Nat) ({ cls := "BeltSumsModel", name := "fault", desc := "(I)I" } : Jvm.MethodName)) ∈ tblG := tG 988 (by decide +kernel) rfl
theorem t989 : (Cond.instanceMethod ({ cls := "BeltSumsModel", name := "fault", desc := "(I)I" } : Jvm.MethodName)) ∈ tblG := tG 989 (by decide +kernel) rfl
theorem t990 : (Cond.selects "BeltSumsModel" ({ cls := "BeltSumsModel", name := "fault", desc := "(I)I" } : Jvm.MethodName) ({ cls := "BeltSumsModel", name := "fault", desc := "(I)I" } : Jvm.MethodName)) ∈ tblG := tG 990 (by decide +kernel) rfl
theorem t991 : (Cond.code ({ cls := "BeltSumsModel", name := "fault", desc := "(I)I" } : Jvm.MethodName) prog_13_method_53_code (3 : Nat) (Option.some Jvm.ClassFile.FieldType.int)) ∈ tblG := tG 991 (by decide +kernel) rfl
theorem t992 : (Cond.methodLink "BeltSumsModel" (176 : Nat) ({ cls := "BeltSumsModel", name := "plays", desc := "()I" } : Jvm.MethodName)) ∈ tblG := tG 992 (by decide +kernel) rfl
theorem t994 : (Cond.instanceMethod ({ cls := "BeltSumsModel", name := "plays", desc := "()I" } : Jvm.MethodName)) ∈ tblG := tG 994 (by decide +kernel) rfl
theorem t995 : (Cond.code ({ cls := "BeltSumsModel", name := "plays", desc := "()I" } : Jvm.MethodName) prog_13_method_52_code (4 : Nat) (Option.some Jvm.ClassFile.FieldType.int)) ∈ tblG := tG 995 (by decide +kernel) rfl
theorem t996 : (Cond.methodLink "BeltSumsModel" (167 : Nat) ({ cls := "BeltSumsModel", name := "parses", desc := "()Z" } : Jvm.MethodName)) ∈ tblG := tG 996 (by decide +kernel) rfl
theorem t998 : (Cond.instanceMethod ({ cls := "BeltSumsModel", name := "parses", desc := "()Z" } : Jvm.MethodName)) ∈ tblG := tG 998 (by decide +kernel) rfl
theorem t999 : (Cond.code ({ cls := "BeltSumsModel", name := "parses", desc := "()Z" } : Jvm.MethodName) prog_13_method_50_code (1 : Nat) (Option.some Jvm.ClassFile.FieldType.boolean)) ∈ tblG := tG 999 (by decide +kernel) rfl
theorem t1000 : (Cond.methodLink "BeltSumsModel" (134 : Nat) ({ cls := "BeltSumsModel", name := "passes", desc := "(I)Z" } : Jvm.MethodName)) ∈ tblG := tG 1000 (by decide +kernel) rfl
theorem t1002 : (Cond.instanceMethod ({ cls := "BeltSumsModel", name := "passes", desc := "(I)Z" } : Jvm.MethodName)) ∈ tblG := tG 1002 (by decide +kernel) rfl
theorem t1003 : (Cond.code ({ cls := "BeltSumsModel", name := "passes", desc := "(I)Z" } : Jvm.MethodName) prog_13_method_48_code (3 : Nat) (Option.some Jvm.ClassFile.FieldType.boolean)) ∈ tblG := tG 1003 (by decide +kernel) rfl
theorem t1004 : (Cond.methodLink "BeltSumsModel" (128 : Nat) ({ cls := "BeltSumsModel", name := "isAt", desc := "(II)Z" } : Jvm.MethodName)) ∈ tblG := tG 1004 (by decide +kernel) rfl
theorem t1006 : (Cond.instanceMethod ({ cls := "BeltSumsModel", name := "isAt", desc := "(II)Z" } : Jvm.MethodName)) ∈ tblG := tG 1006 (by decide +kernel) rfl
theorem t1007 : (Cond.code ({ cls := "BeltSumsModel", name := "isAt", desc := "(II)Z" } : Jvm.MethodName) prog_13_method_47_code (3 : Nat) (Option.some Jvm.ClassFile.FieldType.boolean)) ∈ tblG := tG 1007 (by decide +kernel) rfl
theorem t1008 : (Cond.methodLink "BeltSumsModel" (137 : Nat) ({ cls := "BeltSumsModel", name := "number", desc := "(I)Z" } : Jvm.MethodName)) ∈ tblG := tG 1008 (by decide +kernel) rfl
theorem t1010 : (Cond.instanceMethod ({ cls := "BeltSumsModel", name := "number", desc := "(I)Z" } : Jvm.MethodName)) ∈ tblG := tG 1010 (by decide +kernel) rfl
theorem t1011 : (Cond.code ({ cls := "BeltSumsModel", name := "number", desc := "(I)Z" } : Jvm.MethodName) prog_13_method_49_code (3 : Nat) (Option.some Jvm.ClassFile.FieldType.boolean)) ∈ tblG := tG 1011 (by decide +kernel) rfl
theorem t1012 : (Cond.methodLink "BeltSumsModel" (170 : Nat) ({ cls := "BeltSumsModel", name := "calls", desc := "()I" } : Jvm.MethodName)) ∈ tblG := tG 1012 (by decide +kernel) rfl
theorem t1014 : (Cond.instanceMethod ({ cls := "BeltSumsModel", name := "calls", desc := "()I" } : Jvm.MethodName)) ∈ tblG := tG 1014 (by decide +kernel) rfl
theorem t1015 : (Cond.code ({ cls := "BeltSumsModel", name := "calls", desc := "()I" } : Jvm.MethodName) prog_13_method_51_code (1 : Nat) (Option.some Jvm.ClassFile.FieldType.int)) ∈ tblG := tG 1015 (by decide +kernel) rfl
theorem t1016 : (Cond.methodLink "BeltSumsModel" (140 : Nat) ({ cls := "BeltSumsModel", name := "bin", desc := "()I" } : Jvm.MethodName)) ∈ tblG := tG 1016 (by decide +kernel) rfl
theorem t1017 : (Cond.methodLink "BeltSumsModel" (143 : Nat) ({ cls := "BeltSumsModel", name := "run", desc := "(I)I" } : Jvm.MethodName)) ∈ tblG := tG 1017 (by decide +kernel) rfl
theorem t1018 : (Cond.methodLink "BeltSumsModel" (146 : Nat) ({ cls := "BeltSumsModel", name := "zero", desc := "()I" } : Jvm.MethodName)) ∈ tblG := tG 1018 (by decide +kernel) rfl
theorem t1019 : (Cond.methodLink "BeltSumsModel" (149 : Nat) ({ cls := "BeltSumsModel", name := "lot", desc := "(II)I" } : Jvm.MethodName)) ∈ tblG := tG 1019 (by decide +kernel) rfl
theorem t1020 : (Cond.methodLink "BeltSumsModel" (152 : Nat) ({ cls := "BeltSumsModel", name := "gate", desc := "(I)I" } : Jvm.MethodName)) ∈ tblG := tG 1020 (by decide +kernel) rfl
theorem t1021 : (Cond.methodLink "BeltSumsModel" (155 : Nat) ({ cls := "BeltSumsModel", name := "batch", desc := "(I)I" } : Jvm.MethodName)) ∈ tblG := tG 1021 (by decide +kernel) rfl
theorem t1022 : (Cond.methodLink "BeltSumsModel" (158 : Nat) ({ cls := "BeltSumsModel", name := "correct", desc := "(I)I" } : Jvm.MethodName)) ∈ tblG := tG 1022 (by decide +kernel) rfl
theorem t1023 : (Cond.methodLink "BeltSumsModel" (161 : Nat) ({ cls := "BeltSumsModel", name := "tick", desc := "(I)I" } : Jvm.MethodName)) ∈ tblG := tG 1023 (by decide +kernel) rfl
theorem t1024 : (Cond.methodLink "BeltSumsLaw" (115 : Nat) ({ cls := "BeltSumsModel", name := "play", desc := "()I" } : Jvm.MethodName)) ∈ tblG := tG 1024 (by decide +kernel) rfl
theorem t1025 : (Cond.instanceMethod ({ cls := "BeltSumsModel", name := "play", desc := "()I" } : Jvm.MethodName)) ∈ tblG := tG 1025 (by decide +kernel) rfl
theorem t1026 : (Cond.selects "BeltSumsModel" ({ cls := "BeltSumsModel", name := "play", desc := "()I" } : Jvm.MethodName) ({ cls := "BeltSumsModel", name := "play", desc := "()I" } : Jvm.MethodName)) ∈ tblG := tG 1026 (by decide +kernel) rfl
theorem t1027 : (Cond.code ({ cls := "BeltSumsModel", name := "play", desc := "()I" } : Jvm.MethodName) prog_13_method_54_code (2 : Nat) (Option.some Jvm.ClassFile.FieldType.int)) ∈ tblG := tG 1027 (by decide +kernel) rfl
def nestWs : List Cond := [(Jvm.Cond.methodLinkNest "BeltSums$Plant" (11 : Nat) ({ cls := "BeltSums$Hopper", name := "<init>", desc := "()V" } : Jvm.MethodName) "BeltSums"), (Jvm.Cond.methodLinkNest "BeltSums$Plant" (20 : Nat) ({ cls := "BeltSums$Belt", name := "<init>", desc := "()V" } : Jvm.MethodName) "BeltSums"), (Jvm.Cond.methodLinkNest "BeltSums$Plant" (27 : Nat) ({ cls := "BeltSums$Bins", name := "<init>", desc := "()V" } : Jvm.MethodName) "BeltSums"), (Jvm.Cond.methodLinkNest "BeltSums$Plant" (34 : Nat) ({ cls := "BeltSums$Scale", name := "<init>", desc := "()V" } : Jvm.MethodName) "BeltSums"), (Jvm.Cond.methodLinkNest "BeltSums$Plant" (41 : Nat) ({ cls := "BeltSums$Accounts", name := "<init>", desc := "()V" } : Jvm.MethodName) "BeltSums"), (Jvm.Cond.fieldLinkNest "BeltSums$Plant" (54 : Nat) "BeltSums" "FIRST_SETTINGS" "[I" "BeltSums"), (Jvm.Cond.methodLinkNest "BeltSums$Plant" (57 : Nat) ({ cls := "BeltSums", name := "copyInto", desc := "([I[I)V" } : Jvm.MethodName) "BeltSums"), (Jvm.Cond.methodLinkNest "BeltSums" (21 : Nat) ({ cls := "BeltSums$History", name := "<init>", desc := "()V" } : Jvm.MethodName) "BeltSums"), (Jvm.Cond.methodLinkNest "BeltSums" (28 : Nat) ({ cls := "BeltSums$Text", name := "<init>", desc := "()V" } : Jvm.MethodName) "BeltSums"), (Jvm.Cond.methodLinkNest "BeltSums" (35 : Nat) ({ cls := "BeltSums$Rehearsal", name := "<init>", desc := "()V" } : Jvm.MethodName) "BeltSums"), (Jvm.Cond.methodLinkNest "BeltSums$Rehearsal" (11 : Nat) ({ cls := "BeltSums$Command", name := "<init>", desc := "()V" } : Jvm.MethodName) "BeltSums"), (Jvm.Cond.methodLinkNest "BeltSums$Hopper" (18 : Nat) ({ cls := "BeltSums", name := "copyInto", desc := "([I[I)V" } : Jvm.MethodName) "BeltSums"), (Jvm.Cond.methodLinkNest "BeltSums$Belt" (15 : Nat) ({ cls := "BeltSums", name := "copyInto", desc := "([I[I)V" } : Jvm.MethodName) "BeltSums"), (Jvm.Cond.methodLinkNest "BeltSums$Bins" (21 : Nat) ({ cls := "BeltSums", name := "copyInto", desc := "([I[I)V" } : Jvm.MethodName) "BeltSums"), (Jvm.Cond.methodLinkNest "BeltSums$Accounts" (25 : Nat) ({ cls := "BeltSums", name := "copyInto", desc := "([I[I)V" } : Jvm.MethodName) "BeltSums"), (Jvm.Cond.methodLinkNest "BeltSums$Plant" (102 : Nat) ({ cls := "BeltSums", name := "isKind", desc := "(I)Z" } : Jvm.MethodName) "BeltSums"), (Jvm.Cond.fieldLinkNest "BeltSums$Plant" (215 : Nat) "BeltSums" "LEAST_SETTINGS" "[I" "BeltSums"), (Jvm.Cond.fieldLinkNest "BeltSums$Plant" (218 : Nat) "BeltSums" "MOST_SETTINGS" "[I" "BeltSums"), (Jvm.Cond.methodLinkNest "BeltSums$Accounts" (35 : Nat) ({ cls := "BeltSums", name := "isKind", desc := "(I)Z" } : Jvm.MethodName) "BeltSums"), (Jvm.Cond.methodLinkNest "BeltSums$Rehearsal" (50 : Nat) ({ cls := "BeltSums", name := "isError", desc := "(I)Z" } : Jvm.MethodName) "BeltSums")]
theorem inW0 : ∀ w ∈ u_ws RX0 TX0 4, w ∈ tblG := by
  have e : u_ws RX0 TX0 4 = [(Jvm.Cond.laysFinal "BeltSums$Accounts" "BeltSums$Accounts" "within" "[I"), (Jvm.Cond.laysFinal "BeltSums$Accounts" "BeltSums$Accounts" "own" "[I"), (Jvm.Cond.laysFinal "BeltSums$Accounts" "BeltSums$Accounts" "assigned" "[I"), (Jvm.Cond.lays "BeltSums$Accounts" "BeltSums$Accounts" "many" "I")] := rfl
  rw [e]
  exact List.forall_mem_cons.mpr ⟨t176, List.forall_mem_cons.mpr ⟨t178, List.forall_mem_cons.mpr ⟨t180, List.forall_mem_cons.mpr ⟨t182, fun _ h => absurd h List.not_mem_nil⟩⟩⟩⟩
theorem inW1 : ∀ w ∈ u_ws RX1 TX1 3, w ∈ tblG := by
  have e : u_ws RX1 TX1 3 = [(Jvm.Cond.laysFinal "BeltSums$Belt" "BeltSums$Belt" "masses" "[I"), (Jvm.Cond.lays "BeltSums$Belt" "BeltSums$Belt" "start" "I"), (Jvm.Cond.lays "BeltSums$Belt" "BeltSums$Belt" "total" "I")] := rfl
  rw [e]
  exact List.forall_mem_cons.mpr ⟨t101, List.forall_mem_cons.mpr ⟨t103, List.forall_mem_cons.mpr ⟨t105, fun _ h => absurd h List.not_mem_nil⟩⟩⟩
theorem inW2 : ∀ w ∈ u_ws RX2 TX2 4, w ∈ tblG := by
  have e : u_ws RX2 TX2 4 = [(Jvm.Cond.laysFinal "BeltSums$Bins" "BeltSums$Bins" "masses" "[I"), (Jvm.Cond.laysFinal "BeltSums$Bins" "BeltSums$Bins" "grown" "[I"), (Jvm.Cond.laysFinal "BeltSums$Bins" "BeltSums$Bins" "ticksFilled" "[I"), (Jvm.Cond.lays "BeltSums$Bins" "BeltSums$Bins" "many" "I")] := rfl
  rw [e]
  exact List.forall_mem_cons.mpr ⟨t124, List.forall_mem_cons.mpr ⟨t126, List.forall_mem_cons.mpr ⟨t128, List.forall_mem_cons.mpr ⟨t130, fun _ h => absurd h List.not_mem_nil⟩⟩⟩⟩
theorem inW3 : ∀ w ∈ u_ws RX3 TX3 4, w ∈ tblG := by
  have e : u_ws RX3 TX3 4 = [(Jvm.Cond.lays "BeltSums$Command" "BeltSums$Command" "letter" "I"), (Jvm.Cond.lays "BeltSums$Command" "BeltSums$Command" "first" "I"), (Jvm.Cond.lays "BeltSums$Command" "BeltSums$Command" "second" "I"), (Jvm.Cond.lays "BeltSums$Command" "BeltSums$Command" "end" "I")] := rfl
  rw [e]
  exact List.forall_mem_cons.mpr ⟨t314, List.forall_mem_cons.mpr ⟨t316, List.forall_mem_cons.mpr ⟨t318, List.forall_mem_cons.mpr ⟨t320, fun _ h => absurd h List.not_mem_nil⟩⟩⟩⟩
theorem inW4 : ∀ w ∈ u_ws RX4 TX4 5, w ∈ tblG := by
  have e : u_ws RX4 TX4 5 = [(Jvm.Cond.lays "BeltSums$History" "BeltSums$History" "latest" "LBeltSums$Plant;"), (Jvm.Cond.lays "BeltSums$History" "BeltSums$History" "second" "LBeltSums$Plant;"), (Jvm.Cond.lays "BeltSums$History" "BeltSums$History" "third" "LBeltSums$Plant;"), (Jvm.Cond.lays "BeltSums$History" "BeltSums$History" "oldest" "LBeltSums$Plant;"), (Jvm.Cond.lays "BeltSums$History" "BeltSums$History" "states" "I")] := rfl
  rw [e]
  exact List.forall_mem_cons.mpr ⟨t270, List.forall_mem_cons.mpr ⟨t272, List.forall_mem_cons.mpr ⟨t274, List.forall_mem_cons.mpr ⟨t276, List.forall_mem_cons.mpr ⟨t278, fun _ h => absurd h List.not_mem_nil⟩⟩⟩⟩⟩
theorem inW5 : ∀ w ∈ u_ws RX5 TX5 4, w ∈ tblG := by
  have e : u_ws RX5 TX5 4 = [(Jvm.Cond.laysFinal "BeltSums$Hopper" "BeltSums$Hopper" "kinds" "[I"), (Jvm.Cond.laysFinal "BeltSums$Hopper" "BeltSums$Hopper" "masses" "[I"), (Jvm.Cond.lays "BeltSums$Hopper" "BeltSums$Hopper" "lots" "I"), (Jvm.Cond.lays "BeltSums$Hopper" "BeltSums$Hopper" "putSoFar" "I")] := rfl
  rw [e]
  exact List.forall_mem_cons.mpr ⟨t80, List.forall_mem_cons.mpr ⟨t82, List.forall_mem_cons.mpr ⟨t84, List.forall_mem_cons.mpr ⟨t86, fun _ h => absurd h List.not_mem_nil⟩⟩⟩⟩
theorem inW6 : ∀ w ∈ u_ws RX6 TX6 15, w ∈ tblG := by
  have e : u_ws RX6 TX6 15 = [(Jvm.Cond.laysFinal "BeltSums$Plant" "BeltSums$Plant" "hopper" "LBeltSums$Hopper;"), (Jvm.Cond.laysFinal "BeltSums$Plant" "BeltSums$Plant" "belt" "LBeltSums$Belt;"), (Jvm.Cond.laysFinal "BeltSums$Plant" "BeltSums$Plant" "bins" "LBeltSums$Bins;"), (Jvm.Cond.laysFinal "BeltSums$Plant" "BeltSums$Plant" "scale" "LBeltSums$Scale;"), (Jvm.Cond.laysFinal "BeltSums$Plant" "BeltSums$Plant" "accounts" "LBeltSums$Accounts;"), (Jvm.Cond.laysFinal "BeltSums$Plant" "BeltSums$Plant" "settings" "[I"), (Jvm.Cond.lays "BeltSums$Plant" "BeltSums$Plant" "gateWidth" "I"), (Jvm.Cond.lays "BeltSums$Plant" "BeltSums$Plant" "switchedOn" "I"), (Jvm.Cond.lays "BeltSums$Plant" "BeltSums$Plant" "batchMass" "I"), (Jvm.Cond.lays "BeltSums$Plant" "BeltSums$Plant" "batchStopped" "Z"), (Jvm.Cond.lays "BeltSums$Plant" "BeltSums$Plant" "cameInBatch" "I"), (Jvm.Cond.lays "BeltSums$Plant" "BeltSums$Plant" "time" "I"), (Jvm.Cond.lays "BeltSums$Plant" "BeltSums$Plant" "ticksStood" "I"), (Jvm.Cond.lays "BeltSums$Plant" "BeltSums$Plant" "spilt" "I"), (Jvm.Cond.lays "BeltSums$Plant" "BeltSums$Plant" "fallen" "I")] := rfl
  rw [e]
  exact List.forall_mem_cons.mpr ⟨t225, List.forall_mem_cons.mpr ⟨t227, List.forall_mem_cons.mpr ⟨t229, List.forall_mem_cons.mpr ⟨t231, List.forall_mem_cons.mpr ⟨t233, List.forall_mem_cons.mpr ⟨t235, List.forall_mem_cons.mpr ⟨t237, List.forall_mem_cons.mpr ⟨t239, List.forall_mem_cons.mpr ⟨t241, List.forall_mem_cons.mpr ⟨t243, List.forall_mem_cons.mpr ⟨t245, List.forall_mem_cons.mpr ⟨t247, List.forall_mem_cons.mpr ⟨t249, List.forall_mem_cons.mpr ⟨t251, List.forall_mem_cons.mpr ⟨t253, fun _ h => absurd h List.not_mem_nil⟩⟩⟩⟩⟩⟩⟩⟩⟩⟩⟩⟩⟩⟩⟩
theorem inW7 : ∀ w ∈ u_ws RX7 TX7 5, w ∈ tblG := by
  have e : u_ws RX7 TX7 5 = [(Jvm.Cond.laysFinal "BeltSums$Rehearsal" "BeltSums$Rehearsal" "command" "LBeltSums$Command;"), (Jvm.Cond.lays "BeltSums$Rehearsal" "BeltSums$Rehearsal" "position" "I"), (Jvm.Cond.lays "BeltSums$Rehearsal" "BeltSums$Rehearsal" "reason" "I"), (Jvm.Cond.lays "BeltSums$Rehearsal" "BeltSums$Rehearsal" "cause" "I"), (Jvm.Cond.lays "BeltSums$Rehearsal" "BeltSums$Rehearsal" "done" "I")] := rfl
  rw [e]
  exact List.forall_mem_cons.mpr ⟨t332, List.forall_mem_cons.mpr ⟨t334, List.forall_mem_cons.mpr ⟨t336, List.forall_mem_cons.mpr ⟨t338, List.forall_mem_cons.mpr ⟨t340, fun _ h => absurd h List.not_mem_nil⟩⟩⟩⟩⟩
theorem inW8 : ∀ w ∈ u_ws RX8 TX8 5, w ∈ tblG := by
  have e : u_ws RX8 TX8 5 = [(Jvm.Cond.lays "BeltSums$Scale" "BeltSums$Scale" "drift" "I"), (Jvm.Cond.lays "BeltSums$Scale" "BeltSums$Scale" "zero" "I"), (Jvm.Cond.lays "BeltSums$Scale" "BeltSums$Scale" "sum" "I"), (Jvm.Cond.lays "BeltSums$Scale" "BeltSums$Scale" "rest" "I"), (Jvm.Cond.lays "BeltSums$Scale" "BeltSums$Scale" "factor" "I")] := rfl
  rw [e]
  exact List.forall_mem_cons.mpr ⟨t151, List.forall_mem_cons.mpr ⟨t153, List.forall_mem_cons.mpr ⟨t155, List.forall_mem_cons.mpr ⟨t157, List.forall_mem_cons.mpr ⟨t159, fun _ h => absurd h List.not_mem_nil⟩⟩⟩⟩⟩
theorem inW9 : ∀ w ∈ u_ws RX9 TX9 2, w ∈ tblG := by
  have e : u_ws RX9 TX9 2 = [(Jvm.Cond.laysFinal "BeltSums$Text" "BeltSums$Text" "characters" "[C"), (Jvm.Cond.lays "BeltSums$Text" "BeltSums$Text" "length" "I")] := rfl
  rw [e]
  exact List.forall_mem_cons.mpr ⟨t291, List.forall_mem_cons.mpr ⟨t293, fun _ h => absurd h List.not_mem_nil⟩⟩
theorem inW10 : ∀ w ∈ u_ws RX10 TX10 5, w ∈ tblG := by
  have e : u_ws RX10 TX10 5 = [(Jvm.Cond.laysFinal "BeltSums" "BeltSums" "now" "LBeltSums$Plant;"), (Jvm.Cond.laysFinal "BeltSums" "BeltSums" "spare" "LBeltSums$Plant;"), (Jvm.Cond.laysFinal "BeltSums" "BeltSums" "history" "LBeltSums$History;"), (Jvm.Cond.laysFinal "BeltSums" "BeltSums" "text" "LBeltSums$Text;"), (Jvm.Cond.laysFinal "BeltSums" "BeltSums" "rehearsal" "LBeltSums$Rehearsal;")] := rfl
  rw [e]
  exact List.forall_mem_cons.mpr ⟨t348, List.forall_mem_cons.mpr ⟨t350, List.forall_mem_cons.mpr ⟨t352, List.forall_mem_cons.mpr ⟨t354, List.forall_mem_cons.mpr ⟨t356, fun _ h => absurd h List.not_mem_nil⟩⟩⟩⟩⟩
theorem inW11 : ∀ w ∈ u_ws RX11 TX11 14, w ∈ tblG := by
  have e : u_ws RX11 TX11 14 = [(Jvm.Cond.laysFinal "BeltSumsModel" "BeltSumsModel" "s" "[I"), (Jvm.Cond.laysFinal "BeltSumsModel" "BeltSumsModel" "past" "[I"), (Jvm.Cond.laysFinal "BeltSumsModel" "BeltSumsModel" "held" "[I"), (Jvm.Cond.laysFinal "BeltSumsModel" "BeltSumsModel" "tried" "[I"), (Jvm.Cond.lays "BeltSumsModel" "BeltSumsModel" "pasts" "I"), (Jvm.Cond.lays "BeltSumsModel" "BeltSumsModel" "runs" "Z"), (Jvm.Cond.laysFinal "BeltSumsModel" "BeltSumsModel" "text" "[I"), (Jvm.Cond.lays "BeltSumsModel" "BeltSumsModel" "typed" "I"), (Jvm.Cond.lays "BeltSumsModel" "BeltSumsModel" "then" "I"), (Jvm.Cond.lays "BeltSumsModel" "BeltSumsModel" "spot" "I"), (Jvm.Cond.lays "BeltSumsModel" "BeltSumsModel" "cause" "I"), (Jvm.Cond.lays "BeltSumsModel" "BeltSumsModel" "commands" "I"), (Jvm.Cond.lays "BeltSumsModel" "BeltSumsModel" "kind" "I"), (Jvm.Cond.laysFinal "BeltSumsModel" "BeltSumsModel" "told" "[I")] := rfl
  rw [e]
  exact List.forall_mem_cons.mpr ⟨t777, List.forall_mem_cons.mpr ⟨t779, List.forall_mem_cons.mpr ⟨t781, List.forall_mem_cons.mpr ⟨t783, List.forall_mem_cons.mpr ⟨t785, List.forall_mem_cons.mpr ⟨t787, List.forall_mem_cons.mpr ⟨t789, List.forall_mem_cons.mpr ⟨t791, List.forall_mem_cons.mpr ⟨t793, List.forall_mem_cons.mpr ⟨t795, List.forall_mem_cons.mpr ⟨t797, List.forall_mem_cons.mpr ⟨t799, List.forall_mem_cons.mpr ⟨t801, List.forall_mem_cons.mpr ⟨t803, fun _ h => absurd h List.not_mem_nil⟩⟩⟩⟩⟩⟩⟩⟩⟩⟩⟩⟩⟩⟩
theorem n65 : (Cond.methodLinkNest "BeltSums$Plant" (11 : Nat) ({ cls := "BeltSums$Hopper", name := "<init>", desc := "()V" } : Jvm.MethodName) "BeltSums") ∈ nestWs := List.mem_of_getElem? (i := 0) rfl
theorem nt65 : (Cond.methodLinkNest "BeltSums$Plant" (11 : Nat) ({ cls := "BeltSums$Hopper", name := "<init>", desc := "()V" } : Jvm.MethodName) "BeltSums") ∈ lw_tbl := List.mem_of_getElem? (i := 65) (by decide +kernel)
theorem n92 : (Cond.methodLinkNest "BeltSums$Plant" (20 : Nat) ({ cls := "BeltSums$Belt", name := "<init>", desc := "()V" } : Jvm.MethodName) "BeltSums") ∈ nestWs := List.mem_of_getElem? (i := 1) rfl
theorem nt92 : (Cond.methodLinkNest "BeltSums$Plant" (20 : Nat) ({ cls := "BeltSums$Belt", name := "<init>", desc := "()V" } : Jvm.MethodName) "BeltSums") ∈ lw_tbl := List.mem_of_getElem? (i := 92) (by decide +kernel)
theorem n110 : (Cond.methodLinkNest "BeltSums$Plant" (27 : Nat) ({ cls := "BeltSums$Bins", name := "<init>", desc := "()V" } : Jvm.MethodName) "BeltSums") ∈ nestWs := List.mem_of_getElem? (i := 2) rfl
theorem nt110 : (Cond.methodLinkNest "BeltSums$Plant" (27 : Nat) ({ cls := "BeltSums$Bins", name := "<init>", desc := "()V" } : Jvm.MethodName) "BeltSums") ∈ lw_tbl := List.mem_of_getElem? (i := 110) (by decide +kernel)
theorem n135 : (Cond.methodLinkNest "BeltSums$Plant" (34 : Nat) ({ cls := "BeltSums$Scale", name := "<init>", desc := "()V" } : Jvm.MethodName) "BeltSums") ∈ nestWs := List.mem_of_getElem? (i := 3) rfl
theorem nt135 : (Cond.methodLinkNest "BeltSums$Plant" (34 : Nat) ({ cls := "BeltSums$Scale", name := "<init>", desc := "()V" } : Jvm.MethodName) "BeltSums") ∈ lw_tbl := List.mem_of_getElem? (i := 135) (by decide +kernel)
theorem n164 : (Cond.methodLinkNest "BeltSums$Plant" (41 : Nat) ({ cls := "BeltSums$Accounts", name := "<init>", desc := "()V" } : Jvm.MethodName) "BeltSums") ∈ nestWs := List.mem_of_getElem? (i := 4) rfl
theorem nt164 : (Cond.methodLinkNest "BeltSums$Plant" (41 : Nat) ({ cls := "BeltSums$Accounts", name := "<init>", desc := "()V" } : Jvm.MethodName) "BeltSums") ∈ lw_tbl := List.mem_of_getElem? (i := 164) (by decide +kernel)
theorem n185 : (Cond.fieldLinkNest "BeltSums$Plant" (54 : Nat) "BeltSums" "FIRST_SETTINGS" "[I" "BeltSums") ∈ nestWs := List.mem_of_getElem? (i := 5) rfl
theorem nt185 : (Cond.fieldLinkNest "BeltSums$Plant" (54 : Nat) "BeltSums" "FIRST_SETTINGS" "[I" "BeltSums") ∈ lw_tbl := List.mem_of_getElem? (i := 185) (by decide +kernel)
theorem n187 : (Cond.methodLinkNest "BeltSums$Plant" (57 : Nat) ({ cls := "BeltSums", name := "copyInto", desc := "([I[I)V" } : Jvm.MethodName) "BeltSums") ∈ nestWs := List.mem_of_getElem? (i := 6) rfl
theorem nt187 : (Cond.methodLinkNest "BeltSums$Plant" (57 : Nat) ({ cls := "BeltSums", name := "copyInto", desc := "([I[I)V" } : Jvm.MethodName) "BeltSums") ∈ lw_tbl := List.mem_of_getElem? (i := 187) (by decide +kernel)
theorem n258 : (Cond.methodLinkNest "BeltSums" (21 : Nat) ({ cls := "BeltSums$History", name := "<init>", desc := "()V" } : Jvm.MethodName) "BeltSums") ∈ nestWs := List.mem_of_getElem? (i := 7) rfl
theorem nt258 : (Cond.methodLinkNest "BeltSums" (21 : Nat) ({ cls := "BeltSums$History", name := "<init>", desc := "()V" } : Jvm.MethodName) "BeltSums") ∈ lw_tbl := List.mem_of_getElem? (i := 258) (by decide +kernel)
theorem n283 : (Cond.methodLinkNest "BeltSums" (28 : Nat) ({ cls := "BeltSums$Text", name := "<init>", desc := "()V" } : Jvm.MethodName) "BeltSums") ∈ nestWs := List.mem_of_getElem? (i := 8) rfl
theorem nt283 : (Cond.methodLinkNest "BeltSums" (28 : Nat) ({ cls := "BeltSums$Text", name := "<init>", desc := "()V" } : Jvm.MethodName) "BeltSums") ∈ lw_tbl := List.mem_of_getElem? (i := 283) (by decide +kernel)
theorem n299 : (Cond.methodLinkNest "BeltSums" (35 : Nat) ({ cls := "BeltSums$Rehearsal", name := "<init>", desc := "()V" } : Jvm.MethodName) "BeltSums") ∈ nestWs := List.mem_of_getElem? (i := 9) rfl
theorem nt299 : (Cond.methodLinkNest "BeltSums" (35 : Nat) ({ cls := "BeltSums$Rehearsal", name := "<init>", desc := "()V" } : Jvm.MethodName) "BeltSums") ∈ lw_tbl := List.mem_of_getElem? (i := 299) (by decide +kernel)
theorem n305 : (Cond.methodLinkNest "BeltSums$Rehearsal" (11 : Nat) ({ cls := "BeltSums$Command", name := "<init>", desc := "()V" } : Jvm.MethodName) "BeltSums") ∈ nestWs := List.mem_of_getElem? (i := 10) rfl
theorem nt305 : (Cond.methodLinkNest "BeltSums$Rehearsal" (11 : Nat) ({ cls := "BeltSums$Command", name := "<init>", desc := "()V" } : Jvm.MethodName) "BeltSums") ∈ lw_tbl := List.mem_of_getElem? (i := 305) (by decide +kernel)
theorem n371 : (Cond.methodLinkNest "BeltSums$Hopper" (18 : Nat) ({ cls := "BeltSums", name := "copyInto", desc := "([I[I)V" } : Jvm.MethodName) "BeltSums") ∈ nestWs := List.mem_of_getElem? (i := 11) rfl
theorem nt371 : (Cond.methodLinkNest "BeltSums$Hopper" (18 : Nat) ({ cls := "BeltSums", name := "copyInto", desc := "([I[I)V" } : Jvm.MethodName) "BeltSums") ∈ lw_tbl := List.mem_of_getElem? (i := 371) (by decide +kernel)
theorem n376 : (Cond.methodLinkNest "BeltSums$Belt" (15 : Nat) ({ cls := "BeltSums", name := "copyInto", desc := "([I[I)V" } : Jvm.MethodName) "BeltSums") ∈ nestWs := List.mem_of_getElem? (i := 12) rfl
theorem nt376 : (Cond.methodLinkNest "BeltSums$Belt" (15 : Nat) ({ cls := "BeltSums", name := "copyInto", desc := "([I[I)V" } : Jvm.MethodName) "BeltSums") ∈ lw_tbl := List.mem_of_getElem? (i := 376) (by decide +kernel)
theorem n381 : (Cond.methodLinkNest "BeltSums$Bins" (21 : Nat) ({ cls := "BeltSums", name := "copyInto", desc := "([I[I)V" } : Jvm.MethodName) "BeltSums") ∈ nestWs := List.mem_of_getElem? (i := 13) rfl
theorem nt381 : (Cond.methodLinkNest "BeltSums$Bins" (21 : Nat) ({ cls := "BeltSums", name := "copyInto", desc := "([I[I)V" } : Jvm.MethodName) "BeltSums") ∈ lw_tbl := List.mem_of_getElem? (i := 381) (by decide +kernel)
theorem n390 : (Cond.methodLinkNest "BeltSums$Accounts" (25 : Nat) ({ cls := "BeltSums", name := "copyInto", desc := "([I[I)V" } : Jvm.MethodName) "BeltSums") ∈ nestWs := List.mem_of_getElem? (i := 14) rfl
theorem nt390 : (Cond.methodLinkNest "BeltSums$Accounts" (25 : Nat) ({ cls := "BeltSums", name := "copyInto", desc := "([I[I)V" } : Jvm.MethodName) "BeltSums") ∈ lw_tbl := List.mem_of_getElem? (i := 390) (by decide +kernel)
theorem n395 : (Cond.methodLinkNest "BeltSums$Plant" (102 : Nat) ({ cls := "BeltSums", name := "isKind", desc := "(I)Z" } : Jvm.MethodName) "BeltSums") ∈ nestWs := List.mem_of_getElem? (i := 15) rfl
theorem nt395 : (Cond.methodLinkNest "BeltSums$Plant" (102 : Nat) ({ cls := "BeltSums", name := "isKind", desc := "(I)Z" } : Jvm.MethodName) "BeltSums") ∈ lw_tbl := List.mem_of_getElem? (i := 395) (by decide +kernel)
theorem n575 : (Cond.fieldLinkNest "BeltSums$Plant" (215 : Nat) "BeltSums" "LEAST_SETTINGS" "[I" "BeltSums") ∈ nestWs := List.mem_of_getElem? (i := 16) rfl
theorem nt575 : (Cond.fieldLinkNest "BeltSums$Plant" (215 : Nat) "BeltSums" "LEAST_SETTINGS" "[I" "BeltSums") ∈ lw_tbl := List.mem_of_getElem? (i := 575) (by decide +kernel)
theorem n577 : (Cond.fieldLinkNest "BeltSums$Plant" (218 : Nat) "BeltSums" "MOST_SETTINGS" "[I" "BeltSums") ∈ nestWs := List.mem_of_getElem? (i := 17) rfl
theorem nt577 : (Cond.fieldLinkNest "BeltSums$Plant" (218 : Nat) "BeltSums" "MOST_SETTINGS" "[I" "BeltSums") ∈ lw_tbl := List.mem_of_getElem? (i := 577) (by decide +kernel)
theorem n601 : (Cond.methodLinkNest "BeltSums$Accounts" (35 : Nat) ({ cls := "BeltSums", name := "isKind", desc := "(I)Z" } : Jvm.MethodName) "BeltSums") ∈ nestWs := List.mem_of_getElem? (i := 18) rfl
theorem nt601 : (Cond.methodLinkNest "BeltSums$Accounts" (35 : Nat) ({ cls := "BeltSums", name := "isKind", desc := "(I)Z" } : Jvm.MethodName) "BeltSums") ∈ lw_tbl := List.mem_of_getElem? (i := 601) (by decide +kernel)
theorem n751 : (Cond.methodLinkNest "BeltSums$Rehearsal" (50 : Nat) ({ cls := "BeltSums", name := "isError", desc := "(I)Z" } : Jvm.MethodName) "BeltSums") ∈ nestWs := List.mem_of_getElem? (i := 19) rfl
theorem nt751 : (Cond.methodLinkNest "BeltSums$Rehearsal" (50 : Nat) ({ cls := "BeltSums", name := "isError", desc := "(I)Z" } : Jvm.MethodName) "BeltSums") ∈ lw_tbl := List.mem_of_getElem? (i := 751) (by decide +kernel)
end
section
theorem dX0_init_0 : decode cX0_init 0 = .ok (.aload_n 0, 1) := by decide +kernel
theorem dX0_init_1 : decode cX0_init 1 = .ok (.invokespecial 3, 3) := by decide +kernel
theorem dX0_init_4 : decode cX0_init 4 = .ok (.aload_n 0, 1) := by decide +kernel
theorem dX0_init_5 : decode cX0_init 5 = .ok (.bipush 8, 2) := by decide +kernel
theorem dX0_init_7 : decode cX0_init 7 = .ok (.newarray .int, 2) := by decide +kernel
theorem dX0_init_9 : decode cX0_init 9 = .ok (.putfield 9, 3) := by decide +kernel
theorem dX0_init_12 : decode cX0_init 12 = .ok (.aload_n 0, 1) := by decide +kernel
theorem dX0_init_13 : decode cX0_init 13 = .ok (.bipush 8, 2) := by decide +kernel
theorem dX0_init_15 : decode cX0_init 15 = .ok (.newarray .int, 2) := by decide +kernel
theorem dX0_init_17 : decode cX0_init 17 = .ok (.putfield 15, 3) := by decide +kernel
theorem dX0_init_20 : decode cX0_init 20 = .ok (.aload_n 0, 1) := by decide +kernel
theorem dX0_init_21 : decode cX0_init 21 = .ok (.iconst 4, 1) := by decide +kernel
theorem dX0_init_22 : decode cX0_init 22 = .ok (.newarray .int, 2) := by decide +kernel
theorem dX0_init_24 : decode cX0_init 24 = .ok (.putfield 18, 3) := by decide +kernel
theorem dX0_init_27 : decode cX0_init 27 = .ok (.aload_n 0, 1) := by decide +kernel
theorem dX0_init_28 : decode cX0_init 28 = .ok (.iconst 1, 1) := by decide +kernel
theorem dX0_init_29 : decode cX0_init 29 = .ok (.putfield 21, 3) := by decide +kernel
theorem dX0_init_32 : decode cX0_init 32 = .ok (.return_, 1) := by decide +kernel
theorem dX0_copyFrom_0 : decode cX0_copyFrom 0 = .ok (.aload_n 0, 1) := by decide +kernel
theorem dX0_copyFrom_1 : decode cX0_copyFrom 1 = .ok (.getfield 9, 3) := by decide +kernel
theorem dX0_copyFrom_4 : decode cX0_copyFrom 4 = .ok (.aload_n 1, 1) := by decide +kernel
theorem dX0_copyFrom_5 : decode cX0_copyFrom 5 = .ok (.getfield 9, 3) := by decide +kernel
theorem dX0_copyFrom_8 : decode cX0_copyFrom 8 = .ok (.invokestatic 25, 3) := by decide +kernel
theorem dX0_copyFrom_11 : decode cX0_copyFrom 11 = .ok (.aload_n 0, 1) := by decide +kernel
theorem dX0_copyFrom_12 : decode cX0_copyFrom 12 = .ok (.getfield 15, 3) := by decide +kernel
theorem dX0_copyFrom_15 : decode cX0_copyFrom 15 = .ok (.aload_n 1, 1) := by decide +kernel
theorem dX0_copyFrom_16 : decode cX0_copyFrom 16 = .ok (.getfield 15, 3) := by decide +kernel
theorem dX0_copyFrom_19 : decode cX0_copyFrom 19 = .ok (.invokestatic 25, 3) := by decide +kernel
theorem dX0_copyFrom_22 : decode cX0_copyFrom 22 = .ok (.aload_n 0, 1) := by decide +kernel
theorem dX0_copyFrom_23 : decode cX0_copyFrom 23 = .ok (.getfield 18, 3) := by decide +kernel
theorem dX0_copyFrom_26 : decode cX0_copyFrom 26 = .ok (.aload_n 1, 1) := by decide +kernel
theorem dX0_copyFrom_27 : decode cX0_copyFrom 27 = .ok (.getfield 18, 3) := by decide +kernel
theorem dX0_copyFrom_30 : decode cX0_copyFrom 30 = .ok (.invokestatic 25, 3) := by decide +kernel
theorem dX0_copyFrom_33 : decode cX0_copyFrom 33 = .ok (.aload_n 0, 1) := by decide +kernel
theorem dX0_copyFrom_34 : decode cX0_copyFrom 34 = .ok (.aload_n 1, 1) := by decide +kernel
theorem dX0_copyFrom_35 : decode cX0_copyFrom 35 = .ok (.getfield 21, 3) := by decide +kernel
theorem dX0_copyFrom_38 : decode cX0_copyFrom 38 = .ok (.putfield 21, 3) := by decide +kernel
theorem dX0_copyFrom_41 : decode cX0_copyFrom 41 = .ok (.return_, 1) := by decide +kernel
theorem dX0_has_0 : decode cX0_has 0 = .ok (.iload_n 1, 1) := by decide +kernel
theorem dX0_has_1 : decode cX0_has 1 = .ok (.ifCond .lt 15, 3) := by decide +kernel
theorem dX0_has_4 : decode cX0_has 4 = .ok (.iload_n 1, 1) := by decide +kernel
theorem dX0_has_5 : decode cX0_has 5 = .ok (.aload_n 0, 1) := by decide +kernel
theorem dX0_has_6 : decode cX0_has 6 = .ok (.getfield 21, 3) := by decide +kernel
theorem dX0_has_9 : decode cX0_has 9 = .ok (.if_icmp .ge 7, 3) := by decide +kernel
theorem dX0_has_12 : decode cX0_has 12 = .ok (.iconst 1, 1) := by decide +kernel
theorem dX0_has_13 : decode cX0_has 13 = .ok (.goto 4, 3) := by decide +kernel
theorem dX0_has_16 : decode cX0_has 16 = .ok (.iconst 0, 1) := by decide +kernel
theorem dX0_has_17 : decode cX0_has 17 = .ok (.ireturn, 1) := by decide +kernel
theorem dX0_add_0 : decode cX0_add 0 = .ok (.aload_n 0, 1) := by decide +kernel
theorem dX0_add_1 : decode cX0_add 1 = .ok (.iload_n 1, 1) := by decide +kernel
theorem dX0_add_2 : decode cX0_add 2 = .ok (.invokevirtual 29, 3) := by decide +kernel
theorem dX0_add_5 : decode cX0_add 5 = .ok (.ifCond .ne 6, 3) := by decide +kernel
theorem dX0_add_8 : decode cX0_add 8 = .ok (.ldc 33, 2) := by decide +kernel
theorem dX0_add_10 : decode cX0_add 10 = .ok (.ireturn, 1) := by decide +kernel
theorem dX0_add_11 : decode cX0_add 11 = .ok (.aload_n 0, 1) := by decide +kernel
theorem dX0_add_12 : decode cX0_add 12 = .ok (.getfield 21, 3) := by decide +kernel
theorem dX0_add_15 : decode cX0_add 15 = .ok (.bipush 8, 2) := by decide +kernel
theorem dX0_add_17 : decode cX0_add 17 = .ok (.if_icmp .lt 6, 3) := by decide +kernel
theorem dX0_add_20 : decode cX0_add 20 = .ok (.ldc 34, 2) := by decide +kernel
theorem dX0_add_22 : decode cX0_add 22 = .ok (.ireturn, 1) := by decide +kernel
theorem dX0_add_23 : decode cX0_add 23 = .ok (.aload_n 0, 1) := by decide +kernel
theorem dX0_add_24 : decode cX0_add 24 = .ok (.getfield 9, 3) := by decide +kernel
theorem dX0_add_27 : decode cX0_add 27 = .ok (.aload_n 0, 1) := by decide +kernel
theorem dX0_add_28 : decode cX0_add 28 = .ok (.getfield 21, 3) := by decide +kernel
theorem dX0_add_31 : decode cX0_add 31 = .ok (.iload_n 1, 1) := by decide +kernel
theorem dX0_add_32 : decode cX0_add 32 = .ok (.iastore, 1) := by decide +kernel
theorem dX0_add_33 : decode cX0_add 33 = .ok (.aload_n 0, 1) := by decide +kernel
theorem dX0_add_34 : decode cX0_add 34 = .ok (.dup, 1) := by decide +kernel
theorem dX0_add_35 : decode cX0_add 35 = .ok (.getfield 21, 3) := by decide +kernel
theorem dX0_add_38 : decode cX0_add 38 = .ok (.iconst 1, 1) := by decide +kernel
theorem dX0_add_39 : decode cX0_add 39 = .ok (.iadd, 1) := by decide +kernel
theorem dX0_add_40 : decode cX0_add 40 = .ok (.putfield 21, 3) := by decide +kernel
theorem dX0_add_43 : decode cX0_add 43 = .ok (.aload_n 0, 1) := by decide +kernel
theorem dX0_add_44 : decode cX0_add 44 = .ok (.getfield 21, 3) := by decide +kernel
theorem dX0_add_47 : decode cX0_add 47 = .ok (.iconst 1, 1) := by decide +kernel
theorem dX0_add_48 : decode cX0_add 48 = .ok (.isub, 1) := by decide +kernel
theorem dX0_add_49 : decode cX0_add 49 = .ok (.ireturn, 1) := by decide +kernel
theorem dX0_assign_0 : decode cX0_assign 0 = .ok (.iload_n 1, 1) := by decide +kernel
theorem dX0_assign_1 : decode cX0_assign 1 = .ok (.invokestatic 35, 3) := by decide +kernel
theorem dX0_assign_4 : decode cX0_assign 4 = .ok (.ifCond .eq 11, 3) := by decide +kernel
theorem dX0_assign_7 : decode cX0_assign 7 = .ok (.aload_n 0, 1) := by decide +kernel
theorem dX0_assign_8 : decode cX0_assign 8 = .ok (.iload_n 2, 1) := by decide +kernel
theorem dX0_assign_9 : decode cX0_assign 9 = .ok (.invokevirtual 29, 3) := by decide +kernel
theorem dX0_assign_12 : decode cX0_assign 12 = .ok (.ifCond .ne 6, 3) := by decide +kernel
theorem dX0_assign_15 : decode cX0_assign 15 = .ok (.ldc 33, 2) := by decide +kernel
theorem dX0_assign_17 : decode cX0_assign 17 = .ok (.ireturn, 1) := by decide +kernel
theorem dX0_assign_18 : decode cX0_assign 18 = .ok (.aload_n 0, 1) := by decide +kernel
theorem dX0_assign_19 : decode cX0_assign 19 = .ok (.getfield 18, 3) := by decide +kernel
theorem dX0_assign_22 : decode cX0_assign 22 = .ok (.iload_n 1, 1) := by decide +kernel
theorem dX0_assign_23 : decode cX0_assign 23 = .ok (.iaload, 1) := by decide +kernel
theorem dX0_assign_24 : decode cX0_assign 24 = .ok (.istore_n 3, 1) := by decide +kernel
theorem dX0_assign_25 : decode cX0_assign 25 = .ok (.aload_n 0, 1) := by decide +kernel
theorem dX0_assign_26 : decode cX0_assign 26 = .ok (.getfield 18, 3) := by decide +kernel
theorem dX0_assign_29 : decode cX0_assign 29 = .ok (.iload_n 1, 1) := by decide +kernel
theorem dX0_assign_30 : decode cX0_assign 30 = .ok (.iload_n 2, 1) := by decide +kernel
theorem dX0_assign_31 : decode cX0_assign 31 = .ok (.iastore, 1) := by decide +kernel
theorem dX0_assign_32 : decode cX0_assign 32 = .ok (.iload_n 3, 1) := by decide +kernel
theorem dX0_assign_33 : decode cX0_assign 33 = .ok (.ireturn, 1) := by decide +kernel
theorem dX0_enter_0 : decode cX0_enter 0 = .ok (.aload_n 0, 1) := by decide +kernel
theorem dX0_enter_1 : decode cX0_enter 1 = .ok (.getfield 15, 3) := by decide +kernel
theorem dX0_enter_4 : decode cX0_enter 4 = .ok (.aload_n 0, 1) := by decide +kernel
theorem dX0_enter_5 : decode cX0_enter 5 = .ok (.getfield 18, 3) := by decide +kernel
theorem dX0_enter_8 : decode cX0_enter 8 = .ok (.iload_n 1, 1) := by decide +kernel
theorem dX0_enter_9 : decode cX0_enter 9 = .ok (.iaload, 1) := by decide +kernel
theorem dX0_enter_10 : decode cX0_enter 10 = .ok (.dup2, 1) := by decide +kernel
theorem dX0_enter_11 : decode cX0_enter 11 = .ok (.iaload, 1) := by decide +kernel
theorem dX0_enter_12 : decode cX0_enter 12 = .ok (.iload_n 2, 1) := by decide +kernel
theorem dX0_enter_13 : decode cX0_enter 13 = .ok (.iadd, 1) := by decide +kernel
theorem dX0_enter_14 : decode cX0_enter 14 = .ok (.iastore, 1) := by decide +kernel
theorem dX0_enter_15 : decode cX0_enter 15 = .ok (.return_, 1) := by decide +kernel
theorem dX0_isUnder_0 : decode cX0_isUnder 0 = .ok (.iload_n 1, 1) := by decide +kernel
theorem dX0_isUnder_1 : decode cX0_isUnder 1 = .ok (.istore_n 3, 1) := by decide +kernel
theorem dX0_isUnder_2 : decode cX0_isUnder 2 = .ok (.iconst 0, 1) := by decide +kernel
theorem dX0_isUnder_3 : decode cX0_isUnder 3 = .ok (.istore 4, 2) := by decide +kernel
theorem dX0_isUnder_5 : decode cX0_isUnder 5 = .ok (.iload 4, 2) := by decide +kernel
theorem dX0_isUnder_7 : decode cX0_isUnder 7 = .ok (.bipush 8, 2) := by decide +kernel
theorem dX0_isUnder_9 : decode cX0_isUnder 9 = .ok (.if_icmp .ge 21, 3) := by decide +kernel
theorem dX0_isUnder_12 : decode cX0_isUnder 12 = .ok (.iload_n 3, 1) := by decide +kernel
theorem dX0_isUnder_13 : decode cX0_isUnder 13 = .ok (.iload_n 2, 1) := by decide +kernel
theorem dX0_isUnder_14 : decode cX0_isUnder 14 = .ok (.if_icmp .le 16, 3) := by decide +kernel
theorem dX0_isUnder_17 : decode cX0_isUnder 17 = .ok (.aload_n 0, 1) := by decide +kernel
theorem dX0_isUnder_18 : decode cX0_isUnder 18 = .ok (.getfield 9, 3) := by decide +kernel
theorem dX0_isUnder_21 : decode cX0_isUnder 21 = .ok (.iload_n 3, 1) := by decide +kernel
theorem dX0_isUnder_22 : decode cX0_isUnder 22 = .ok (.iaload, 1) := by decide +kernel
theorem dX0_isUnder_23 : decode cX0_isUnder 23 = .ok (.istore_n 3, 1) := by decide +kernel
theorem dX0_isUnder_24 : decode cX0_isUnder 24 = .ok (.iinc 4 1, 3) := by decide +kernel
theorem dX0_isUnder_27 : decode cX0_isUnder 27 = .ok (.goto (-22), 3) := by decide +kernel
theorem dX0_isUnder_30 : decode cX0_isUnder 30 = .ok (.iload_n 3, 1) := by decide +kernel
theorem dX0_isUnder_31 : decode cX0_isUnder 31 = .ok (.iload_n 2, 1) := by decide +kernel
theorem dX0_isUnder_32 : decode cX0_isUnder 32 = .ok (.if_icmp .ne 12, 3) := by decide +kernel
theorem dX0_isUnder_35 : decode cX0_isUnder 35 = .ok (.iload_n 1, 1) := by decide +kernel
theorem dX0_isUnder_36 : decode cX0_isUnder 36 = .ok (.iload_n 2, 1) := by decide +kernel
theorem dX0_isUnder_37 : decode cX0_isUnder 37 = .ok (.if_icmp .eq 7, 3) := by decide +kernel
theorem dX0_isUnder_40 : decode cX0_isUnder 40 = .ok (.iconst 1, 1) := by decide +kernel
theorem dX0_isUnder_41 : decode cX0_isUnder 41 = .ok (.goto 4, 3) := by decide +kernel
theorem dX0_isUnder_44 : decode cX0_isUnder 44 = .ok (.iconst 0, 1) := by decide +kernel
theorem dX0_isUnder_45 : decode cX0_isUnder 45 = .ok (.ireturn, 1) := by decide +kernel
theorem dX0_massWithAllUnder_0 : decode cX0_massWithAllUnder 0 = .ok (.aload_n 0, 1) := by decide +kernel
theorem dX0_massWithAllUnder_1 : decode cX0_massWithAllUnder 1 = .ok (.getfield 15, 3) := by decide +kernel
theorem dX0_massWithAllUnder_4 : decode cX0_massWithAllUnder 4 = .ok (.iload_n 1, 1) := by decide +kernel
theorem dX0_massWithAllUnder_5 : decode cX0_massWithAllUnder 5 = .ok (.iaload, 1) := by decide +kernel
theorem dX0_massWithAllUnder_6 : decode cX0_massWithAllUnder 6 = .ok (.istore_n 2, 1) := by decide +kernel
theorem dX0_massWithAllUnder_7 : decode cX0_massWithAllUnder 7 = .ok (.iload_n 1, 1) := by decide +kernel
theorem dX0_massWithAllUnder_8 : decode cX0_massWithAllUnder 8 = .ok (.iconst 1, 1) := by decide +kernel
theorem dX0_massWithAllUnder_9 : decode cX0_massWithAllUnder 9 = .ok (.iadd, 1) := by decide +kernel
theorem dX0_massWithAllUnder_10 : decode cX0_massWithAllUnder 10 = .ok (.istore_n 3, 1) := by decide +kernel
theorem dX0_massWithAllUnder_11 : decode cX0_massWithAllUnder 11 = .ok (.iload_n 3, 1) := by decide +kernel
theorem dX0_massWithAllUnder_12 : decode cX0_massWithAllUnder 12 = .ok (.aload_n 0, 1) := by decide +kernel
theorem dX0_massWithAllUnder_13 : decode cX0_massWithAllUnder 13 = .ok (.getfield 21, 3) := by decide +kernel
theorem dX0_massWithAllUnder_16 : decode cX0_massWithAllUnder 16 = .ok (.if_icmp .ge 27, 3) := by decide +kernel
theorem dX0_massWithAllUnder_19 : decode cX0_massWithAllUnder 19 = .ok (.aload_n 0, 1) := by decide +kernel
theorem dX0_massWithAllUnder_20 : decode cX0_massWithAllUnder 20 = .ok (.iload_n 3, 1) := by decide +kernel
theorem dX0_massWithAllUnder_21 : decode cX0_massWithAllUnder 21 = .ok (.iload_n 1, 1) := by decide +kernel
theorem dX0_massWithAllUnder_22 : decode cX0_massWithAllUnder 22 = .ok (.invokevirtual 38, 3) := by decide +kernel
theorem dX0_massWithAllUnder_25 : decode cX0_massWithAllUnder 25 = .ok (.ifCond .eq 12, 3) := by decide +kernel
theorem dX0_massWithAllUnder_28 : decode cX0_massWithAllUnder 28 = .ok (.iload_n 2, 1) := by decide +kernel
theorem dX0_massWithAllUnder_29 : decode cX0_massWithAllUnder 29 = .ok (.aload_n 0, 1) := by decide +kernel
theorem dX0_massWithAllUnder_30 : decode cX0_massWithAllUnder 30 = .ok (.getfield 15, 3) := by decide +kernel
theorem dX0_massWithAllUnder_33 : decode cX0_massWithAllUnder 33 = .ok (.iload_n 3, 1) := by decide +kernel
theorem dX0_massWithAllUnder_34 : decode cX0_massWithAllUnder 34 = .ok (.iaload, 1) := by decide +kernel
theorem dX0_massWithAllUnder_35 : decode cX0_massWithAllUnder 35 = .ok (.iadd, 1) := by decide +kernel
theorem dX0_massWithAllUnder_36 : decode cX0_massWithAllUnder 36 = .ok (.istore_n 2, 1) := by decide +kernel
theorem dX0_massWithAllUnder_37 : decode cX0_massWithAllUnder 37 = .ok (.iinc 3 1, 3) := by decide +kernel
theorem dX0_massWithAllUnder_40 : decode cX0_massWithAllUnder 40 = .ok (.goto (-29), 3) := by decide +kernel
theorem dX0_massWithAllUnder_43 : decode cX0_massWithAllUnder 43 = .ok (.iload_n 2, 1) := by decide +kernel
theorem dX0_massWithAllUnder_44 : decode cX0_massWithAllUnder 44 = .ok (.ireturn, 1) := by decide +kernel
theorem dX0_countUnder_0 : decode cX0_countUnder 0 = .ok (.iconst 0, 1) := by decide +kernel
theorem dX0_countUnder_1 : decode cX0_countUnder 1 = .ok (.istore_n 2, 1) := by decide +kernel
theorem dX0_countUnder_2 : decode cX0_countUnder 2 = .ok (.iload_n 1, 1) := by decide +kernel
theorem dX0_countUnder_3 : decode cX0_countUnder 3 = .ok (.iconst 1, 1) := by decide +kernel
theorem dX0_countUnder_4 : decode cX0_countUnder 4 = .ok (.iadd, 1) := by decide +kernel
theorem dX0_countUnder_5 : decode cX0_countUnder 5 = .ok (.istore_n 3, 1) := by decide +kernel
theorem dX0_countUnder_6 : decode cX0_countUnder 6 = .ok (.iload_n 3, 1) := by decide +kernel
theorem dX0_countUnder_7 : decode cX0_countUnder 7 = .ok (.aload_n 0, 1) := by decide +kernel
theorem dX0_countUnder_8 : decode cX0_countUnder 8 = .ok (.getfield 21, 3) := by decide +kernel
theorem dX0_countUnder_11 : decode cX0_countUnder 11 = .ok (.if_icmp .ge 21, 3) := by decide +kernel
theorem dX0_countUnder_14 : decode cX0_countUnder 14 = .ok (.aload_n 0, 1) := by decide +kernel
theorem dX0_countUnder_15 : decode cX0_countUnder 15 = .ok (.iload_n 3, 1) := by decide +kernel
theorem dX0_countUnder_16 : decode cX0_countUnder 16 = .ok (.iload_n 1, 1) := by decide +kernel
theorem dX0_countUnder_17 : decode cX0_countUnder 17 = .ok (.invokevirtual 38, 3) := by decide +kernel
theorem dX0_countUnder_20 : decode cX0_countUnder 20 = .ok (.ifCond .eq 6, 3) := by decide +kernel
theorem dX0_countUnder_23 : decode cX0_countUnder 23 = .ok (.iinc 2 1, 3) := by decide +kernel
theorem dX0_countUnder_26 : decode cX0_countUnder 26 = .ok (.iinc 3 1, 3) := by decide +kernel
theorem dX0_countUnder_29 : decode cX0_countUnder 29 = .ok (.goto (-23), 3) := by decide +kernel
theorem dX0_countUnder_32 : decode cX0_countUnder 32 = .ok (.iload_n 2, 1) := by decide +kernel
theorem dX0_countUnder_33 : decode cX0_countUnder 33 = .ok (.ireturn, 1) := by decide +kernel
theorem dX0_depth_0 : decode cX0_depth 0 = .ok (.iconst 0, 1) := by decide +kernel
theorem dX0_depth_1 : decode cX0_depth 1 = .ok (.istore_n 2, 1) := by decide +kernel
theorem dX0_depth_2 : decode cX0_depth 2 = .ok (.iload_n 1, 1) := by decide +kernel
theorem dX0_depth_3 : decode cX0_depth 3 = .ok (.istore_n 3, 1) := by decide +kernel
theorem dX0_depth_4 : decode cX0_depth 4 = .ok (.iconst 0, 1) := by decide +kernel
theorem dX0_depth_5 : decode cX0_depth 5 = .ok (.istore 4, 2) := by decide +kernel
theorem dX0_depth_7 : decode cX0_depth 7 = .ok (.iload 4, 2) := by decide +kernel
theorem dX0_depth_9 : decode cX0_depth 9 = .ok (.bipush 8, 2) := by decide +kernel
theorem dX0_depth_11 : decode cX0_depth 11 = .ok (.if_icmp .ge 23, 3) := by decide +kernel
theorem dX0_depth_14 : decode cX0_depth 14 = .ok (.iload_n 3, 1) := by decide +kernel
theorem dX0_depth_15 : decode cX0_depth 15 = .ok (.ifCond .le 19, 3) := by decide +kernel
theorem dX0_depth_18 : decode cX0_depth 18 = .ok (.aload_n 0, 1) := by decide +kernel
theorem dX0_depth_19 : decode cX0_depth 19 = .ok (.getfield 9, 3) := by decide +kernel
theorem dX0_depth_22 : decode cX0_depth 22 = .ok (.iload_n 3, 1) := by decide +kernel
theorem dX0_depth_23 : decode cX0_depth 23 = .ok (.iaload, 1) := by decide +kernel
theorem dX0_depth_24 : decode cX0_depth 24 = .ok (.istore_n 3, 1) := by decide +kernel
theorem dX0_depth_25 : decode cX0_depth 25 = .ok (.iinc 2 1, 3) := by decide +kernel
theorem dX0_depth_28 : decode cX0_depth 28 = .ok (.iinc 4 1, 3) := by decide +kernel
theorem dX0_depth_31 : decode cX0_depth 31 = .ok (.goto (-24), 3) := by decide +kernel
theorem dX0_depth_34 : decode cX0_depth 34 = .ok (.iload_n 2, 1) := by decide +kernel
theorem dX0_depth_35 : decode cX0_depth 35 = .ok (.ireturn, 1) := by decide +kernel
theorem dX1_init_0 : decode cX1_init 0 = .ok (.aload_n 0, 1) := by decide +kernel
theorem dX1_init_1 : decode cX1_init 1 = .ok (.invokespecial 3, 3) := by decide +kernel
theorem dX1_init_4 : decode cX1_init 4 = .ok (.aload_n 0, 1) := by decide +kernel
theorem dX1_init_5 : decode cX1_init 5 = .ok (.bipush 48, 2) := by decide +kernel
theorem dX1_init_7 : decode cX1_init 7 = .ok (.newarray .int, 2) := by decide +kernel
theorem dX1_init_9 : decode cX1_init 9 = .ok (.putfield 9, 3) := by decide +kernel
theorem dX1_init_12 : decode cX1_init 12 = .ok (.return_, 1) := by decide +kernel
theorem dX1_copyFrom_0 : decode cX1_copyFrom 0 = .ok (.aload_n 0, 1) := by decide +kernel
theorem dX1_copyFrom_1 : decode cX1_copyFrom 1 = .ok (.getfield 9, 3) := by decide +kernel
theorem dX1_copyFrom_4 : decode cX1_copyFrom 4 = .ok (.aload_n 1, 1) := by decide +kernel
theorem dX1_copyFrom_5 : decode cX1_copyFrom 5 = .ok (.getfield 9, 3) := by decide +kernel
theorem dX1_copyFrom_8 : decode cX1_copyFrom 8 = .ok (.invokestatic 15, 3) := by decide +kernel
theorem dX1_copyFrom_11 : decode cX1_copyFrom 11 = .ok (.aload_n 0, 1) := by decide +kernel
theorem dX1_copyFrom_12 : decode cX1_copyFrom 12 = .ok (.aload_n 1, 1) := by decide +kernel
theorem dX1_copyFrom_13 : decode cX1_copyFrom 13 = .ok (.getfield 19, 3) := by decide +kernel
theorem dX1_copyFrom_16 : decode cX1_copyFrom 16 = .ok (.putfield 19, 3) := by decide +kernel
theorem dX1_copyFrom_19 : decode cX1_copyFrom 19 = .ok (.aload_n 0, 1) := by decide +kernel
theorem dX1_copyFrom_20 : decode cX1_copyFrom 20 = .ok (.aload_n 1, 1) := by decide +kernel
theorem dX1_copyFrom_21 : decode cX1_copyFrom 21 = .ok (.getfield 23, 3) := by decide +kernel
theorem dX1_copyFrom_24 : decode cX1_copyFrom 24 = .ok (.putfield 23, 3) := by decide +kernel
theorem dX1_copyFrom_27 : decode cX1_copyFrom 27 = .ok (.return_, 1) := by decide +kernel
theorem dX1_mass_0 : decode cX1_mass 0 = .ok (.aload_n 0, 1) := by decide +kernel
theorem dX1_mass_1 : decode cX1_mass 1 = .ok (.getfield 9, 3) := by decide +kernel
theorem dX1_mass_4 : decode cX1_mass 4 = .ok (.aload_n 0, 1) := by decide +kernel
theorem dX1_mass_5 : decode cX1_mass 5 = .ok (.getfield 19, 3) := by decide +kernel
theorem dX1_mass_8 : decode cX1_mass 8 = .ok (.iload_n 1, 1) := by decide +kernel
theorem dX1_mass_9 : decode cX1_mass 9 = .ok (.iadd, 1) := by decide +kernel
theorem dX1_mass_10 : decode cX1_mass 10 = .ok (.bipush 12, 2) := by decide +kernel
theorem dX1_mass_12 : decode cX1_mass 12 = .ok (.irem, 1) := by decide +kernel
theorem dX1_mass_13 : decode cX1_mass 13 = .ok (.iconst 4, 1) := by decide +kernel
theorem dX1_mass_14 : decode cX1_mass 14 = .ok (.imul, 1) := by decide +kernel
theorem dX1_mass_15 : decode cX1_mass 15 = .ok (.iload_n 2, 1) := by decide +kernel
theorem dX1_mass_16 : decode cX1_mass 16 = .ok (.iadd, 1) := by decide +kernel
theorem dX1_mass_17 : decode cX1_mass 17 = .ok (.iaload, 1) := by decide +kernel
theorem dX1_mass_18 : decode cX1_mass 18 = .ok (.ireturn, 1) := by decide +kernel
theorem dX1_take_0 : decode cX1_take 0 = .ok (.aload_n 0, 1) := by decide +kernel
theorem dX1_take_1 : decode cX1_take 1 = .ok (.getfield 9, 3) := by decide +kernel
theorem dX1_take_4 : decode cX1_take 4 = .ok (.aload_n 0, 1) := by decide +kernel
theorem dX1_take_5 : decode cX1_take 5 = .ok (.getfield 19, 3) := by decide +kernel
theorem dX1_take_8 : decode cX1_take 8 = .ok (.iload_n 1, 1) := by decide +kernel
theorem dX1_take_9 : decode cX1_take 9 = .ok (.iadd, 1) := by decide +kernel
theorem dX1_take_10 : decode cX1_take 10 = .ok (.bipush 12, 2) := by decide +kernel
theorem dX1_take_12 : decode cX1_take 12 = .ok (.irem, 1) := by decide +kernel
theorem dX1_take_13 : decode cX1_take 13 = .ok (.iconst 4, 1) := by decide +kernel
theorem dX1_take_14 : decode cX1_take 14 = .ok (.imul, 1) := by decide +kernel
theorem dX1_take_15 : decode cX1_take 15 = .ok (.iload_n 2, 1) := by decide +kernel
theorem dX1_take_16 : decode cX1_take 16 = .ok (.iadd, 1) := by decide +kernel
theorem dX1_take_17 : decode cX1_take 17 = .ok (.dup2, 1) := by decide +kernel
theorem dX1_take_18 : decode cX1_take 18 = .ok (.iaload, 1) := by decide +kernel
theorem dX1_take_19 : decode cX1_take 19 = .ok (.iload_n 3, 1) := by decide +kernel
theorem dX1_take_20 : decode cX1_take 20 = .ok (.isub, 1) := by decide +kernel
theorem dX1_take_21 : decode cX1_take 21 = .ok (.iastore, 1) := by decide +kernel
theorem dX1_take_22 : decode cX1_take 22 = .ok (.aload_n 0, 1) := by decide +kernel
theorem dX1_take_23 : decode cX1_take 23 = .ok (.dup, 1) := by decide +kernel
theorem dX1_take_24 : decode cX1_take 24 = .ok (.getfield 23, 3) := by decide +kernel
theorem dX1_take_27 : decode cX1_take 27 = .ok (.iload_n 3, 1) := by decide +kernel
theorem dX1_take_28 : decode cX1_take 28 = .ok (.isub, 1) := by decide +kernel
theorem dX1_take_29 : decode cX1_take 29 = .ok (.putfield 23, 3) := by decide +kernel
theorem dX1_take_32 : decode cX1_take 32 = .ok (.return_, 1) := by decide +kernel
theorem dX1_putAtStart_0 : decode cX1_putAtStart 0 = .ok (.aload_n 0, 1) := by decide +kernel
theorem dX1_putAtStart_1 : decode cX1_putAtStart 1 = .ok (.getfield 9, 3) := by decide +kernel
theorem dX1_putAtStart_4 : decode cX1_putAtStart 4 = .ok (.aload_n 0, 1) := by decide +kernel
theorem dX1_putAtStart_5 : decode cX1_putAtStart 5 = .ok (.getfield 19, 3) := by decide +kernel
theorem dX1_putAtStart_8 : decode cX1_putAtStart 8 = .ok (.iconst 4, 1) := by decide +kernel
theorem dX1_putAtStart_9 : decode cX1_putAtStart 9 = .ok (.imul, 1) := by decide +kernel
theorem dX1_putAtStart_10 : decode cX1_putAtStart 10 = .ok (.iload_n 1, 1) := by decide +kernel
theorem dX1_putAtStart_11 : decode cX1_putAtStart 11 = .ok (.iadd, 1) := by decide +kernel
theorem dX1_putAtStart_12 : decode cX1_putAtStart 12 = .ok (.dup2, 1) := by decide +kernel
theorem dX1_putAtStart_13 : decode cX1_putAtStart 13 = .ok (.iaload, 1) := by decide +kernel
theorem dX1_putAtStart_14 : decode cX1_putAtStart 14 = .ok (.iload_n 2, 1) := by decide +kernel
theorem dX1_putAtStart_15 : decode cX1_putAtStart 15 = .ok (.iadd, 1) := by decide +kernel
theorem dX1_putAtStart_16 : decode cX1_putAtStart 16 = .ok (.iastore, 1) := by decide +kernel
theorem dX1_putAtStart_17 : decode cX1_putAtStart 17 = .ok (.aload_n 0, 1) := by decide +kernel
theorem dX1_putAtStart_18 : decode cX1_putAtStart 18 = .ok (.dup, 1) := by decide +kernel
theorem dX1_putAtStart_19 : decode cX1_putAtStart 19 = .ok (.getfield 23, 3) := by decide +kernel
theorem dX1_putAtStart_22 : decode cX1_putAtStart 22 = .ok (.iload_n 2, 1) := by decide +kernel
theorem dX1_putAtStart_23 : decode cX1_putAtStart 23 = .ok (.iadd, 1) := by decide +kernel
theorem dX1_putAtStart_24 : decode cX1_putAtStart 24 = .ok (.putfield 23, 3) := by decide +kernel
theorem dX1_putAtStart_27 : decode cX1_putAtStart 27 = .ok (.return_, 1) := by decide +kernel
theorem dX1_goOn_0 : decode cX1_goOn 0 = .ok (.aload_n 0, 1) := by decide +kernel
theorem dX1_goOn_1 : decode cX1_goOn 1 = .ok (.aload_n 0, 1) := by decide +kernel
theorem dX1_goOn_2 : decode cX1_goOn 2 = .ok (.getfield 19, 3) := by decide +kernel
theorem dX1_goOn_5 : decode cX1_goOn 5 = .ok (.bipush 12, 2) := by decide +kernel
theorem dX1_goOn_7 : decode cX1_goOn 7 = .ok (.iadd, 1) := by decide +kernel
theorem dX1_goOn_8 : decode cX1_goOn 8 = .ok (.iconst 1, 1) := by decide +kernel
theorem dX1_goOn_9 : decode cX1_goOn 9 = .ok (.isub, 1) := by decide +kernel
theorem dX1_goOn_10 : decode cX1_goOn 10 = .ok (.bipush 12, 2) := by decide +kernel
theorem dX1_goOn_12 : decode cX1_goOn 12 = .ok (.irem, 1) := by decide +kernel
theorem dX1_goOn_13 : decode cX1_goOn 13 = .ok (.putfield 19, 3) := by decide +kernel
theorem dX1_goOn_16 : decode cX1_goOn 16 = .ok (.return_, 1) := by decide +kernel
theorem dX1_massOfPlace_0 : decode cX1_massOfPlace 0 = .ok (.aload_n 0, 1) := by decide +kernel
theorem dX1_massOfPlace_1 : decode cX1_massOfPlace 1 = .ok (.getfield 19, 3) := by decide +kernel
theorem dX1_massOfPlace_4 : decode cX1_massOfPlace 4 = .ok (.iload_n 1, 1) := by decide +kernel
theorem dX1_massOfPlace_5 : decode cX1_massOfPlace 5 = .ok (.iadd, 1) := by decide +kernel
theorem dX1_massOfPlace_6 : decode cX1_massOfPlace 6 = .ok (.bipush 12, 2) := by decide +kernel
theorem dX1_massOfPlace_8 : decode cX1_massOfPlace 8 = .ok (.irem, 1) := by decide +kernel
theorem dX1_massOfPlace_9 : decode cX1_massOfPlace 9 = .ok (.iconst 4, 1) := by decide +kernel
theorem dX1_massOfPlace_10 : decode cX1_massOfPlace 10 = .ok (.imul, 1) := by decide +kernel
theorem dX1_massOfPlace_11 : decode cX1_massOfPlace 11 = .ok (.istore_n 2, 1) := by decide +kernel
theorem dX1_massOfPlace_12 : decode cX1_massOfPlace 12 = .ok (.iconst 0, 1) := by decide +kernel
theorem dX1_massOfPlace_13 : decode cX1_massOfPlace 13 = .ok (.istore_n 3, 1) := by decide +kernel
theorem dX1_massOfPlace_14 : decode cX1_massOfPlace 14 = .ok (.iconst 0, 1) := by decide +kernel
theorem dX1_massOfPlace_15 : decode cX1_massOfPlace 15 = .ok (.istore 4, 2) := by decide +kernel
theorem dX1_massOfPlace_17 : decode cX1_massOfPlace 17 = .ok (.iload 4, 2) := by decide +kernel
theorem dX1_massOfPlace_19 : decode cX1_massOfPlace 19 = .ok (.iconst 4, 1) := by decide +kernel
theorem dX1_massOfPlace_20 : decode cX1_massOfPlace 20 = .ok (.if_icmp .ge 21, 3) := by decide +kernel
theorem dX1_massOfPlace_23 : decode cX1_massOfPlace 23 = .ok (.iload_n 3, 1) := by decide +kernel
theorem dX1_massOfPlace_24 : decode cX1_massOfPlace 24 = .ok (.aload_n 0, 1) := by decide +kernel
theorem dX1_massOfPlace_25 : decode cX1_massOfPlace 25 = .ok (.getfield 9, 3) := by decide +kernel
theorem dX1_massOfPlace_28 : decode cX1_massOfPlace 28 = .ok (.iload_n 2, 1) := by decide +kernel
theorem dX1_massOfPlace_29 : decode cX1_massOfPlace 29 = .ok (.iload 4, 2) := by decide +kernel
theorem dX1_massOfPlace_31 : decode cX1_massOfPlace 31 = .ok (.iadd, 1) := by decide +kernel
theorem dX1_massOfPlace_32 : decode cX1_massOfPlace 32 = .ok (.iaload, 1) := by decide +kernel
theorem dX1_massOfPlace_33 : decode cX1_massOfPlace 33 = .ok (.iadd, 1) := by decide +kernel
theorem dX1_massOfPlace_34 : decode cX1_massOfPlace 34 = .ok (.istore_n 3, 1) := by decide +kernel
theorem dX1_massOfPlace_35 : decode cX1_massOfPlace 35 = .ok (.iinc 4 1, 3) := by decide +kernel
theorem dX1_massOfPlace_38 : decode cX1_massOfPlace 38 = .ok (.goto (-21), 3) := by decide +kernel
theorem dX1_massOfPlace_41 : decode cX1_massOfPlace 41 = .ok (.iload_n 3, 1) := by decide +kernel
theorem dX1_massOfPlace_42 : decode cX1_massOfPlace 42 = .ok (.ireturn, 1) := by decide +kernel
theorem dX1_massSeen_0 : decode cX1_massSeen 0 = .ok (.iconst 0, 1) := by decide +kernel
theorem dX1_massSeen_1 : decode cX1_massSeen 1 = .ok (.istore_n 1, 1) := by decide +kernel
theorem dX1_massSeen_2 : decode cX1_massSeen 2 = .ok (.iconst 0, 1) := by decide +kernel
theorem dX1_massSeen_3 : decode cX1_massSeen 3 = .ok (.istore_n 2, 1) := by decide +kernel
theorem dX1_massSeen_4 : decode cX1_massSeen 4 = .ok (.iload_n 2, 1) := by decide +kernel
theorem dX1_massSeen_5 : decode cX1_massSeen 5 = .ok (.iconst 4, 1) := by decide +kernel
theorem dX1_massSeen_6 : decode cX1_massSeen 6 = .ok (.if_icmp .ge 19, 3) := by decide +kernel
theorem dX1_massSeen_9 : decode cX1_massSeen 9 = .ok (.iload_n 1, 1) := by decide +kernel
theorem dX1_massSeen_10 : decode cX1_massSeen 10 = .ok (.aload_n 0, 1) := by decide +kernel
theorem dX1_massSeen_11 : decode cX1_massSeen 11 = .ok (.iconst 4, 1) := by decide +kernel
theorem dX1_massSeen_12 : decode cX1_massSeen 12 = .ok (.iload_n 2, 1) := by decide +kernel
theorem dX1_massSeen_13 : decode cX1_massSeen 13 = .ok (.iadd, 1) := by decide +kernel
theorem dX1_massSeen_14 : decode cX1_massSeen 14 = .ok (.invokevirtual 26, 3) := by decide +kernel
theorem dX1_massSeen_17 : decode cX1_massSeen 17 = .ok (.iadd, 1) := by decide +kernel
theorem dX1_massSeen_18 : decode cX1_massSeen 18 = .ok (.istore_n 1, 1) := by decide +kernel
theorem dX1_massSeen_19 : decode cX1_massSeen 19 = .ok (.iinc 2 1, 3) := by decide +kernel
theorem dX1_massSeen_22 : decode cX1_massSeen 22 = .ok (.goto (-18), 3) := by decide +kernel
theorem dX1_massSeen_25 : decode cX1_massSeen 25 = .ok (.iload_n 1, 1) := by decide +kernel
theorem dX1_massSeen_26 : decode cX1_massSeen 26 = .ok (.ireturn, 1) := by decide +kernel
theorem dX2_init_0 : decode cX2_init 0 = .ok (.aload_n 0, 1) := by decide +kernel
theorem dX2_init_1 : decode cX2_init 1 = .ok (.invokespecial 3, 3) := by decide +kernel
theorem dX2_init_4 : decode cX2_init 4 = .ok (.aload_n 0, 1) := by decide +kernel
theorem dX2_init_5 : decode cX2_init 5 = .ok (.bipush 32, 2) := by decide +kernel
theorem dX2_init_7 : decode cX2_init 7 = .ok (.newarray .int, 2) := by decide +kernel
theorem dX2_init_9 : decode cX2_init 9 = .ok (.putfield 9, 3) := by decide +kernel
theorem dX2_init_12 : decode cX2_init 12 = .ok (.aload_n 0, 1) := by decide +kernel
theorem dX2_init_13 : decode cX2_init 13 = .ok (.bipush 8, 2) := by decide +kernel
theorem dX2_init_15 : decode cX2_init 15 = .ok (.newarray .int, 2) := by decide +kernel
theorem dX2_init_17 : decode cX2_init 17 = .ok (.putfield 15, 3) := by decide +kernel
theorem dX2_init_20 : decode cX2_init 20 = .ok (.aload_n 0, 1) := by decide +kernel
theorem dX2_init_21 : decode cX2_init 21 = .ok (.bipush 8, 2) := by decide +kernel
theorem dX2_init_23 : decode cX2_init 23 = .ok (.newarray .int, 2) := by decide +kernel
theorem dX2_init_25 : decode cX2_init 25 = .ok (.putfield 18, 3) := by decide +kernel
theorem dX2_init_28 : decode cX2_init 28 = .ok (.return_, 1) := by decide +kernel
theorem dX2_copyFrom_0 : decode cX2_copyFrom 0 = .ok (.aload_n 0, 1) := by decide +kernel
theorem dX2_copyFrom_1 : decode cX2_copyFrom 1 = .ok (.getfield 9, 3) := by decide +kernel
theorem dX2_copyFrom_4 : decode cX2_copyFrom 4 = .ok (.aload_n 1, 1) := by decide +kernel
theorem dX2_copyFrom_5 : decode cX2_copyFrom 5 = .ok (.getfield 9, 3) := by decide +kernel
theorem dX2_copyFrom_8 : decode cX2_copyFrom 8 = .ok (.invokestatic 21, 3) := by decide +kernel
theorem dX2_copyFrom_11 : decode cX2_copyFrom 11 = .ok (.aload_n 0, 1) := by decide +kernel
theorem dX2_copyFrom_12 : decode cX2_copyFrom 12 = .ok (.getfield 15, 3) := by decide +kernel
theorem dX2_copyFrom_15 : decode cX2_copyFrom 15 = .ok (.aload_n 1, 1) := by decide +kernel
theorem dX2_copyFrom_16 : decode cX2_copyFrom 16 = .ok (.getfield 15, 3) := by decide +kernel
theorem dX2_copyFrom_19 : decode cX2_copyFrom 19 = .ok (.invokestatic 21, 3) := by decide +kernel
theorem dX2_copyFrom_22 : decode cX2_copyFrom 22 = .ok (.aload_n 0, 1) := by decide +kernel
theorem dX2_copyFrom_23 : decode cX2_copyFrom 23 = .ok (.getfield 18, 3) := by decide +kernel
theorem dX2_copyFrom_26 : decode cX2_copyFrom 26 = .ok (.aload_n 1, 1) := by decide +kernel
theorem dX2_copyFrom_27 : decode cX2_copyFrom 27 = .ok (.getfield 18, 3) := by decide +kernel
theorem dX2_copyFrom_30 : decode cX2_copyFrom 30 = .ok (.invokestatic 21, 3) := by decide +kernel
theorem dX2_copyFrom_33 : decode cX2_copyFrom 33 = .ok (.aload_n 0, 1) := by decide +kernel
theorem dX2_copyFrom_34 : decode cX2_copyFrom 34 = .ok (.aload_n 1, 1) := by decide +kernel
theorem dX2_copyFrom_35 : decode cX2_copyFrom 35 = .ok (.getfield 25, 3) := by decide +kernel
theorem dX2_copyFrom_38 : decode cX2_copyFrom 38 = .ok (.putfield 25, 3) := by decide +kernel
theorem dX2_copyFrom_41 : decode cX2_copyFrom 41 = .ok (.return_, 1) := by decide +kernel
theorem dX2_has_0 : decode cX2_has 0 = .ok (.iload_n 1, 1) := by decide +kernel
theorem dX2_has_1 : decode cX2_has 1 = .ok (.ifCond .lt 15, 3) := by decide +kernel
theorem dX2_has_4 : decode cX2_has 4 = .ok (.iload_n 1, 1) := by decide +kernel
theorem dX2_has_5 : decode cX2_has 5 = .ok (.aload_n 0, 1) := by decide +kernel
theorem dX2_has_6 : decode cX2_has 6 = .ok (.getfield 25, 3) := by decide +kernel
theorem dX2_has_9 : decode cX2_has 9 = .ok (.if_icmp .ge 7, 3) := by decide +kernel
theorem dX2_has_12 : decode cX2_has 12 = .ok (.iconst 1, 1) := by decide +kernel
theorem dX2_has_13 : decode cX2_has 13 = .ok (.goto 4, 3) := by decide +kernel
theorem dX2_has_16 : decode cX2_has 16 = .ok (.iconst 0, 1) := by decide +kernel
theorem dX2_has_17 : decode cX2_has 17 = .ok (.ireturn, 1) := by decide +kernel
theorem dX2_addToPresent_0 : decode cX2_addToPresent 0 = .ok (.aload_n 0, 1) := by decide +kernel
theorem dX2_addToPresent_1 : decode cX2_addToPresent 1 = .ok (.getfield 25, 3) := by decide +kernel
theorem dX2_addToPresent_4 : decode cX2_addToPresent 4 = .ok (.ifCond .le 22, 3) := by decide +kernel
theorem dX2_addToPresent_7 : decode cX2_addToPresent 7 = .ok (.aload_n 0, 1) := by decide +kernel
theorem dX2_addToPresent_8 : decode cX2_addToPresent 8 = .ok (.getfield 9, 3) := by decide +kernel
theorem dX2_addToPresent_11 : decode cX2_addToPresent 11 = .ok (.aload_n 0, 1) := by decide +kernel
theorem dX2_addToPresent_12 : decode cX2_addToPresent 12 = .ok (.getfield 25, 3) := by decide +kernel
theorem dX2_addToPresent_15 : decode cX2_addToPresent 15 = .ok (.iconst 1, 1) := by decide +kernel
theorem dX2_addToPresent_16 : decode cX2_addToPresent 16 = .ok (.isub, 1) := by decide +kernel
theorem dX2_addToPresent_17 : decode cX2_addToPresent 17 = .ok (.iconst 4, 1) := by decide +kernel
theorem dX2_addToPresent_18 : decode cX2_addToPresent 18 = .ok (.imul, 1) := by decide +kernel
theorem dX2_addToPresent_19 : decode cX2_addToPresent 19 = .ok (.iload_n 1, 1) := by decide +kernel
theorem dX2_addToPresent_20 : decode cX2_addToPresent 20 = .ok (.iadd, 1) := by decide +kernel
theorem dX2_addToPresent_21 : decode cX2_addToPresent 21 = .ok (.dup2, 1) := by decide +kernel
theorem dX2_addToPresent_22 : decode cX2_addToPresent 22 = .ok (.iaload, 1) := by decide +kernel
theorem dX2_addToPresent_23 : decode cX2_addToPresent 23 = .ok (.iload_n 2, 1) := by decide +kernel
theorem dX2_addToPresent_24 : decode cX2_addToPresent 24 = .ok (.iadd, 1) := by decide +kernel
theorem dX2_addToPresent_25 : decode cX2_addToPresent 25 = .ok (.iastore, 1) := by decide +kernel
theorem dX2_addToPresent_26 : decode cX2_addToPresent 26 = .ok (.return_, 1) := by decide +kernel
theorem dX2_growPresent_0 : decode cX2_growPresent 0 = .ok (.aload_n 0, 1) := by decide +kernel
theorem dX2_growPresent_1 : decode cX2_growPresent 1 = .ok (.getfield 25, 3) := by decide +kernel
theorem dX2_growPresent_4 : decode cX2_growPresent 4 = .ok (.ifCond .le 18, 3) := by decide +kernel
theorem dX2_growPresent_7 : decode cX2_growPresent 7 = .ok (.aload_n 0, 1) := by decide +kernel
theorem dX2_growPresent_8 : decode cX2_growPresent 8 = .ok (.getfield 15, 3) := by decide +kernel
theorem dX2_growPresent_11 : decode cX2_growPresent 11 = .ok (.aload_n 0, 1) := by decide +kernel
theorem dX2_growPresent_12 : decode cX2_growPresent 12 = .ok (.getfield 25, 3) := by decide +kernel
theorem dX2_growPresent_15 : decode cX2_growPresent 15 = .ok (.iconst 1, 1) := by decide +kernel
theorem dX2_growPresent_16 : decode cX2_growPresent 16 = .ok (.isub, 1) := by decide +kernel
theorem dX2_growPresent_17 : decode cX2_growPresent 17 = .ok (.dup2, 1) := by decide +kernel
theorem dX2_growPresent_18 : decode cX2_growPresent 18 = .ok (.iaload, 1) := by decide +kernel
theorem dX2_growPresent_19 : decode cX2_growPresent 19 = .ok (.iload_n 1, 1) := by decide +kernel
theorem dX2_growPresent_20 : decode cX2_growPresent 20 = .ok (.iadd, 1) := by decide +kernel
theorem dX2_growPresent_21 : decode cX2_growPresent 21 = .ok (.iastore, 1) := by decide +kernel
theorem dX2_growPresent_22 : decode cX2_growPresent 22 = .ok (.return_, 1) := by decide +kernel
theorem dX2_countFilledTick_0 : decode cX2_countFilledTick 0 = .ok (.aload_n 0, 1) := by decide +kernel
theorem dX2_countFilledTick_1 : decode cX2_countFilledTick 1 = .ok (.getfield 25, 3) := by decide +kernel
theorem dX2_countFilledTick_4 : decode cX2_countFilledTick 4 = .ok (.ifCond .le 18, 3) := by decide +kernel
theorem dX2_countFilledTick_7 : decode cX2_countFilledTick 7 = .ok (.aload_n 0, 1) := by decide +kernel
theorem dX2_countFilledTick_8 : decode cX2_countFilledTick 8 = .ok (.getfield 18, 3) := by decide +kernel
theorem dX2_countFilledTick_11 : decode cX2_countFilledTick 11 = .ok (.aload_n 0, 1) := by decide +kernel
theorem dX2_countFilledTick_12 : decode cX2_countFilledTick 12 = .ok (.getfield 25, 3) := by decide +kernel
theorem dX2_countFilledTick_15 : decode cX2_countFilledTick 15 = .ok (.iconst 1, 1) := by decide +kernel
theorem dX2_countFilledTick_16 : decode cX2_countFilledTick 16 = .ok (.isub, 1) := by decide +kernel
theorem dX2_countFilledTick_17 : decode cX2_countFilledTick 17 = .ok (.dup2, 1) := by decide +kernel
theorem dX2_countFilledTick_18 : decode cX2_countFilledTick 18 = .ok (.iaload, 1) := by decide +kernel
theorem dX2_countFilledTick_19 : decode cX2_countFilledTick 19 = .ok (.iconst 1, 1) := by decide +kernel
theorem dX2_countFilledTick_20 : decode cX2_countFilledTick 20 = .ok (.iadd, 1) := by decide +kernel
theorem dX2_countFilledTick_21 : decode cX2_countFilledTick 21 = .ok (.iastore, 1) := by decide +kernel
theorem dX2_countFilledTick_22 : decode cX2_countFilledTick 22 = .ok (.return_, 1) := by decide +kernel
theorem dX2_massOf_0 : decode cX2_massOf 0 = .ok (.iconst 0, 1) := by decide +kernel
theorem dX2_massOf_1 : decode cX2_massOf 1 = .ok (.istore_n 2, 1) := by decide +kernel
theorem dX2_massOf_2 : decode cX2_massOf 2 = .ok (.iconst 0, 1) := by decide +kernel
theorem dX2_massOf_3 : decode cX2_massOf 3 = .ok (.istore_n 3, 1) := by decide +kernel
theorem dX2_massOf_4 : decode cX2_massOf 4 = .ok (.iload_n 3, 1) := by decide +kernel
theorem dX2_massOf_5 : decode cX2_massOf 5 = .ok (.iconst 4, 1) := by decide +kernel
theorem dX2_massOf_6 : decode cX2_massOf 6 = .ok (.if_icmp .ge 22, 3) := by decide +kernel
theorem dX2_massOf_9 : decode cX2_massOf 9 = .ok (.iload_n 2, 1) := by decide +kernel
theorem dX2_massOf_10 : decode cX2_massOf 10 = .ok (.aload_n 0, 1) := by decide +kernel
theorem dX2_massOf_11 : decode cX2_massOf 11 = .ok (.getfield 9, 3) := by decide +kernel
theorem dX2_massOf_14 : decode cX2_massOf 14 = .ok (.iload_n 1, 1) := by decide +kernel
theorem dX2_massOf_15 : decode cX2_massOf 15 = .ok (.iconst 4, 1) := by decide +kernel
theorem dX2_massOf_16 : decode cX2_massOf 16 = .ok (.imul, 1) := by decide +kernel
theorem dX2_massOf_17 : decode cX2_massOf 17 = .ok (.iload_n 3, 1) := by decide +kernel
theorem dX2_massOf_18 : decode cX2_massOf 18 = .ok (.iadd, 1) := by decide +kernel
theorem dX2_massOf_19 : decode cX2_massOf 19 = .ok (.iaload, 1) := by decide +kernel
theorem dX2_massOf_20 : decode cX2_massOf 20 = .ok (.iadd, 1) := by decide +kernel
theorem dX2_massOf_21 : decode cX2_massOf 21 = .ok (.istore_n 2, 1) := by decide +kernel
theorem dX2_massOf_22 : decode cX2_massOf 22 = .ok (.iinc 3 1, 3) := by decide +kernel
theorem dX2_massOf_25 : decode cX2_massOf 25 = .ok (.goto (-21), 3) := by decide +kernel
theorem dX2_massOf_28 : decode cX2_massOf 28 = .ok (.iload_n 2, 1) := by decide +kernel
theorem dX2_massOf_29 : decode cX2_massOf 29 = .ok (.ireturn, 1) := by decide +kernel
theorem dX2_massOfPresent_0 : decode cX2_massOfPresent 0 = .ok (.aload_n 0, 1) := by decide +kernel
theorem dX2_massOfPresent_1 : decode cX2_massOfPresent 1 = .ok (.getfield 25, 3) := by decide +kernel
theorem dX2_massOfPresent_4 : decode cX2_massOfPresent 4 = .ok (.ifCond .le 16, 3) := by decide +kernel
theorem dX2_massOfPresent_7 : decode cX2_massOfPresent 7 = .ok (.aload_n 0, 1) := by decide +kernel
theorem dX2_massOfPresent_8 : decode cX2_massOfPresent 8 = .ok (.aload_n 0, 1) := by decide +kernel
theorem dX2_massOfPresent_9 : decode cX2_massOfPresent 9 = .ok (.getfield 25, 3) := by decide +kernel
theorem dX2_massOfPresent_12 : decode cX2_massOfPresent 12 = .ok (.iconst 1, 1) := by decide +kernel
theorem dX2_massOfPresent_13 : decode cX2_massOfPresent 13 = .ok (.isub, 1) := by decide +kernel
theorem dX2_massOfPresent_14 : decode cX2_massOfPresent 14 = .ok (.invokevirtual 29, 3) := by decide +kernel
theorem dX2_massOfPresent_17 : decode cX2_massOfPresent 17 = .ok (.goto 4, 3) := by decide +kernel
theorem dX2_massOfPresent_20 : decode cX2_massOfPresent 20 = .ok (.iconst 0, 1) := by decide +kernel
theorem dX2_massOfPresent_21 : decode cX2_massOfPresent 21 = .ok (.ireturn, 1) := by decide +kernel
theorem dX2_massOfAll_0 : decode cX2_massOfAll 0 = .ok (.iconst 0, 1) := by decide +kernel
theorem dX2_massOfAll_1 : decode cX2_massOfAll 1 = .ok (.istore_n 1, 1) := by decide +kernel
theorem dX2_massOfAll_2 : decode cX2_massOfAll 2 = .ok (.iconst 0, 1) := by decide +kernel
theorem dX2_massOfAll_3 : decode cX2_massOfAll 3 = .ok (.istore_n 2, 1) := by decide +kernel
theorem dX2_massOfAll_4 : decode cX2_massOfAll 4 = .ok (.iload_n 2, 1) := by decide +kernel
theorem dX2_massOfAll_5 : decode cX2_massOfAll 5 = .ok (.aload_n 0, 1) := by decide +kernel
theorem dX2_massOfAll_6 : decode cX2_massOfAll 6 = .ok (.getfield 9, 3) := by decide +kernel
theorem dX2_massOfAll_9 : decode cX2_massOfAll 9 = .ok (.arraylength, 1) := by decide +kernel
theorem dX2_massOfAll_10 : decode cX2_massOfAll 10 = .ok (.if_icmp .ge 18, 3) := by decide +kernel
theorem dX2_massOfAll_13 : decode cX2_massOfAll 13 = .ok (.iload_n 1, 1) := by decide +kernel
theorem dX2_massOfAll_14 : decode cX2_massOfAll 14 = .ok (.aload_n 0, 1) := by decide +kernel
theorem dX2_massOfAll_15 : decode cX2_massOfAll 15 = .ok (.getfield 9, 3) := by decide +kernel
theorem dX2_massOfAll_18 : decode cX2_massOfAll 18 = .ok (.iload_n 2, 1) := by decide +kernel
theorem dX2_massOfAll_19 : decode cX2_massOfAll 19 = .ok (.iaload, 1) := by decide +kernel
theorem dX2_massOfAll_20 : decode cX2_massOfAll 20 = .ok (.iadd, 1) := by decide +kernel
theorem dX2_massOfAll_21 : decode cX2_massOfAll 21 = .ok (.istore_n 1, 1) := by decide +kernel
theorem dX2_massOfAll_22 : decode cX2_massOfAll 22 = .ok (.iinc 2 1, 3) := by decide +kernel
theorem dX2_massOfAll_25 : decode cX2_massOfAll 25 = .ok (.goto (-21), 3) := by decide +kernel
theorem dX2_massOfAll_28 : decode cX2_massOfAll 28 = .ok (.iload_n 1, 1) := by decide +kernel
theorem dX2_massOfAll_29 : decode cX2_massOfAll 29 = .ok (.ireturn, 1) := by decide +kernel
theorem dX3_init_0 : decode cX3_init 0 = .ok (.aload_n 0, 1) := by decide +kernel
theorem dX3_init_1 : decode cX3_init 1 = .ok (.invokespecial 3, 3) := by decide +kernel
theorem dX3_init_4 : decode cX3_init 4 = .ok (.return_, 1) := by decide +kernel
theorem dX3_read_0 : decode cX3_read 0 = .ok (.aload_n 0, 1) := by decide +kernel
theorem dX3_read_1 : decode cX3_read 1 = .ok (.aload_n 1, 1) := by decide +kernel
theorem dX3_read_2 : decode cX3_read 2 = .ok (.iload_n 2, 1) := by decide +kernel
theorem dX3_read_3 : decode cX3_read 3 = .ok (.invokevirtual 9, 3) := by decide +kernel
theorem dX3_read_6 : decode cX3_read 6 = .ok (.putfield 15, 3) := by decide +kernel
theorem dX3_read_9 : decode cX3_read 9 = .ok (.aload_n 0, 1) := by decide +kernel
theorem dX3_read_10 : decode cX3_read 10 = .ok (.iconst 0, 1) := by decide +kernel
theorem dX3_read_11 : decode cX3_read 11 = .ok (.putfield 21, 3) := by decide +kernel
theorem dX3_read_14 : decode cX3_read 14 = .ok (.aload_n 0, 1) := by decide +kernel
theorem dX3_read_15 : decode cX3_read 15 = .ok (.iconst 0, 1) := by decide +kernel
theorem dX3_read_16 : decode cX3_read 16 = .ok (.putfield 24, 3) := by decide +kernel
theorem dX3_read_19 : decode cX3_read 19 = .ok (.aload_n 0, 1) := by decide +kernel
theorem dX3_read_20 : decode cX3_read 20 = .ok (.iload_n 2, 1) := by decide +kernel
theorem dX3_read_21 : decode cX3_read 21 = .ok (.iconst 1, 1) := by decide +kernel
theorem dX3_read_22 : decode cX3_read 22 = .ok (.iadd, 1) := by decide +kernel
theorem dX3_read_23 : decode cX3_read 23 = .ok (.putfield 27, 3) := by decide +kernel
theorem dX3_read_26 : decode cX3_read 26 = .ok (.aload_n 0, 1) := by decide +kernel
theorem dX3_read_27 : decode cX3_read 27 = .ok (.getfield 15, 3) := by decide +kernel
theorem dX3_read_30 : decode cX3_read 30 = .ok (.tableswitch 214 98 122 #[114, 122, 214, 214, 214, 122, 214, 214, 214, 214, 154, 122, 214, 214, 214, 214, 214, 114, 122, 214, 214, 214, 114, 214, 114], 114) := by decide +kernel
theorem dX3_read_144 : decode cX3_read 144 = .ok (.aload_n 0, 1) := by decide +kernel
theorem dX3_read_145 : decode cX3_read 145 = .ok (.aload_n 1, 1) := by decide +kernel
theorem dX3_read_146 : decode cX3_read 146 = .ok (.bipush 59, 2) := by decide +kernel
theorem dX3_read_148 : decode cX3_read 148 = .ok (.invokevirtual 30, 3) := by decide +kernel
theorem dX3_read_151 : decode cX3_read 151 = .ok (.ireturn, 1) := by decide +kernel
theorem dX3_read_152 : decode cX3_read 152 = .ok (.aload_n 0, 1) := by decide +kernel
theorem dX3_read_153 : decode cX3_read 153 = .ok (.aload_n 0, 1) := by decide +kernel
theorem dX3_read_154 : decode cX3_read 154 = .ok (.aload_n 1, 1) := by decide +kernel
theorem dX3_read_155 : decode cX3_read 155 = .ok (.invokevirtual 34, 3) := by decide +kernel
theorem dX3_read_158 : decode cX3_read 158 = .ok (.putfield 21, 3) := by decide +kernel
theorem dX3_read_161 : decode cX3_read 161 = .ok (.aload_n 0, 1) := by decide +kernel
theorem dX3_read_162 : decode cX3_read 162 = .ok (.getfield 21, 3) := by decide +kernel
theorem dX3_read_165 : decode cX3_read 165 = .ok (.ifCond .lt 17, 3) := by decide +kernel
theorem dX3_read_168 : decode cX3_read 168 = .ok (.aload_n 0, 1) := by decide +kernel
theorem dX3_read_169 : decode cX3_read 169 = .ok (.aload_n 1, 1) := by decide +kernel
theorem dX3_read_170 : decode cX3_read 170 = .ok (.bipush 59, 2) := by decide +kernel
theorem dX3_read_172 : decode cX3_read 172 = .ok (.invokevirtual 30, 3) := by decide +kernel
theorem dX3_read_175 : decode cX3_read 175 = .ok (.ifCond .eq 7, 3) := by decide +kernel
theorem dX3_read_178 : decode cX3_read 178 = .ok (.iconst 1, 1) := by decide +kernel
theorem dX3_read_179 : decode cX3_read 179 = .ok (.goto 4, 3) := by decide +kernel
theorem dX3_read_182 : decode cX3_read 182 = .ok (.iconst 0, 1) := by decide +kernel
theorem dX3_read_183 : decode cX3_read 183 = .ok (.ireturn, 1) := by decide +kernel
theorem dX3_read_184 : decode cX3_read 184 = .ok (.aload_n 0, 1) := by decide +kernel
theorem dX3_read_185 : decode cX3_read 185 = .ok (.aload_n 0, 1) := by decide +kernel
theorem dX3_read_186 : decode cX3_read 186 = .ok (.aload_n 1, 1) := by decide +kernel
theorem dX3_read_187 : decode cX3_read 187 = .ok (.invokevirtual 34, 3) := by decide +kernel
theorem dX3_read_190 : decode cX3_read 190 = .ok (.putfield 21, 3) := by decide +kernel
theorem dX3_read_193 : decode cX3_read 193 = .ok (.aload_n 0, 1) := by decide +kernel
theorem dX3_read_194 : decode cX3_read 194 = .ok (.getfield 21, 3) := by decide +kernel
theorem dX3_read_197 : decode cX3_read 197 = .ok (.ifCond .lt 13, 3) := by decide +kernel
theorem dX3_read_200 : decode cX3_read 200 = .ok (.aload_n 0, 1) := by decide +kernel
theorem dX3_read_201 : decode cX3_read 201 = .ok (.aload_n 1, 1) := by decide +kernel
theorem dX3_read_202 : decode cX3_read 202 = .ok (.bipush 44, 2) := by decide +kernel
theorem dX3_read_204 : decode cX3_read 204 = .ok (.invokevirtual 30, 3) := by decide +kernel
theorem dX3_read_207 : decode cX3_read 207 = .ok (.ifCond .ne 5, 3) := by decide +kernel
theorem dX3_read_210 : decode cX3_read 210 = .ok (.iconst 0, 1) := by decide +kernel
theorem dX3_read_211 : decode cX3_read 211 = .ok (.ireturn, 1) := by decide +kernel
theorem dX3_read_212 : decode cX3_read 212 = .ok (.aload_n 0, 1) := by decide +kernel
theorem dX3_read_213 : decode cX3_read 213 = .ok (.aload_n 0, 1) := by decide +kernel
theorem dX3_read_214 : decode cX3_read 214 = .ok (.aload_n 1, 1) := by decide +kernel
theorem dX3_read_215 : decode cX3_read 215 = .ok (.invokevirtual 34, 3) := by decide +kernel
theorem dX3_read_218 : decode cX3_read 218 = .ok (.putfield 24, 3) := by decide +kernel
theorem dX3_read_221 : decode cX3_read 221 = .ok (.aload_n 0, 1) := by decide +kernel
theorem dX3_read_222 : decode cX3_read 222 = .ok (.getfield 24, 3) := by decide +kernel
theorem dX3_read_225 : decode cX3_read 225 = .ok (.ifCond .lt 17, 3) := by decide +kernel
theorem dX3_read_228 : decode cX3_read 228 = .ok (.aload_n 0, 1) := by decide +kernel
theorem dX3_read_229 : decode cX3_read 229 = .ok (.aload_n 1, 1) := by decide +kernel
theorem dX3_read_230 : decode cX3_read 230 = .ok (.bipush 59, 2) := by decide +kernel
theorem dX3_read_232 : decode cX3_read 232 = .ok (.invokevirtual 30, 3) := by decide +kernel
theorem dX3_read_235 : decode cX3_read 235 = .ok (.ifCond .eq 7, 3) := by decide +kernel
theorem dX3_read_238 : decode cX3_read 238 = .ok (.iconst 1, 1) := by decide +kernel
theorem dX3_read_239 : decode cX3_read 239 = .ok (.goto 4, 3) := by decide +kernel
theorem dX3_read_242 : decode cX3_read 242 = .ok (.iconst 0, 1) := by decide +kernel
theorem dX3_read_243 : decode cX3_read 243 = .ok (.ireturn, 1) := by decide +kernel
theorem dX3_read_244 : decode cX3_read 244 = .ok (.iconst 0, 1) := by decide +kernel
theorem dX3_read_245 : decode cX3_read 245 = .ok (.ireturn, 1) := by decide +kernel
theorem dX3_passes_0 : decode cX3_passes 0 = .ok (.aload_n 1, 1) := by decide +kernel
theorem dX3_passes_1 : decode cX3_passes 1 = .ok (.aload_n 0, 1) := by decide +kernel
theorem dX3_passes_2 : decode cX3_passes 2 = .ok (.getfield 27, 3) := by decide +kernel
theorem dX3_passes_5 : decode cX3_passes 5 = .ok (.invokevirtual 9, 3) := by decide +kernel
theorem dX3_passes_8 : decode cX3_passes 8 = .ok (.iload_n 2, 1) := by decide +kernel
theorem dX3_passes_9 : decode cX3_passes 9 = .ok (.if_icmp .eq 5, 3) := by decide +kernel
theorem dX3_passes_12 : decode cX3_passes 12 = .ok (.iconst 0, 1) := by decide +kernel
theorem dX3_passes_13 : decode cX3_passes 13 = .ok (.ireturn, 1) := by decide +kernel
theorem dX3_passes_14 : decode cX3_passes 14 = .ok (.aload_n 0, 1) := by decide +kernel
theorem dX3_passes_15 : decode cX3_passes 15 = .ok (.dup, 1) := by decide +kernel
theorem dX3_passes_16 : decode cX3_passes 16 = .ok (.getfield 27, 3) := by decide +kernel
theorem dX3_passes_19 : decode cX3_passes 19 = .ok (.iconst 1, 1) := by decide +kernel
theorem dX3_passes_20 : decode cX3_passes 20 = .ok (.iadd, 1) := by decide +kernel
theorem dX3_passes_21 : decode cX3_passes 21 = .ok (.putfield 27, 3) := by decide +kernel
theorem dX3_passes_24 : decode cX3_passes 24 = .ok (.iconst 1, 1) := by decide +kernel
theorem dX3_passes_25 : decode cX3_passes 25 = .ok (.ireturn, 1) := by decide +kernel
theorem dX3_readNumber_0 : decode cX3_readNumber 0 = .ok (.iconst (-1), 1) := by decide +kernel
theorem dX3_readNumber_1 : decode cX3_readNumber 1 = .ok (.istore_n 2, 1) := by decide +kernel
theorem dX3_readNumber_2 : decode cX3_readNumber 2 = .ok (.iconst 0, 1) := by decide +kernel
theorem dX3_readNumber_3 : decode cX3_readNumber 3 = .ok (.istore_n 3, 1) := by decide +kernel
theorem dX3_readNumber_4 : decode cX3_readNumber 4 = .ok (.iload_n 3, 1) := by decide +kernel
theorem dX3_readNumber_5 : decode cX3_readNumber 5 = .ok (.iconst 4, 1) := by decide +kernel
theorem dX3_readNumber_6 : decode cX3_readNumber 6 = .ok (.if_icmp .ge 58, 3) := by decide +kernel
theorem dX3_readNumber_9 : decode cX3_readNumber 9 = .ok (.aload_n 1, 1) := by decide +kernel
theorem dX3_readNumber_10 : decode cX3_readNumber 10 = .ok (.aload_n 0, 1) := by decide +kernel
theorem dX3_readNumber_11 : decode cX3_readNumber 11 = .ok (.getfield 27, 3) := by decide +kernel
theorem dX3_readNumber_14 : decode cX3_readNumber 14 = .ok (.invokevirtual 9, 3) := by decide +kernel
theorem dX3_readNumber_17 : decode cX3_readNumber 17 = .ok (.bipush 48, 2) := by decide +kernel
theorem dX3_readNumber_19 : decode cX3_readNumber 19 = .ok (.isub, 1) := by decide +kernel
theorem dX3_readNumber_20 : decode cX3_readNumber 20 = .ok (.istore 4, 2) := by decide +kernel
theorem dX3_readNumber_22 : decode cX3_readNumber 22 = .ok (.iload 4, 2) := by decide +kernel
theorem dX3_readNumber_24 : decode cX3_readNumber 24 = .ok (.ifCond .lt 10, 3) := by decide +kernel
theorem dX3_readNumber_27 : decode cX3_readNumber 27 = .ok (.iload 4, 2) := by decide +kernel
theorem dX3_readNumber_29 : decode cX3_readNumber 29 = .ok (.bipush 9, 2) := by decide +kernel
theorem dX3_readNumber_31 : decode cX3_readNumber 31 = .ok (.if_icmp .le 5, 3) := by decide +kernel
theorem dX3_readNumber_34 : decode cX3_readNumber 34 = .ok (.iload_n 2, 1) := by decide +kernel
theorem dX3_readNumber_35 : decode cX3_readNumber 35 = .ok (.ireturn, 1) := by decide +kernel
theorem dX3_readNumber_36 : decode cX3_readNumber 36 = .ok (.iload_n 2, 1) := by decide +kernel
theorem dX3_readNumber_37 : decode cX3_readNumber 37 = .ok (.iconst 0, 1) := by decide +kernel
theorem dX3_readNumber_38 : decode cX3_readNumber 38 = .ok (.invokestatic 38, 3) := by decide +kernel
theorem dX3_readNumber_41 : decode cX3_readNumber 41 = .ok (.bipush 10, 2) := by decide +kernel
theorem dX3_readNumber_43 : decode cX3_readNumber 43 = .ok (.imul, 1) := by decide +kernel
theorem dX3_readNumber_44 : decode cX3_readNumber 44 = .ok (.iload 4, 2) := by decide +kernel
theorem dX3_readNumber_46 : decode cX3_readNumber 46 = .ok (.iadd, 1) := by decide +kernel
theorem dX3_readNumber_47 : decode cX3_readNumber 47 = .ok (.istore_n 2, 1) := by decide +kernel
theorem dX3_readNumber_48 : decode cX3_readNumber 48 = .ok (.aload_n 0, 1) := by decide +kernel
theorem dX3_readNumber_49 : decode cX3_readNumber 49 = .ok (.dup, 1) := by decide +kernel
theorem dX3_readNumber_50 : decode cX3_readNumber 50 = .ok (.getfield 27, 3) := by decide +kernel
theorem dX3_readNumber_53 : decode cX3_readNumber 53 = .ok (.iconst 1, 1) := by decide +kernel
theorem dX3_readNumber_54 : decode cX3_readNumber 54 = .ok (.iadd, 1) := by decide +kernel
theorem dX3_readNumber_55 : decode cX3_readNumber 55 = .ok (.putfield 27, 3) := by decide +kernel
theorem dX3_readNumber_58 : decode cX3_readNumber 58 = .ok (.iinc 3 1, 3) := by decide +kernel
theorem dX3_readNumber_61 : decode cX3_readNumber 61 = .ok (.goto (-57), 3) := by decide +kernel
theorem dX3_readNumber_64 : decode cX3_readNumber 64 = .ok (.iload_n 2, 1) := by decide +kernel
theorem dX3_readNumber_65 : decode cX3_readNumber 65 = .ok (.ireturn, 1) := by decide +kernel
theorem dX3_carryOut_0 : decode cX3_carryOut 0 = .ok (.aload_n 0, 1) := by decide +kernel
theorem dX3_carryOut_1 : decode cX3_carryOut 1 = .ok (.getfield 15, 3) := by decide +kernel
theorem dX3_carryOut_4 : decode cX3_carryOut 4 = .ok (.tableswitch 187 98 122 #[138, 169, 187, 187, 187, 129, 187, 187, 187, 187, 116, 155, 187, 187, 187, 187, 187, 143, 178, 187, 187, 187, 149, 187, 164], 116) := by decide +kernel
theorem dX3_carryOut_120 : decode cX3_carryOut 120 = .ok (.aload_n 1, 1) := by decide +kernel
theorem dX3_carryOut_121 : decode cX3_carryOut 121 = .ok (.aload_n 0, 1) := by decide +kernel
theorem dX3_carryOut_122 : decode cX3_carryOut 122 = .ok (.getfield 21, 3) := by decide +kernel
theorem dX3_carryOut_125 : decode cX3_carryOut 125 = .ok (.aload_n 0, 1) := by decide +kernel
theorem dX3_carryOut_126 : decode cX3_carryOut 126 = .ok (.getfield 24, 3) := by decide +kernel
theorem dX3_carryOut_129 : decode cX3_carryOut 129 = .ok (.invokevirtual 44, 3) := by decide +kernel
theorem dX3_carryOut_132 : decode cX3_carryOut 132 = .ok (.ireturn, 1) := by decide +kernel
theorem dX3_carryOut_133 : decode cX3_carryOut 133 = .ok (.aload_n 1, 1) := by decide +kernel
theorem dX3_carryOut_134 : decode cX3_carryOut 134 = .ok (.aload_n 0, 1) := by decide +kernel
theorem dX3_carryOut_135 : decode cX3_carryOut 135 = .ok (.getfield 21, 3) := by decide +kernel
theorem dX3_carryOut_138 : decode cX3_carryOut 138 = .ok (.invokevirtual 49, 3) := by decide +kernel
theorem dX3_carryOut_141 : decode cX3_carryOut 141 = .ok (.ireturn, 1) := by decide +kernel
theorem dX3_carryOut_142 : decode cX3_carryOut 142 = .ok (.aload_n 1, 1) := by decide +kernel
theorem dX3_carryOut_143 : decode cX3_carryOut 143 = .ok (.invokevirtual 52, 3) := by decide +kernel
theorem dX3_carryOut_146 : decode cX3_carryOut 146 = .ok (.ireturn, 1) := by decide +kernel
theorem dX3_carryOut_147 : decode cX3_carryOut 147 = .ok (.aload_n 1, 1) := by decide +kernel
theorem dX3_carryOut_148 : decode cX3_carryOut 148 = .ok (.iconst 1, 1) := by decide +kernel
theorem dX3_carryOut_149 : decode cX3_carryOut 149 = .ok (.invokevirtual 56, 3) := by decide +kernel
theorem dX3_carryOut_152 : decode cX3_carryOut 152 = .ok (.ireturn, 1) := by decide +kernel
theorem dX3_carryOut_153 : decode cX3_carryOut 153 = .ok (.aload_n 1, 1) := by decide +kernel
theorem dX3_carryOut_154 : decode cX3_carryOut 154 = .ok (.iconst 0, 1) := by decide +kernel
theorem dX3_carryOut_155 : decode cX3_carryOut 155 = .ok (.invokevirtual 56, 3) := by decide +kernel
theorem dX3_carryOut_158 : decode cX3_carryOut 158 = .ok (.ireturn, 1) := by decide +kernel
theorem dX3_carryOut_159 : decode cX3_carryOut 159 = .ok (.aload_n 1, 1) := by decide +kernel
theorem dX3_carryOut_160 : decode cX3_carryOut 160 = .ok (.aload_n 0, 1) := by decide +kernel
theorem dX3_carryOut_161 : decode cX3_carryOut 161 = .ok (.getfield 21, 3) := by decide +kernel
theorem dX3_carryOut_164 : decode cX3_carryOut 164 = .ok (.invokevirtual 59, 3) := by decide +kernel
theorem dX3_carryOut_167 : decode cX3_carryOut 167 = .ok (.ireturn, 1) := by decide +kernel
theorem dX3_carryOut_168 : decode cX3_carryOut 168 = .ok (.aload_n 1, 1) := by decide +kernel
theorem dX3_carryOut_169 : decode cX3_carryOut 169 = .ok (.invokevirtual 62, 3) := by decide +kernel
theorem dX3_carryOut_172 : decode cX3_carryOut 172 = .ok (.ireturn, 1) := by decide +kernel
theorem dX3_carryOut_173 : decode cX3_carryOut 173 = .ok (.aload_n 1, 1) := by decide +kernel
theorem dX3_carryOut_174 : decode cX3_carryOut 174 = .ok (.aload_n 0, 1) := by decide +kernel
theorem dX3_carryOut_175 : decode cX3_carryOut 175 = .ok (.getfield 21, 3) := by decide +kernel
theorem dX3_carryOut_178 : decode cX3_carryOut 178 = .ok (.invokevirtual 65, 3) := by decide +kernel
theorem dX3_carryOut_181 : decode cX3_carryOut 181 = .ok (.ireturn, 1) := by decide +kernel
theorem dX3_carryOut_182 : decode cX3_carryOut 182 = .ok (.aload_n 1, 1) := by decide +kernel
theorem dX3_carryOut_183 : decode cX3_carryOut 183 = .ok (.aload_n 0, 1) := by decide +kernel
theorem dX3_carryOut_184 : decode cX3_carryOut 184 = .ok (.getfield 21, 3) := by decide +kernel
theorem dX3_carryOut_187 : decode cX3_carryOut 187 = .ok (.invokevirtual 68, 3) := by decide +kernel
theorem dX3_carryOut_190 : decode cX3_carryOut 190 = .ok (.ireturn, 1) := by decide +kernel
theorem dX3_carryOut_191 : decode cX3_carryOut 191 = .ok (.ldc 71, 2) := by decide +kernel
theorem dX3_carryOut_193 : decode cX3_carryOut 193 = .ok (.ireturn, 1) := by decide +kernel
theorem dX4_init_0 : decode cX4_init 0 = .ok (.aload_n 0, 1) := by decide +kernel
theorem dX4_init_1 : decode cX4_init 1 = .ok (.invokespecial 3, 3) := by decide +kernel
theorem dX4_init_4 : decode cX4_init 4 = .ok (.aload_n 0, 1) := by decide +kernel
theorem dX4_init_5 : decode cX4_init 5 = .ok (.new 9, 3) := by decide +kernel
theorem dX4_init_8 : decode cX4_init 8 = .ok (.dup, 1) := by decide +kernel
theorem dX4_init_9 : decode cX4_init 9 = .ok (.invokespecial 11, 3) := by decide +kernel
theorem dX4_init_12 : decode cX4_init 12 = .ok (.putfield 12, 3) := by decide +kernel
theorem dX4_init_15 : decode cX4_init 15 = .ok (.aload_n 0, 1) := by decide +kernel
theorem dX4_init_16 : decode cX4_init 16 = .ok (.new 9, 3) := by decide +kernel
theorem dX4_init_19 : decode cX4_init 19 = .ok (.dup, 1) := by decide +kernel
theorem dX4_init_20 : decode cX4_init 20 = .ok (.invokespecial 11, 3) := by decide +kernel
theorem dX4_init_23 : decode cX4_init 23 = .ok (.putfield 18, 3) := by decide +kernel
theorem dX4_init_26 : decode cX4_init 26 = .ok (.aload_n 0, 1) := by decide +kernel
theorem dX4_init_27 : decode cX4_init 27 = .ok (.new 9, 3) := by decide +kernel
theorem dX4_init_30 : decode cX4_init 30 = .ok (.dup, 1) := by decide +kernel
theorem dX4_init_31 : decode cX4_init 31 = .ok (.invokespecial 11, 3) := by decide +kernel
theorem dX4_init_34 : decode cX4_init 34 = .ok (.putfield 21, 3) := by decide +kernel
theorem dX4_init_37 : decode cX4_init 37 = .ok (.aload_n 0, 1) := by decide +kernel
theorem dX4_init_38 : decode cX4_init 38 = .ok (.new 9, 3) := by decide +kernel
theorem dX4_init_41 : decode cX4_init 41 = .ok (.dup, 1) := by decide +kernel
theorem dX4_init_42 : decode cX4_init 42 = .ok (.invokespecial 11, 3) := by decide +kernel
theorem dX4_init_45 : decode cX4_init 45 = .ok (.putfield 24, 3) := by decide +kernel
theorem dX4_init_48 : decode cX4_init 48 = .ok (.return_, 1) := by decide +kernel
theorem dX4_push_0 : decode cX4_push 0 = .ok (.aload_n 0, 1) := by decide +kernel
theorem dX4_push_1 : decode cX4_push 1 = .ok (.getfield 24, 3) := by decide +kernel
theorem dX4_push_4 : decode cX4_push 4 = .ok (.astore_n 2, 1) := by decide +kernel
theorem dX4_push_5 : decode cX4_push 5 = .ok (.aload_n 0, 1) := by decide +kernel
theorem dX4_push_6 : decode cX4_push 6 = .ok (.aload_n 0, 1) := by decide +kernel
theorem dX4_push_7 : decode cX4_push 7 = .ok (.getfield 21, 3) := by decide +kernel
theorem dX4_push_10 : decode cX4_push 10 = .ok (.putfield 24, 3) := by decide +kernel
theorem dX4_push_13 : decode cX4_push 13 = .ok (.aload_n 0, 1) := by decide +kernel
theorem dX4_push_14 : decode cX4_push 14 = .ok (.aload_n 0, 1) := by decide +kernel
theorem dX4_push_15 : decode cX4_push 15 = .ok (.getfield 18, 3) := by decide +kernel
theorem dX4_push_18 : decode cX4_push 18 = .ok (.putfield 21, 3) := by decide +kernel
theorem dX4_push_21 : decode cX4_push 21 = .ok (.aload_n 0, 1) := by decide +kernel
theorem dX4_push_22 : decode cX4_push 22 = .ok (.aload_n 0, 1) := by decide +kernel
theorem dX4_push_23 : decode cX4_push 23 = .ok (.getfield 12, 3) := by decide +kernel
theorem dX4_push_26 : decode cX4_push 26 = .ok (.putfield 18, 3) := by decide +kernel
theorem dX4_push_29 : decode cX4_push 29 = .ok (.aload_n 0, 1) := by decide +kernel
theorem dX4_push_30 : decode cX4_push 30 = .ok (.aload_n 2, 1) := by decide +kernel
theorem dX4_push_31 : decode cX4_push 31 = .ok (.putfield 12, 3) := by decide +kernel
theorem dX4_push_34 : decode cX4_push 34 = .ok (.aload_n 0, 1) := by decide +kernel
theorem dX4_push_35 : decode cX4_push 35 = .ok (.getfield 12, 3) := by decide +kernel
theorem dX4_push_38 : decode cX4_push 38 = .ok (.aload_n 1, 1) := by decide +kernel
theorem dX4_push_39 : decode cX4_push 39 = .ok (.invokevirtual 27, 3) := by decide +kernel
theorem dX4_push_42 : decode cX4_push 42 = .ok (.aload_n 0, 1) := by decide +kernel
theorem dX4_push_43 : decode cX4_push 43 = .ok (.aload_n 0, 1) := by decide +kernel
theorem dX4_push_44 : decode cX4_push 44 = .ok (.getfield 31, 3) := by decide +kernel
theorem dX4_push_47 : decode cX4_push 47 = .ok (.iconst 1, 1) := by decide +kernel
theorem dX4_push_48 : decode cX4_push 48 = .ok (.iadd, 1) := by decide +kernel
theorem dX4_push_49 : decode cX4_push 49 = .ok (.iconst 4, 1) := by decide +kernel
theorem dX4_push_50 : decode cX4_push 50 = .ok (.invokestatic 35, 3) := by decide +kernel
theorem dX4_push_53 : decode cX4_push 53 = .ok (.putfield 31, 3) := by decide +kernel
theorem dX4_push_56 : decode cX4_push 56 = .ok (.return_, 1) := by decide +kernel
theorem dX4_pullInto_0 : decode cX4_pullInto 0 = .ok (.aload_n 0, 1) := by decide +kernel
theorem dX4_pullInto_1 : decode cX4_pullInto 1 = .ok (.getfield 12, 3) := by decide +kernel
theorem dX4_pullInto_4 : decode cX4_pullInto 4 = .ok (.astore_n 2, 1) := by decide +kernel
theorem dX4_pullInto_5 : decode cX4_pullInto 5 = .ok (.aload_n 1, 1) := by decide +kernel
theorem dX4_pullInto_6 : decode cX4_pullInto 6 = .ok (.aload_n 2, 1) := by decide +kernel
theorem dX4_pullInto_7 : decode cX4_pullInto 7 = .ok (.invokevirtual 27, 3) := by decide +kernel
theorem dX4_pullInto_10 : decode cX4_pullInto 10 = .ok (.aload_n 0, 1) := by decide +kernel
theorem dX4_pullInto_11 : decode cX4_pullInto 11 = .ok (.aload_n 0, 1) := by decide +kernel
theorem dX4_pullInto_12 : decode cX4_pullInto 12 = .ok (.getfield 18, 3) := by decide +kernel
theorem dX4_pullInto_15 : decode cX4_pullInto 15 = .ok (.putfield 12, 3) := by decide +kernel
theorem dX4_pullInto_18 : decode cX4_pullInto 18 = .ok (.aload_n 0, 1) := by decide +kernel
theorem dX4_pullInto_19 : decode cX4_pullInto 19 = .ok (.aload_n 0, 1) := by decide +kernel
theorem dX4_pullInto_20 : decode cX4_pullInto 20 = .ok (.getfield 21, 3) := by decide +kernel
theorem dX4_pullInto_23 : decode cX4_pullInto 23 = .ok (.putfield 18, 3) := by decide +kernel
theorem dX4_pullInto_26 : decode cX4_pullInto 26 = .ok (.aload_n 0, 1) := by decide +kernel
theorem dX4_pullInto_27 : decode cX4_pullInto 27 = .ok (.aload_n 0, 1) := by decide +kernel
theorem dX4_pullInto_28 : decode cX4_pullInto 28 = .ok (.getfield 24, 3) := by decide +kernel
theorem dX4_pullInto_31 : decode cX4_pullInto 31 = .ok (.putfield 21, 3) := by decide +kernel
theorem dX4_pullInto_34 : decode cX4_pullInto 34 = .ok (.aload_n 0, 1) := by decide +kernel
theorem dX4_pullInto_35 : decode cX4_pullInto 35 = .ok (.aload_n 2, 1) := by decide +kernel
theorem dX4_pullInto_36 : decode cX4_pullInto 36 = .ok (.putfield 24, 3) := by decide +kernel
theorem dX4_pullInto_39 : decode cX4_pullInto 39 = .ok (.aload_n 0, 1) := by decide +kernel
theorem dX4_pullInto_40 : decode cX4_pullInto 40 = .ok (.dup, 1) := by decide +kernel
theorem dX4_pullInto_41 : decode cX4_pullInto 41 = .ok (.getfield 31, 3) := by decide +kernel
theorem dX4_pullInto_44 : decode cX4_pullInto 44 = .ok (.iconst 1, 1) := by decide +kernel
theorem dX4_pullInto_45 : decode cX4_pullInto 45 = .ok (.isub, 1) := by decide +kernel
theorem dX4_pullInto_46 : decode cX4_pullInto 46 = .ok (.putfield 31, 3) := by decide +kernel
theorem dX4_pullInto_49 : decode cX4_pullInto 49 = .ok (.return_, 1) := by decide +kernel
theorem dX5_init_0 : decode cX5_init 0 = .ok (.aload_n 0, 1) := by decide +kernel
theorem dX5_init_1 : decode cX5_init 1 = .ok (.invokespecial 3, 3) := by decide +kernel
theorem dX5_init_4 : decode cX5_init 4 = .ok (.aload_n 0, 1) := by decide +kernel
theorem dX5_init_5 : decode cX5_init 5 = .ok (.bipush 6, 2) := by decide +kernel
theorem dX5_init_7 : decode cX5_init 7 = .ok (.newarray .int, 2) := by decide +kernel
theorem dX5_init_9 : decode cX5_init 9 = .ok (.putfield 9, 3) := by decide +kernel
theorem dX5_init_12 : decode cX5_init 12 = .ok (.aload_n 0, 1) := by decide +kernel
theorem dX5_init_13 : decode cX5_init 13 = .ok (.bipush 6, 2) := by decide +kernel
theorem dX5_init_15 : decode cX5_init 15 = .ok (.newarray .int, 2) := by decide +kernel
theorem dX5_init_17 : decode cX5_init 17 = .ok (.putfield 15, 3) := by decide +kernel
theorem dX5_init_20 : decode cX5_init 20 = .ok (.return_, 1) := by decide +kernel
theorem dX5_copyFrom_0 : decode cX5_copyFrom 0 = .ok (.aload_n 0, 1) := by decide +kernel
theorem dX5_copyFrom_1 : decode cX5_copyFrom 1 = .ok (.getfield 9, 3) := by decide +kernel
theorem dX5_copyFrom_4 : decode cX5_copyFrom 4 = .ok (.aload_n 1, 1) := by decide +kernel
theorem dX5_copyFrom_5 : decode cX5_copyFrom 5 = .ok (.getfield 9, 3) := by decide +kernel
theorem dX5_copyFrom_8 : decode cX5_copyFrom 8 = .ok (.invokestatic 18, 3) := by decide +kernel
theorem dX5_copyFrom_11 : decode cX5_copyFrom 11 = .ok (.aload_n 0, 1) := by decide +kernel
theorem dX5_copyFrom_12 : decode cX5_copyFrom 12 = .ok (.getfield 15, 3) := by decide +kernel
theorem dX5_copyFrom_15 : decode cX5_copyFrom 15 = .ok (.aload_n 1, 1) := by decide +kernel
theorem dX5_copyFrom_16 : decode cX5_copyFrom 16 = .ok (.getfield 15, 3) := by decide +kernel
theorem dX5_copyFrom_19 : decode cX5_copyFrom 19 = .ok (.invokestatic 18, 3) := by decide +kernel
theorem dX5_copyFrom_22 : decode cX5_copyFrom 22 = .ok (.aload_n 0, 1) := by decide +kernel
theorem dX5_copyFrom_23 : decode cX5_copyFrom 23 = .ok (.aload_n 1, 1) := by decide +kernel
theorem dX5_copyFrom_24 : decode cX5_copyFrom 24 = .ok (.getfield 22, 3) := by decide +kernel
theorem dX5_copyFrom_27 : decode cX5_copyFrom 27 = .ok (.putfield 22, 3) := by decide +kernel
theorem dX5_copyFrom_30 : decode cX5_copyFrom 30 = .ok (.aload_n 0, 1) := by decide +kernel
theorem dX5_copyFrom_31 : decode cX5_copyFrom 31 = .ok (.aload_n 1, 1) := by decide +kernel
theorem dX5_copyFrom_32 : decode cX5_copyFrom 32 = .ok (.getfield 26, 3) := by decide +kernel
theorem dX5_copyFrom_35 : decode cX5_copyFrom 35 = .ok (.putfield 26, 3) := by decide +kernel
theorem dX5_copyFrom_38 : decode cX5_copyFrom 38 = .ok (.return_, 1) := by decide +kernel
theorem dX5_append_0 : decode cX5_append 0 = .ok (.aload_n 0, 1) := by decide +kernel
theorem dX5_append_1 : decode cX5_append 1 = .ok (.getfield 22, 3) := by decide +kernel
theorem dX5_append_4 : decode cX5_append 4 = .ok (.bipush 6, 2) := by decide +kernel
theorem dX5_append_6 : decode cX5_append 6 = .ok (.if_icmp .ge 43, 3) := by decide +kernel
theorem dX5_append_9 : decode cX5_append 9 = .ok (.aload_n 0, 1) := by decide +kernel
theorem dX5_append_10 : decode cX5_append 10 = .ok (.getfield 9, 3) := by decide +kernel
theorem dX5_append_13 : decode cX5_append 13 = .ok (.aload_n 0, 1) := by decide +kernel
theorem dX5_append_14 : decode cX5_append 14 = .ok (.getfield 22, 3) := by decide +kernel
theorem dX5_append_17 : decode cX5_append 17 = .ok (.iload_n 1, 1) := by decide +kernel
theorem dX5_append_18 : decode cX5_append 18 = .ok (.iastore, 1) := by decide +kernel
theorem dX5_append_19 : decode cX5_append 19 = .ok (.aload_n 0, 1) := by decide +kernel
theorem dX5_append_20 : decode cX5_append 20 = .ok (.getfield 15, 3) := by decide +kernel
theorem dX5_append_23 : decode cX5_append 23 = .ok (.aload_n 0, 1) := by decide +kernel
theorem dX5_append_24 : decode cX5_append 24 = .ok (.getfield 22, 3) := by decide +kernel
theorem dX5_append_27 : decode cX5_append 27 = .ok (.iload_n 2, 1) := by decide +kernel
theorem dX5_append_28 : decode cX5_append 28 = .ok (.iastore, 1) := by decide +kernel
theorem dX5_append_29 : decode cX5_append 29 = .ok (.aload_n 0, 1) := by decide +kernel
theorem dX5_append_30 : decode cX5_append 30 = .ok (.dup, 1) := by decide +kernel
theorem dX5_append_31 : decode cX5_append 31 = .ok (.getfield 22, 3) := by decide +kernel
theorem dX5_append_34 : decode cX5_append 34 = .ok (.iconst 1, 1) := by decide +kernel
theorem dX5_append_35 : decode cX5_append 35 = .ok (.iadd, 1) := by decide +kernel
theorem dX5_append_36 : decode cX5_append 36 = .ok (.putfield 22, 3) := by decide +kernel
theorem dX5_append_39 : decode cX5_append 39 = .ok (.aload_n 0, 1) := by decide +kernel
theorem dX5_append_40 : decode cX5_append 40 = .ok (.dup, 1) := by decide +kernel
theorem dX5_append_41 : decode cX5_append 41 = .ok (.getfield 26, 3) := by decide +kernel
theorem dX5_append_44 : decode cX5_append 44 = .ok (.iload_n 2, 1) := by decide +kernel
theorem dX5_append_45 : decode cX5_append 45 = .ok (.iadd, 1) := by decide +kernel
theorem dX5_append_46 : decode cX5_append 46 = .ok (.putfield 26, 3) := by decide +kernel
theorem dX5_append_49 : decode cX5_append 49 = .ok (.return_, 1) := by decide +kernel
theorem dX5_takeFromFirst_0 : decode cX5_takeFromFirst 0 = .ok (.aload_n 0, 1) := by decide +kernel
theorem dX5_takeFromFirst_1 : decode cX5_takeFromFirst 1 = .ok (.getfield 15, 3) := by decide +kernel
theorem dX5_takeFromFirst_4 : decode cX5_takeFromFirst 4 = .ok (.iconst 0, 1) := by decide +kernel
theorem dX5_takeFromFirst_5 : decode cX5_takeFromFirst 5 = .ok (.dup2, 1) := by decide +kernel
theorem dX5_takeFromFirst_6 : decode cX5_takeFromFirst 6 = .ok (.iaload, 1) := by decide +kernel
theorem dX5_takeFromFirst_7 : decode cX5_takeFromFirst 7 = .ok (.iload_n 1, 1) := by decide +kernel
theorem dX5_takeFromFirst_8 : decode cX5_takeFromFirst 8 = .ok (.isub, 1) := by decide +kernel
theorem dX5_takeFromFirst_9 : decode cX5_takeFromFirst 9 = .ok (.iastore, 1) := by decide +kernel
theorem dX5_takeFromFirst_10 : decode cX5_takeFromFirst 10 = .ok (.aload_n 0, 1) := by decide +kernel
theorem dX5_takeFromFirst_11 : decode cX5_takeFromFirst 11 = .ok (.getfield 15, 3) := by decide +kernel
theorem dX5_takeFromFirst_14 : decode cX5_takeFromFirst 14 = .ok (.iconst 0, 1) := by decide +kernel
theorem dX5_takeFromFirst_15 : decode cX5_takeFromFirst 15 = .ok (.iaload, 1) := by decide +kernel
theorem dX5_takeFromFirst_16 : decode cX5_takeFromFirst 16 = .ok (.ifCond .ne 55, 3) := by decide +kernel
theorem dX5_takeFromFirst_19 : decode cX5_takeFromFirst 19 = .ok (.iconst 1, 1) := by decide +kernel
theorem dX5_takeFromFirst_20 : decode cX5_takeFromFirst 20 = .ok (.istore_n 2, 1) := by decide +kernel
theorem dX5_takeFromFirst_21 : decode cX5_takeFromFirst 21 = .ok (.iload_n 2, 1) := by decide +kernel
theorem dX5_takeFromFirst_22 : decode cX5_takeFromFirst 22 = .ok (.bipush 6, 2) := by decide +kernel
theorem dX5_takeFromFirst_24 : decode cX5_takeFromFirst 24 = .ok (.if_icmp .ge 37, 3) := by decide +kernel
theorem dX5_takeFromFirst_27 : decode cX5_takeFromFirst 27 = .ok (.aload_n 0, 1) := by decide +kernel
theorem dX5_takeFromFirst_28 : decode cX5_takeFromFirst 28 = .ok (.getfield 9, 3) := by decide +kernel
theorem dX5_takeFromFirst_31 : decode cX5_takeFromFirst 31 = .ok (.iload_n 2, 1) := by decide +kernel
theorem dX5_takeFromFirst_32 : decode cX5_takeFromFirst 32 = .ok (.iconst 1, 1) := by decide +kernel
theorem dX5_takeFromFirst_33 : decode cX5_takeFromFirst 33 = .ok (.isub, 1) := by decide +kernel
theorem dX5_takeFromFirst_34 : decode cX5_takeFromFirst 34 = .ok (.aload_n 0, 1) := by decide +kernel
theorem dX5_takeFromFirst_35 : decode cX5_takeFromFirst 35 = .ok (.getfield 9, 3) := by decide +kernel
theorem dX5_takeFromFirst_38 : decode cX5_takeFromFirst 38 = .ok (.iload_n 2, 1) := by decide +kernel
theorem dX5_takeFromFirst_39 : decode cX5_takeFromFirst 39 = .ok (.iaload, 1) := by decide +kernel
theorem dX5_takeFromFirst_40 : decode cX5_takeFromFirst 40 = .ok (.iastore, 1) := by decide +kernel
theorem dX5_takeFromFirst_41 : decode cX5_takeFromFirst 41 = .ok (.aload_n 0, 1) := by decide +kernel
theorem dX5_takeFromFirst_42 : decode cX5_takeFromFirst 42 = .ok (.getfield 15, 3) := by decide +kernel
theorem dX5_takeFromFirst_45 : decode cX5_takeFromFirst 45 = .ok (.iload_n 2, 1) := by decide +kernel
theorem dX5_takeFromFirst_46 : decode cX5_takeFromFirst 46 = .ok (.iconst 1, 1) := by decide +kernel
theorem dX5_takeFromFirst_47 : decode cX5_takeFromFirst 47 = .ok (.isub, 1) := by decide +kernel
theorem dX5_takeFromFirst_48 : decode cX5_takeFromFirst 48 = .ok (.aload_n 0, 1) := by decide +kernel
theorem dX5_takeFromFirst_49 : decode cX5_takeFromFirst 49 = .ok (.getfield 15, 3) := by decide +kernel
theorem dX5_takeFromFirst_52 : decode cX5_takeFromFirst 52 = .ok (.iload_n 2, 1) := by decide +kernel
theorem dX5_takeFromFirst_53 : decode cX5_takeFromFirst 53 = .ok (.iaload, 1) := by decide +kernel
theorem dX5_takeFromFirst_54 : decode cX5_takeFromFirst 54 = .ok (.iastore, 1) := by decide +kernel
theorem dX5_takeFromFirst_55 : decode cX5_takeFromFirst 55 = .ok (.iinc 2 1, 3) := by decide +kernel
theorem dX5_takeFromFirst_58 : decode cX5_takeFromFirst 58 = .ok (.goto (-37), 3) := by decide +kernel
theorem dX5_takeFromFirst_61 : decode cX5_takeFromFirst 61 = .ok (.aload_n 0, 1) := by decide +kernel
theorem dX5_takeFromFirst_62 : decode cX5_takeFromFirst 62 = .ok (.dup, 1) := by decide +kernel
theorem dX5_takeFromFirst_63 : decode cX5_takeFromFirst 63 = .ok (.getfield 22, 3) := by decide +kernel
theorem dX5_takeFromFirst_66 : decode cX5_takeFromFirst 66 = .ok (.iconst 1, 1) := by decide +kernel
theorem dX5_takeFromFirst_67 : decode cX5_takeFromFirst 67 = .ok (.isub, 1) := by decide +kernel
theorem dX5_takeFromFirst_68 : decode cX5_takeFromFirst 68 = .ok (.putfield 22, 3) := by decide +kernel
theorem dX5_takeFromFirst_71 : decode cX5_takeFromFirst 71 = .ok (.return_, 1) := by decide +kernel
theorem dX5_massInside_0 : decode cX5_massInside 0 = .ok (.iconst 0, 1) := by decide +kernel
theorem dX5_massInside_1 : decode cX5_massInside 1 = .ok (.istore_n 1, 1) := by decide +kernel
theorem dX5_massInside_2 : decode cX5_massInside 2 = .ok (.iconst 0, 1) := by decide +kernel
theorem dX5_massInside_3 : decode cX5_massInside 3 = .ok (.istore_n 2, 1) := by decide +kernel
theorem dX5_massInside_4 : decode cX5_massInside 4 = .ok (.iload_n 2, 1) := by decide +kernel
theorem dX5_massInside_5 : decode cX5_massInside 5 = .ok (.aload_n 0, 1) := by decide +kernel
theorem dX5_massInside_6 : decode cX5_massInside 6 = .ok (.getfield 22, 3) := by decide +kernel
theorem dX5_massInside_9 : decode cX5_massInside 9 = .ok (.if_icmp .ge 24, 3) := by decide +kernel
theorem dX5_massInside_12 : decode cX5_massInside 12 = .ok (.iload_n 2, 1) := by decide +kernel
theorem dX5_massInside_13 : decode cX5_massInside 13 = .ok (.bipush 6, 2) := by decide +kernel
theorem dX5_massInside_15 : decode cX5_massInside 15 = .ok (.if_icmp .ge 18, 3) := by decide +kernel
theorem dX5_massInside_18 : decode cX5_massInside 18 = .ok (.iload_n 1, 1) := by decide +kernel
theorem dX5_massInside_19 : decode cX5_massInside 19 = .ok (.aload_n 0, 1) := by decide +kernel
theorem dX5_massInside_20 : decode cX5_massInside 20 = .ok (.getfield 15, 3) := by decide +kernel
theorem dX5_massInside_23 : decode cX5_massInside 23 = .ok (.iload_n 2, 1) := by decide +kernel
theorem dX5_massInside_24 : decode cX5_massInside 24 = .ok (.iaload, 1) := by decide +kernel
theorem dX5_massInside_25 : decode cX5_massInside 25 = .ok (.iadd, 1) := by decide +kernel
theorem dX5_massInside_26 : decode cX5_massInside 26 = .ok (.istore_n 1, 1) := by decide +kernel
theorem dX5_massInside_27 : decode cX5_massInside 27 = .ok (.iinc 2 1, 3) := by decide +kernel
theorem dX5_massInside_30 : decode cX5_massInside 30 = .ok (.goto (-26), 3) := by decide +kernel
theorem dX5_massInside_33 : decode cX5_massInside 33 = .ok (.iload_n 1, 1) := by decide +kernel
theorem dX5_massInside_34 : decode cX5_massInside 34 = .ok (.ireturn, 1) := by decide +kernel
theorem dX6_init_0 : decode cX6_init 0 = .ok (.aload_n 0, 1) := by decide +kernel
theorem dX6_init_1 : decode cX6_init 1 = .ok (.invokespecial 3, 3) := by decide +kernel
theorem dX6_init_4 : decode cX6_init 4 = .ok (.aload_n 0, 1) := by decide +kernel
theorem dX6_init_5 : decode cX6_init 5 = .ok (.new 9, 3) := by decide +kernel
theorem dX6_init_8 : decode cX6_init 8 = .ok (.dup, 1) := by decide +kernel
theorem dX6_init_9 : decode cX6_init 9 = .ok (.invokespecial 11, 3) := by decide +kernel
theorem dX6_init_12 : decode cX6_init 12 = .ok (.putfield 12, 3) := by decide +kernel
theorem dX6_init_15 : decode cX6_init 15 = .ok (.aload_n 0, 1) := by decide +kernel
theorem dX6_init_16 : decode cX6_init 16 = .ok (.new 18, 3) := by decide +kernel
theorem dX6_init_19 : decode cX6_init 19 = .ok (.dup, 1) := by decide +kernel
theorem dX6_init_20 : decode cX6_init 20 = .ok (.invokespecial 20, 3) := by decide +kernel
theorem dX6_init_23 : decode cX6_init 23 = .ok (.putfield 21, 3) := by decide +kernel
theorem dX6_init_26 : decode cX6_init 26 = .ok (.aload_n 0, 1) := by decide +kernel
theorem dX6_init_27 : decode cX6_init 27 = .ok (.new 25, 3) := by decide +kernel
theorem dX6_init_30 : decode cX6_init 30 = .ok (.dup, 1) := by decide +kernel
theorem dX6_init_31 : decode cX6_init 31 = .ok (.invokespecial 27, 3) := by decide +kernel
theorem dX6_init_34 : decode cX6_init 34 = .ok (.putfield 28, 3) := by decide +kernel
theorem dX6_init_37 : decode cX6_init 37 = .ok (.aload_n 0, 1) := by decide +kernel
theorem dX6_init_38 : decode cX6_init 38 = .ok (.new 32, 3) := by decide +kernel
theorem dX6_init_41 : decode cX6_init 41 = .ok (.dup, 1) := by decide +kernel
theorem dX6_init_42 : decode cX6_init 42 = .ok (.invokespecial 34, 3) := by decide +kernel
theorem dX6_init_45 : decode cX6_init 45 = .ok (.putfield 35, 3) := by decide +kernel
theorem dX6_init_48 : decode cX6_init 48 = .ok (.aload_n 0, 1) := by decide +kernel
theorem dX6_init_49 : decode cX6_init 49 = .ok (.new 39, 3) := by decide +kernel
theorem dX6_init_52 : decode cX6_init 52 = .ok (.dup, 1) := by decide +kernel
theorem dX6_init_53 : decode cX6_init 53 = .ok (.invokespecial 41, 3) := by decide +kernel
theorem dX6_init_56 : decode cX6_init 56 = .ok (.putfield 42, 3) := by decide +kernel
theorem dX6_init_59 : decode cX6_init 59 = .ok (.aload_n 0, 1) := by decide +kernel
theorem dX6_init_60 : decode cX6_init 60 = .ok (.iconst 3, 1) := by decide +kernel
theorem dX6_init_61 : decode cX6_init 61 = .ok (.newarray .int, 2) := by decide +kernel
theorem dX6_init_63 : decode cX6_init 63 = .ok (.putfield 46, 3) := by decide +kernel
theorem dX6_init_66 : decode cX6_init 66 = .ok (.aload_n 0, 1) := by decide +kernel
theorem dX6_init_67 : decode cX6_init 67 = .ok (.bipush 50, 2) := by decide +kernel
theorem dX6_init_69 : decode cX6_init 69 = .ok (.putfield 50, 3) := by decide +kernel
theorem dX6_init_72 : decode cX6_init 72 = .ok (.aload_n 0, 1) := by decide +kernel
theorem dX6_init_73 : decode cX6_init 73 = .ok (.getfield 46, 3) := by decide +kernel
theorem dX6_init_76 : decode cX6_init 76 = .ok (.getstatic 54, 3) := by decide +kernel
theorem dX6_init_79 : decode cX6_init 79 = .ok (.invokestatic 57, 3) := by decide +kernel
theorem dX6_init_82 : decode cX6_init 82 = .ok (.return_, 1) := by decide +kernel
theorem dX6_copyFrom_0 : decode cX6_copyFrom 0 = .ok (.aload_n 0, 1) := by decide +kernel
theorem dX6_copyFrom_1 : decode cX6_copyFrom 1 = .ok (.getfield 12, 3) := by decide +kernel
theorem dX6_copyFrom_4 : decode cX6_copyFrom 4 = .ok (.aload_n 1, 1) := by decide +kernel
theorem dX6_copyFrom_5 : decode cX6_copyFrom 5 = .ok (.getfield 12, 3) := by decide +kernel
theorem dX6_copyFrom_8 : decode cX6_copyFrom 8 = .ok (.invokevirtual 61, 3) := by decide +kernel
theorem dX6_copyFrom_11 : decode cX6_copyFrom 11 = .ok (.aload_n 0, 1) := by decide +kernel
theorem dX6_copyFrom_12 : decode cX6_copyFrom 12 = .ok (.getfield 21, 3) := by decide +kernel
theorem dX6_copyFrom_15 : decode cX6_copyFrom 15 = .ok (.aload_n 1, 1) := by decide +kernel
theorem dX6_copyFrom_16 : decode cX6_copyFrom 16 = .ok (.getfield 21, 3) := by decide +kernel
theorem dX6_copyFrom_19 : decode cX6_copyFrom 19 = .ok (.invokevirtual 65, 3) := by decide +kernel
theorem dX6_copyFrom_22 : decode cX6_copyFrom 22 = .ok (.aload_n 0, 1) := by decide +kernel
theorem dX6_copyFrom_23 : decode cX6_copyFrom 23 = .ok (.getfield 28, 3) := by decide +kernel
theorem dX6_copyFrom_26 : decode cX6_copyFrom 26 = .ok (.aload_n 1, 1) := by decide +kernel
theorem dX6_copyFrom_27 : decode cX6_copyFrom 27 = .ok (.getfield 28, 3) := by decide +kernel
theorem dX6_copyFrom_30 : decode cX6_copyFrom 30 = .ok (.invokevirtual 68, 3) := by decide +kernel
theorem dX6_copyFrom_33 : decode cX6_copyFrom 33 = .ok (.aload_n 0, 1) := by decide +kernel
theorem dX6_copyFrom_34 : decode cX6_copyFrom 34 = .ok (.getfield 35, 3) := by decide +kernel
theorem dX6_copyFrom_37 : decode cX6_copyFrom 37 = .ok (.aload_n 1, 1) := by decide +kernel
theorem dX6_copyFrom_38 : decode cX6_copyFrom 38 = .ok (.getfield 35, 3) := by decide +kernel
theorem dX6_copyFrom_41 : decode cX6_copyFrom 41 = .ok (.invokevirtual 71, 3) := by decide +kernel
theorem dX6_copyFrom_44 : decode cX6_copyFrom 44 = .ok (.aload_n 0, 1) := by decide +kernel
theorem dX6_copyFrom_45 : decode cX6_copyFrom 45 = .ok (.getfield 42, 3) := by decide +kernel
theorem dX6_copyFrom_48 : decode cX6_copyFrom 48 = .ok (.aload_n 1, 1) := by decide +kernel
theorem dX6_copyFrom_49 : decode cX6_copyFrom 49 = .ok (.getfield 42, 3) := by decide +kernel
theorem dX6_copyFrom_52 : decode cX6_copyFrom 52 = .ok (.invokevirtual 74, 3) := by decide +kernel
theorem dX6_copyFrom_55 : decode cX6_copyFrom 55 = .ok (.aload_n 0, 1) := by decide +kernel
theorem dX6_copyFrom_56 : decode cX6_copyFrom 56 = .ok (.getfield 46, 3) := by decide +kernel
theorem dX6_copyFrom_59 : decode cX6_copyFrom 59 = .ok (.aload_n 1, 1) := by decide +kernel
theorem dX6_copyFrom_60 : decode cX6_copyFrom 60 = .ok (.getfield 46, 3) := by decide +kernel
theorem dX6_copyFrom_63 : decode cX6_copyFrom 63 = .ok (.invokestatic 57, 3) := by decide +kernel
theorem dX6_copyFrom_66 : decode cX6_copyFrom 66 = .ok (.aload_n 0, 1) := by decide +kernel
theorem dX6_copyFrom_67 : decode cX6_copyFrom 67 = .ok (.aload_n 1, 1) := by decide +kernel
theorem dX6_copyFrom_68 : decode cX6_copyFrom 68 = .ok (.getfield 50, 3) := by decide +kernel
theorem dX6_copyFrom_71 : decode cX6_copyFrom 71 = .ok (.putfield 50, 3) := by decide +kernel
theorem dX6_copyFrom_74 : decode cX6_copyFrom 74 = .ok (.aload_n 0, 1) := by decide +kernel
theorem dX6_copyFrom_75 : decode cX6_copyFrom 75 = .ok (.aload_n 1, 1) := by decide +kernel
theorem dX6_copyFrom_76 : decode cX6_copyFrom 76 = .ok (.getfield 77, 3) := by decide +kernel
theorem dX6_copyFrom_79 : decode cX6_copyFrom 79 = .ok (.putfield 77, 3) := by decide +kernel
theorem dX6_copyFrom_82 : decode cX6_copyFrom 82 = .ok (.aload_n 0, 1) := by decide +kernel
theorem dX6_copyFrom_83 : decode cX6_copyFrom 83 = .ok (.aload_n 1, 1) := by decide +kernel
theorem dX6_copyFrom_84 : decode cX6_copyFrom 84 = .ok (.getfield 80, 3) := by decide +kernel
theorem dX6_copyFrom_87 : decode cX6_copyFrom 87 = .ok (.putfield 80, 3) := by decide +kernel
theorem dX6_copyFrom_90 : decode cX6_copyFrom 90 = .ok (.aload_n 0, 1) := by decide +kernel
theorem dX6_copyFrom_91 : decode cX6_copyFrom 91 = .ok (.aload_n 1, 1) := by decide +kernel
theorem dX6_copyFrom_92 : decode cX6_copyFrom 92 = .ok (.getfield 83, 3) := by decide +kernel
theorem dX6_copyFrom_95 : decode cX6_copyFrom 95 = .ok (.putfield 83, 3) := by decide +kernel
theorem dX6_copyFrom_98 : decode cX6_copyFrom 98 = .ok (.aload_n 0, 1) := by decide +kernel
theorem dX6_copyFrom_99 : decode cX6_copyFrom 99 = .ok (.aload_n 1, 1) := by decide +kernel
theorem dX6_copyFrom_100 : decode cX6_copyFrom 100 = .ok (.getfield 87, 3) := by decide +kernel
theorem dX6_copyFrom_103 : decode cX6_copyFrom 103 = .ok (.putfield 87, 3) := by decide +kernel
theorem dX6_copyFrom_106 : decode cX6_copyFrom 106 = .ok (.aload_n 0, 1) := by decide +kernel
theorem dX6_copyFrom_107 : decode cX6_copyFrom 107 = .ok (.aload_n 1, 1) := by decide +kernel
theorem dX6_copyFrom_108 : decode cX6_copyFrom 108 = .ok (.getfield 90, 3) := by decide +kernel
theorem dX6_copyFrom_111 : decode cX6_copyFrom 111 = .ok (.putfield 90, 3) := by decide +kernel
theorem dX6_copyFrom_114 : decode cX6_copyFrom 114 = .ok (.aload_n 0, 1) := by decide +kernel
theorem dX6_copyFrom_115 : decode cX6_copyFrom 115 = .ok (.aload_n 1, 1) := by decide +kernel
theorem dX6_copyFrom_116 : decode cX6_copyFrom 116 = .ok (.getfield 93, 3) := by decide +kernel
theorem dX6_copyFrom_119 : decode cX6_copyFrom 119 = .ok (.putfield 93, 3) := by decide +kernel
theorem dX6_copyFrom_122 : decode cX6_copyFrom 122 = .ok (.aload_n 0, 1) := by decide +kernel
theorem dX6_copyFrom_123 : decode cX6_copyFrom 123 = .ok (.aload_n 1, 1) := by decide +kernel
theorem dX6_copyFrom_124 : decode cX6_copyFrom 124 = .ok (.getfield 96, 3) := by decide +kernel
theorem dX6_copyFrom_127 : decode cX6_copyFrom 127 = .ok (.putfield 96, 3) := by decide +kernel
theorem dX6_copyFrom_130 : decode cX6_copyFrom 130 = .ok (.aload_n 0, 1) := by decide +kernel
theorem dX6_copyFrom_131 : decode cX6_copyFrom 131 = .ok (.aload_n 1, 1) := by decide +kernel
theorem dX6_copyFrom_132 : decode cX6_copyFrom 132 = .ok (.getfield 99, 3) := by decide +kernel
theorem dX6_copyFrom_135 : decode cX6_copyFrom 135 = .ok (.putfield 99, 3) := by decide +kernel
theorem dX6_copyFrom_138 : decode cX6_copyFrom 138 = .ok (.return_, 1) := by decide +kernel
theorem dX6_hasBatch_0 : decode cX6_hasBatch 0 = .ok (.aload_n 0, 1) := by decide +kernel
theorem dX6_hasBatch_1 : decode cX6_hasBatch 1 = .ok (.getfield 80, 3) := by decide +kernel
theorem dX6_hasBatch_4 : decode cX6_hasBatch 4 = .ok (.ifCond .le 7, 3) := by decide +kernel
theorem dX6_hasBatch_7 : decode cX6_hasBatch 7 = .ok (.iconst 1, 1) := by decide +kernel
theorem dX6_hasBatch_8 : decode cX6_hasBatch 8 = .ok (.goto 4, 3) := by decide +kernel
theorem dX6_hasBatch_11 : decode cX6_hasBatch 11 = .ok (.iconst 0, 1) := by decide +kernel
theorem dX6_hasBatch_12 : decode cX6_hasBatch 12 = .ok (.ireturn, 1) := by decide +kernel
theorem dX6_putLot_0 : decode cX6_putLot 0 = .ok (.iload_n 1, 1) := by decide +kernel
theorem dX6_putLot_1 : decode cX6_putLot 1 = .ok (.invokestatic 102, 3) := by decide +kernel
theorem dX6_putLot_4 : decode cX6_putLot 4 = .ok (.ifCond .eq 15, 3) := by decide +kernel
theorem dX6_putLot_7 : decode cX6_putLot 7 = .ok (.iload_n 2, 1) := by decide +kernel
theorem dX6_putLot_8 : decode cX6_putLot 8 = .ok (.iconst 1, 1) := by decide +kernel
theorem dX6_putLot_9 : decode cX6_putLot 9 = .ok (.if_icmp .lt 10, 3) := by decide +kernel
theorem dX6_putLot_12 : decode cX6_putLot 12 = .ok (.iload_n 2, 1) := by decide +kernel
theorem dX6_putLot_13 : decode cX6_putLot 13 = .ok (.sipush 9999, 3) := by decide +kernel
theorem dX6_putLot_16 : decode cX6_putLot 16 = .ok (.if_icmp .le 6, 3) := by decide +kernel
theorem dX6_putLot_19 : decode cX6_putLot 19 = .ok (.ldc 106, 2) := by decide +kernel
theorem dX6_putLot_21 : decode cX6_putLot 21 = .ok (.ireturn, 1) := by decide +kernel
theorem dX6_putLot_22 : decode cX6_putLot 22 = .ok (.aload_n 0, 1) := by decide +kernel
theorem dX6_putLot_23 : decode cX6_putLot 23 = .ok (.getfield 12, 3) := by decide +kernel
theorem dX6_putLot_26 : decode cX6_putLot 26 = .ok (.getfield 107, 3) := by decide +kernel
theorem dX6_putLot_29 : decode cX6_putLot 29 = .ok (.bipush 6, 2) := by decide +kernel
theorem dX6_putLot_31 : decode cX6_putLot 31 = .ok (.if_icmp .lt 6, 3) := by decide +kernel
theorem dX6_putLot_34 : decode cX6_putLot 34 = .ok (.ldc 110, 2) := by decide +kernel
theorem dX6_putLot_36 : decode cX6_putLot 36 = .ok (.ireturn, 1) := by decide +kernel
theorem dX6_putLot_37 : decode cX6_putLot 37 = .ok (.aload_n 0, 1) := by decide +kernel
theorem dX6_putLot_38 : decode cX6_putLot 38 = .ok (.getfield 12, 3) := by decide +kernel
theorem dX6_putLot_41 : decode cX6_putLot 41 = .ok (.iload_n 1, 1) := by decide +kernel
theorem dX6_putLot_42 : decode cX6_putLot 42 = .ok (.iload_n 2, 1) := by decide +kernel
theorem dX6_putLot_43 : decode cX6_putLot 43 = .ok (.invokevirtual 111, 3) := by decide +kernel
theorem dX6_putLot_46 : decode cX6_putLot 46 = .ok (.aload_n 0, 1) := by decide +kernel
theorem dX6_putLot_47 : decode cX6_putLot 47 = .ok (.getfield 12, 3) := by decide +kernel
theorem dX6_putLot_50 : decode cX6_putLot 50 = .ok (.getfield 107, 3) := by decide +kernel
theorem dX6_putLot_53 : decode cX6_putLot 53 = .ok (.ireturn, 1) := by decide +kernel
theorem dX6_setGate_0 : decode cX6_setGate 0 = .ok (.iload_n 1, 1) := by decide +kernel
theorem dX6_setGate_1 : decode cX6_setGate 1 = .ok (.ifCond .lt 10, 3) := by decide +kernel
theorem dX6_setGate_4 : decode cX6_setGate 4 = .ok (.iload_n 1, 1) := by decide +kernel
theorem dX6_setGate_5 : decode cX6_setGate 5 = .ok (.sipush 200, 3) := by decide +kernel
theorem dX6_setGate_8 : decode cX6_setGate 8 = .ok (.if_icmp .le 6, 3) := by decide +kernel
theorem dX6_setGate_11 : decode cX6_setGate 11 = .ok (.ldc 106, 2) := by decide +kernel
theorem dX6_setGate_13 : decode cX6_setGate 13 = .ok (.ireturn, 1) := by decide +kernel
theorem dX6_setGate_14 : decode cX6_setGate 14 = .ok (.aload_n 0, 1) := by decide +kernel
theorem dX6_setGate_15 : decode cX6_setGate 15 = .ok (.getfield 50, 3) := by decide +kernel
theorem dX6_setGate_18 : decode cX6_setGate 18 = .ok (.istore_n 2, 1) := by decide +kernel
theorem dX6_setGate_19 : decode cX6_setGate 19 = .ok (.aload_n 0, 1) := by decide +kernel
theorem dX6_setGate_20 : decode cX6_setGate 20 = .ok (.iload_n 1, 1) := by decide +kernel
theorem dX6_setGate_21 : decode cX6_setGate 21 = .ok (.putfield 50, 3) := by decide +kernel
theorem dX6_setGate_24 : decode cX6_setGate 24 = .ok (.iload_n 2, 1) := by decide +kernel
theorem dX6_setGate_25 : decode cX6_setGate 25 = .ok (.ireturn, 1) := by decide +kernel
theorem dX6_switchBelt_0 : decode cX6_switchBelt 0 = .ok (.iload_n 1, 1) := by decide +kernel
theorem dX6_switchBelt_1 : decode cX6_switchBelt 1 = .ok (.ifCond .lt 8, 3) := by decide +kernel
theorem dX6_switchBelt_4 : decode cX6_switchBelt 4 = .ok (.iload_n 1, 1) := by decide +kernel
theorem dX6_switchBelt_5 : decode cX6_switchBelt 5 = .ok (.iconst 1, 1) := by decide +kernel
theorem dX6_switchBelt_6 : decode cX6_switchBelt 6 = .ok (.if_icmp .le 6, 3) := by decide +kernel
theorem dX6_switchBelt_9 : decode cX6_switchBelt 9 = .ok (.ldc 106, 2) := by decide +kernel
theorem dX6_switchBelt_11 : decode cX6_switchBelt 11 = .ok (.ireturn, 1) := by decide +kernel
theorem dX6_switchBelt_12 : decode cX6_switchBelt 12 = .ok (.aload_n 0, 1) := by decide +kernel
theorem dX6_switchBelt_13 : decode cX6_switchBelt 13 = .ok (.invokevirtual 115, 3) := by decide +kernel
theorem dX6_switchBelt_16 : decode cX6_switchBelt 16 = .ok (.ifCond .eq 6, 3) := by decide +kernel
theorem dX6_switchBelt_19 : decode cX6_switchBelt 19 = .ok (.ldc 119, 2) := by decide +kernel
theorem dX6_switchBelt_21 : decode cX6_switchBelt 21 = .ok (.ireturn, 1) := by decide +kernel
theorem dX6_switchBelt_22 : decode cX6_switchBelt 22 = .ok (.aload_n 0, 1) := by decide +kernel
theorem dX6_switchBelt_23 : decode cX6_switchBelt 23 = .ok (.getfield 77, 3) := by decide +kernel
theorem dX6_switchBelt_26 : decode cX6_switchBelt 26 = .ok (.istore_n 2, 1) := by decide +kernel
theorem dX6_switchBelt_27 : decode cX6_switchBelt 27 = .ok (.aload_n 0, 1) := by decide +kernel
theorem dX6_switchBelt_28 : decode cX6_switchBelt 28 = .ok (.iload_n 1, 1) := by decide +kernel
theorem dX6_switchBelt_29 : decode cX6_switchBelt 29 = .ok (.putfield 77, 3) := by decide +kernel
theorem dX6_switchBelt_32 : decode cX6_switchBelt 32 = .ok (.iload_n 2, 1) := by decide +kernel
theorem dX6_switchBelt_33 : decode cX6_switchBelt 33 = .ok (.ireturn, 1) := by decide +kernel
theorem dX6_putBin_0 : decode cX6_putBin 0 = .ok (.aload_n 0, 1) := by decide +kernel
theorem dX6_putBin_1 : decode cX6_putBin 1 = .ok (.invokevirtual 115, 3) := by decide +kernel
theorem dX6_putBin_4 : decode cX6_putBin 4 = .ok (.ifCond .eq 6, 3) := by decide +kernel
theorem dX6_putBin_7 : decode cX6_putBin 7 = .ok (.ldc 119, 2) := by decide +kernel
theorem dX6_putBin_9 : decode cX6_putBin 9 = .ok (.ireturn, 1) := by decide +kernel
theorem dX6_putBin_10 : decode cX6_putBin 10 = .ok (.aload_n 0, 1) := by decide +kernel
theorem dX6_putBin_11 : decode cX6_putBin 11 = .ok (.getfield 28, 3) := by decide +kernel
theorem dX6_putBin_14 : decode cX6_putBin 14 = .ok (.getfield 120, 3) := by decide +kernel
theorem dX6_putBin_17 : decode cX6_putBin 17 = .ok (.bipush 8, 2) := by decide +kernel
theorem dX6_putBin_19 : decode cX6_putBin 19 = .ok (.if_icmp .lt 6, 3) := by decide +kernel
theorem dX6_putBin_22 : decode cX6_putBin 22 = .ok (.ldc 110, 2) := by decide +kernel
theorem dX6_putBin_24 : decode cX6_putBin 24 = .ok (.ireturn, 1) := by decide +kernel
theorem dX6_putBin_25 : decode cX6_putBin 25 = .ok (.aload_n 0, 1) := by decide +kernel
theorem dX6_putBin_26 : decode cX6_putBin 26 = .ok (.getfield 28, 3) := by decide +kernel
theorem dX6_putBin_29 : decode cX6_putBin 29 = .ok (.dup, 1) := by decide +kernel
theorem dX6_putBin_30 : decode cX6_putBin 30 = .ok (.getfield 120, 3) := by decide +kernel
theorem dX6_putBin_33 : decode cX6_putBin 33 = .ok (.iconst 1, 1) := by decide +kernel
theorem dX6_putBin_34 : decode cX6_putBin 34 = .ok (.iadd, 1) := by decide +kernel
theorem dX6_putBin_35 : decode cX6_putBin 35 = .ok (.putfield 120, 3) := by decide +kernel
theorem dX6_putBin_38 : decode cX6_putBin 38 = .ok (.aload_n 0, 1) := by decide +kernel
theorem dX6_putBin_39 : decode cX6_putBin 39 = .ok (.getfield 28, 3) := by decide +kernel
theorem dX6_putBin_42 : decode cX6_putBin 42 = .ok (.getfield 120, 3) := by decide +kernel
theorem dX6_putBin_45 : decode cX6_putBin 45 = .ok (.iconst 1, 1) := by decide +kernel
theorem dX6_putBin_46 : decode cX6_putBin 46 = .ok (.isub, 1) := by decide +kernel
theorem dX6_putBin_47 : decode cX6_putBin 47 = .ok (.ireturn, 1) := by decide +kernel
theorem dX6_beginBatch_0 : decode cX6_beginBatch 0 = .ok (.iload_n 1, 1) := by decide +kernel
theorem dX6_beginBatch_1 : decode cX6_beginBatch 1 = .ok (.iconst 1, 1) := by decide +kernel
theorem dX6_beginBatch_2 : decode cX6_beginBatch 2 = .ok (.if_icmp .lt 10, 3) := by decide +kernel
theorem dX6_beginBatch_5 : decode cX6_beginBatch 5 = .ok (.iload_n 1, 1) := by decide +kernel
theorem dX6_beginBatch_6 : decode cX6_beginBatch 6 = .ok (.sipush 9999, 3) := by decide +kernel
theorem dX6_beginBatch_9 : decode cX6_beginBatch 9 = .ok (.if_icmp .le 6, 3) := by decide +kernel
theorem dX6_beginBatch_12 : decode cX6_beginBatch 12 = .ok (.ldc 106, 2) := by decide +kernel
theorem dX6_beginBatch_14 : decode cX6_beginBatch 14 = .ok (.ireturn, 1) := by decide +kernel
theorem dX6_beginBatch_15 : decode cX6_beginBatch 15 = .ok (.aload_n 0, 1) := by decide +kernel
theorem dX6_beginBatch_16 : decode cX6_beginBatch 16 = .ok (.invokevirtual 115, 3) := by decide +kernel
theorem dX6_beginBatch_19 : decode cX6_beginBatch 19 = .ok (.ifCond .ne 13, 3) := by decide +kernel
theorem dX6_beginBatch_22 : decode cX6_beginBatch 22 = .ok (.aload_n 0, 1) := by decide +kernel
theorem dX6_beginBatch_23 : decode cX6_beginBatch 23 = .ok (.getfield 28, 3) := by decide +kernel
theorem dX6_beginBatch_26 : decode cX6_beginBatch 26 = .ok (.getfield 120, 3) := by decide +kernel
theorem dX6_beginBatch_29 : decode cX6_beginBatch 29 = .ok (.ifCond .ne 6, 3) := by decide +kernel
theorem dX6_beginBatch_32 : decode cX6_beginBatch 32 = .ok (.ldc 119, 2) := by decide +kernel
theorem dX6_beginBatch_34 : decode cX6_beginBatch 34 = .ok (.ireturn, 1) := by decide +kernel
theorem dX6_beginBatch_35 : decode cX6_beginBatch 35 = .ok (.aload_n 0, 1) := by decide +kernel
theorem dX6_beginBatch_36 : decode cX6_beginBatch 36 = .ok (.iconst 0, 1) := by decide +kernel
theorem dX6_beginBatch_37 : decode cX6_beginBatch 37 = .ok (.putfield 77, 3) := by decide +kernel
theorem dX6_beginBatch_40 : decode cX6_beginBatch 40 = .ok (.aload_n 0, 1) := by decide +kernel
theorem dX6_beginBatch_41 : decode cX6_beginBatch 41 = .ok (.iload_n 1, 1) := by decide +kernel
theorem dX6_beginBatch_42 : decode cX6_beginBatch 42 = .ok (.putfield 80, 3) := by decide +kernel
theorem dX6_beginBatch_45 : decode cX6_beginBatch 45 = .ok (.aload_n 0, 1) := by decide +kernel
theorem dX6_beginBatch_46 : decode cX6_beginBatch 46 = .ok (.iconst 0, 1) := by decide +kernel
theorem dX6_beginBatch_47 : decode cX6_beginBatch 47 = .ok (.putfield 83, 3) := by decide +kernel
theorem dX6_beginBatch_50 : decode cX6_beginBatch 50 = .ok (.aload_n 0, 1) := by decide +kernel
theorem dX6_beginBatch_51 : decode cX6_beginBatch 51 = .ok (.iconst 0, 1) := by decide +kernel
theorem dX6_beginBatch_52 : decode cX6_beginBatch 52 = .ok (.putfield 87, 3) := by decide +kernel
theorem dX6_beginBatch_55 : decode cX6_beginBatch 55 = .ok (.aload_n 0, 1) := by decide +kernel
theorem dX6_beginBatch_56 : decode cX6_beginBatch 56 = .ok (.getfield 21, 3) := by decide +kernel
theorem dX6_beginBatch_59 : decode cX6_beginBatch 59 = .ok (.getfield 123, 3) := by decide +kernel
theorem dX6_beginBatch_62 : decode cX6_beginBatch 62 = .ok (.ireturn, 1) := by decide +kernel
theorem dX6_passTicks_0 : decode cX6_passTicks 0 = .ok (.iload_n 1, 1) := by decide +kernel
theorem dX6_passTicks_1 : decode cX6_passTicks 1 = .ok (.iconst 1, 1) := by decide +kernel
theorem dX6_passTicks_2 : decode cX6_passTicks 2 = .ok (.if_icmp .lt 10, 3) := by decide +kernel
theorem dX6_passTicks_5 : decode cX6_passTicks 5 = .ok (.iload_n 1, 1) := by decide +kernel
theorem dX6_passTicks_6 : decode cX6_passTicks 6 = .ok (.sipush 200, 3) := by decide +kernel
theorem dX6_passTicks_9 : decode cX6_passTicks 9 = .ok (.if_icmp .le 6, 3) := by decide +kernel
theorem dX6_passTicks_12 : decode cX6_passTicks 12 = .ok (.ldc 106, 2) := by decide +kernel
theorem dX6_passTicks_14 : decode cX6_passTicks 14 = .ok (.ireturn, 1) := by decide +kernel
theorem dX6_passTicks_15 : decode cX6_passTicks 15 = .ok (.aload_n 0, 1) := by decide +kernel
theorem dX6_passTicks_16 : decode cX6_passTicks 16 = .ok (.getfield 90, 3) := by decide +kernel
theorem dX6_passTicks_19 : decode cX6_passTicks 19 = .ok (.iload_n 1, 1) := by decide +kernel
theorem dX6_passTicks_20 : decode cX6_passTicks 20 = .ok (.iadd, 1) := by decide +kernel
theorem dX6_passTicks_21 : decode cX6_passTicks 21 = .ok (.sipush 9000, 3) := by decide +kernel
theorem dX6_passTicks_24 : decode cX6_passTicks 24 = .ok (.if_icmp .le 6, 3) := by decide +kernel
theorem dX6_passTicks_27 : decode cX6_passTicks 27 = .ok (.ldc 110, 2) := by decide +kernel
theorem dX6_passTicks_29 : decode cX6_passTicks 29 = .ok (.ireturn, 1) := by decide +kernel
theorem dX6_passTicks_30 : decode cX6_passTicks 30 = .ok (.iconst 0, 1) := by decide +kernel
theorem dX6_passTicks_31 : decode cX6_passTicks 31 = .ok (.istore_n 2, 1) := by decide +kernel
theorem dX6_passTicks_32 : decode cX6_passTicks 32 = .ok (.iconst 0, 1) := by decide +kernel
theorem dX6_passTicks_33 : decode cX6_passTicks 33 = .ok (.istore_n 3, 1) := by decide +kernel
theorem dX6_passTicks_34 : decode cX6_passTicks 34 = .ok (.iload_n 3, 1) := by decide +kernel
theorem dX6_passTicks_35 : decode cX6_passTicks 35 = .ok (.iload_n 1, 1) := by decide +kernel
theorem dX6_passTicks_36 : decode cX6_passTicks 36 = .ok (.if_icmp .ge 16, 3) := by decide +kernel
theorem dX6_passTicks_39 : decode cX6_passTicks 39 = .ok (.iload_n 2, 1) := by decide +kernel
theorem dX6_passTicks_40 : decode cX6_passTicks 40 = .ok (.aload_n 0, 1) := by decide +kernel
theorem dX6_passTicks_41 : decode cX6_passTicks 41 = .ok (.invokevirtual 126, 3) := by decide +kernel
theorem dX6_passTicks_44 : decode cX6_passTicks 44 = .ok (.iadd, 1) := by decide +kernel
theorem dX6_passTicks_45 : decode cX6_passTicks 45 = .ok (.istore_n 2, 1) := by decide +kernel
theorem dX6_passTicks_46 : decode cX6_passTicks 46 = .ok (.iinc 3 1, 3) := by decide +kernel
theorem dX6_passTicks_49 : decode cX6_passTicks 49 = .ok (.goto (-15), 3) := by decide +kernel
theorem dX6_passTicks_52 : decode cX6_passTicks 52 = .ok (.iload_n 2, 1) := by decide +kernel
theorem dX6_passTicks_53 : decode cX6_passTicks 53 = .ok (.ireturn, 1) := by decide +kernel
theorem dX6_passTick_0 : decode cX6_passTick 0 = .ok (.aload_n 0, 1) := by decide +kernel
theorem dX6_passTick_1 : decode cX6_passTick 1 = .ok (.dup, 1) := by decide +kernel
theorem dX6_passTick_2 : decode cX6_passTick 2 = .ok (.getfield 90, 3) := by decide +kernel
theorem dX6_passTick_5 : decode cX6_passTick 5 = .ok (.iconst 1, 1) := by decide +kernel
theorem dX6_passTick_6 : decode cX6_passTick 6 = .ok (.iadd, 1) := by decide +kernel
theorem dX6_passTick_7 : decode cX6_passTick 7 = .ok (.putfield 90, 3) := by decide +kernel
theorem dX6_passTick_10 : decode cX6_passTick 10 = .ok (.aload_n 0, 1) := by decide +kernel
theorem dX6_passTick_11 : decode cX6_passTick 11 = .ok (.getfield 46, 3) := by decide +kernel
theorem dX6_passTick_14 : decode cX6_passTick 14 = .ok (.iconst 1, 1) := by decide +kernel
theorem dX6_passTick_15 : decode cX6_passTick 15 = .ok (.iaload, 1) := by decide +kernel
theorem dX6_passTick_16 : decode cX6_passTick 16 = .ok (.istore_n 1, 1) := by decide +kernel
theorem dX6_passTick_17 : decode cX6_passTick 17 = .ok (.iload_n 1, 1) := by decide +kernel
theorem dX6_passTick_18 : decode cX6_passTick 18 = .ok (.ifCond .le 30, 3) := by decide +kernel
theorem dX6_passTick_21 : decode cX6_passTick 21 = .ok (.aload_n 0, 1) := by decide +kernel
theorem dX6_passTick_22 : decode cX6_passTick 22 = .ok (.getfield 90, 3) := by decide +kernel
theorem dX6_passTick_25 : decode cX6_passTick 25 = .ok (.iload_n 1, 1) := by decide +kernel
theorem dX6_passTick_26 : decode cX6_passTick 26 = .ok (.irem, 1) := by decide +kernel
theorem dX6_passTick_27 : decode cX6_passTick 27 = .ok (.ifCond .ne 21, 3) := by decide +kernel
theorem dX6_passTick_30 : decode cX6_passTick 30 = .ok (.aload_n 0, 1) := by decide +kernel
theorem dX6_passTick_31 : decode cX6_passTick 31 = .ok (.getfield 35, 3) := by decide +kernel
theorem dX6_passTick_34 : decode cX6_passTick 34 = .ok (.dup, 1) := by decide +kernel
theorem dX6_passTick_35 : decode cX6_passTick 35 = .ok (.getfield 130, 3) := by decide +kernel
theorem dX6_passTick_38 : decode cX6_passTick 38 = .ok (.aload_n 0, 1) := by decide +kernel
theorem dX6_passTick_39 : decode cX6_passTick 39 = .ok (.getfield 46, 3) := by decide +kernel
theorem dX6_passTick_42 : decode cX6_passTick 42 = .ok (.iconst 2, 1) := by decide +kernel
theorem dX6_passTick_43 : decode cX6_passTick 43 = .ok (.iaload, 1) := by decide +kernel
theorem dX6_passTick_44 : decode cX6_passTick 44 = .ok (.iadd, 1) := by decide +kernel
theorem dX6_passTick_45 : decode cX6_passTick 45 = .ok (.putfield 130, 3) := by decide +kernel
theorem dX6_passTick_48 : decode cX6_passTick 48 = .ok (.aload_n 0, 1) := by decide +kernel
theorem dX6_passTick_49 : decode cX6_passTick 49 = .ok (.invokevirtual 115, 3) := by decide +kernel
theorem dX6_passTick_52 : decode cX6_passTick 52 = .ok (.ifCond .eq 15, 3) := by decide +kernel
theorem dX6_passTick_55 : decode cX6_passTick 55 = .ok (.aload_n 0, 1) := by decide +kernel
theorem dX6_passTick_56 : decode cX6_passTick 56 = .ok (.invokevirtual 133, 3) := by decide +kernel
theorem dX6_passTick_59 : decode cX6_passTick 59 = .ok (.ifCond .ne 8, 3) := by decide +kernel
theorem dX6_passTick_62 : decode cX6_passTick 62 = .ok (.aload_n 0, 1) := by decide +kernel
theorem dX6_passTick_63 : decode cX6_passTick 63 = .ok (.iconst 1, 1) := by decide +kernel
theorem dX6_passTick_64 : decode cX6_passTick 64 = .ok (.putfield 83, 3) := by decide +kernel
theorem dX6_passTick_67 : decode cX6_passTick 67 = .ok (.aload_n 0, 1) := by decide +kernel
theorem dX6_passTick_68 : decode cX6_passTick 68 = .ok (.invokevirtual 115, 3) := by decide +kernel
theorem dX6_passTick_71 : decode cX6_passTick 71 = .ok (.ifCond .ne 22, 3) := by decide +kernel
theorem dX6_passTick_74 : decode cX6_passTick 74 = .ok (.aload_n 0, 1) := by decide +kernel
theorem dX6_passTick_75 : decode cX6_passTick 75 = .ok (.getfield 77, 3) := by decide +kernel
theorem dX6_passTick_78 : decode cX6_passTick 78 = .ok (.ifCond .ne 15, 3) := by decide +kernel
theorem dX6_passTick_81 : decode cX6_passTick 81 = .ok (.aload_n 0, 1) := by decide +kernel
theorem dX6_passTick_82 : decode cX6_passTick 82 = .ok (.dup, 1) := by decide +kernel
theorem dX6_passTick_83 : decode cX6_passTick 83 = .ok (.getfield 93, 3) := by decide +kernel
theorem dX6_passTick_86 : decode cX6_passTick 86 = .ok (.iconst 1, 1) := by decide +kernel
theorem dX6_passTick_87 : decode cX6_passTick 87 = .ok (.iadd, 1) := by decide +kernel
theorem dX6_passTick_88 : decode cX6_passTick 88 = .ok (.putfield 93, 3) := by decide +kernel
theorem dX6_passTick_91 : decode cX6_passTick 91 = .ok (.iconst 0, 1) := by decide +kernel
theorem dX6_passTick_92 : decode cX6_passTick 92 = .ok (.ireturn, 1) := by decide +kernel
theorem dX6_passTick_93 : decode cX6_passTick 93 = .ok (.aload_n 0, 1) := by decide +kernel
theorem dX6_passTick_94 : decode cX6_passTick 94 = .ok (.iconst 0, 1) := by decide +kernel
theorem dX6_passTick_95 : decode cX6_passTick 95 = .ok (.putfield 93, 3) := by decide +kernel
theorem dX6_passTick_98 : decode cX6_passTick 98 = .ok (.aload_n 0, 1) := by decide +kernel
theorem dX6_passTick_99 : decode cX6_passTick 99 = .ok (.invokevirtual 136, 3) := by decide +kernel
theorem dX6_passTick_102 : decode cX6_passTick 102 = .ok (.istore_n 2, 1) := by decide +kernel
theorem dX6_passTick_103 : decode cX6_passTick 103 = .ok (.aload_n 0, 1) := by decide +kernel
theorem dX6_passTick_104 : decode cX6_passTick 104 = .ok (.getfield 21, 3) := by decide +kernel
theorem dX6_passTick_107 : decode cX6_passTick 107 = .ok (.invokevirtual 139, 3) := by decide +kernel
theorem dX6_passTick_110 : decode cX6_passTick 110 = .ok (.aload_n 0, 1) := by decide +kernel
theorem dX6_passTick_111 : decode cX6_passTick 111 = .ok (.getfield 83, 3) := by decide +kernel
theorem dX6_passTick_114 : decode cX6_passTick 114 = .ok (.ifCond .ne 11, 3) := by decide +kernel
theorem dX6_passTick_117 : decode cX6_passTick 117 = .ok (.aload_n 0, 1) := by decide +kernel
theorem dX6_passTick_118 : decode cX6_passTick 118 = .ok (.invokevirtual 142, 3) := by decide +kernel
theorem dX6_passTick_121 : decode cX6_passTick 121 = .ok (.aload_n 0, 1) := by decide +kernel
theorem dX6_passTick_122 : decode cX6_passTick 122 = .ok (.invokevirtual 145, 3) := by decide +kernel
theorem dX6_passTick_125 : decode cX6_passTick 125 = .ok (.aload_n 0, 1) := by decide +kernel
theorem dX6_passTick_126 : decode cX6_passTick 126 = .ok (.getfield 28, 3) := by decide +kernel
theorem dX6_passTick_129 : decode cX6_passTick 129 = .ok (.aload_n 0, 1) := by decide +kernel
theorem dX6_passTick_130 : decode cX6_passTick 130 = .ok (.getfield 35, 3) := by decide +kernel
theorem dX6_passTick_133 : decode cX6_passTick 133 = .ok (.aload_n 0, 1) := by decide +kernel
theorem dX6_passTick_134 : decode cX6_passTick 134 = .ok (.getfield 21, 3) := by decide +kernel
theorem dX6_passTick_137 : decode cX6_passTick 137 = .ok (.invokevirtual 148, 3) := by decide +kernel
theorem dX6_passTick_140 : decode cX6_passTick 140 = .ok (.invokevirtual 151, 3) := by decide +kernel
theorem dX6_passTick_143 : decode cX6_passTick 143 = .ok (.invokevirtual 155, 3) := by decide +kernel
theorem dX6_passTick_146 : decode cX6_passTick 146 = .ok (.aload_n 0, 1) := by decide +kernel
theorem dX6_passTick_147 : decode cX6_passTick 147 = .ok (.getfield 83, 3) := by decide +kernel
theorem dX6_passTick_150 : decode cX6_passTick 150 = .ok (.ifCond .eq 17, 3) := by decide +kernel
theorem dX6_passTick_153 : decode cX6_passTick 153 = .ok (.aload_n 0, 1) := by decide +kernel
theorem dX6_passTick_154 : decode cX6_passTick 154 = .ok (.getfield 21, 3) := by decide +kernel
theorem dX6_passTick_157 : decode cX6_passTick 157 = .ok (.getfield 123, 3) := by decide +kernel
theorem dX6_passTick_160 : decode cX6_passTick 160 = .ok (.ifCond .ne 7, 3) := by decide +kernel
theorem dX6_passTick_163 : decode cX6_passTick 163 = .ok (.aload_n 0, 1) := by decide +kernel
theorem dX6_passTick_164 : decode cX6_passTick 164 = .ok (.invokevirtual 159, 3) := by decide +kernel
theorem dX6_passTick_167 : decode cX6_passTick 167 = .ok (.iload_n 2, 1) := by decide +kernel
theorem dX6_passTick_168 : decode cX6_passTick 168 = .ok (.ireturn, 1) := by decide +kernel
theorem dX6_wantsMore_0 : decode cX6_wantsMore 0 = .ok (.aload_n 0, 1) := by decide +kernel
theorem dX6_wantsMore_1 : decode cX6_wantsMore 1 = .ok (.getfield 21, 3) := by decide +kernel
theorem dX6_wantsMore_4 : decode cX6_wantsMore 4 = .ok (.getfield 123, 3) := by decide +kernel
theorem dX6_wantsMore_7 : decode cX6_wantsMore 7 = .ok (.aload_n 0, 1) := by decide +kernel
theorem dX6_wantsMore_8 : decode cX6_wantsMore 8 = .ok (.getfield 87, 3) := by decide +kernel
theorem dX6_wantsMore_11 : decode cX6_wantsMore 11 = .ok (.iadd, 1) := by decide +kernel
theorem dX6_wantsMore_12 : decode cX6_wantsMore 12 = .ok (.aload_n 0, 1) := by decide +kernel
theorem dX6_wantsMore_13 : decode cX6_wantsMore 13 = .ok (.getfield 80, 3) := by decide +kernel
theorem dX6_wantsMore_16 : decode cX6_wantsMore 16 = .ok (.if_icmp .ge 17, 3) := by decide +kernel
theorem dX6_wantsMore_19 : decode cX6_wantsMore 19 = .ok (.aload_n 0, 1) := by decide +kernel
theorem dX6_wantsMore_20 : decode cX6_wantsMore 20 = .ok (.getfield 12, 3) := by decide +kernel
theorem dX6_wantsMore_23 : decode cX6_wantsMore 23 = .ok (.getfield 107, 3) := by decide +kernel
theorem dX6_wantsMore_26 : decode cX6_wantsMore 26 = .ok (.ifCond .le 7, 3) := by decide +kernel
theorem dX6_wantsMore_29 : decode cX6_wantsMore 29 = .ok (.iconst 1, 1) := by decide +kernel
theorem dX6_wantsMore_30 : decode cX6_wantsMore 30 = .ok (.goto 4, 3) := by decide +kernel
theorem dX6_wantsMore_33 : decode cX6_wantsMore 33 = .ok (.iconst 0, 1) := by decide +kernel
theorem dX6_wantsMore_34 : decode cX6_wantsMore 34 = .ok (.ireturn, 1) := by decide +kernel
theorem dX6_dropAtEnd_0 : decode cX6_dropAtEnd 0 = .ok (.iconst 0, 1) := by decide +kernel
theorem dX6_dropAtEnd_1 : decode cX6_dropAtEnd 1 = .ok (.istore_n 1, 1) := by decide +kernel
theorem dX6_dropAtEnd_2 : decode cX6_dropAtEnd 2 = .ok (.iconst 0, 1) := by decide +kernel
theorem dX6_dropAtEnd_3 : decode cX6_dropAtEnd 3 = .ok (.istore_n 2, 1) := by decide +kernel
theorem dX6_dropAtEnd_4 : decode cX6_dropAtEnd 4 = .ok (.iload_n 2, 1) := by decide +kernel
theorem dX6_dropAtEnd_5 : decode cX6_dropAtEnd 5 = .ok (.iconst 4, 1) := by decide +kernel
theorem dX6_dropAtEnd_6 : decode cX6_dropAtEnd 6 = .ok (.if_icmp .ge 76, 3) := by decide +kernel
theorem dX6_dropAtEnd_9 : decode cX6_dropAtEnd 9 = .ok (.aload_n 0, 1) := by decide +kernel
theorem dX6_dropAtEnd_10 : decode cX6_dropAtEnd 10 = .ok (.getfield 21, 3) := by decide +kernel
theorem dX6_dropAtEnd_13 : decode cX6_dropAtEnd 13 = .ok (.bipush 11, 2) := by decide +kernel
theorem dX6_dropAtEnd_15 : decode cX6_dropAtEnd 15 = .ok (.iload_n 2, 1) := by decide +kernel
theorem dX6_dropAtEnd_16 : decode cX6_dropAtEnd 16 = .ok (.invokevirtual 162, 3) := by decide +kernel
theorem dX6_dropAtEnd_19 : decode cX6_dropAtEnd 19 = .ok (.istore_n 3, 1) := by decide +kernel
theorem dX6_dropAtEnd_20 : decode cX6_dropAtEnd 20 = .ok (.aload_n 0, 1) := by decide +kernel
theorem dX6_dropAtEnd_21 : decode cX6_dropAtEnd 21 = .ok (.getfield 21, 3) := by decide +kernel
theorem dX6_dropAtEnd_24 : decode cX6_dropAtEnd 24 = .ok (.bipush 11, 2) := by decide +kernel
theorem dX6_dropAtEnd_26 : decode cX6_dropAtEnd 26 = .ok (.iload_n 2, 1) := by decide +kernel
theorem dX6_dropAtEnd_27 : decode cX6_dropAtEnd 27 = .ok (.iload_n 3, 1) := by decide +kernel
theorem dX6_dropAtEnd_28 : decode cX6_dropAtEnd 28 = .ok (.invokevirtual 166, 3) := by decide +kernel
theorem dX6_dropAtEnd_31 : decode cX6_dropAtEnd 31 = .ok (.iload_n 1, 1) := by decide +kernel
theorem dX6_dropAtEnd_32 : decode cX6_dropAtEnd 32 = .ok (.iload_n 3, 1) := by decide +kernel
theorem dX6_dropAtEnd_33 : decode cX6_dropAtEnd 33 = .ok (.iadd, 1) := by decide +kernel
theorem dX6_dropAtEnd_34 : decode cX6_dropAtEnd 34 = .ok (.istore_n 1, 1) := by decide +kernel
theorem dX6_dropAtEnd_35 : decode cX6_dropAtEnd 35 = .ok (.aload_n 0, 1) := by decide +kernel
theorem dX6_dropAtEnd_36 : decode cX6_dropAtEnd 36 = .ok (.getfield 28, 3) := by decide +kernel
theorem dX6_dropAtEnd_39 : decode cX6_dropAtEnd 39 = .ok (.getfield 120, 3) := by decide +kernel
theorem dX6_dropAtEnd_42 : decode cX6_dropAtEnd 42 = .ok (.ifCond .le 24, 3) := by decide +kernel
theorem dX6_dropAtEnd_45 : decode cX6_dropAtEnd 45 = .ok (.aload_n 0, 1) := by decide +kernel
theorem dX6_dropAtEnd_46 : decode cX6_dropAtEnd 46 = .ok (.getfield 28, 3) := by decide +kernel
theorem dX6_dropAtEnd_49 : decode cX6_dropAtEnd 49 = .ok (.iload_n 2, 1) := by decide +kernel
theorem dX6_dropAtEnd_50 : decode cX6_dropAtEnd 50 = .ok (.iload_n 3, 1) := by decide +kernel
theorem dX6_dropAtEnd_51 : decode cX6_dropAtEnd 51 = .ok (.invokevirtual 170, 3) := by decide +kernel
theorem dX6_dropAtEnd_54 : decode cX6_dropAtEnd 54 = .ok (.aload_n 0, 1) := by decide +kernel
theorem dX6_dropAtEnd_55 : decode cX6_dropAtEnd 55 = .ok (.getfield 42, 3) := by decide +kernel
theorem dX6_dropAtEnd_58 : decode cX6_dropAtEnd 58 = .ok (.iload_n 2, 1) := by decide +kernel
theorem dX6_dropAtEnd_59 : decode cX6_dropAtEnd 59 = .ok (.iload_n 3, 1) := by decide +kernel
theorem dX6_dropAtEnd_60 : decode cX6_dropAtEnd 60 = .ok (.invokevirtual 173, 3) := by decide +kernel
theorem dX6_dropAtEnd_63 : decode cX6_dropAtEnd 63 = .ok (.goto 13, 3) := by decide +kernel
theorem dX6_dropAtEnd_66 : decode cX6_dropAtEnd 66 = .ok (.aload_n 0, 1) := by decide +kernel
theorem dX6_dropAtEnd_67 : decode cX6_dropAtEnd 67 = .ok (.dup, 1) := by decide +kernel
theorem dX6_dropAtEnd_68 : decode cX6_dropAtEnd 68 = .ok (.getfield 96, 3) := by decide +kernel
theorem dX6_dropAtEnd_71 : decode cX6_dropAtEnd 71 = .ok (.iload_n 3, 1) := by decide +kernel
theorem dX6_dropAtEnd_72 : decode cX6_dropAtEnd 72 = .ok (.iadd, 1) := by decide +kernel
theorem dX6_dropAtEnd_73 : decode cX6_dropAtEnd 73 = .ok (.putfield 96, 3) := by decide +kernel
theorem dX6_dropAtEnd_76 : decode cX6_dropAtEnd 76 = .ok (.iinc 2 1, 3) := by decide +kernel
theorem dX6_dropAtEnd_79 : decode cX6_dropAtEnd 79 = .ok (.goto (-75), 3) := by decide +kernel
theorem dX6_dropAtEnd_82 : decode cX6_dropAtEnd 82 = .ok (.iload_n 1, 1) := by decide +kernel
theorem dX6_dropAtEnd_83 : decode cX6_dropAtEnd 83 = .ok (.ifCond .le 10, 3) := by decide +kernel
theorem dX6_dropAtEnd_86 : decode cX6_dropAtEnd 86 = .ok (.aload_n 0, 1) := by decide +kernel
theorem dX6_dropAtEnd_87 : decode cX6_dropAtEnd 87 = .ok (.getfield 28, 3) := by decide +kernel
theorem dX6_dropAtEnd_90 : decode cX6_dropAtEnd 90 = .ok (.invokevirtual 176, 3) := by decide +kernel
theorem dX6_dropAtEnd_93 : decode cX6_dropAtEnd 93 = .ok (.aload_n 0, 1) := by decide +kernel
theorem dX6_dropAtEnd_94 : decode cX6_dropAtEnd 94 = .ok (.dup, 1) := by decide +kernel
theorem dX6_dropAtEnd_95 : decode cX6_dropAtEnd 95 = .ok (.getfield 87, 3) := by decide +kernel
theorem dX6_dropAtEnd_98 : decode cX6_dropAtEnd 98 = .ok (.iload_n 1, 1) := by decide +kernel
theorem dX6_dropAtEnd_99 : decode cX6_dropAtEnd 99 = .ok (.iadd, 1) := by decide +kernel
theorem dX6_dropAtEnd_100 : decode cX6_dropAtEnd 100 = .ok (.putfield 87, 3) := by decide +kernel
theorem dX6_dropAtEnd_103 : decode cX6_dropAtEnd 103 = .ok (.aload_n 0, 1) := by decide +kernel
theorem dX6_dropAtEnd_104 : decode cX6_dropAtEnd 104 = .ok (.dup, 1) := by decide +kernel
theorem dX6_dropAtEnd_105 : decode cX6_dropAtEnd 105 = .ok (.getfield 99, 3) := by decide +kernel
theorem dX6_dropAtEnd_108 : decode cX6_dropAtEnd 108 = .ok (.iload_n 1, 1) := by decide +kernel
theorem dX6_dropAtEnd_109 : decode cX6_dropAtEnd 109 = .ok (.iadd, 1) := by decide +kernel
theorem dX6_dropAtEnd_110 : decode cX6_dropAtEnd 110 = .ok (.putfield 99, 3) := by decide +kernel
theorem dX6_dropAtEnd_113 : decode cX6_dropAtEnd 113 = .ok (.iload_n 1, 1) := by decide +kernel
theorem dX6_dropAtEnd_114 : decode cX6_dropAtEnd 114 = .ok (.ireturn, 1) := by decide +kernel
theorem dX6_feed_0 : decode cX6_feed 0 = .ok (.aload_n 0, 1) := by decide +kernel
theorem dX6_feed_1 : decode cX6_feed 1 = .ok (.getfield 50, 3) := by decide +kernel
theorem dX6_feed_4 : decode cX6_feed 4 = .ok (.istore_n 1, 1) := by decide +kernel
theorem dX6_feed_5 : decode cX6_feed 5 = .ok (.iconst 0, 1) := by decide +kernel
theorem dX6_feed_6 : decode cX6_feed 6 = .ok (.istore_n 2, 1) := by decide +kernel
theorem dX6_feed_7 : decode cX6_feed 7 = .ok (.iload_n 2, 1) := by decide +kernel
theorem dX6_feed_8 : decode cX6_feed 8 = .ok (.bipush 6, 2) := by decide +kernel
theorem dX6_feed_10 : decode cX6_feed 10 = .ok (.if_icmp .ge 66, 3) := by decide +kernel
theorem dX6_feed_13 : decode cX6_feed 13 = .ok (.iload_n 1, 1) := by decide +kernel
theorem dX6_feed_14 : decode cX6_feed 14 = .ok (.ifCond .le 62, 3) := by decide +kernel
theorem dX6_feed_17 : decode cX6_feed 17 = .ok (.aload_n 0, 1) := by decide +kernel
theorem dX6_feed_18 : decode cX6_feed 18 = .ok (.getfield 12, 3) := by decide +kernel
theorem dX6_feed_21 : decode cX6_feed 21 = .ok (.getfield 107, 3) := by decide +kernel
theorem dX6_feed_24 : decode cX6_feed 24 = .ok (.ifCond .le 52, 3) := by decide +kernel
theorem dX6_feed_27 : decode cX6_feed 27 = .ok (.iload_n 1, 1) := by decide +kernel
theorem dX6_feed_28 : decode cX6_feed 28 = .ok (.aload_n 0, 1) := by decide +kernel
theorem dX6_feed_29 : decode cX6_feed 29 = .ok (.getfield 12, 3) := by decide +kernel
theorem dX6_feed_32 : decode cX6_feed 32 = .ok (.getfield 179, 3) := by decide +kernel
theorem dX6_feed_35 : decode cX6_feed 35 = .ok (.iconst 0, 1) := by decide +kernel
theorem dX6_feed_36 : decode cX6_feed 36 = .ok (.iaload, 1) := by decide +kernel
theorem dX6_feed_37 : decode cX6_feed 37 = .ok (.invokestatic 182, 3) := by decide +kernel
theorem dX6_feed_40 : decode cX6_feed 40 = .ok (.istore_n 3, 1) := by decide +kernel
theorem dX6_feed_41 : decode cX6_feed 41 = .ok (.aload_n 0, 1) := by decide +kernel
theorem dX6_feed_42 : decode cX6_feed 42 = .ok (.getfield 21, 3) := by decide +kernel
theorem dX6_feed_45 : decode cX6_feed 45 = .ok (.aload_n 0, 1) := by decide +kernel
theorem dX6_feed_46 : decode cX6_feed 46 = .ok (.getfield 12, 3) := by decide +kernel
theorem dX6_feed_49 : decode cX6_feed 49 = .ok (.getfield 187, 3) := by decide +kernel
theorem dX6_feed_52 : decode cX6_feed 52 = .ok (.iconst 0, 1) := by decide +kernel
theorem dX6_feed_53 : decode cX6_feed 53 = .ok (.iaload, 1) := by decide +kernel
theorem dX6_feed_54 : decode cX6_feed 54 = .ok (.iload_n 3, 1) := by decide +kernel
theorem dX6_feed_55 : decode cX6_feed 55 = .ok (.invokevirtual 190, 3) := by decide +kernel
theorem dX6_feed_58 : decode cX6_feed 58 = .ok (.aload_n 0, 1) := by decide +kernel
theorem dX6_feed_59 : decode cX6_feed 59 = .ok (.getfield 12, 3) := by decide +kernel
theorem dX6_feed_62 : decode cX6_feed 62 = .ok (.iload_n 3, 1) := by decide +kernel
theorem dX6_feed_63 : decode cX6_feed 63 = .ok (.invokevirtual 193, 3) := by decide +kernel
theorem dX6_feed_66 : decode cX6_feed 66 = .ok (.iload_n 1, 1) := by decide +kernel
theorem dX6_feed_67 : decode cX6_feed 67 = .ok (.iload_n 3, 1) := by decide +kernel
theorem dX6_feed_68 : decode cX6_feed 68 = .ok (.isub, 1) := by decide +kernel
theorem dX6_feed_69 : decode cX6_feed 69 = .ok (.istore_n 1, 1) := by decide +kernel
theorem dX6_feed_70 : decode cX6_feed 70 = .ok (.iinc 2 1, 3) := by decide +kernel
theorem dX6_feed_73 : decode cX6_feed 73 = .ok (.goto (-66), 3) := by decide +kernel
theorem dX6_feed_76 : decode cX6_feed 76 = .ok (.return_, 1) := by decide +kernel
theorem dX6_spillTooMuch_0 : decode cX6_spillTooMuch 0 = .ok (.aload_n 0, 1) := by decide +kernel
theorem dX6_spillTooMuch_1 : decode cX6_spillTooMuch 1 = .ok (.getfield 21, 3) := by decide +kernel
theorem dX6_spillTooMuch_4 : decode cX6_spillTooMuch 4 = .ok (.iconst 0, 1) := by decide +kernel
theorem dX6_spillTooMuch_5 : decode cX6_spillTooMuch 5 = .ok (.invokevirtual 196, 3) := by decide +kernel
theorem dX6_spillTooMuch_8 : decode cX6_spillTooMuch 8 = .ok (.aload_n 0, 1) := by decide +kernel
theorem dX6_spillTooMuch_9 : decode cX6_spillTooMuch 9 = .ok (.getfield 46, 3) := by decide +kernel
theorem dX6_spillTooMuch_12 : decode cX6_spillTooMuch 12 = .ok (.iconst 0, 1) := by decide +kernel
theorem dX6_spillTooMuch_13 : decode cX6_spillTooMuch 13 = .ok (.iaload, 1) := by decide +kernel
theorem dX6_spillTooMuch_14 : decode cX6_spillTooMuch 14 = .ok (.isub, 1) := by decide +kernel
theorem dX6_spillTooMuch_15 : decode cX6_spillTooMuch 15 = .ok (.istore_n 1, 1) := by decide +kernel
theorem dX6_spillTooMuch_16 : decode cX6_spillTooMuch 16 = .ok (.iconst 3, 1) := by decide +kernel
theorem dX6_spillTooMuch_17 : decode cX6_spillTooMuch 17 = .ok (.istore_n 2, 1) := by decide +kernel
theorem dX6_spillTooMuch_18 : decode cX6_spillTooMuch 18 = .ok (.iload_n 2, 1) := by decide +kernel
theorem dX6_spillTooMuch_19 : decode cX6_spillTooMuch 19 = .ok (.ifCond .lt 51, 3) := by decide +kernel
theorem dX6_spillTooMuch_22 : decode cX6_spillTooMuch 22 = .ok (.iload_n 1, 1) := by decide +kernel
theorem dX6_spillTooMuch_23 : decode cX6_spillTooMuch 23 = .ok (.ifCond .le 47, 3) := by decide +kernel
theorem dX6_spillTooMuch_26 : decode cX6_spillTooMuch 26 = .ok (.iload_n 1, 1) := by decide +kernel
theorem dX6_spillTooMuch_27 : decode cX6_spillTooMuch 27 = .ok (.aload_n 0, 1) := by decide +kernel
theorem dX6_spillTooMuch_28 : decode cX6_spillTooMuch 28 = .ok (.getfield 21, 3) := by decide +kernel
theorem dX6_spillTooMuch_31 : decode cX6_spillTooMuch 31 = .ok (.iconst 0, 1) := by decide +kernel
theorem dX6_spillTooMuch_32 : decode cX6_spillTooMuch 32 = .ok (.iload_n 2, 1) := by decide +kernel
theorem dX6_spillTooMuch_33 : decode cX6_spillTooMuch 33 = .ok (.invokevirtual 162, 3) := by decide +kernel
theorem dX6_spillTooMuch_36 : decode cX6_spillTooMuch 36 = .ok (.invokestatic 182, 3) := by decide +kernel
theorem dX6_spillTooMuch_39 : decode cX6_spillTooMuch 39 = .ok (.istore_n 3, 1) := by decide +kernel
theorem dX6_spillTooMuch_40 : decode cX6_spillTooMuch 40 = .ok (.aload_n 0, 1) := by decide +kernel
theorem dX6_spillTooMuch_41 : decode cX6_spillTooMuch 41 = .ok (.getfield 21, 3) := by decide +kernel
theorem dX6_spillTooMuch_44 : decode cX6_spillTooMuch 44 = .ok (.iconst 0, 1) := by decide +kernel
theorem dX6_spillTooMuch_45 : decode cX6_spillTooMuch 45 = .ok (.iload_n 2, 1) := by decide +kernel
theorem dX6_spillTooMuch_46 : decode cX6_spillTooMuch 46 = .ok (.iload_n 3, 1) := by decide +kernel
theorem dX6_spillTooMuch_47 : decode cX6_spillTooMuch 47 = .ok (.invokevirtual 166, 3) := by decide +kernel
theorem dX6_spillTooMuch_50 : decode cX6_spillTooMuch 50 = .ok (.aload_n 0, 1) := by decide +kernel
theorem dX6_spillTooMuch_51 : decode cX6_spillTooMuch 51 = .ok (.dup, 1) := by decide +kernel
theorem dX6_spillTooMuch_52 : decode cX6_spillTooMuch 52 = .ok (.getfield 96, 3) := by decide +kernel
theorem dX6_spillTooMuch_55 : decode cX6_spillTooMuch 55 = .ok (.iload_n 3, 1) := by decide +kernel
theorem dX6_spillTooMuch_56 : decode cX6_spillTooMuch 56 = .ok (.iadd, 1) := by decide +kernel
theorem dX6_spillTooMuch_57 : decode cX6_spillTooMuch 57 = .ok (.putfield 96, 3) := by decide +kernel
theorem dX6_spillTooMuch_60 : decode cX6_spillTooMuch 60 = .ok (.iload_n 1, 1) := by decide +kernel
theorem dX6_spillTooMuch_61 : decode cX6_spillTooMuch 61 = .ok (.iload_n 3, 1) := by decide +kernel
theorem dX6_spillTooMuch_62 : decode cX6_spillTooMuch 62 = .ok (.isub, 1) := by decide +kernel
theorem dX6_spillTooMuch_63 : decode cX6_spillTooMuch 63 = .ok (.istore_n 1, 1) := by decide +kernel
theorem dX6_spillTooMuch_64 : decode cX6_spillTooMuch 64 = .ok (.iinc 2 (-1), 3) := by decide +kernel
theorem dX6_spillTooMuch_67 : decode cX6_spillTooMuch 67 = .ok (.goto (-49), 3) := by decide +kernel
theorem dX6_spillTooMuch_70 : decode cX6_spillTooMuch 70 = .ok (.return_, 1) := by decide +kernel
theorem dX6_endBatch_0 : decode cX6_endBatch 0 = .ok (.aload_n 0, 1) := by decide +kernel
theorem dX6_endBatch_1 : decode cX6_endBatch 1 = .ok (.iconst 0, 1) := by decide +kernel
theorem dX6_endBatch_2 : decode cX6_endBatch 2 = .ok (.putfield 80, 3) := by decide +kernel
theorem dX6_endBatch_5 : decode cX6_endBatch 5 = .ok (.aload_n 0, 1) := by decide +kernel
theorem dX6_endBatch_6 : decode cX6_endBatch 6 = .ok (.iconst 0, 1) := by decide +kernel
theorem dX6_endBatch_7 : decode cX6_endBatch 7 = .ok (.putfield 83, 3) := by decide +kernel
theorem dX6_endBatch_10 : decode cX6_endBatch 10 = .ok (.return_, 1) := by decide +kernel
theorem dX6_setZero_0 : decode cX6_setZero 0 = .ok (.aload_n 0, 1) := by decide +kernel
theorem dX6_setZero_1 : decode cX6_setZero 1 = .ok (.getfield 21, 3) := by decide +kernel
theorem dX6_setZero_4 : decode cX6_setZero 4 = .ok (.invokevirtual 148, 3) := by decide +kernel
theorem dX6_setZero_7 : decode cX6_setZero 7 = .ok (.istore_n 1, 1) := by decide +kernel
theorem dX6_setZero_8 : decode cX6_setZero 8 = .ok (.aload_n 0, 1) := by decide +kernel
theorem dX6_setZero_9 : decode cX6_setZero 9 = .ok (.getfield 93, 3) := by decide +kernel
theorem dX6_setZero_12 : decode cX6_setZero 12 = .ok (.iconst 4, 1) := by decide +kernel
theorem dX6_setZero_13 : decode cX6_setZero 13 = .ok (.if_icmp .ge 10, 3) := by decide +kernel
theorem dX6_setZero_16 : decode cX6_setZero 16 = .ok (.iload_n 1, 1) := by decide +kernel
theorem dX6_setZero_17 : decode cX6_setZero 17 = .ok (.ifCond .le 6, 3) := by decide +kernel
theorem dX6_setZero_20 : decode cX6_setZero 20 = .ok (.ldc 119, 2) := by decide +kernel
theorem dX6_setZero_22 : decode cX6_setZero 22 = .ok (.ireturn, 1) := by decide +kernel
theorem dX6_setZero_23 : decode cX6_setZero 23 = .ok (.aload_n 0, 1) := by decide +kernel
theorem dX6_setZero_24 : decode cX6_setZero 24 = .ok (.getfield 35, 3) := by decide +kernel
theorem dX6_setZero_27 : decode cX6_setZero 27 = .ok (.getfield 199, 3) := by decide +kernel
theorem dX6_setZero_30 : decode cX6_setZero 30 = .ok (.istore_n 2, 1) := by decide +kernel
theorem dX6_setZero_31 : decode cX6_setZero 31 = .ok (.aload_n 0, 1) := by decide +kernel
theorem dX6_setZero_32 : decode cX6_setZero 32 = .ok (.getfield 35, 3) := by decide +kernel
theorem dX6_setZero_35 : decode cX6_setZero 35 = .ok (.iload_n 1, 1) := by decide +kernel
theorem dX6_setZero_36 : decode cX6_setZero 36 = .ok (.aload_n 0, 1) := by decide +kernel
theorem dX6_setZero_37 : decode cX6_setZero 37 = .ok (.getfield 35, 3) := by decide +kernel
theorem dX6_setZero_40 : decode cX6_setZero 40 = .ok (.getfield 130, 3) := by decide +kernel
theorem dX6_setZero_43 : decode cX6_setZero 43 = .ok (.iadd, 1) := by decide +kernel
theorem dX6_setZero_44 : decode cX6_setZero 44 = .ok (.putfield 199, 3) := by decide +kernel
theorem dX6_setZero_47 : decode cX6_setZero 47 = .ok (.iload_n 2, 1) := by decide +kernel
theorem dX6_setZero_48 : decode cX6_setZero 48 = .ok (.ldc 202, 2) := by decide +kernel
theorem dX6_setZero_50 : decode cX6_setZero 50 = .ok (.iadd, 1) := by decide +kernel
theorem dX6_setZero_51 : decode cX6_setZero 51 = .ok (.ireturn, 1) := by decide +kernel
theorem dX6_correctBy_0 : decode cX6_correctBy 0 = .ok (.aload_n 0, 1) := by decide +kernel
theorem dX6_correctBy_1 : decode cX6_correctBy 1 = .ok (.getfield 28, 3) := by decide +kernel
theorem dX6_correctBy_4 : decode cX6_correctBy 4 = .ok (.iload_n 1, 1) := by decide +kernel
theorem dX6_correctBy_5 : decode cX6_correctBy 5 = .ok (.invokevirtual 203, 3) := by decide +kernel
theorem dX6_correctBy_8 : decode cX6_correctBy 8 = .ok (.ifCond .ne 6, 3) := by decide +kernel
theorem dX6_correctBy_11 : decode cX6_correctBy 11 = .ok (.ldc 106, 2) := by decide +kernel
theorem dX6_correctBy_13 : decode cX6_correctBy 13 = .ok (.ireturn, 1) := by decide +kernel
theorem dX6_correctBy_14 : decode cX6_correctBy 14 = .ok (.aload_n 0, 1) := by decide +kernel
theorem dX6_correctBy_15 : decode cX6_correctBy 15 = .ok (.getfield 28, 3) := by decide +kernel
theorem dX6_correctBy_18 : decode cX6_correctBy 18 = .ok (.getfield 206, 3) := by decide +kernel
theorem dX6_correctBy_21 : decode cX6_correctBy 21 = .ok (.iload_n 1, 1) := by decide +kernel
theorem dX6_correctBy_22 : decode cX6_correctBy 22 = .ok (.iaload, 1) := by decide +kernel
theorem dX6_correctBy_23 : decode cX6_correctBy 23 = .ok (.istore_n 2, 1) := by decide +kernel
theorem dX6_correctBy_24 : decode cX6_correctBy 24 = .ok (.iload_n 2, 1) := by decide +kernel
theorem dX6_correctBy_25 : decode cX6_correctBy 25 = .ok (.ifCond .gt 6, 3) := by decide +kernel
theorem dX6_correctBy_28 : decode cX6_correctBy 28 = .ok (.ldc 119, 2) := by decide +kernel
theorem dX6_correctBy_30 : decode cX6_correctBy 30 = .ok (.ireturn, 1) := by decide +kernel
theorem dX6_correctBy_31 : decode cX6_correctBy 31 = .ok (.sipush 1000, 3) := by decide +kernel
theorem dX6_correctBy_34 : decode cX6_correctBy 34 = .ok (.aload_n 0, 1) := by decide +kernel
theorem dX6_correctBy_35 : decode cX6_correctBy 35 = .ok (.getfield 28, 3) := by decide +kernel
theorem dX6_correctBy_38 : decode cX6_correctBy 38 = .ok (.iload_n 1, 1) := by decide +kernel
theorem dX6_correctBy_39 : decode cX6_correctBy 39 = .ok (.invokevirtual 209, 3) := by decide +kernel
theorem dX6_correctBy_42 : decode cX6_correctBy 42 = .ok (.imul, 1) := by decide +kernel
theorem dX6_correctBy_43 : decode cX6_correctBy 43 = .ok (.iload_n 2, 1) := by decide +kernel
theorem dX6_correctBy_44 : decode cX6_correctBy 44 = .ok (.idiv, 1) := by decide +kernel
theorem dX6_correctBy_45 : decode cX6_correctBy 45 = .ok (.istore_n 3, 1) := by decide +kernel
theorem dX6_correctBy_46 : decode cX6_correctBy 46 = .ok (.iload_n 3, 1) := by decide +kernel
theorem dX6_correctBy_47 : decode cX6_correctBy 47 = .ok (.sipush 500, 3) := by decide +kernel
theorem dX6_correctBy_50 : decode cX6_correctBy 50 = .ok (.if_icmp .lt 10, 3) := by decide +kernel
theorem dX6_correctBy_53 : decode cX6_correctBy 53 = .ok (.iload_n 3, 1) := by decide +kernel
theorem dX6_correctBy_54 : decode cX6_correctBy 54 = .ok (.sipush 2000, 3) := by decide +kernel
theorem dX6_correctBy_57 : decode cX6_correctBy 57 = .ok (.if_icmp .le 6, 3) := by decide +kernel
theorem dX6_correctBy_60 : decode cX6_correctBy 60 = .ok (.ldc 119, 2) := by decide +kernel
theorem dX6_correctBy_62 : decode cX6_correctBy 62 = .ok (.ireturn, 1) := by decide +kernel
theorem dX6_correctBy_63 : decode cX6_correctBy 63 = .ok (.aload_n 0, 1) := by decide +kernel
theorem dX6_correctBy_64 : decode cX6_correctBy 64 = .ok (.getfield 35, 3) := by decide +kernel
theorem dX6_correctBy_67 : decode cX6_correctBy 67 = .ok (.iload_n 3, 1) := by decide +kernel
theorem dX6_correctBy_68 : decode cX6_correctBy 68 = .ok (.putfield 212, 3) := by decide +kernel
theorem dX6_correctBy_71 : decode cX6_correctBy 71 = .ok (.iload_n 3, 1) := by decide +kernel
theorem dX6_correctBy_72 : decode cX6_correctBy 72 = .ok (.ireturn, 1) := by decide +kernel
theorem dX6_changeSetting_0 : decode cX6_changeSetting 0 = .ok (.iload_n 1, 1) := by decide +kernel
theorem dX6_changeSetting_1 : decode cX6_changeSetting 1 = .ok (.ifCond .lt 8, 3) := by decide +kernel
theorem dX6_changeSetting_4 : decode cX6_changeSetting 4 = .ok (.iload_n 1, 1) := by decide +kernel
theorem dX6_changeSetting_5 : decode cX6_changeSetting 5 = .ok (.iconst 3, 1) := by decide +kernel
theorem dX6_changeSetting_6 : decode cX6_changeSetting 6 = .ok (.if_icmp .lt 6, 3) := by decide +kernel
theorem dX6_changeSetting_9 : decode cX6_changeSetting 9 = .ok (.ldc 106, 2) := by decide +kernel
theorem dX6_changeSetting_11 : decode cX6_changeSetting 11 = .ok (.ireturn, 1) := by decide +kernel
theorem dX6_changeSetting_12 : decode cX6_changeSetting 12 = .ok (.iload_n 2, 1) := by decide +kernel
theorem dX6_changeSetting_13 : decode cX6_changeSetting 13 = .ok (.getstatic 215, 3) := by decide +kernel
theorem dX6_changeSetting_16 : decode cX6_changeSetting 16 = .ok (.iload_n 1, 1) := by decide +kernel
theorem dX6_changeSetting_17 : decode cX6_changeSetting 17 = .ok (.iaload, 1) := by decide +kernel
theorem dX6_changeSetting_18 : decode cX6_changeSetting 18 = .ok (.if_icmp .lt 12, 3) := by decide +kernel
theorem dX6_changeSetting_21 : decode cX6_changeSetting 21 = .ok (.iload_n 2, 1) := by decide +kernel
theorem dX6_changeSetting_22 : decode cX6_changeSetting 22 = .ok (.getstatic 218, 3) := by decide +kernel
theorem dX6_changeSetting_25 : decode cX6_changeSetting 25 = .ok (.iload_n 1, 1) := by decide +kernel
theorem dX6_changeSetting_26 : decode cX6_changeSetting 26 = .ok (.iaload, 1) := by decide +kernel
theorem dX6_changeSetting_27 : decode cX6_changeSetting 27 = .ok (.if_icmp .le 6, 3) := by decide +kernel
theorem dX6_changeSetting_30 : decode cX6_changeSetting 30 = .ok (.ldc 106, 2) := by decide +kernel
theorem dX6_changeSetting_32 : decode cX6_changeSetting 32 = .ok (.ireturn, 1) := by decide +kernel
theorem dX6_changeSetting_33 : decode cX6_changeSetting 33 = .ok (.aload_n 0, 1) := by decide +kernel
theorem dX6_changeSetting_34 : decode cX6_changeSetting 34 = .ok (.getfield 46, 3) := by decide +kernel
theorem dX6_changeSetting_37 : decode cX6_changeSetting 37 = .ok (.iload_n 1, 1) := by decide +kernel
theorem dX6_changeSetting_38 : decode cX6_changeSetting 38 = .ok (.iaload, 1) := by decide +kernel
theorem dX6_changeSetting_39 : decode cX6_changeSetting 39 = .ok (.istore_n 3, 1) := by decide +kernel
theorem dX6_changeSetting_40 : decode cX6_changeSetting 40 = .ok (.aload_n 0, 1) := by decide +kernel
theorem dX6_changeSetting_41 : decode cX6_changeSetting 41 = .ok (.getfield 46, 3) := by decide +kernel
theorem dX6_changeSetting_44 : decode cX6_changeSetting 44 = .ok (.iload_n 1, 1) := by decide +kernel
theorem dX6_changeSetting_45 : decode cX6_changeSetting 45 = .ok (.iload_n 2, 1) := by decide +kernel
theorem dX6_changeSetting_46 : decode cX6_changeSetting 46 = .ok (.iastore, 1) := by decide +kernel
theorem dX6_changeSetting_47 : decode cX6_changeSetting 47 = .ok (.iload_n 3, 1) := by decide +kernel
theorem dX6_changeSetting_48 : decode cX6_changeSetting 48 = .ok (.ireturn, 1) := by decide +kernel
theorem dX7_init_0 : decode cX7_init 0 = .ok (.aload_n 0, 1) := by decide +kernel
theorem dX7_init_1 : decode cX7_init 1 = .ok (.invokespecial 3, 3) := by decide +kernel
theorem dX7_init_4 : decode cX7_init 4 = .ok (.aload_n 0, 1) := by decide +kernel
theorem dX7_init_5 : decode cX7_init 5 = .ok (.new 9, 3) := by decide +kernel
theorem dX7_init_8 : decode cX7_init 8 = .ok (.dup, 1) := by decide +kernel
theorem dX7_init_9 : decode cX7_init 9 = .ok (.invokespecial 11, 3) := by decide +kernel
theorem dX7_init_12 : decode cX7_init 12 = .ok (.putfield 12, 3) := by decide +kernel
theorem dX7_init_15 : decode cX7_init 15 = .ok (.return_, 1) := by decide +kernel
theorem dX7_perform_0 : decode cX7_perform 0 = .ok (.aload_n 3, 1) := by decide +kernel
theorem dX7_perform_1 : decode cX7_perform 1 = .ok (.aload_n 2, 1) := by decide +kernel
theorem dX7_perform_2 : decode cX7_perform 2 = .ok (.invokevirtual 18, 3) := by decide +kernel
theorem dX7_perform_5 : decode cX7_perform 5 = .ok (.aload_n 0, 1) := by decide +kernel
theorem dX7_perform_6 : decode cX7_perform 6 = .ok (.iconst 0, 1) := by decide +kernel
theorem dX7_perform_7 : decode cX7_perform 7 = .ok (.putfield 24, 3) := by decide +kernel
theorem dX7_perform_10 : decode cX7_perform 10 = .ok (.aload_n 0, 1) := by decide +kernel
theorem dX7_perform_11 : decode cX7_perform 11 = .ok (.iconst 0, 1) := by decide +kernel
theorem dX7_perform_12 : decode cX7_perform 12 = .ok (.putfield 28, 3) := by decide +kernel
theorem dX7_perform_15 : decode cX7_perform 15 = .ok (.aload_n 0, 1) := by decide +kernel
theorem dX7_perform_16 : decode cX7_perform 16 = .ok (.iconst 0, 1) := by decide +kernel
theorem dX7_perform_17 : decode cX7_perform 17 = .ok (.putfield 31, 3) := by decide +kernel
theorem dX7_perform_20 : decode cX7_perform 20 = .ok (.aload_n 0, 1) := by decide +kernel
theorem dX7_perform_21 : decode cX7_perform 21 = .ok (.iconst 0, 1) := by decide +kernel
theorem dX7_perform_22 : decode cX7_perform 22 = .ok (.putfield 34, 3) := by decide +kernel
theorem dX7_perform_25 : decode cX7_perform 25 = .ok (.iconst 0, 1) := by decide +kernel
theorem dX7_perform_26 : decode cX7_perform 26 = .ok (.istore 4, 2) := by decide +kernel
theorem dX7_perform_28 : decode cX7_perform 28 = .ok (.iload 4, 2) := by decide +kernel
theorem dX7_perform_30 : decode cX7_perform 30 = .ok (.bipush 60, 2) := by decide +kernel
theorem dX7_perform_32 : decode cX7_perform 32 = .ok (.if_icmp .ge 92, 3) := by decide +kernel
theorem dX7_perform_35 : decode cX7_perform 35 = .ok (.aload_n 0, 1) := by decide +kernel
theorem dX7_perform_36 : decode cX7_perform 36 = .ok (.getfield 24, 3) := by decide +kernel
theorem dX7_perform_39 : decode cX7_perform 39 = .ok (.aload_n 1, 1) := by decide +kernel
theorem dX7_perform_40 : decode cX7_perform 40 = .ok (.getfield 37, 3) := by decide +kernel
theorem dX7_perform_43 : decode cX7_perform 43 = .ok (.if_icmp .ge 81, 3) := by decide +kernel
theorem dX7_perform_46 : decode cX7_perform 46 = .ok (.aload_n 0, 1) := by decide +kernel
theorem dX7_perform_47 : decode cX7_perform 47 = .ok (.getfield 12, 3) := by decide +kernel
theorem dX7_perform_50 : decode cX7_perform 50 = .ok (.aload_n 1, 1) := by decide +kernel
theorem dX7_perform_51 : decode cX7_perform 51 = .ok (.aload_n 0, 1) := by decide +kernel
theorem dX7_perform_52 : decode cX7_perform 52 = .ok (.getfield 24, 3) := by decide +kernel
theorem dX7_perform_55 : decode cX7_perform 55 = .ok (.invokevirtual 42, 3) := by decide +kernel
theorem dX7_perform_58 : decode cX7_perform 58 = .ok (.ifCond .ne 9, 3) := by decide +kernel
theorem dX7_perform_61 : decode cX7_perform 61 = .ok (.aload_n 0, 1) := by decide +kernel
theorem dX7_perform_62 : decode cX7_perform 62 = .ok (.iconst 1, 1) := by decide +kernel
theorem dX7_perform_63 : decode cX7_perform 63 = .ok (.putfield 28, 3) := by decide +kernel
theorem dX7_perform_66 : decode cX7_perform 66 = .ok (.return_, 1) := by decide +kernel
theorem dX7_perform_67 : decode cX7_perform 67 = .ok (.aload_n 0, 1) := by decide +kernel
theorem dX7_perform_68 : decode cX7_perform 68 = .ok (.getfield 12, 3) := by decide +kernel
theorem dX7_perform_71 : decode cX7_perform 71 = .ok (.aload_n 3, 1) := by decide +kernel
theorem dX7_perform_72 : decode cX7_perform 72 = .ok (.invokevirtual 46, 3) := by decide +kernel
theorem dX7_perform_75 : decode cX7_perform 75 = .ok (.istore 5, 2) := by decide +kernel
theorem dX7_perform_77 : decode cX7_perform 77 = .ok (.iload 5, 2) := by decide +kernel
theorem dX7_perform_79 : decode cX7_perform 79 = .ok (.invokestatic 50, 3) := by decide +kernel
theorem dX7_perform_82 : decode cX7_perform 82 = .ok (.ifCond .eq 15, 3) := by decide +kernel
theorem dX7_perform_85 : decode cX7_perform 85 = .ok (.aload_n 0, 1) := by decide +kernel
theorem dX7_perform_86 : decode cX7_perform 86 = .ok (.iconst 2, 1) := by decide +kernel
theorem dX7_perform_87 : decode cX7_perform 87 = .ok (.putfield 28, 3) := by decide +kernel
theorem dX7_perform_90 : decode cX7_perform 90 = .ok (.aload_n 0, 1) := by decide +kernel
theorem dX7_perform_91 : decode cX7_perform 91 = .ok (.iload 5, 2) := by decide +kernel
theorem dX7_perform_93 : decode cX7_perform 93 = .ok (.putfield 31, 3) := by decide +kernel
theorem dX7_perform_96 : decode cX7_perform 96 = .ok (.return_, 1) := by decide +kernel
theorem dX7_perform_97 : decode cX7_perform 97 = .ok (.aload_n 0, 1) := by decide +kernel
theorem dX7_perform_98 : decode cX7_perform 98 = .ok (.aload_n 0, 1) := by decide +kernel
theorem dX7_perform_99 : decode cX7_perform 99 = .ok (.getfield 12, 3) := by decide +kernel
theorem dX7_perform_102 : decode cX7_perform 102 = .ok (.getfield 54, 3) := by decide +kernel
theorem dX7_perform_105 : decode cX7_perform 105 = .ok (.putfield 24, 3) := by decide +kernel
theorem dX7_perform_108 : decode cX7_perform 108 = .ok (.aload_n 0, 1) := by decide +kernel
theorem dX7_perform_109 : decode cX7_perform 109 = .ok (.dup, 1) := by decide +kernel
theorem dX7_perform_110 : decode cX7_perform 110 = .ok (.getfield 34, 3) := by decide +kernel
theorem dX7_perform_113 : decode cX7_perform 113 = .ok (.iconst 1, 1) := by decide +kernel
theorem dX7_perform_114 : decode cX7_perform 114 = .ok (.iadd, 1) := by decide +kernel
theorem dX7_perform_115 : decode cX7_perform 115 = .ok (.putfield 34, 3) := by decide +kernel
theorem dX7_perform_118 : decode cX7_perform 118 = .ok (.iinc 4 1, 3) := by decide +kernel
theorem dX7_perform_121 : decode cX7_perform 121 = .ok (.goto (-93), 3) := by decide +kernel
theorem dX7_perform_124 : decode cX7_perform 124 = .ok (.return_, 1) := by decide +kernel
theorem dX8_init_0 : decode cX8_init 0 = .ok (.aload_n 0, 1) := by decide +kernel
theorem dX8_init_1 : decode cX8_init 1 = .ok (.invokespecial 3, 3) := by decide +kernel
theorem dX8_init_4 : decode cX8_init 4 = .ok (.aload_n 0, 1) := by decide +kernel
theorem dX8_init_5 : decode cX8_init 5 = .ok (.sipush 1000, 3) := by decide +kernel
theorem dX8_init_8 : decode cX8_init 8 = .ok (.putfield 9, 3) := by decide +kernel
theorem dX8_init_11 : decode cX8_init 11 = .ok (.return_, 1) := by decide +kernel
theorem dX8_copyFrom_0 : decode cX8_copyFrom 0 = .ok (.aload_n 0, 1) := by decide +kernel
theorem dX8_copyFrom_1 : decode cX8_copyFrom 1 = .ok (.aload_n 1, 1) := by decide +kernel
theorem dX8_copyFrom_2 : decode cX8_copyFrom 2 = .ok (.getfield 15, 3) := by decide +kernel
theorem dX8_copyFrom_5 : decode cX8_copyFrom 5 = .ok (.putfield 15, 3) := by decide +kernel
theorem dX8_copyFrom_8 : decode cX8_copyFrom 8 = .ok (.aload_n 0, 1) := by decide +kernel
theorem dX8_copyFrom_9 : decode cX8_copyFrom 9 = .ok (.aload_n 1, 1) := by decide +kernel
theorem dX8_copyFrom_10 : decode cX8_copyFrom 10 = .ok (.getfield 18, 3) := by decide +kernel
theorem dX8_copyFrom_13 : decode cX8_copyFrom 13 = .ok (.putfield 18, 3) := by decide +kernel
theorem dX8_copyFrom_16 : decode cX8_copyFrom 16 = .ok (.aload_n 0, 1) := by decide +kernel
theorem dX8_copyFrom_17 : decode cX8_copyFrom 17 = .ok (.aload_n 1, 1) := by decide +kernel
theorem dX8_copyFrom_18 : decode cX8_copyFrom 18 = .ok (.getfield 21, 3) := by decide +kernel
theorem dX8_copyFrom_21 : decode cX8_copyFrom 21 = .ok (.putfield 21, 3) := by decide +kernel
theorem dX8_copyFrom_24 : decode cX8_copyFrom 24 = .ok (.aload_n 0, 1) := by decide +kernel
theorem dX8_copyFrom_25 : decode cX8_copyFrom 25 = .ok (.aload_n 1, 1) := by decide +kernel
theorem dX8_copyFrom_26 : decode cX8_copyFrom 26 = .ok (.getfield 24, 3) := by decide +kernel
theorem dX8_copyFrom_29 : decode cX8_copyFrom 29 = .ok (.putfield 24, 3) := by decide +kernel
theorem dX8_copyFrom_32 : decode cX8_copyFrom 32 = .ok (.aload_n 0, 1) := by decide +kernel
theorem dX8_copyFrom_33 : decode cX8_copyFrom 33 = .ok (.aload_n 1, 1) := by decide +kernel
theorem dX8_copyFrom_34 : decode cX8_copyFrom 34 = .ok (.getfield 9, 3) := by decide +kernel
theorem dX8_copyFrom_37 : decode cX8_copyFrom 37 = .ok (.putfield 9, 3) := by decide +kernel
theorem dX8_copyFrom_40 : decode cX8_copyFrom 40 = .ok (.return_, 1) := by decide +kernel
theorem dX8_reading_0 : decode cX8_reading 0 = .ok (.iload_n 1, 1) := by decide +kernel
theorem dX8_reading_1 : decode cX8_reading 1 = .ok (.aload_n 0, 1) := by decide +kernel
theorem dX8_reading_2 : decode cX8_reading 2 = .ok (.getfield 15, 3) := by decide +kernel
theorem dX8_reading_5 : decode cX8_reading 5 = .ok (.iadd, 1) := by decide +kernel
theorem dX8_reading_6 : decode cX8_reading 6 = .ok (.aload_n 0, 1) := by decide +kernel
theorem dX8_reading_7 : decode cX8_reading 7 = .ok (.getfield 18, 3) := by decide +kernel
theorem dX8_reading_10 : decode cX8_reading 10 = .ok (.isub, 1) := by decide +kernel
theorem dX8_reading_11 : decode cX8_reading 11 = .ok (.ireturn, 1) := by decide +kernel
theorem dX8_weigh_0 : decode cX8_weigh 0 = .ok (.aload_n 0, 1) := by decide +kernel
theorem dX8_weigh_1 : decode cX8_weigh 1 = .ok (.iload_n 1, 1) := by decide +kernel
theorem dX8_weigh_2 : decode cX8_weigh 2 = .ok (.invokevirtual 27, 3) := by decide +kernel
theorem dX8_weigh_5 : decode cX8_weigh 5 = .ok (.aload_n 0, 1) := by decide +kernel
theorem dX8_weigh_6 : decode cX8_weigh 6 = .ok (.getfield 24, 3) := by decide +kernel
theorem dX8_weigh_9 : decode cX8_weigh 9 = .ok (.iadd, 1) := by decide +kernel
theorem dX8_weigh_10 : decode cX8_weigh 10 = .ok (.istore_n 2, 1) := by decide +kernel
theorem dX8_weigh_11 : decode cX8_weigh 11 = .ok (.iload_n 2, 1) := by decide +kernel
theorem dX8_weigh_12 : decode cX8_weigh 12 = .ok (.iconst 4, 1) := by decide +kernel
theorem dX8_weigh_13 : decode cX8_weigh 13 = .ok (.idiv, 1) := by decide +kernel
theorem dX8_weigh_14 : decode cX8_weigh 14 = .ok (.istore_n 3, 1) := by decide +kernel
theorem dX8_weigh_15 : decode cX8_weigh 15 = .ok (.aload_n 0, 1) := by decide +kernel
theorem dX8_weigh_16 : decode cX8_weigh 16 = .ok (.iload_n 2, 1) := by decide +kernel
theorem dX8_weigh_17 : decode cX8_weigh 17 = .ok (.iconst 4, 1) := by decide +kernel
theorem dX8_weigh_18 : decode cX8_weigh 18 = .ok (.irem, 1) := by decide +kernel
theorem dX8_weigh_19 : decode cX8_weigh 19 = .ok (.putfield 24, 3) := by decide +kernel
theorem dX8_weigh_22 : decode cX8_weigh 22 = .ok (.aload_n 0, 1) := by decide +kernel
theorem dX8_weigh_23 : decode cX8_weigh 23 = .ok (.dup, 1) := by decide +kernel
theorem dX8_weigh_24 : decode cX8_weigh 24 = .ok (.getfield 21, 3) := by decide +kernel
theorem dX8_weigh_27 : decode cX8_weigh 27 = .ok (.iload_n 3, 1) := by decide +kernel
theorem dX8_weigh_28 : decode cX8_weigh 28 = .ok (.iadd, 1) := by decide +kernel
theorem dX8_weigh_29 : decode cX8_weigh 29 = .ok (.putfield 21, 3) := by decide +kernel
theorem dX8_weigh_32 : decode cX8_weigh 32 = .ok (.iload_n 3, 1) := by decide +kernel
theorem dX8_weigh_33 : decode cX8_weigh 33 = .ok (.ireturn, 1) := by decide +kernel
theorem dX8_toldTotal_0 : decode cX8_toldTotal 0 = .ok (.aload_n 0, 1) := by decide +kernel
theorem dX8_toldTotal_1 : decode cX8_toldTotal 1 = .ok (.getfield 21, 3) := by decide +kernel
theorem dX8_toldTotal_4 : decode cX8_toldTotal 4 = .ok (.i2l, 1) := by decide +kernel
theorem dX8_toldTotal_5 : decode cX8_toldTotal 5 = .ok (.aload_n 0, 1) := by decide +kernel
theorem dX8_toldTotal_6 : decode cX8_toldTotal 6 = .ok (.getfield 9, 3) := by decide +kernel
theorem dX8_toldTotal_9 : decode cX8_toldTotal 9 = .ok (.i2l, 1) := by decide +kernel
theorem dX8_toldTotal_10 : decode cX8_toldTotal 10 = .ok (.lmul, 1) := by decide +kernel
theorem dX8_toldTotal_11 : decode cX8_toldTotal 11 = .ok (.ldc2_w 31, 3) := by decide +kernel
theorem dX8_toldTotal_14 : decode cX8_toldTotal 14 = .ok (.ldiv, 1) := by decide +kernel
theorem dX8_toldTotal_15 : decode cX8_toldTotal 15 = .ok (.l2i, 1) := by decide +kernel
theorem dX8_toldTotal_16 : decode cX8_toldTotal 16 = .ok (.ireturn, 1) := by decide +kernel
theorem dX9_init_0 : decode cX9_init 0 = .ok (.aload_n 0, 1) := by decide +kernel
theorem dX9_init_1 : decode cX9_init 1 = .ok (.invokespecial 3, 3) := by decide +kernel
theorem dX9_init_4 : decode cX9_init 4 = .ok (.aload_n 0, 1) := by decide +kernel
theorem dX9_init_5 : decode cX9_init 5 = .ok (.bipush 60, 2) := by decide +kernel
theorem dX9_init_7 : decode cX9_init 7 = .ok (.newarray .char, 2) := by decide +kernel
theorem dX9_init_9 : decode cX9_init 9 = .ok (.putfield 9, 3) := by decide +kernel
theorem dX9_init_12 : decode cX9_init 12 = .ok (.return_, 1) := by decide +kernel
theorem dX9_append_0 : decode cX9_append 0 = .ok (.aload_n 0, 1) := by decide +kernel
theorem dX9_append_1 : decode cX9_append 1 = .ok (.getfield 15, 3) := by decide +kernel
theorem dX9_append_4 : decode cX9_append 4 = .ok (.bipush 60, 2) := by decide +kernel
theorem dX9_append_6 : decode cX9_append 6 = .ok (.if_icmp .ge 23, 3) := by decide +kernel
theorem dX9_append_9 : decode cX9_append 9 = .ok (.aload_n 0, 1) := by decide +kernel
theorem dX9_append_10 : decode cX9_append 10 = .ok (.getfield 9, 3) := by decide +kernel
theorem dX9_append_13 : decode cX9_append 13 = .ok (.aload_n 0, 1) := by decide +kernel
theorem dX9_append_14 : decode cX9_append 14 = .ok (.getfield 15, 3) := by decide +kernel
theorem dX9_append_17 : decode cX9_append 17 = .ok (.iload_n 1, 1) := by decide +kernel
theorem dX9_append_18 : decode cX9_append 18 = .ok (.castore, 1) := by decide +kernel
theorem dX9_append_19 : decode cX9_append 19 = .ok (.aload_n 0, 1) := by decide +kernel
theorem dX9_append_20 : decode cX9_append 20 = .ok (.dup, 1) := by decide +kernel
theorem dX9_append_21 : decode cX9_append 21 = .ok (.getfield 15, 3) := by decide +kernel
theorem dX9_append_24 : decode cX9_append 24 = .ok (.iconst 1, 1) := by decide +kernel
theorem dX9_append_25 : decode cX9_append 25 = .ok (.iadd, 1) := by decide +kernel
theorem dX9_append_26 : decode cX9_append 26 = .ok (.putfield 15, 3) := by decide +kernel
theorem dX9_append_29 : decode cX9_append 29 = .ok (.return_, 1) := by decide +kernel
theorem dX9_at_0 : decode cX9_at 0 = .ok (.iload_n 1, 1) := by decide +kernel
theorem dX9_at_1 : decode cX9_at 1 = .ok (.ifCond .lt 20, 3) := by decide +kernel
theorem dX9_at_4 : decode cX9_at 4 = .ok (.iload_n 1, 1) := by decide +kernel
theorem dX9_at_5 : decode cX9_at 5 = .ok (.aload_n 0, 1) := by decide +kernel
theorem dX9_at_6 : decode cX9_at 6 = .ok (.getfield 15, 3) := by decide +kernel
theorem dX9_at_9 : decode cX9_at 9 = .ok (.if_icmp .ge 12, 3) := by decide +kernel
theorem dX9_at_12 : decode cX9_at 12 = .ok (.aload_n 0, 1) := by decide +kernel
theorem dX9_at_13 : decode cX9_at 13 = .ok (.getfield 9, 3) := by decide +kernel
theorem dX9_at_16 : decode cX9_at 16 = .ok (.iload_n 1, 1) := by decide +kernel
theorem dX9_at_17 : decode cX9_at 17 = .ok (.caload, 1) := by decide +kernel
theorem dX9_at_18 : decode cX9_at 18 = .ok (.goto 4, 3) := by decide +kernel
theorem dX9_at_21 : decode cX9_at 21 = .ok (.iconst 0, 1) := by decide +kernel
theorem dX9_at_22 : decode cX9_at 22 = .ok (.ireturn, 1) := by decide +kernel
theorem dX10_init_0 : decode cX10_init 0 = .ok (.aload_n 0, 1) := by decide +kernel
theorem dX10_init_1 : decode cX10_init 1 = .ok (.invokespecial 1, 3) := by decide +kernel
theorem dX10_init_4 : decode cX10_init 4 = .ok (.aload_n 0, 1) := by decide +kernel
theorem dX10_init_5 : decode cX10_init 5 = .ok (.new 7, 3) := by decide +kernel
theorem dX10_init_8 : decode cX10_init 8 = .ok (.dup, 1) := by decide +kernel
theorem dX10_init_9 : decode cX10_init 9 = .ok (.invokespecial 9, 3) := by decide +kernel
theorem dX10_init_12 : decode cX10_init 12 = .ok (.putfield 10, 3) := by decide +kernel
theorem dX10_init_15 : decode cX10_init 15 = .ok (.aload_n 0, 1) := by decide +kernel
theorem dX10_init_16 : decode cX10_init 16 = .ok (.new 7, 3) := by decide +kernel
theorem dX10_init_19 : decode cX10_init 19 = .ok (.dup, 1) := by decide +kernel
theorem dX10_init_20 : decode cX10_init 20 = .ok (.invokespecial 9, 3) := by decide +kernel
theorem dX10_init_23 : decode cX10_init 23 = .ok (.putfield 16, 3) := by decide +kernel
theorem dX10_init_26 : decode cX10_init 26 = .ok (.aload_n 0, 1) := by decide +kernel
theorem dX10_init_27 : decode cX10_init 27 = .ok (.new 19, 3) := by decide +kernel
theorem dX10_init_30 : decode cX10_init 30 = .ok (.dup, 1) := by decide +kernel
theorem dX10_init_31 : decode cX10_init 31 = .ok (.invokespecial 21, 3) := by decide +kernel
theorem dX10_init_34 : decode cX10_init 34 = .ok (.putfield 22, 3) := by decide +kernel
theorem dX10_init_37 : decode cX10_init 37 = .ok (.aload_n 0, 1) := by decide +kernel
theorem dX10_init_38 : decode cX10_init 38 = .ok (.new 26, 3) := by decide +kernel
theorem dX10_init_41 : decode cX10_init 41 = .ok (.dup, 1) := by decide +kernel
theorem dX10_init_42 : decode cX10_init 42 = .ok (.invokespecial 28, 3) := by decide +kernel
theorem dX10_init_45 : decode cX10_init 45 = .ok (.putfield 29, 3) := by decide +kernel
theorem dX10_init_48 : decode cX10_init 48 = .ok (.aload_n 0, 1) := by decide +kernel
theorem dX10_init_49 : decode cX10_init 49 = .ok (.new 33, 3) := by decide +kernel
theorem dX10_init_52 : decode cX10_init 52 = .ok (.dup, 1) := by decide +kernel
theorem dX10_init_53 : decode cX10_init 53 = .ok (.invokespecial 35, 3) := by decide +kernel
theorem dX10_init_56 : decode cX10_init 56 = .ok (.putfield 36, 3) := by decide +kernel
theorem dX10_init_59 : decode cX10_init 59 = .ok (.return_, 1) := by decide +kernel
theorem dX10_lot_0 : decode cX10_lot 0 = .ok (.aload_n 0, 1) := by decide +kernel
theorem dX10_lot_1 : decode cX10_lot 1 = .ok (.getfield 16, 3) := by decide +kernel
theorem dX10_lot_4 : decode cX10_lot 4 = .ok (.aload_n 0, 1) := by decide +kernel
theorem dX10_lot_5 : decode cX10_lot 5 = .ok (.getfield 10, 3) := by decide +kernel
theorem dX10_lot_8 : decode cX10_lot 8 = .ok (.invokevirtual 40, 3) := by decide +kernel
theorem dX10_lot_11 : decode cX10_lot 11 = .ok (.aload_n 0, 1) := by decide +kernel
theorem dX10_lot_12 : decode cX10_lot 12 = .ok (.aload_n 0, 1) := by decide +kernel
theorem dX10_lot_13 : decode cX10_lot 13 = .ok (.getfield 10, 3) := by decide +kernel
theorem dX10_lot_16 : decode cX10_lot 16 = .ok (.iload_n 1, 1) := by decide +kernel
theorem dX10_lot_17 : decode cX10_lot 17 = .ok (.iload_n 2, 1) := by decide +kernel
theorem dX10_lot_18 : decode cX10_lot 18 = .ok (.invokevirtual 44, 3) := by decide +kernel
theorem dX10_lot_21 : decode cX10_lot 21 = .ok (.invokevirtual 48, 3) := by decide +kernel
theorem dX10_lot_24 : decode cX10_lot 24 = .ok (.ireturn, 1) := by decide +kernel
theorem dX10_gate_0 : decode cX10_gate 0 = .ok (.aload_n 0, 1) := by decide +kernel
theorem dX10_gate_1 : decode cX10_gate 1 = .ok (.getfield 16, 3) := by decide +kernel
theorem dX10_gate_4 : decode cX10_gate 4 = .ok (.aload_n 0, 1) := by decide +kernel
theorem dX10_gate_5 : decode cX10_gate 5 = .ok (.getfield 10, 3) := by decide +kernel
theorem dX10_gate_8 : decode cX10_gate 8 = .ok (.invokevirtual 40, 3) := by decide +kernel
theorem dX10_gate_11 : decode cX10_gate 11 = .ok (.aload_n 0, 1) := by decide +kernel
theorem dX10_gate_12 : decode cX10_gate 12 = .ok (.aload_n 0, 1) := by decide +kernel
theorem dX10_gate_13 : decode cX10_gate 13 = .ok (.getfield 10, 3) := by decide +kernel
theorem dX10_gate_16 : decode cX10_gate 16 = .ok (.iload_n 1, 1) := by decide +kernel
theorem dX10_gate_17 : decode cX10_gate 17 = .ok (.invokevirtual 52, 3) := by decide +kernel
theorem dX10_gate_20 : decode cX10_gate 20 = .ok (.invokevirtual 48, 3) := by decide +kernel
theorem dX10_gate_23 : decode cX10_gate 23 = .ok (.ireturn, 1) := by decide +kernel
theorem dX10_run_0 : decode cX10_run 0 = .ok (.aload_n 0, 1) := by decide +kernel
theorem dX10_run_1 : decode cX10_run 1 = .ok (.getfield 16, 3) := by decide +kernel
theorem dX10_run_4 : decode cX10_run 4 = .ok (.aload_n 0, 1) := by decide +kernel
theorem dX10_run_5 : decode cX10_run 5 = .ok (.getfield 10, 3) := by decide +kernel
theorem dX10_run_8 : decode cX10_run 8 = .ok (.invokevirtual 40, 3) := by decide +kernel
theorem dX10_run_11 : decode cX10_run 11 = .ok (.aload_n 0, 1) := by decide +kernel
theorem dX10_run_12 : decode cX10_run 12 = .ok (.aload_n 0, 1) := by decide +kernel
theorem dX10_run_13 : decode cX10_run 13 = .ok (.getfield 10, 3) := by decide +kernel
theorem dX10_run_16 : decode cX10_run 16 = .ok (.iload_n 1, 1) := by decide +kernel
theorem dX10_run_17 : decode cX10_run 17 = .ok (.invokevirtual 55, 3) := by decide +kernel
theorem dX10_run_20 : decode cX10_run 20 = .ok (.invokevirtual 48, 3) := by decide +kernel
theorem dX10_run_23 : decode cX10_run 23 = .ok (.ireturn, 1) := by decide +kernel
theorem dX10_bin_0 : decode cX10_bin 0 = .ok (.aload_n 0, 1) := by decide +kernel
theorem dX10_bin_1 : decode cX10_bin 1 = .ok (.getfield 16, 3) := by decide +kernel
theorem dX10_bin_4 : decode cX10_bin 4 = .ok (.aload_n 0, 1) := by decide +kernel
theorem dX10_bin_5 : decode cX10_bin 5 = .ok (.getfield 10, 3) := by decide +kernel
theorem dX10_bin_8 : decode cX10_bin 8 = .ok (.invokevirtual 40, 3) := by decide +kernel
theorem dX10_bin_11 : decode cX10_bin 11 = .ok (.aload_n 0, 1) := by decide +kernel
theorem dX10_bin_12 : decode cX10_bin 12 = .ok (.aload_n 0, 1) := by decide +kernel
theorem dX10_bin_13 : decode cX10_bin 13 = .ok (.getfield 10, 3) := by decide +kernel
theorem dX10_bin_16 : decode cX10_bin 16 = .ok (.invokevirtual 58, 3) := by decide +kernel
theorem dX10_bin_19 : decode cX10_bin 19 = .ok (.invokevirtual 48, 3) := by decide +kernel
theorem dX10_bin_22 : decode cX10_bin 22 = .ok (.ireturn, 1) := by decide +kernel
theorem dX10_batch_0 : decode cX10_batch 0 = .ok (.aload_n 0, 1) := by decide +kernel
theorem dX10_batch_1 : decode cX10_batch 1 = .ok (.getfield 16, 3) := by decide +kernel
theorem dX10_batch_4 : decode cX10_batch 4 = .ok (.aload_n 0, 1) := by decide +kernel
theorem dX10_batch_5 : decode cX10_batch 5 = .ok (.getfield 10, 3) := by decide +kernel
theorem dX10_batch_8 : decode cX10_batch 8 = .ok (.invokevirtual 40, 3) := by decide +kernel
theorem dX10_batch_11 : decode cX10_batch 11 = .ok (.aload_n 0, 1) := by decide +kernel
theorem dX10_batch_12 : decode cX10_batch 12 = .ok (.aload_n 0, 1) := by decide +kernel
theorem dX10_batch_13 : decode cX10_batch 13 = .ok (.getfield 10, 3) := by decide +kernel
theorem dX10_batch_16 : decode cX10_batch 16 = .ok (.iload_n 1, 1) := by decide +kernel
theorem dX10_batch_17 : decode cX10_batch 17 = .ok (.invokevirtual 62, 3) := by decide +kernel
theorem dX10_batch_20 : decode cX10_batch 20 = .ok (.invokevirtual 48, 3) := by decide +kernel
theorem dX10_batch_23 : decode cX10_batch 23 = .ok (.ireturn, 1) := by decide +kernel
theorem dX10_tick_0 : decode cX10_tick 0 = .ok (.aload_n 0, 1) := by decide +kernel
theorem dX10_tick_1 : decode cX10_tick 1 = .ok (.getfield 16, 3) := by decide +kernel
theorem dX10_tick_4 : decode cX10_tick 4 = .ok (.aload_n 0, 1) := by decide +kernel
theorem dX10_tick_5 : decode cX10_tick 5 = .ok (.getfield 10, 3) := by decide +kernel
theorem dX10_tick_8 : decode cX10_tick 8 = .ok (.invokevirtual 40, 3) := by decide +kernel
theorem dX10_tick_11 : decode cX10_tick 11 = .ok (.aload_n 0, 1) := by decide +kernel
theorem dX10_tick_12 : decode cX10_tick 12 = .ok (.aload_n 0, 1) := by decide +kernel
theorem dX10_tick_13 : decode cX10_tick 13 = .ok (.getfield 10, 3) := by decide +kernel
theorem dX10_tick_16 : decode cX10_tick 16 = .ok (.iload_n 1, 1) := by decide +kernel
theorem dX10_tick_17 : decode cX10_tick 17 = .ok (.invokevirtual 65, 3) := by decide +kernel
theorem dX10_tick_20 : decode cX10_tick 20 = .ok (.invokevirtual 48, 3) := by decide +kernel
theorem dX10_tick_23 : decode cX10_tick 23 = .ok (.ireturn, 1) := by decide +kernel
theorem dX10_zero_0 : decode cX10_zero 0 = .ok (.aload_n 0, 1) := by decide +kernel
theorem dX10_zero_1 : decode cX10_zero 1 = .ok (.getfield 16, 3) := by decide +kernel
theorem dX10_zero_4 : decode cX10_zero 4 = .ok (.aload_n 0, 1) := by decide +kernel
theorem dX10_zero_5 : decode cX10_zero 5 = .ok (.getfield 10, 3) := by decide +kernel
theorem dX10_zero_8 : decode cX10_zero 8 = .ok (.invokevirtual 40, 3) := by decide +kernel
theorem dX10_zero_11 : decode cX10_zero 11 = .ok (.aload_n 0, 1) := by decide +kernel
theorem dX10_zero_12 : decode cX10_zero 12 = .ok (.aload_n 0, 1) := by decide +kernel
theorem dX10_zero_13 : decode cX10_zero 13 = .ok (.getfield 10, 3) := by decide +kernel
theorem dX10_zero_16 : decode cX10_zero 16 = .ok (.invokevirtual 68, 3) := by decide +kernel
theorem dX10_zero_19 : decode cX10_zero 19 = .ok (.invokevirtual 48, 3) := by decide +kernel
theorem dX10_zero_22 : decode cX10_zero 22 = .ok (.ireturn, 1) := by decide +kernel
theorem dX10_correct_0 : decode cX10_correct 0 = .ok (.aload_n 0, 1) := by decide +kernel
theorem dX10_correct_1 : decode cX10_correct 1 = .ok (.getfield 16, 3) := by decide +kernel
theorem dX10_correct_4 : decode cX10_correct 4 = .ok (.aload_n 0, 1) := by decide +kernel
theorem dX10_correct_5 : decode cX10_correct 5 = .ok (.getfield 10, 3) := by decide +kernel
theorem dX10_correct_8 : decode cX10_correct 8 = .ok (.invokevirtual 40, 3) := by decide +kernel
theorem dX10_correct_11 : decode cX10_correct 11 = .ok (.aload_n 0, 1) := by decide +kernel
theorem dX10_correct_12 : decode cX10_correct 12 = .ok (.aload_n 0, 1) := by decide +kernel
theorem dX10_correct_13 : decode cX10_correct 13 = .ok (.getfield 10, 3) := by decide +kernel
theorem dX10_correct_16 : decode cX10_correct 16 = .ok (.iload_n 1, 1) := by decide +kernel
theorem dX10_correct_17 : decode cX10_correct 17 = .ok (.invokevirtual 71, 3) := by decide +kernel
theorem dX10_correct_20 : decode cX10_correct 20 = .ok (.invokevirtual 48, 3) := by decide +kernel
theorem dX10_correct_23 : decode cX10_correct 23 = .ok (.ireturn, 1) := by decide +kernel
theorem dX10_set_0 : decode cX10_set 0 = .ok (.aload_n 0, 1) := by decide +kernel
theorem dX10_set_1 : decode cX10_set 1 = .ok (.getfield 16, 3) := by decide +kernel
theorem dX10_set_4 : decode cX10_set 4 = .ok (.aload_n 0, 1) := by decide +kernel
theorem dX10_set_5 : decode cX10_set 5 = .ok (.getfield 10, 3) := by decide +kernel
theorem dX10_set_8 : decode cX10_set 8 = .ok (.invokevirtual 40, 3) := by decide +kernel
theorem dX10_set_11 : decode cX10_set 11 = .ok (.aload_n 0, 1) := by decide +kernel
theorem dX10_set_12 : decode cX10_set 12 = .ok (.aload_n 0, 1) := by decide +kernel
theorem dX10_set_13 : decode cX10_set 13 = .ok (.getfield 10, 3) := by decide +kernel
theorem dX10_set_16 : decode cX10_set 16 = .ok (.iload_n 1, 1) := by decide +kernel
theorem dX10_set_17 : decode cX10_set 17 = .ok (.iload_n 2, 1) := by decide +kernel
theorem dX10_set_18 : decode cX10_set 18 = .ok (.invokevirtual 74, 3) := by decide +kernel
theorem dX10_set_21 : decode cX10_set 21 = .ok (.invokevirtual 48, 3) := by decide +kernel
theorem dX10_set_24 : decode cX10_set 24 = .ok (.ireturn, 1) := by decide +kernel
theorem dX10_account_0 : decode cX10_account 0 = .ok (.aload_n 0, 1) := by decide +kernel
theorem dX10_account_1 : decode cX10_account 1 = .ok (.getfield 16, 3) := by decide +kernel
theorem dX10_account_4 : decode cX10_account 4 = .ok (.aload_n 0, 1) := by decide +kernel
theorem dX10_account_5 : decode cX10_account 5 = .ok (.getfield 10, 3) := by decide +kernel
theorem dX10_account_8 : decode cX10_account 8 = .ok (.invokevirtual 40, 3) := by decide +kernel
theorem dX10_account_11 : decode cX10_account 11 = .ok (.aload_n 0, 1) := by decide +kernel
theorem dX10_account_12 : decode cX10_account 12 = .ok (.aload_n 0, 1) := by decide +kernel
theorem dX10_account_13 : decode cX10_account 13 = .ok (.getfield 10, 3) := by decide +kernel
theorem dX10_account_16 : decode cX10_account 16 = .ok (.getfield 77, 3) := by decide +kernel
theorem dX10_account_19 : decode cX10_account 19 = .ok (.iload_n 1, 1) := by decide +kernel
theorem dX10_account_20 : decode cX10_account 20 = .ok (.invokevirtual 81, 3) := by decide +kernel
theorem dX10_account_23 : decode cX10_account 23 = .ok (.invokevirtual 48, 3) := by decide +kernel
theorem dX10_account_26 : decode cX10_account 26 = .ok (.ireturn, 1) := by decide +kernel
theorem dX10_book_0 : decode cX10_book 0 = .ok (.aload_n 0, 1) := by decide +kernel
theorem dX10_book_1 : decode cX10_book 1 = .ok (.getfield 16, 3) := by decide +kernel
theorem dX10_book_4 : decode cX10_book 4 = .ok (.aload_n 0, 1) := by decide +kernel
theorem dX10_book_5 : decode cX10_book 5 = .ok (.getfield 10, 3) := by decide +kernel
theorem dX10_book_8 : decode cX10_book 8 = .ok (.invokevirtual 40, 3) := by decide +kernel
theorem dX10_book_11 : decode cX10_book 11 = .ok (.aload_n 0, 1) := by decide +kernel
theorem dX10_book_12 : decode cX10_book 12 = .ok (.aload_n 0, 1) := by decide +kernel
theorem dX10_book_13 : decode cX10_book 13 = .ok (.getfield 10, 3) := by decide +kernel
theorem dX10_book_16 : decode cX10_book 16 = .ok (.getfield 77, 3) := by decide +kernel
theorem dX10_book_19 : decode cX10_book 19 = .ok (.iload_n 1, 1) := by decide +kernel
theorem dX10_book_20 : decode cX10_book 20 = .ok (.iload_n 2, 1) := by decide +kernel
theorem dX10_book_21 : decode cX10_book 21 = .ok (.invokevirtual 86, 3) := by decide +kernel
theorem dX10_book_24 : decode cX10_book 24 = .ok (.invokevirtual 48, 3) := by decide +kernel
theorem dX10_book_27 : decode cX10_book 27 = .ok (.ireturn, 1) := by decide +kernel
theorem dX10_accountOf_0 : decode cX10_accountOf 0 = .ok (.aload_n 0, 1) := by decide +kernel
theorem dX10_accountOf_1 : decode cX10_accountOf 1 = .ok (.getfield 10, 3) := by decide +kernel
theorem dX10_accountOf_4 : decode cX10_accountOf 4 = .ok (.getfield 77, 3) := by decide +kernel
theorem dX10_accountOf_7 : decode cX10_accountOf 7 = .ok (.astore_n 3, 1) := by decide +kernel
theorem dX10_accountOf_8 : decode cX10_accountOf 8 = .ok (.aload_n 3, 1) := by decide +kernel
theorem dX10_accountOf_9 : decode cX10_accountOf 9 = .ok (.iload_n 1, 1) := by decide +kernel
theorem dX10_accountOf_10 : decode cX10_accountOf 10 = .ok (.invokevirtual 89, 3) := by decide +kernel
theorem dX10_accountOf_13 : decode cX10_accountOf 13 = .ok (.ifCond .ne 6, 3) := by decide +kernel
theorem dX10_accountOf_16 : decode cX10_accountOf 16 = .ok (.ldc 93, 2) := by decide +kernel
theorem dX10_accountOf_18 : decode cX10_accountOf 18 = .ok (.ireturn, 1) := by decide +kernel
theorem dX10_accountOf_19 : decode cX10_accountOf 19 = .ok (.iload_n 2, 1) := by decide +kernel
theorem dX10_accountOf_20 : decode cX10_accountOf 20 = .ok (.tableswitch 77 0 4 #[36, 52, 59, 65, 71], 36) := by decide +kernel
theorem dX10_accountOf_56 : decode cX10_accountOf 56 = .ok (.iload_n 1, 1) := by decide +kernel
theorem dX10_accountOf_57 : decode cX10_accountOf 57 = .ok (.ifCond .ne 8, 3) := by decide +kernel
theorem dX10_accountOf_60 : decode cX10_accountOf 60 = .ok (.ldc 94, 2) := by decide +kernel
theorem dX10_accountOf_62 : decode cX10_accountOf 62 = .ok (.goto 9, 3) := by decide +kernel
theorem dX10_accountOf_65 : decode cX10_accountOf 65 = .ok (.aload_n 3, 1) := by decide +kernel
theorem dX10_accountOf_66 : decode cX10_accountOf 66 = .ok (.getfield 95, 3) := by decide +kernel
theorem dX10_accountOf_69 : decode cX10_accountOf 69 = .ok (.iload_n 1, 1) := by decide +kernel
theorem dX10_accountOf_70 : decode cX10_accountOf 70 = .ok (.iaload, 1) := by decide +kernel
theorem dX10_accountOf_71 : decode cX10_accountOf 71 = .ok (.ireturn, 1) := by decide +kernel
theorem dX10_accountOf_72 : decode cX10_accountOf 72 = .ok (.aload_n 3, 1) := by decide +kernel
theorem dX10_accountOf_73 : decode cX10_accountOf 73 = .ok (.getfield 99, 3) := by decide +kernel
theorem dX10_accountOf_76 : decode cX10_accountOf 76 = .ok (.iload_n 1, 1) := by decide +kernel
theorem dX10_accountOf_77 : decode cX10_accountOf 77 = .ok (.iaload, 1) := by decide +kernel
theorem dX10_accountOf_78 : decode cX10_accountOf 78 = .ok (.ireturn, 1) := by decide +kernel
theorem dX10_accountOf_79 : decode cX10_accountOf 79 = .ok (.aload_n 3, 1) := by decide +kernel
theorem dX10_accountOf_80 : decode cX10_accountOf 80 = .ok (.iload_n 1, 1) := by decide +kernel
theorem dX10_accountOf_81 : decode cX10_accountOf 81 = .ok (.invokevirtual 102, 3) := by decide +kernel
theorem dX10_accountOf_84 : decode cX10_accountOf 84 = .ok (.ireturn, 1) := by decide +kernel
theorem dX10_accountOf_85 : decode cX10_accountOf 85 = .ok (.aload_n 3, 1) := by decide +kernel
theorem dX10_accountOf_86 : decode cX10_accountOf 86 = .ok (.iload_n 1, 1) := by decide +kernel
theorem dX10_accountOf_87 : decode cX10_accountOf 87 = .ok (.invokevirtual 105, 3) := by decide +kernel
theorem dX10_accountOf_90 : decode cX10_accountOf 90 = .ok (.ireturn, 1) := by decide +kernel
theorem dX10_accountOf_91 : decode cX10_accountOf 91 = .ok (.aload_n 3, 1) := by decide +kernel
theorem dX10_accountOf_92 : decode cX10_accountOf 92 = .ok (.iload_n 1, 1) := by decide +kernel
theorem dX10_accountOf_93 : decode cX10_accountOf 93 = .ok (.invokevirtual 108, 3) := by decide +kernel
theorem dX10_accountOf_96 : decode cX10_accountOf 96 = .ok (.ireturn, 1) := by decide +kernel
theorem dX10_accountOf_97 : decode cX10_accountOf 97 = .ok (.ldc 93, 2) := by decide +kernel
theorem dX10_accountOf_99 : decode cX10_accountOf 99 = .ok (.ireturn, 1) := by decide +kernel
theorem dX10_massAt_0 : decode cX10_massAt 0 = .ok (.iload_n 1, 1) := by decide +kernel
theorem dX10_massAt_1 : decode cX10_massAt 1 = .ok (.ifCond .lt 19, 3) := by decide +kernel
theorem dX10_massAt_4 : decode cX10_massAt 4 = .ok (.iload_n 1, 1) := by decide +kernel
theorem dX10_massAt_5 : decode cX10_massAt 5 = .ok (.bipush 12, 2) := by decide +kernel
theorem dX10_massAt_7 : decode cX10_massAt 7 = .ok (.if_icmp .ge 13, 3) := by decide +kernel
theorem dX10_massAt_10 : decode cX10_massAt 10 = .ok (.iload_n 2, 1) := by decide +kernel
theorem dX10_massAt_11 : decode cX10_massAt 11 = .ok (.iconst (-1), 1) := by decide +kernel
theorem dX10_massAt_12 : decode cX10_massAt 12 = .ok (.if_icmp .lt 8, 3) := by decide +kernel
theorem dX10_massAt_15 : decode cX10_massAt 15 = .ok (.iload_n 2, 1) := by decide +kernel
theorem dX10_massAt_16 : decode cX10_massAt 16 = .ok (.iconst 4, 1) := by decide +kernel
theorem dX10_massAt_17 : decode cX10_massAt 17 = .ok (.if_icmp .lt 6, 3) := by decide +kernel
theorem dX10_massAt_20 : decode cX10_massAt 20 = .ok (.ldc 93, 2) := by decide +kernel
theorem dX10_massAt_22 : decode cX10_massAt 22 = .ok (.ireturn, 1) := by decide +kernel
theorem dX10_massAt_23 : decode cX10_massAt 23 = .ok (.iload_n 2, 1) := by decide +kernel
theorem dX10_massAt_24 : decode cX10_massAt 24 = .ok (.ifCond .ge 17, 3) := by decide +kernel
theorem dX10_massAt_27 : decode cX10_massAt 27 = .ok (.aload_n 0, 1) := by decide +kernel
theorem dX10_massAt_28 : decode cX10_massAt 28 = .ok (.getfield 10, 3) := by decide +kernel
theorem dX10_massAt_31 : decode cX10_massAt 31 = .ok (.getfield 111, 3) := by decide +kernel
theorem dX10_massAt_34 : decode cX10_massAt 34 = .ok (.iload_n 1, 1) := by decide +kernel
theorem dX10_massAt_35 : decode cX10_massAt 35 = .ok (.invokevirtual 115, 3) := by decide +kernel
theorem dX10_massAt_38 : decode cX10_massAt 38 = .ok (.goto 15, 3) := by decide +kernel
theorem dX10_massAt_41 : decode cX10_massAt 41 = .ok (.aload_n 0, 1) := by decide +kernel
theorem dX10_massAt_42 : decode cX10_massAt 42 = .ok (.getfield 10, 3) := by decide +kernel
theorem dX10_massAt_45 : decode cX10_massAt 45 = .ok (.getfield 111, 3) := by decide +kernel
theorem dX10_massAt_48 : decode cX10_massAt 48 = .ok (.iload_n 1, 1) := by decide +kernel
theorem dX10_massAt_49 : decode cX10_massAt 49 = .ok (.iload_n 2, 1) := by decide +kernel
theorem dX10_massAt_50 : decode cX10_massAt 50 = .ok (.invokevirtual 120, 3) := by decide +kernel
theorem dX10_massAt_53 : decode cX10_massAt 53 = .ok (.ireturn, 1) := by decide +kernel
theorem dX10_lotOf_0 : decode cX10_lotOf 0 = .ok (.iload_n 1, 1) := by decide +kernel
theorem dX10_lotOf_1 : decode cX10_lotOf 1 = .ok (.ifCond .lt 12, 3) := by decide +kernel
theorem dX10_lotOf_4 : decode cX10_lotOf 4 = .ok (.iload_n 2, 1) := by decide +kernel
theorem dX10_lotOf_5 : decode cX10_lotOf 5 = .ok (.ifCond .lt 8, 3) := by decide +kernel
theorem dX10_lotOf_8 : decode cX10_lotOf 8 = .ok (.iload_n 2, 1) := by decide +kernel
theorem dX10_lotOf_9 : decode cX10_lotOf 9 = .ok (.iconst 1, 1) := by decide +kernel
theorem dX10_lotOf_10 : decode cX10_lotOf 10 = .ok (.if_icmp .le 6, 3) := by decide +kernel
theorem dX10_lotOf_13 : decode cX10_lotOf 13 = .ok (.ldc 93, 2) := by decide +kernel
theorem dX10_lotOf_15 : decode cX10_lotOf 15 = .ok (.ireturn, 1) := by decide +kernel
theorem dX10_lotOf_16 : decode cX10_lotOf 16 = .ok (.iload_n 1, 1) := by decide +kernel
theorem dX10_lotOf_17 : decode cX10_lotOf 17 = .ok (.aload_n 0, 1) := by decide +kernel
theorem dX10_lotOf_18 : decode cX10_lotOf 18 = .ok (.getfield 10, 3) := by decide +kernel
theorem dX10_lotOf_21 : decode cX10_lotOf 21 = .ok (.getfield 123, 3) := by decide +kernel
theorem dX10_lotOf_24 : decode cX10_lotOf 24 = .ok (.getfield 127, 3) := by decide +kernel
theorem dX10_lotOf_27 : decode cX10_lotOf 27 = .ok (.if_icmp .lt 6, 3) := by decide +kernel
theorem dX10_lotOf_30 : decode cX10_lotOf 30 = .ok (.ldc 94, 2) := by decide +kernel
theorem dX10_lotOf_32 : decode cX10_lotOf 32 = .ok (.ireturn, 1) := by decide +kernel
theorem dX10_lotOf_33 : decode cX10_lotOf 33 = .ok (.iload_n 2, 1) := by decide +kernel
theorem dX10_lotOf_34 : decode cX10_lotOf 34 = .ok (.ifCond .ne 18, 3) := by decide +kernel
theorem dX10_lotOf_37 : decode cX10_lotOf 37 = .ok (.aload_n 0, 1) := by decide +kernel
theorem dX10_lotOf_38 : decode cX10_lotOf 38 = .ok (.getfield 10, 3) := by decide +kernel
theorem dX10_lotOf_41 : decode cX10_lotOf 41 = .ok (.getfield 123, 3) := by decide +kernel
theorem dX10_lotOf_44 : decode cX10_lotOf 44 = .ok (.getfield 133, 3) := by decide +kernel
theorem dX10_lotOf_47 : decode cX10_lotOf 47 = .ok (.iload_n 1, 1) := by decide +kernel
theorem dX10_lotOf_48 : decode cX10_lotOf 48 = .ok (.iaload, 1) := by decide +kernel
theorem dX10_lotOf_49 : decode cX10_lotOf 49 = .ok (.goto 15, 3) := by decide +kernel
theorem dX10_lotOf_52 : decode cX10_lotOf 52 = .ok (.aload_n 0, 1) := by decide +kernel
theorem dX10_lotOf_53 : decode cX10_lotOf 53 = .ok (.getfield 10, 3) := by decide +kernel
theorem dX10_lotOf_56 : decode cX10_lotOf 56 = .ok (.getfield 123, 3) := by decide +kernel
theorem dX10_lotOf_59 : decode cX10_lotOf 59 = .ok (.getfield 136, 3) := by decide +kernel
theorem dX10_lotOf_62 : decode cX10_lotOf 62 = .ok (.iload_n 1, 1) := by decide +kernel
theorem dX10_lotOf_63 : decode cX10_lotOf 63 = .ok (.iaload, 1) := by decide +kernel
theorem dX10_lotOf_64 : decode cX10_lotOf 64 = .ok (.ireturn, 1) := by decide +kernel
theorem dX10_binOf_0 : decode cX10_binOf 0 = .ok (.aload_n 0, 1) := by decide +kernel
theorem dX10_binOf_1 : decode cX10_binOf 1 = .ok (.getfield 10, 3) := by decide +kernel
theorem dX10_binOf_4 : decode cX10_binOf 4 = .ok (.getfield 139, 3) := by decide +kernel
theorem dX10_binOf_7 : decode cX10_binOf 7 = .ok (.astore_n 3, 1) := by decide +kernel
theorem dX10_binOf_8 : decode cX10_binOf 8 = .ok (.aload_n 3, 1) := by decide +kernel
theorem dX10_binOf_9 : decode cX10_binOf 9 = .ok (.iload_n 1, 1) := by decide +kernel
theorem dX10_binOf_10 : decode cX10_binOf 10 = .ok (.invokevirtual 143, 3) := by decide +kernel
theorem dX10_binOf_13 : decode cX10_binOf 13 = .ok (.ifCond .ne 6, 3) := by decide +kernel
theorem dX10_binOf_16 : decode cX10_binOf 16 = .ok (.ldc 93, 2) := by decide +kernel
theorem dX10_binOf_18 : decode cX10_binOf 18 = .ok (.ireturn, 1) := by decide +kernel
theorem dX10_binOf_19 : decode cX10_binOf 19 = .ok (.iload_n 2, 1) := by decide +kernel
theorem dX10_binOf_20 : decode cX10_binOf 20 = .ok (.invokestatic 146, 3) := by decide +kernel
theorem dX10_binOf_23 : decode cX10_binOf 23 = .ok (.ifCond .eq 14, 3) := by decide +kernel
theorem dX10_binOf_26 : decode cX10_binOf 26 = .ok (.aload_n 3, 1) := by decide +kernel
theorem dX10_binOf_27 : decode cX10_binOf 27 = .ok (.getfield 149, 3) := by decide +kernel
theorem dX10_binOf_30 : decode cX10_binOf 30 = .ok (.iload_n 1, 1) := by decide +kernel
theorem dX10_binOf_31 : decode cX10_binOf 31 = .ok (.iconst 4, 1) := by decide +kernel
theorem dX10_binOf_32 : decode cX10_binOf 32 = .ok (.imul, 1) := by decide +kernel
theorem dX10_binOf_33 : decode cX10_binOf 33 = .ok (.iload_n 2, 1) := by decide +kernel
theorem dX10_binOf_34 : decode cX10_binOf 34 = .ok (.iadd, 1) := by decide +kernel
theorem dX10_binOf_35 : decode cX10_binOf 35 = .ok (.iaload, 1) := by decide +kernel
theorem dX10_binOf_36 : decode cX10_binOf 36 = .ok (.ireturn, 1) := by decide +kernel
theorem dX10_binOf_37 : decode cX10_binOf 37 = .ok (.iload_n 2, 1) := by decide +kernel
theorem dX10_binOf_38 : decode cX10_binOf 38 = .ok (.tableswitch 49 4 6 #[26, 32, 42], 26) := by decide +kernel
theorem dX10_binOf_64 : decode cX10_binOf 64 = .ok (.aload_n 3, 1) := by decide +kernel
theorem dX10_binOf_65 : decode cX10_binOf 65 = .ok (.iload_n 1, 1) := by decide +kernel
theorem dX10_binOf_66 : decode cX10_binOf 66 = .ok (.invokevirtual 150, 3) := by decide +kernel
theorem dX10_binOf_69 : decode cX10_binOf 69 = .ok (.ireturn, 1) := by decide +kernel
theorem dX10_binOf_70 : decode cX10_binOf 70 = .ok (.aload_n 3, 1) := by decide +kernel
theorem dX10_binOf_71 : decode cX10_binOf 71 = .ok (.getfield 153, 3) := by decide +kernel
theorem dX10_binOf_74 : decode cX10_binOf 74 = .ok (.iload_n 1, 1) := by decide +kernel
theorem dX10_binOf_75 : decode cX10_binOf 75 = .ok (.iaload, 1) := by decide +kernel
theorem dX10_binOf_76 : decode cX10_binOf 76 = .ok (.ldc 156, 2) := by decide +kernel
theorem dX10_binOf_78 : decode cX10_binOf 78 = .ok (.iadd, 1) := by decide +kernel
theorem dX10_binOf_79 : decode cX10_binOf 79 = .ok (.ireturn, 1) := by decide +kernel
theorem dX10_binOf_80 : decode cX10_binOf 80 = .ok (.aload_n 3, 1) := by decide +kernel
theorem dX10_binOf_81 : decode cX10_binOf 81 = .ok (.getfield 157, 3) := by decide +kernel
theorem dX10_binOf_84 : decode cX10_binOf 84 = .ok (.iload_n 1, 1) := by decide +kernel
theorem dX10_binOf_85 : decode cX10_binOf 85 = .ok (.iaload, 1) := by decide +kernel
theorem dX10_binOf_86 : decode cX10_binOf 86 = .ok (.ireturn, 1) := by decide +kernel
theorem dX10_binOf_87 : decode cX10_binOf 87 = .ok (.ldc 93, 2) := by decide +kernel
theorem dX10_binOf_89 : decode cX10_binOf 89 = .ok (.ireturn, 1) := by decide +kernel
theorem dX10_scale_0 : decode cX10_scale 0 = .ok (.aload_n 0, 1) := by decide +kernel
theorem dX10_scale_1 : decode cX10_scale 1 = .ok (.getfield 10, 3) := by decide +kernel
theorem dX10_scale_4 : decode cX10_scale 4 = .ok (.getfield 160, 3) := by decide +kernel
theorem dX10_scale_7 : decode cX10_scale 7 = .ok (.astore_n 2, 1) := by decide +kernel
theorem dX10_scale_8 : decode cX10_scale 8 = .ok (.iload_n 1, 1) := by decide +kernel
theorem dX10_scale_9 : decode cX10_scale 9 = .ok (.tableswitch 106 0 6 #[43, 61, 69, 77, 85, 93, 98], 43) := by decide +kernel
theorem dX10_scale_52 : decode cX10_scale 52 = .ok (.aload_n 2, 1) := by decide +kernel
theorem dX10_scale_53 : decode cX10_scale 53 = .ok (.aload_n 0, 1) := by decide +kernel
theorem dX10_scale_54 : decode cX10_scale 54 = .ok (.getfield 10, 3) := by decide +kernel
theorem dX10_scale_57 : decode cX10_scale 57 = .ok (.getfield 111, 3) := by decide +kernel
theorem dX10_scale_60 : decode cX10_scale 60 = .ok (.invokevirtual 164, 3) := by decide +kernel
theorem dX10_scale_63 : decode cX10_scale 63 = .ok (.invokevirtual 167, 3) := by decide +kernel
theorem dX10_scale_66 : decode cX10_scale 66 = .ok (.ldc 172, 2) := by decide +kernel
theorem dX10_scale_68 : decode cX10_scale 68 = .ok (.iadd, 1) := by decide +kernel
theorem dX10_scale_69 : decode cX10_scale 69 = .ok (.ireturn, 1) := by decide +kernel
theorem dX10_scale_70 : decode cX10_scale 70 = .ok (.aload_n 2, 1) := by decide +kernel
theorem dX10_scale_71 : decode cX10_scale 71 = .ok (.getfield 173, 3) := by decide +kernel
theorem dX10_scale_74 : decode cX10_scale 74 = .ok (.ldc 172, 2) := by decide +kernel
theorem dX10_scale_76 : decode cX10_scale 76 = .ok (.iadd, 1) := by decide +kernel
theorem dX10_scale_77 : decode cX10_scale 77 = .ok (.ireturn, 1) := by decide +kernel
theorem dX10_scale_78 : decode cX10_scale 78 = .ok (.aload_n 2, 1) := by decide +kernel
theorem dX10_scale_79 : decode cX10_scale 79 = .ok (.getfield 176, 3) := by decide +kernel
theorem dX10_scale_82 : decode cX10_scale 82 = .ok (.ldc 172, 2) := by decide +kernel
theorem dX10_scale_84 : decode cX10_scale 84 = .ok (.iadd, 1) := by decide +kernel
theorem dX10_scale_85 : decode cX10_scale 85 = .ok (.ireturn, 1) := by decide +kernel
theorem dX10_scale_86 : decode cX10_scale 86 = .ok (.aload_n 2, 1) := by decide +kernel
theorem dX10_scale_87 : decode cX10_scale 87 = .ok (.getfield 179, 3) := by decide +kernel
theorem dX10_scale_90 : decode cX10_scale 90 = .ok (.ldc 156, 2) := by decide +kernel
theorem dX10_scale_92 : decode cX10_scale 92 = .ok (.iadd, 1) := by decide +kernel
theorem dX10_scale_93 : decode cX10_scale 93 = .ok (.ireturn, 1) := by decide +kernel
theorem dX10_scale_94 : decode cX10_scale 94 = .ok (.aload_n 2, 1) := by decide +kernel
theorem dX10_scale_95 : decode cX10_scale 95 = .ok (.invokevirtual 182, 3) := by decide +kernel
theorem dX10_scale_98 : decode cX10_scale 98 = .ok (.ldc 156, 2) := by decide +kernel
theorem dX10_scale_100 : decode cX10_scale 100 = .ok (.iadd, 1) := by decide +kernel
theorem dX10_scale_101 : decode cX10_scale 101 = .ok (.ireturn, 1) := by decide +kernel
theorem dX10_scale_102 : decode cX10_scale 102 = .ok (.aload_n 2, 1) := by decide +kernel
theorem dX10_scale_103 : decode cX10_scale 103 = .ok (.getfield 185, 3) := by decide +kernel
theorem dX10_scale_106 : decode cX10_scale 106 = .ok (.ireturn, 1) := by decide +kernel
theorem dX10_scale_107 : decode cX10_scale 107 = .ok (.aload_n 0, 1) := by decide +kernel
theorem dX10_scale_108 : decode cX10_scale 108 = .ok (.getfield 10, 3) := by decide +kernel
theorem dX10_scale_111 : decode cX10_scale 111 = .ok (.getfield 188, 3) := by decide +kernel
theorem dX10_scale_114 : decode cX10_scale 114 = .ok (.ireturn, 1) := by decide +kernel
theorem dX10_scale_115 : decode cX10_scale 115 = .ok (.ldc 93, 2) := by decide +kernel
theorem dX10_scale_117 : decode cX10_scale 117 = .ok (.ireturn, 1) := by decide +kernel
theorem dX10_count_0 : decode cX10_count 0 = .ok (.iload_n 1, 1) := by decide +kernel
theorem dX10_count_1 : decode cX10_count 1 = .ok (.bipush 20, 2) := by decide +kernel
theorem dX10_count_3 : decode cX10_count 3 = .ok (.if_icmp .lt 36, 3) := by decide +kernel
theorem dX10_count_6 : decode cX10_count 6 = .ok (.iload_n 1, 1) := by decide +kernel
theorem dX10_count_7 : decode cX10_count 7 = .ok (.bipush 23, 2) := by decide +kernel
theorem dX10_count_9 : decode cX10_count 9 = .ok (.if_icmp .ge 30, 3) := by decide +kernel
theorem dX10_count_12 : decode cX10_count 12 = .ok (.iload_n 1, 1) := by decide +kernel
theorem dX10_count_13 : decode cX10_count 13 = .ok (.bipush 20, 2) := by decide +kernel
theorem dX10_count_15 : decode cX10_count 15 = .ok (.isub, 1) := by decide +kernel
theorem dX10_count_16 : decode cX10_count 16 = .ok (.istore_n 2, 1) := by decide +kernel
theorem dX10_count_17 : decode cX10_count 17 = .ok (.aload_n 0, 1) := by decide +kernel
theorem dX10_count_18 : decode cX10_count 18 = .ok (.getfield 10, 3) := by decide +kernel
theorem dX10_count_21 : decode cX10_count 21 = .ok (.getfield 191, 3) := by decide +kernel
theorem dX10_count_24 : decode cX10_count 24 = .ok (.iload_n 2, 1) := by decide +kernel
theorem dX10_count_25 : decode cX10_count 25 = .ok (.iaload, 1) := by decide +kernel
theorem dX10_count_26 : decode cX10_count 26 = .ok (.iload_n 2, 1) := by decide +kernel
theorem dX10_count_27 : decode cX10_count 27 = .ok (.iconst 2, 1) := by decide +kernel
theorem dX10_count_28 : decode cX10_count 28 = .ok (.if_icmp .ne 8, 3) := by decide +kernel
theorem dX10_count_31 : decode cX10_count 31 = .ok (.bipush 10, 2) := by decide +kernel
theorem dX10_count_33 : decode cX10_count 33 = .ok (.goto 4, 3) := by decide +kernel
theorem dX10_count_36 : decode cX10_count 36 = .ok (.iconst 0, 1) := by decide +kernel
theorem dX10_count_37 : decode cX10_count 37 = .ok (.iadd, 1) := by decide +kernel
theorem dX10_count_38 : decode cX10_count 38 = .ok (.ireturn, 1) := by decide +kernel
theorem dX10_count_39 : decode cX10_count 39 = .ok (.iload_n 1, 1) := by decide +kernel
theorem dX10_count_40 : decode cX10_count 40 = .ok (.bipush 30, 2) := by decide +kernel
theorem dX10_count_42 : decode cX10_count 42 = .ok (.isub, 1) := by decide +kernel
theorem dX10_count_43 : decode cX10_count 43 = .ok (.invokestatic 146, 3) := by decide +kernel
theorem dX10_count_46 : decode cX10_count 46 = .ok (.ifCond .eq 19, 3) := by decide +kernel
theorem dX10_count_49 : decode cX10_count 49 = .ok (.aload_n 0, 1) := by decide +kernel
theorem dX10_count_50 : decode cX10_count 50 = .ok (.getfield 10, 3) := by decide +kernel
theorem dX10_count_53 : decode cX10_count 53 = .ok (.getfield 77, 3) := by decide +kernel
theorem dX10_count_56 : decode cX10_count 56 = .ok (.getfield 194, 3) := by decide +kernel
theorem dX10_count_59 : decode cX10_count 59 = .ok (.iload_n 1, 1) := by decide +kernel
theorem dX10_count_60 : decode cX10_count 60 = .ok (.bipush 30, 2) := by decide +kernel
theorem dX10_count_62 : decode cX10_count 62 = .ok (.isub, 1) := by decide +kernel
theorem dX10_count_63 : decode cX10_count 63 = .ok (.iaload, 1) := by decide +kernel
theorem dX10_count_64 : decode cX10_count 64 = .ok (.ireturn, 1) := by decide +kernel
theorem dX10_count_65 : decode cX10_count 65 = .ok (.iload_n 1, 1) := by decide +kernel
theorem dX10_count_66 : decode cX10_count 66 = .ok (.tableswitch 288 0 15 #[78, 89, 97, 105, 116, 147, 170, 201, 209, 220, 231, 242, 253, 261, 272, 280], 78) := by decide +kernel
theorem dX10_count_144 : decode cX10_count 144 = .ok (.aload_n 0, 1) := by decide +kernel
theorem dX10_count_145 : decode cX10_count 145 = .ok (.getfield 10, 3) := by decide +kernel
theorem dX10_count_148 : decode cX10_count 148 = .ok (.getfield 123, 3) := by decide +kernel
theorem dX10_count_151 : decode cX10_count 151 = .ok (.getfield 127, 3) := by decide +kernel
theorem dX10_count_154 : decode cX10_count 154 = .ok (.ireturn, 1) := by decide +kernel
theorem dX10_count_155 : decode cX10_count 155 = .ok (.aload_n 0, 1) := by decide +kernel
theorem dX10_count_156 : decode cX10_count 156 = .ok (.getfield 10, 3) := by decide +kernel
theorem dX10_count_159 : decode cX10_count 159 = .ok (.getfield 197, 3) := by decide +kernel
theorem dX10_count_162 : decode cX10_count 162 = .ok (.ireturn, 1) := by decide +kernel
theorem dX10_count_163 : decode cX10_count 163 = .ok (.aload_n 0, 1) := by decide +kernel
theorem dX10_count_164 : decode cX10_count 164 = .ok (.getfield 10, 3) := by decide +kernel
theorem dX10_count_167 : decode cX10_count 167 = .ok (.getfield 200, 3) := by decide +kernel
theorem dX10_count_170 : decode cX10_count 170 = .ok (.ireturn, 1) := by decide +kernel
theorem dX10_count_171 : decode cX10_count 171 = .ok (.aload_n 0, 1) := by decide +kernel
theorem dX10_count_172 : decode cX10_count 172 = .ok (.getfield 10, 3) := by decide +kernel
theorem dX10_count_175 : decode cX10_count 175 = .ok (.getfield 139, 3) := by decide +kernel
theorem dX10_count_178 : decode cX10_count 178 = .ok (.getfield 203, 3) := by decide +kernel
theorem dX10_count_181 : decode cX10_count 181 = .ok (.ireturn, 1) := by decide +kernel
theorem dX10_count_182 : decode cX10_count 182 = .ok (.aload_n 0, 1) := by decide +kernel
theorem dX10_count_183 : decode cX10_count 183 = .ok (.getfield 10, 3) := by decide +kernel
theorem dX10_count_186 : decode cX10_count 186 = .ok (.getfield 139, 3) := by decide +kernel
theorem dX10_count_189 : decode cX10_count 189 = .ok (.getfield 203, 3) := by decide +kernel
theorem dX10_count_192 : decode cX10_count 192 = .ok (.ifCond .ne 8, 3) := by decide +kernel
theorem dX10_count_195 : decode cX10_count 195 = .ok (.ldc 94, 2) := by decide +kernel
theorem dX10_count_197 : decode cX10_count 197 = .ok (.goto 15, 3) := by decide +kernel
theorem dX10_count_200 : decode cX10_count 200 = .ok (.aload_n 0, 1) := by decide +kernel
theorem dX10_count_201 : decode cX10_count 201 = .ok (.getfield 10, 3) := by decide +kernel
theorem dX10_count_204 : decode cX10_count 204 = .ok (.getfield 139, 3) := by decide +kernel
theorem dX10_count_207 : decode cX10_count 207 = .ok (.getfield 203, 3) := by decide +kernel
theorem dX10_count_210 : decode cX10_count 210 = .ok (.iconst 1, 1) := by decide +kernel
theorem dX10_count_211 : decode cX10_count 211 = .ok (.isub, 1) := by decide +kernel
theorem dX10_count_212 : decode cX10_count 212 = .ok (.ireturn, 1) := by decide +kernel
theorem dX10_count_213 : decode cX10_count 213 = .ok (.aload_n 0, 1) := by decide +kernel
theorem dX10_count_214 : decode cX10_count 214 = .ok (.getfield 10, 3) := by decide +kernel
theorem dX10_count_217 : decode cX10_count 217 = .ok (.invokevirtual 206, 3) := by decide +kernel
theorem dX10_count_220 : decode cX10_count 220 = .ok (.ifCond .eq 13, 3) := by decide +kernel
theorem dX10_count_223 : decode cX10_count 223 = .ok (.aload_n 0, 1) := by decide +kernel
theorem dX10_count_224 : decode cX10_count 224 = .ok (.getfield 10, 3) := by decide +kernel
theorem dX10_count_227 : decode cX10_count 227 = .ok (.getfield 210, 3) := by decide +kernel
theorem dX10_count_230 : decode cX10_count 230 = .ok (.goto 5, 3) := by decide +kernel
theorem dX10_count_233 : decode cX10_count 233 = .ok (.ldc 94, 2) := by decide +kernel
theorem dX10_count_235 : decode cX10_count 235 = .ok (.ireturn, 1) := by decide +kernel
theorem dX10_count_236 : decode cX10_count 236 = .ok (.aload_n 0, 1) := by decide +kernel
theorem dX10_count_237 : decode cX10_count 237 = .ok (.getfield 10, 3) := by decide +kernel
theorem dX10_count_240 : decode cX10_count 240 = .ok (.invokevirtual 206, 3) := by decide +kernel
theorem dX10_count_243 : decode cX10_count 243 = .ok (.ifCond .eq 21, 3) := by decide +kernel
theorem dX10_count_246 : decode cX10_count 246 = .ok (.aload_n 0, 1) := by decide +kernel
theorem dX10_count_247 : decode cX10_count 247 = .ok (.getfield 10, 3) := by decide +kernel
theorem dX10_count_250 : decode cX10_count 250 = .ok (.getfield 213, 3) := by decide +kernel
theorem dX10_count_253 : decode cX10_count 253 = .ok (.ifCond .eq 7, 3) := by decide +kernel
theorem dX10_count_256 : decode cX10_count 256 = .ok (.iconst 1, 1) := by decide +kernel
theorem dX10_count_257 : decode cX10_count 257 = .ok (.goto 9, 3) := by decide +kernel
theorem dX10_count_260 : decode cX10_count 260 = .ok (.iconst 0, 1) := by decide +kernel
theorem dX10_count_261 : decode cX10_count 261 = .ok (.goto 5, 3) := by decide +kernel
theorem dX10_count_264 : decode cX10_count 264 = .ok (.ldc 94, 2) := by decide +kernel
theorem dX10_count_266 : decode cX10_count 266 = .ok (.ireturn, 1) := by decide +kernel
theorem dX10_count_267 : decode cX10_count 267 = .ok (.aload_n 0, 1) := by decide +kernel
theorem dX10_count_268 : decode cX10_count 268 = .ok (.getfield 10, 3) := by decide +kernel
theorem dX10_count_271 : decode cX10_count 271 = .ok (.getfield 217, 3) := by decide +kernel
theorem dX10_count_274 : decode cX10_count 274 = .ok (.ireturn, 1) := by decide +kernel
theorem dX10_count_275 : decode cX10_count 275 = .ok (.aload_n 0, 1) := by decide +kernel
theorem dX10_count_276 : decode cX10_count 276 = .ok (.getfield 10, 3) := by decide +kernel
theorem dX10_count_279 : decode cX10_count 279 = .ok (.getfield 111, 3) := by decide +kernel
theorem dX10_count_282 : decode cX10_count 282 = .ok (.getfield 220, 3) := by decide +kernel
theorem dX10_count_285 : decode cX10_count 285 = .ok (.ireturn, 1) := by decide +kernel
theorem dX10_count_286 : decode cX10_count 286 = .ok (.aload_n 0, 1) := by decide +kernel
theorem dX10_count_287 : decode cX10_count 287 = .ok (.getfield 10, 3) := by decide +kernel
theorem dX10_count_290 : decode cX10_count 290 = .ok (.getfield 123, 3) := by decide +kernel
theorem dX10_count_293 : decode cX10_count 293 = .ok (.invokevirtual 223, 3) := by decide +kernel
theorem dX10_count_296 : decode cX10_count 296 = .ok (.ireturn, 1) := by decide +kernel
theorem dX10_count_297 : decode cX10_count 297 = .ok (.aload_n 0, 1) := by decide +kernel
theorem dX10_count_298 : decode cX10_count 298 = .ok (.getfield 10, 3) := by decide +kernel
theorem dX10_count_301 : decode cX10_count 301 = .ok (.getfield 123, 3) := by decide +kernel
theorem dX10_count_304 : decode cX10_count 304 = .ok (.getfield 226, 3) := by decide +kernel
theorem dX10_count_307 : decode cX10_count 307 = .ok (.ireturn, 1) := by decide +kernel
theorem dX10_count_308 : decode cX10_count 308 = .ok (.aload_n 0, 1) := by decide +kernel
theorem dX10_count_309 : decode cX10_count 309 = .ok (.getfield 10, 3) := by decide +kernel
theorem dX10_count_312 : decode cX10_count 312 = .ok (.getfield 139, 3) := by decide +kernel
theorem dX10_count_315 : decode cX10_count 315 = .ok (.invokevirtual 229, 3) := by decide +kernel
theorem dX10_count_318 : decode cX10_count 318 = .ok (.ireturn, 1) := by decide +kernel
theorem dX10_count_319 : decode cX10_count 319 = .ok (.aload_n 0, 1) := by decide +kernel
theorem dX10_count_320 : decode cX10_count 320 = .ok (.getfield 10, 3) := by decide +kernel
theorem dX10_count_323 : decode cX10_count 323 = .ok (.getfield 232, 3) := by decide +kernel
theorem dX10_count_326 : decode cX10_count 326 = .ok (.ireturn, 1) := by decide +kernel
theorem dX10_count_327 : decode cX10_count 327 = .ok (.aload_n 0, 1) := by decide +kernel
theorem dX10_count_328 : decode cX10_count 328 = .ok (.getfield 10, 3) := by decide +kernel
theorem dX10_count_331 : decode cX10_count 331 = .ok (.getfield 77, 3) := by decide +kernel
theorem dX10_count_334 : decode cX10_count 334 = .ok (.getfield 235, 3) := by decide +kernel
theorem dX10_count_337 : decode cX10_count 337 = .ok (.ireturn, 1) := by decide +kernel
theorem dX10_count_338 : decode cX10_count 338 = .ok (.aload_n 0, 1) := by decide +kernel
theorem dX10_count_339 : decode cX10_count 339 = .ok (.getfield 22, 3) := by decide +kernel
theorem dX10_count_342 : decode cX10_count 342 = .ok (.getfield 236, 3) := by decide +kernel
theorem dX10_count_345 : decode cX10_count 345 = .ok (.ireturn, 1) := by decide +kernel
theorem dX10_count_346 : decode cX10_count 346 = .ok (.aload_n 0, 1) := by decide +kernel
theorem dX10_count_347 : decode cX10_count 347 = .ok (.getfield 29, 3) := by decide +kernel
theorem dX10_count_350 : decode cX10_count 350 = .ok (.getfield 239, 3) := by decide +kernel
theorem dX10_count_353 : decode cX10_count 353 = .ok (.ireturn, 1) := by decide +kernel
theorem dX10_count_354 : decode cX10_count 354 = .ok (.ldc 93, 2) := by decide +kernel
theorem dX10_count_356 : decode cX10_count 356 = .ok (.ireturn, 1) := by decide +kernel
theorem dX10_batchIn_0 : decode cX10_batchIn 0 = .ok (.aload_n 0, 1) := by decide +kernel
theorem dX10_batchIn_1 : decode cX10_batchIn 1 = .ok (.getfield 10, 3) := by decide +kernel
theorem dX10_batchIn_4 : decode cX10_batchIn 4 = .ok (.invokevirtual 206, 3) := by decide +kernel
theorem dX10_batchIn_7 : decode cX10_batchIn 7 = .ok (.ifCond .eq 10, 3) := by decide +kernel
theorem dX10_batchIn_10 : decode cX10_batchIn 10 = .ok (.aload_n 0, 1) := by decide +kernel
theorem dX10_batchIn_11 : decode cX10_batchIn 11 = .ok (.invokevirtual 242, 3) := by decide +kernel
theorem dX10_batchIn_14 : decode cX10_batchIn 14 = .ok (.goto 5, 3) := by decide +kernel
theorem dX10_batchIn_17 : decode cX10_batchIn 17 = .ok (.ldc 245, 2) := by decide +kernel
theorem dX10_batchIn_19 : decode cX10_batchIn 19 = .ok (.ireturn, 1) := by decide +kernel
theorem dX10_batchOut_0 : decode cX10_batchOut 0 = .ok (.aload_n 0, 1) := by decide +kernel
theorem dX10_batchOut_1 : decode cX10_batchOut 1 = .ok (.getfield 10, 3) := by decide +kernel
theorem dX10_batchOut_4 : decode cX10_batchOut 4 = .ok (.invokevirtual 206, 3) := by decide +kernel
theorem dX10_batchOut_7 : decode cX10_batchOut 7 = .ok (.ifCond .ne 6, 3) := by decide +kernel
theorem dX10_batchOut_10 : decode cX10_batchOut 10 = .ok (.ldc 245, 2) := by decide +kernel
theorem dX10_batchOut_12 : decode cX10_batchOut 12 = .ok (.ireturn, 1) := by decide +kernel
theorem dX10_batchOut_13 : decode cX10_batchOut 13 = .ok (.aload_n 0, 1) := by decide +kernel
theorem dX10_batchOut_14 : decode cX10_batchOut 14 = .ok (.invokevirtual 242, 3) := by decide +kernel
theorem dX10_batchOut_17 : decode cX10_batchOut 17 = .ok (.ldc 94, 2) := by decide +kernel
theorem dX10_batchOut_19 : decode cX10_batchOut 19 = .ok (.if_icmp .ne 8, 3) := by decide +kernel
theorem dX10_batchOut_22 : decode cX10_batchOut 22 = .ok (.ldc 94, 2) := by decide +kernel
theorem dX10_batchOut_24 : decode cX10_batchOut 24 = .ok (.goto 13, 3) := by decide +kernel
theorem dX10_batchOut_27 : decode cX10_batchOut 27 = .ok (.aload_n 0, 1) := by decide +kernel
theorem dX10_batchOut_28 : decode cX10_batchOut 28 = .ok (.getfield 16, 3) := by decide +kernel
theorem dX10_batchOut_31 : decode cX10_batchOut 31 = .ok (.getfield 139, 3) := by decide +kernel
theorem dX10_batchOut_34 : decode cX10_batchOut 34 = .ok (.invokevirtual 246, 3) := by decide +kernel
theorem dX10_batchOut_37 : decode cX10_batchOut 37 = .ok (.ireturn, 1) := by decide +kernel
theorem dX10_error_0 : decode cX10_error 0 = .ok (.aload_n 0, 1) := by decide +kernel
theorem dX10_error_1 : decode cX10_error 1 = .ok (.getfield 10, 3) := by decide +kernel
theorem dX10_error_4 : decode cX10_error 4 = .ok (.getfield 160, 3) := by decide +kernel
theorem dX10_error_7 : decode cX10_error 7 = .ok (.invokevirtual 182, 3) := by decide +kernel
theorem dX10_error_10 : decode cX10_error 10 = .ok (.aload_n 0, 1) := by decide +kernel
theorem dX10_error_11 : decode cX10_error 11 = .ok (.getfield 10, 3) := by decide +kernel
theorem dX10_error_14 : decode cX10_error 14 = .ok (.getfield 249, 3) := by decide +kernel
theorem dX10_error_17 : decode cX10_error 17 = .ok (.isub, 1) := by decide +kernel
theorem dX10_error_18 : decode cX10_error 18 = .ok (.ldc 156, 2) := by decide +kernel
theorem dX10_error_20 : decode cX10_error 20 = .ok (.iadd, 1) := by decide +kernel
theorem dX10_error_21 : decode cX10_error 21 = .ok (.ireturn, 1) := by decide +kernel
theorem dX10_undo_0 : decode cX10_undo 0 = .ok (.aload_n 0, 1) := by decide +kernel
theorem dX10_undo_1 : decode cX10_undo 1 = .ok (.getfield 22, 3) := by decide +kernel
theorem dX10_undo_4 : decode cX10_undo 4 = .ok (.getfield 236, 3) := by decide +kernel
theorem dX10_undo_7 : decode cX10_undo 7 = .ok (.ifCond .ne 6, 3) := by decide +kernel
theorem dX10_undo_10 : decode cX10_undo 10 = .ok (.ldc 245, 2) := by decide +kernel
theorem dX10_undo_12 : decode cX10_undo 12 = .ok (.ireturn, 1) := by decide +kernel
theorem dX10_undo_13 : decode cX10_undo 13 = .ok (.aload_n 0, 1) := by decide +kernel
theorem dX10_undo_14 : decode cX10_undo 14 = .ok (.getfield 22, 3) := by decide +kernel
theorem dX10_undo_17 : decode cX10_undo 17 = .ok (.aload_n 0, 1) := by decide +kernel
theorem dX10_undo_18 : decode cX10_undo 18 = .ok (.getfield 10, 3) := by decide +kernel
theorem dX10_undo_21 : decode cX10_undo 21 = .ok (.invokevirtual 252, 3) := by decide +kernel
theorem dX10_undo_24 : decode cX10_undo 24 = .ok (.aload_n 0, 1) := by decide +kernel
theorem dX10_undo_25 : decode cX10_undo 25 = .ok (.getfield 22, 3) := by decide +kernel
theorem dX10_undo_28 : decode cX10_undo 28 = .ok (.getfield 236, 3) := by decide +kernel
theorem dX10_undo_31 : decode cX10_undo 31 = .ok (.ireturn, 1) := by decide +kernel
theorem dX10_type_0 : decode cX10_type 0 = .ok (.iload_n 1, 1) := by decide +kernel
theorem dX10_type_1 : decode cX10_type 1 = .ok (.bipush 32, 2) := by decide +kernel
theorem dX10_type_3 : decode cX10_type 3 = .ok (.if_icmp .lt 9, 3) := by decide +kernel
theorem dX10_type_6 : decode cX10_type 6 = .ok (.iload_n 1, 1) := by decide +kernel
theorem dX10_type_7 : decode cX10_type 7 = .ok (.bipush 126, 2) := by decide +kernel
theorem dX10_type_9 : decode cX10_type 9 = .ok (.if_icmp .le 6, 3) := by decide +kernel
theorem dX10_type_12 : decode cX10_type 12 = .ok (.ldc 93, 2) := by decide +kernel
theorem dX10_type_14 : decode cX10_type 14 = .ok (.ireturn, 1) := by decide +kernel
theorem dX10_type_15 : decode cX10_type 15 = .ok (.aload_n 0, 1) := by decide +kernel
theorem dX10_type_16 : decode cX10_type 16 = .ok (.getfield 29, 3) := by decide +kernel
theorem dX10_type_19 : decode cX10_type 19 = .ok (.getfield 239, 3) := by decide +kernel
theorem dX10_type_22 : decode cX10_type 22 = .ok (.bipush 60, 2) := by decide +kernel
theorem dX10_type_24 : decode cX10_type 24 = .ok (.if_icmp .lt 6, 3) := by decide +kernel
theorem dX10_type_27 : decode cX10_type 27 = .ok (.ldc 255, 2) := by decide +kernel
theorem dX10_type_29 : decode cX10_type 29 = .ok (.ireturn, 1) := by decide +kernel
theorem dX10_type_30 : decode cX10_type 30 = .ok (.aload_n 0, 1) := by decide +kernel
theorem dX10_type_31 : decode cX10_type 31 = .ok (.getfield 29, 3) := by decide +kernel
theorem dX10_type_34 : decode cX10_type 34 = .ok (.iload_n 1, 1) := by decide +kernel
theorem dX10_type_35 : decode cX10_type 35 = .ok (.i2c, 1) := by decide +kernel
theorem dX10_type_36 : decode cX10_type 36 = .ok (.invokevirtual 256, 3) := by decide +kernel
theorem dX10_type_39 : decode cX10_type 39 = .ok (.aload_n 0, 1) := by decide +kernel
theorem dX10_type_40 : decode cX10_type 40 = .ok (.getfield 29, 3) := by decide +kernel
theorem dX10_type_43 : decode cX10_type 43 = .ok (.getfield 239, 3) := by decide +kernel
theorem dX10_type_46 : decode cX10_type 46 = .ok (.ireturn, 1) := by decide +kernel
theorem dX10_clearText_0 : decode cX10_clearText 0 = .ok (.aload_n 0, 1) := by decide +kernel
theorem dX10_clearText_1 : decode cX10_clearText 1 = .ok (.getfield 29, 3) := by decide +kernel
theorem dX10_clearText_4 : decode cX10_clearText 4 = .ok (.getfield 239, 3) := by decide +kernel
theorem dX10_clearText_7 : decode cX10_clearText 7 = .ok (.istore_n 1, 1) := by decide +kernel
theorem dX10_clearText_8 : decode cX10_clearText 8 = .ok (.aload_n 0, 1) := by decide +kernel
theorem dX10_clearText_9 : decode cX10_clearText 9 = .ok (.getfield 29, 3) := by decide +kernel
theorem dX10_clearText_12 : decode cX10_clearText 12 = .ok (.iconst 0, 1) := by decide +kernel
theorem dX10_clearText_13 : decode cX10_clearText 13 = .ok (.putfield 239, 3) := by decide +kernel
theorem dX10_clearText_16 : decode cX10_clearText 16 = .ok (.iload_n 1, 1) := by decide +kernel
theorem dX10_clearText_17 : decode cX10_clearText 17 = .ok (.ireturn, 1) := by decide +kernel
theorem dX10_fault_0 : decode cX10_fault 0 = .ok (.iload_n 1, 1) := by decide +kernel
theorem dX10_fault_1 : decode cX10_fault 1 = .ok (.ifCond .lt 8, 3) := by decide +kernel
theorem dX10_fault_4 : decode cX10_fault 4 = .ok (.iload_n 1, 1) := by decide +kernel
theorem dX10_fault_5 : decode cX10_fault 5 = .ok (.iconst 2, 1) := by decide +kernel
theorem dX10_fault_6 : decode cX10_fault 6 = .ok (.if_icmp .le 6, 3) := by decide +kernel
theorem dX10_fault_9 : decode cX10_fault 9 = .ok (.ldc 93, 2) := by decide +kernel
theorem dX10_fault_11 : decode cX10_fault 11 = .ok (.ireturn, 1) := by decide +kernel
theorem dX10_fault_12 : decode cX10_fault 12 = .ok (.aload_n 0, 1) := by decide +kernel
theorem dX10_fault_13 : decode cX10_fault 13 = .ok (.getfield 36, 3) := by decide +kernel
theorem dX10_fault_16 : decode cX10_fault 16 = .ok (.aload_n 0, 1) := by decide +kernel
theorem dX10_fault_17 : decode cX10_fault 17 = .ok (.getfield 29, 3) := by decide +kernel
theorem dX10_fault_20 : decode cX10_fault 20 = .ok (.aload_n 0, 1) := by decide +kernel
theorem dX10_fault_21 : decode cX10_fault 21 = .ok (.getfield 10, 3) := by decide +kernel
theorem dX10_fault_24 : decode cX10_fault 24 = .ok (.aload_n 0, 1) := by decide +kernel
theorem dX10_fault_25 : decode cX10_fault 25 = .ok (.getfield 16, 3) := by decide +kernel
theorem dX10_fault_28 : decode cX10_fault 28 = .ok (.invokevirtual 260, 3) := by decide +kernel
theorem dX10_fault_31 : decode cX10_fault 31 = .ok (.aload_n 0, 1) := by decide +kernel
theorem dX10_fault_32 : decode cX10_fault 32 = .ok (.getfield 36, 3) := by decide +kernel
theorem dX10_fault_35 : decode cX10_fault 35 = .ok (.getfield 264, 3) := by decide +kernel
theorem dX10_fault_38 : decode cX10_fault 38 = .ok (.ifCond .ne 6, 3) := by decide +kernel
theorem dX10_fault_41 : decode cX10_fault 41 = .ok (.ldc 94, 2) := by decide +kernel
theorem dX10_fault_43 : decode cX10_fault 43 = .ok (.ireturn, 1) := by decide +kernel
theorem dX10_fault_44 : decode cX10_fault 44 = .ok (.iload_n 1, 1) := by decide +kernel
theorem dX10_fault_45 : decode cX10_fault 45 = .ok (.ifCond .ne 11, 3) := by decide +kernel
theorem dX10_fault_48 : decode cX10_fault 48 = .ok (.aload_n 0, 1) := by decide +kernel
theorem dX10_fault_49 : decode cX10_fault 49 = .ok (.getfield 36, 3) := by decide +kernel
theorem dX10_fault_52 : decode cX10_fault 52 = .ok (.getfield 267, 3) := by decide +kernel
theorem dX10_fault_55 : decode cX10_fault 55 = .ok (.ireturn, 1) := by decide +kernel
theorem dX10_fault_56 : decode cX10_fault 56 = .ok (.iload_n 1, 1) := by decide +kernel
theorem dX10_fault_57 : decode cX10_fault 57 = .ok (.iconst 1, 1) := by decide +kernel
theorem dX10_fault_58 : decode cX10_fault 58 = .ok (.if_icmp .ne 11, 3) := by decide +kernel
theorem dX10_fault_61 : decode cX10_fault 61 = .ok (.aload_n 0, 1) := by decide +kernel
theorem dX10_fault_62 : decode cX10_fault 62 = .ok (.getfield 36, 3) := by decide +kernel
theorem dX10_fault_65 : decode cX10_fault 65 = .ok (.getfield 264, 3) := by decide +kernel
theorem dX10_fault_68 : decode cX10_fault 68 = .ok (.ireturn, 1) := by decide +kernel
theorem dX10_fault_69 : decode cX10_fault 69 = .ok (.aload_n 0, 1) := by decide +kernel
theorem dX10_fault_70 : decode cX10_fault 70 = .ok (.getfield 36, 3) := by decide +kernel
theorem dX10_fault_73 : decode cX10_fault 73 = .ok (.getfield 264, 3) := by decide +kernel
theorem dX10_fault_76 : decode cX10_fault 76 = .ok (.iconst 2, 1) := by decide +kernel
theorem dX10_fault_77 : decode cX10_fault 77 = .ok (.if_icmp .ne 13, 3) := by decide +kernel
theorem dX10_fault_80 : decode cX10_fault 80 = .ok (.aload_n 0, 1) := by decide +kernel
theorem dX10_fault_81 : decode cX10_fault 81 = .ok (.getfield 36, 3) := by decide +kernel
theorem dX10_fault_84 : decode cX10_fault 84 = .ok (.getfield 270, 3) := by decide +kernel
theorem dX10_fault_87 : decode cX10_fault 87 = .ok (.goto 5, 3) := by decide +kernel
theorem dX10_fault_90 : decode cX10_fault 90 = .ok (.ldc 94, 2) := by decide +kernel
theorem dX10_fault_92 : decode cX10_fault 92 = .ok (.ireturn, 1) := by decide +kernel
theorem dX10_play_0 : decode cX10_play 0 = .ok (.aload_n 0, 1) := by decide +kernel
theorem dX10_play_1 : decode cX10_play 1 = .ok (.getfield 36, 3) := by decide +kernel
theorem dX10_play_4 : decode cX10_play 4 = .ok (.aload_n 0, 1) := by decide +kernel
theorem dX10_play_5 : decode cX10_play 5 = .ok (.getfield 29, 3) := by decide +kernel
theorem dX10_play_8 : decode cX10_play 8 = .ok (.aload_n 0, 1) := by decide +kernel
theorem dX10_play_9 : decode cX10_play 9 = .ok (.getfield 10, 3) := by decide +kernel
theorem dX10_play_12 : decode cX10_play 12 = .ok (.aload_n 0, 1) := by decide +kernel
theorem dX10_play_13 : decode cX10_play 13 = .ok (.getfield 16, 3) := by decide +kernel
theorem dX10_play_16 : decode cX10_play 16 = .ok (.invokevirtual 260, 3) := by decide +kernel
theorem dX10_play_19 : decode cX10_play 19 = .ok (.aload_n 0, 1) := by decide +kernel
theorem dX10_play_20 : decode cX10_play 20 = .ok (.getfield 36, 3) := by decide +kernel
theorem dX10_play_23 : decode cX10_play 23 = .ok (.getfield 264, 3) := by decide +kernel
theorem dX10_play_26 : decode cX10_play 26 = .ok (.ifCond .eq 6, 3) := by decide +kernel
theorem dX10_play_29 : decode cX10_play 29 = .ok (.ldc 245, 2) := by decide +kernel
theorem dX10_play_31 : decode cX10_play 31 = .ok (.ireturn, 1) := by decide +kernel
theorem dX10_play_32 : decode cX10_play 32 = .ok (.aload_n 0, 1) := by decide +kernel
theorem dX10_play_33 : decode cX10_play 33 = .ok (.getfield 22, 3) := by decide +kernel
theorem dX10_play_36 : decode cX10_play 36 = .ok (.aload_n 0, 1) := by decide +kernel
theorem dX10_play_37 : decode cX10_play 37 = .ok (.getfield 10, 3) := by decide +kernel
theorem dX10_play_40 : decode cX10_play 40 = .ok (.invokevirtual 273, 3) := by decide +kernel
theorem dX10_play_43 : decode cX10_play 43 = .ok (.aload_n 0, 1) := by decide +kernel
theorem dX10_play_44 : decode cX10_play 44 = .ok (.getfield 10, 3) := by decide +kernel
theorem dX10_play_47 : decode cX10_play 47 = .ok (.aload_n 0, 1) := by decide +kernel
theorem dX10_play_48 : decode cX10_play 48 = .ok (.getfield 16, 3) := by decide +kernel
theorem dX10_play_51 : decode cX10_play 51 = .ok (.invokevirtual 40, 3) := by decide +kernel
theorem dX10_play_54 : decode cX10_play 54 = .ok (.aload_n 0, 1) := by decide +kernel
theorem dX10_play_55 : decode cX10_play 55 = .ok (.getfield 36, 3) := by decide +kernel
theorem dX10_play_58 : decode cX10_play 58 = .ok (.getfield 276, 3) := by decide +kernel
theorem dX10_play_61 : decode cX10_play 61 = .ok (.ireturn, 1) := by decide +kernel
theorem dX10_recorded_0 : decode cX10_recorded 0 = .ok (.iload_n 1, 1) := by decide +kernel
theorem dX10_recorded_1 : decode cX10_recorded 1 = .ok (.invokestatic 279, 3) := by decide +kernel
theorem dX10_recorded_4 : decode cX10_recorded 4 = .ok (.ifCond .ne 14, 3) := by decide +kernel
theorem dX10_recorded_7 : decode cX10_recorded 7 = .ok (.aload_n 0, 1) := by decide +kernel
theorem dX10_recorded_8 : decode cX10_recorded 8 = .ok (.getfield 22, 3) := by decide +kernel
theorem dX10_recorded_11 : decode cX10_recorded 11 = .ok (.aload_n 0, 1) := by decide +kernel
theorem dX10_recorded_12 : decode cX10_recorded 12 = .ok (.getfield 16, 3) := by decide +kernel
theorem dX10_recorded_15 : decode cX10_recorded 15 = .ok (.invokevirtual 273, 3) := by decide +kernel
theorem dX10_recorded_18 : decode cX10_recorded 18 = .ok (.iload_n 1, 1) := by decide +kernel
theorem dX10_recorded_19 : decode cX10_recorded 19 = .ok (.ireturn, 1) := by decide +kernel
theorem dX10_foretell_0 : decode cX10_foretell 0 = .ok (.aload_n 0, 1) := by decide +kernel
theorem dX10_foretell_1 : decode cX10_foretell 1 = .ok (.getfield 16, 3) := by decide +kernel
theorem dX10_foretell_4 : decode cX10_foretell 4 = .ok (.aload_n 0, 1) := by decide +kernel
theorem dX10_foretell_5 : decode cX10_foretell 5 = .ok (.getfield 10, 3) := by decide +kernel
theorem dX10_foretell_8 : decode cX10_foretell 8 = .ok (.invokevirtual 40, 3) := by decide +kernel
theorem dX10_foretell_11 : decode cX10_foretell 11 = .ok (.iconst 1, 1) := by decide +kernel
theorem dX10_foretell_12 : decode cX10_foretell 12 = .ok (.istore_n 1, 1) := by decide +kernel
theorem dX10_foretell_13 : decode cX10_foretell 13 = .ok (.iload_n 1, 1) := by decide +kernel
theorem dX10_foretell_14 : decode cX10_foretell 14 = .ok (.sipush 2000, 3) := by decide +kernel
theorem dX10_foretell_17 : decode cX10_foretell 17 = .ok (.if_icmp .gt 29, 3) := by decide +kernel
theorem dX10_foretell_20 : decode cX10_foretell 20 = .ok (.aload_n 0, 1) := by decide +kernel
theorem dX10_foretell_21 : decode cX10_foretell 21 = .ok (.getfield 16, 3) := by decide +kernel
theorem dX10_foretell_24 : decode cX10_foretell 24 = .ok (.invokevirtual 282, 3) := by decide +kernel
theorem dX10_foretell_27 : decode cX10_foretell 27 = .ok (.pop, 1) := by decide +kernel
theorem dX10_foretell_28 : decode cX10_foretell 28 = .ok (.aload_n 0, 1) := by decide +kernel
theorem dX10_foretell_29 : decode cX10_foretell 29 = .ok (.getfield 16, 3) := by decide +kernel
theorem dX10_foretell_32 : decode cX10_foretell 32 = .ok (.invokevirtual 206, 3) := by decide +kernel
theorem dX10_foretell_35 : decode cX10_foretell 35 = .ok (.ifCond .ne 5, 3) := by decide +kernel
theorem dX10_foretell_38 : decode cX10_foretell 38 = .ok (.iload_n 1, 1) := by decide +kernel
theorem dX10_foretell_39 : decode cX10_foretell 39 = .ok (.ireturn, 1) := by decide +kernel
theorem dX10_foretell_40 : decode cX10_foretell 40 = .ok (.iinc 1 1, 3) := by decide +kernel
theorem dX10_foretell_43 : decode cX10_foretell 43 = .ok (.goto (-30), 3) := by decide +kernel
theorem dX10_foretell_46 : decode cX10_foretell 46 = .ok (.ldc 94, 2) := by decide +kernel
theorem dX10_foretell_48 : decode cX10_foretell 48 = .ok (.ireturn, 1) := by decide +kernel
theorem dX10_isError_0 : decode cX10_isError 0 = .ok (.iload_n 0, 1) := by decide +kernel
theorem dX10_isError_1 : decode cX10_isError 1 = .ok (.ldc 94, 2) := by decide +kernel
theorem dX10_isError_3 : decode cX10_isError 3 = .ok (.if_icmp .lt 13, 3) := by decide +kernel
theorem dX10_isError_6 : decode cX10_isError 6 = .ok (.iload_n 0, 1) := by decide +kernel
theorem dX10_isError_7 : decode cX10_isError 7 = .ok (.ldc 93, 2) := by decide +kernel
theorem dX10_isError_9 : decode cX10_isError 9 = .ok (.if_icmp .gt 7, 3) := by decide +kernel
theorem dX10_isError_12 : decode cX10_isError 12 = .ok (.iconst 1, 1) := by decide +kernel
theorem dX10_isError_13 : decode cX10_isError 13 = .ok (.goto 4, 3) := by decide +kernel
theorem dX10_isError_16 : decode cX10_isError 16 = .ok (.iconst 0, 1) := by decide +kernel
theorem dX10_isError_17 : decode cX10_isError 17 = .ok (.ireturn, 1) := by decide +kernel
theorem dX10_isKind_0 : decode cX10_isKind 0 = .ok (.iload_n 0, 1) := by decide +kernel
theorem dX10_isKind_1 : decode cX10_isKind 1 = .ok (.ifCond .lt 12, 3) := by decide +kernel
theorem dX10_isKind_4 : decode cX10_isKind 4 = .ok (.iload_n 0, 1) := by decide +kernel
theorem dX10_isKind_5 : decode cX10_isKind 5 = .ok (.iconst 4, 1) := by decide +kernel
theorem dX10_isKind_6 : decode cX10_isKind 6 = .ok (.if_icmp .ge 7, 3) := by decide +kernel
theorem dX10_isKind_9 : decode cX10_isKind 9 = .ok (.iconst 1, 1) := by decide +kernel
theorem dX10_isKind_10 : decode cX10_isKind 10 = .ok (.goto 4, 3) := by decide +kernel
theorem dX10_isKind_13 : decode cX10_isKind 13 = .ok (.iconst 0, 1) := by decide +kernel
theorem dX10_isKind_14 : decode cX10_isKind 14 = .ok (.ireturn, 1) := by decide +kernel
theorem dX10_copyInto_0 : decode cX10_copyInto 0 = .ok (.aload_n 1, 1) := by decide +kernel
theorem dX10_copyInto_1 : decode cX10_copyInto 1 = .ok (.iconst 0, 1) := by decide +kernel
theorem dX10_copyInto_2 : decode cX10_copyInto 2 = .ok (.aload_n 0, 1) := by decide +kernel
theorem dX10_copyInto_3 : decode cX10_copyInto 3 = .ok (.iconst 0, 1) := by decide +kernel
theorem dX10_copyInto_4 : decode cX10_copyInto 4 = .ok (.aload_n 1, 1) := by decide +kernel
theorem dX10_copyInto_5 : decode cX10_copyInto 5 = .ok (.arraylength, 1) := by decide +kernel
theorem dX10_copyInto_6 : decode cX10_copyInto 6 = .ok (.aload_n 0, 1) := by decide +kernel
theorem dX10_copyInto_7 : decode cX10_copyInto 7 = .ok (.arraylength, 1) := by decide +kernel
theorem dX10_copyInto_8 : decode cX10_copyInto 8 = .ok (.invokestatic 285, 3) := by decide +kernel
theorem dX10_copyInto_11 : decode cX10_copyInto 11 = .ok (.invokestatic 290, 3) := by decide +kernel
theorem dX10_copyInto_14 : decode cX10_copyInto 14 = .ok (.return_, 1) := by decide +kernel
end
section
theorem dX11_init_0 : decode cX11_init 0 = .ok (.aload_n 0, 1) := by decide +kernel
theorem dX11_init_1 : decode cX11_init 1 = .ok (.invokespecial 1, 3) := by decide +kernel
theorem dX11_init_4 : decode cX11_init 4 = .ok (.aload_n 0, 1) := by decide +kernel
theorem dX11_init_5 : decode cX11_init 5 = .ok (.sipush 149, 3) := by decide +kernel
theorem dX11_init_8 : decode cX11_init 8 = .ok (.newarray .int, 2) := by decide +kernel
theorem dX11_init_10 : decode cX11_init 10 = .ok (.putfield 7, 3) := by decide +kernel
theorem dX11_init_13 : decode cX11_init 13 = .ok (.aload_n 0, 1) := by decide +kernel
theorem dX11_init_14 : decode cX11_init 14 = .ok (.sipush 596, 3) := by decide +kernel
theorem dX11_init_17 : decode cX11_init 17 = .ok (.newarray .int, 2) := by decide +kernel
theorem dX11_init_19 : decode cX11_init 19 = .ok (.putfield 13, 3) := by decide +kernel
theorem dX11_init_22 : decode cX11_init 22 = .ok (.aload_n 0, 1) := by decide +kernel
theorem dX11_init_23 : decode cX11_init 23 = .ok (.sipush 149, 3) := by decide +kernel
theorem dX11_init_26 : decode cX11_init 26 = .ok (.newarray .int, 2) := by decide +kernel
theorem dX11_init_28 : decode cX11_init 28 = .ok (.putfield 16, 3) := by decide +kernel
theorem dX11_init_31 : decode cX11_init 31 = .ok (.aload_n 0, 1) := by decide +kernel
theorem dX11_init_32 : decode cX11_init 32 = .ok (.sipush 149, 3) := by decide +kernel
theorem dX11_init_35 : decode cX11_init 35 = .ok (.newarray .int, 2) := by decide +kernel
theorem dX11_init_37 : decode cX11_init 37 = .ok (.putfield 19, 3) := by decide +kernel
theorem dX11_init_40 : decode cX11_init 40 = .ok (.aload_n 0, 1) := by decide +kernel
theorem dX11_init_41 : decode cX11_init 41 = .ok (.bipush 60, 2) := by decide +kernel
theorem dX11_init_43 : decode cX11_init 43 = .ok (.newarray .int, 2) := by decide +kernel
theorem dX11_init_45 : decode cX11_init 45 = .ok (.putfield 22, 3) := by decide +kernel
theorem dX11_init_48 : decode cX11_init 48 = .ok (.aload_n 0, 1) := by decide +kernel
theorem dX11_init_49 : decode cX11_init 49 = .ok (.iconst 2, 1) := by decide +kernel
theorem dX11_init_50 : decode cX11_init 50 = .ok (.newarray .int, 2) := by decide +kernel
theorem dX11_init_52 : decode cX11_init 52 = .ok (.putfield 25, 3) := by decide +kernel
theorem dX11_init_55 : decode cX11_init 55 = .ok (.aload_n 0, 1) := by decide +kernel
theorem dX11_init_56 : decode cX11_init 56 = .ok (.getfield 7, 3) := by decide +kernel
theorem dX11_init_59 : decode cX11_init 59 = .ok (.iconst 0, 1) := by decide +kernel
theorem dX11_init_60 : decode cX11_init 60 = .ok (.bipush 50, 2) := by decide +kernel
theorem dX11_init_62 : decode cX11_init 62 = .ok (.iastore, 1) := by decide +kernel
theorem dX11_init_63 : decode cX11_init 63 = .ok (.aload_n 0, 1) := by decide +kernel
theorem dX11_init_64 : decode cX11_init 64 = .ok (.getfield 7, 3) := by decide +kernel
theorem dX11_init_67 : decode cX11_init 67 = .ok (.bipush 7, 2) := by decide +kernel
theorem dX11_init_69 : decode cX11_init 69 = .ok (.sipush 1000, 3) := by decide +kernel
theorem dX11_init_72 : decode cX11_init 72 = .ok (.iastore, 1) := by decide +kernel
theorem dX11_init_73 : decode cX11_init 73 = .ok (.aload_n 0, 1) := by decide +kernel
theorem dX11_init_74 : decode cX11_init 74 = .ok (.getfield 7, 3) := by decide +kernel
theorem dX11_init_77 : decode cX11_init 77 = .ok (.bipush 14, 2) := by decide +kernel
theorem dX11_init_79 : decode cX11_init 79 = .ok (.iconst 1, 1) := by decide +kernel
theorem dX11_init_80 : decode cX11_init 80 = .ok (.iastore, 1) := by decide +kernel
theorem dX11_init_81 : decode cX11_init 81 = .ok (.aload_n 0, 1) := by decide +kernel
theorem dX11_init_82 : decode cX11_init 82 = .ok (.getfield 7, 3) := by decide +kernel
theorem dX11_init_85 : decode cX11_init 85 = .ok (.sipush 129, 3) := by decide +kernel
theorem dX11_init_88 : decode cX11_init 88 = .ok (.ldc 28, 2) := by decide +kernel
theorem dX11_init_90 : decode cX11_init 90 = .ok (.iastore, 1) := by decide +kernel
theorem dX11_init_91 : decode cX11_init 91 = .ok (.aload_n 0, 1) := by decide +kernel
theorem dX11_init_92 : decode cX11_init 92 = .ok (.getfield 7, 3) := by decide +kernel
theorem dX11_init_95 : decode cX11_init 95 = .ok (.bipush 18, 2) := by decide +kernel
theorem dX11_init_97 : decode cX11_init 97 = .ok (.bipush 120, 2) := by decide +kernel
theorem dX11_init_99 : decode cX11_init 99 = .ok (.iastore, 1) := by decide +kernel
theorem dX11_init_100 : decode cX11_init 100 = .ok (.aload_n 0, 1) := by decide +kernel
theorem dX11_init_101 : decode cX11_init 101 = .ok (.getfield 7, 3) := by decide +kernel
theorem dX11_init_104 : decode cX11_init 104 = .ok (.bipush 19, 2) := by decide +kernel
theorem dX11_init_106 : decode cX11_init 106 = .ok (.bipush 20, 2) := by decide +kernel
theorem dX11_init_108 : decode cX11_init 108 = .ok (.iastore, 1) := by decide +kernel
theorem dX11_init_109 : decode cX11_init 109 = .ok (.aload_n 0, 1) := by decide +kernel
theorem dX11_init_110 : decode cX11_init 110 = .ok (.getfield 7, 3) := by decide +kernel
theorem dX11_init_113 : decode cX11_init 113 = .ok (.bipush 20, 2) := by decide +kernel
theorem dX11_init_115 : decode cX11_init 115 = .ok (.iconst 1, 1) := by decide +kernel
theorem dX11_init_116 : decode cX11_init 116 = .ok (.iastore, 1) := by decide +kernel
theorem dX11_init_117 : decode cX11_init 117 = .ok (.return_, 1) := by decide +kernel
theorem dX11_in_0 : decode cX11_in 0 = .ok (.iload_n 0, 1) := by decide +kernel
theorem dX11_in_1 : decode cX11_in 1 = .ok (.iload_n 1, 1) := by decide +kernel
theorem dX11_in_2 : decode cX11_in 2 = .ok (.if_icmp .lt 12, 3) := by decide +kernel
theorem dX11_in_5 : decode cX11_in 5 = .ok (.iload_n 0, 1) := by decide +kernel
theorem dX11_in_6 : decode cX11_in 6 = .ok (.iload_n 2, 1) := by decide +kernel
theorem dX11_in_7 : decode cX11_in 7 = .ok (.if_icmp .gt 7, 3) := by decide +kernel
theorem dX11_in_10 : decode cX11_in 10 = .ok (.iconst 1, 1) := by decide +kernel
theorem dX11_in_11 : decode cX11_in 11 = .ok (.goto 4, 3) := by decide +kernel
theorem dX11_in_14 : decode cX11_in 14 = .ok (.iconst 0, 1) := by decide +kernel
theorem dX11_in_15 : decode cX11_in 15 = .ok (.ireturn, 1) := by decide +kernel
theorem dX11_copies_0 : decode cX11_copies 0 = .ok (.iconst 0, 1) := by decide +kernel
theorem dX11_copies_1 : decode cX11_copies 1 = .ok (.istore_n 2, 1) := by decide +kernel
theorem dX11_copies_2 : decode cX11_copies 2 = .ok (.iload_n 2, 1) := by decide +kernel
theorem dX11_copies_3 : decode cX11_copies 3 = .ok (.sipush 149, 3) := by decide +kernel
theorem dX11_copies_6 : decode cX11_copies 6 = .ok (.if_icmp .ge 15, 3) := by decide +kernel
theorem dX11_copies_9 : decode cX11_copies 9 = .ok (.aload_n 1, 1) := by decide +kernel
theorem dX11_copies_10 : decode cX11_copies 10 = .ok (.iload_n 2, 1) := by decide +kernel
theorem dX11_copies_11 : decode cX11_copies 11 = .ok (.aload_n 0, 1) := by decide +kernel
theorem dX11_copies_12 : decode cX11_copies 12 = .ok (.iload_n 2, 1) := by decide +kernel
theorem dX11_copies_13 : decode cX11_copies 13 = .ok (.iaload, 1) := by decide +kernel
theorem dX11_copies_14 : decode cX11_copies 14 = .ok (.iastore, 1) := by decide +kernel
theorem dX11_copies_15 : decode cX11_copies 15 = .ok (.iinc 2 1, 3) := by decide +kernel
theorem dX11_copies_18 : decode cX11_copies 18 = .ok (.goto (-16), 3) := by decide +kernel
theorem dX11_copies_21 : decode cX11_copies 21 = .ok (.return_, 1) := by decide +kernel
theorem dX11_changes_0 : decode cX11_changes 0 = .ok (.aload_n 0, 1) := by decide +kernel
theorem dX11_changes_1 : decode cX11_changes 1 = .ok (.getfield 29, 3) := by decide +kernel
theorem dX11_changes_4 : decode cX11_changes 4 = .ok (.ifCond .eq 4, 3) := by decide +kernel
theorem dX11_changes_7 : decode cX11_changes 7 = .ok (.return_, 1) := by decide +kernel
theorem dX11_changes_8 : decode cX11_changes 8 = .ok (.aload_n 0, 1) := by decide +kernel
theorem dX11_changes_9 : decode cX11_changes 9 = .ok (.getfield 33, 3) := by decide +kernel
theorem dX11_changes_12 : decode cX11_changes 12 = .ok (.iconst 4, 1) := by decide +kernel
theorem dX11_changes_13 : decode cX11_changes 13 = .ok (.if_icmp .ne 44, 3) := by decide +kernel
theorem dX11_changes_16 : decode cX11_changes 16 = .ok (.iconst 0, 1) := by decide +kernel
theorem dX11_changes_17 : decode cX11_changes 17 = .ok (.istore_n 1, 1) := by decide +kernel
theorem dX11_changes_18 : decode cX11_changes 18 = .ok (.iload_n 1, 1) := by decide +kernel
theorem dX11_changes_19 : decode cX11_changes 19 = .ok (.sipush 447, 3) := by decide +kernel
theorem dX11_changes_22 : decode cX11_changes 22 = .ok (.if_icmp .ge 25, 3) := by decide +kernel
theorem dX11_changes_25 : decode cX11_changes 25 = .ok (.aload_n 0, 1) := by decide +kernel
theorem dX11_changes_26 : decode cX11_changes 26 = .ok (.getfield 13, 3) := by decide +kernel
theorem dX11_changes_29 : decode cX11_changes 29 = .ok (.iload_n 1, 1) := by decide +kernel
theorem dX11_changes_30 : decode cX11_changes 30 = .ok (.aload_n 0, 1) := by decide +kernel
theorem dX11_changes_31 : decode cX11_changes 31 = .ok (.getfield 13, 3) := by decide +kernel
theorem dX11_changes_34 : decode cX11_changes 34 = .ok (.iload_n 1, 1) := by decide +kernel
theorem dX11_changes_35 : decode cX11_changes 35 = .ok (.sipush 149, 3) := by decide +kernel
theorem dX11_changes_38 : decode cX11_changes 38 = .ok (.iadd, 1) := by decide +kernel
theorem dX11_changes_39 : decode cX11_changes 39 = .ok (.iaload, 1) := by decide +kernel
theorem dX11_changes_40 : decode cX11_changes 40 = .ok (.iastore, 1) := by decide +kernel
theorem dX11_changes_41 : decode cX11_changes 41 = .ok (.iinc 1 1, 3) := by decide +kernel
theorem dX11_changes_44 : decode cX11_changes 44 = .ok (.goto (-26), 3) := by decide +kernel
theorem dX11_changes_47 : decode cX11_changes 47 = .ok (.aload_n 0, 1) := by decide +kernel
theorem dX11_changes_48 : decode cX11_changes 48 = .ok (.dup, 1) := by decide +kernel
theorem dX11_changes_49 : decode cX11_changes 49 = .ok (.getfield 33, 3) := by decide +kernel
theorem dX11_changes_52 : decode cX11_changes 52 = .ok (.iconst 1, 1) := by decide +kernel
theorem dX11_changes_53 : decode cX11_changes 53 = .ok (.isub, 1) := by decide +kernel
theorem dX11_changes_54 : decode cX11_changes 54 = .ok (.putfield 33, 3) := by decide +kernel
theorem dX11_changes_57 : decode cX11_changes 57 = .ok (.iconst 0, 1) := by decide +kernel
theorem dX11_changes_58 : decode cX11_changes 58 = .ok (.istore_n 1, 1) := by decide +kernel
theorem dX11_changes_59 : decode cX11_changes 59 = .ok (.iload_n 1, 1) := by decide +kernel
theorem dX11_changes_60 : decode cX11_changes 60 = .ok (.sipush 149, 3) := by decide +kernel
theorem dX11_changes_63 : decode cX11_changes 63 = .ok (.if_icmp .ge 30, 3) := by decide +kernel
theorem dX11_changes_66 : decode cX11_changes 66 = .ok (.aload_n 0, 1) := by decide +kernel
theorem dX11_changes_67 : decode cX11_changes 67 = .ok (.getfield 13, 3) := by decide +kernel
theorem dX11_changes_70 : decode cX11_changes 70 = .ok (.sipush 149, 3) := by decide +kernel
theorem dX11_changes_73 : decode cX11_changes 73 = .ok (.aload_n 0, 1) := by decide +kernel
theorem dX11_changes_74 : decode cX11_changes 74 = .ok (.getfield 33, 3) := by decide +kernel
theorem dX11_changes_77 : decode cX11_changes 77 = .ok (.imul, 1) := by decide +kernel
theorem dX11_changes_78 : decode cX11_changes 78 = .ok (.iload_n 1, 1) := by decide +kernel
theorem dX11_changes_79 : decode cX11_changes 79 = .ok (.iadd, 1) := by decide +kernel
theorem dX11_changes_80 : decode cX11_changes 80 = .ok (.aload_n 0, 1) := by decide +kernel
theorem dX11_changes_81 : decode cX11_changes 81 = .ok (.getfield 7, 3) := by decide +kernel
theorem dX11_changes_84 : decode cX11_changes 84 = .ok (.iload_n 1, 1) := by decide +kernel
theorem dX11_changes_85 : decode cX11_changes 85 = .ok (.iaload, 1) := by decide +kernel
theorem dX11_changes_86 : decode cX11_changes 86 = .ok (.iastore, 1) := by decide +kernel
theorem dX11_changes_87 : decode cX11_changes 87 = .ok (.iinc 1 1, 3) := by decide +kernel
theorem dX11_changes_90 : decode cX11_changes 90 = .ok (.goto (-31), 3) := by decide +kernel
theorem dX11_changes_93 : decode cX11_changes 93 = .ok (.aload_n 0, 1) := by decide +kernel
theorem dX11_changes_94 : decode cX11_changes 94 = .ok (.dup, 1) := by decide +kernel
theorem dX11_changes_95 : decode cX11_changes 95 = .ok (.getfield 33, 3) := by decide +kernel
theorem dX11_changes_98 : decode cX11_changes 98 = .ok (.iconst 1, 1) := by decide +kernel
theorem dX11_changes_99 : decode cX11_changes 99 = .ok (.iadd, 1) := by decide +kernel
theorem dX11_changes_100 : decode cX11_changes 100 = .ok (.putfield 33, 3) := by decide +kernel
theorem dX11_changes_103 : decode cX11_changes 103 = .ok (.return_, 1) := by decide +kernel
theorem dX11_hasBatch_0 : decode cX11_hasBatch 0 = .ok (.aload_n 0, 1) := by decide +kernel
theorem dX11_hasBatch_1 : decode cX11_hasBatch 1 = .ok (.getfield 7, 3) := by decide +kernel
theorem dX11_hasBatch_4 : decode cX11_hasBatch 4 = .ok (.bipush 15, 2) := by decide +kernel
theorem dX11_hasBatch_6 : decode cX11_hasBatch 6 = .ok (.iaload, 1) := by decide +kernel
theorem dX11_hasBatch_7 : decode cX11_hasBatch 7 = .ok (.ifCond .le 7, 3) := by decide +kernel
theorem dX11_hasBatch_10 : decode cX11_hasBatch 10 = .ok (.iconst 1, 1) := by decide +kernel
theorem dX11_hasBatch_11 : decode cX11_hasBatch 11 = .ok (.goto 4, 3) := by decide +kernel
theorem dX11_hasBatch_14 : decode cX11_hasBatch 14 = .ok (.iconst 0, 1) := by decide +kernel
theorem dX11_hasBatch_15 : decode cX11_hasBatch 15 = .ok (.ireturn, 1) := by decide +kernel
theorem dX11_lot_0 : decode cX11_lot 0 = .ok (.iload_n 1, 1) := by decide +kernel
theorem dX11_lot_1 : decode cX11_lot 1 = .ok (.iconst 0, 1) := by decide +kernel
theorem dX11_lot_2 : decode cX11_lot 2 = .ok (.iconst 3, 1) := by decide +kernel
theorem dX11_lot_3 : decode cX11_lot 3 = .ok (.invokestatic 37, 3) := by decide +kernel
theorem dX11_lot_6 : decode cX11_lot 6 = .ok (.ifCond .eq 14, 3) := by decide +kernel
theorem dX11_lot_9 : decode cX11_lot 9 = .ok (.iload_n 2, 1) := by decide +kernel
theorem dX11_lot_10 : decode cX11_lot 10 = .ok (.iconst 1, 1) := by decide +kernel
theorem dX11_lot_11 : decode cX11_lot 11 = .ok (.sipush 9999, 3) := by decide +kernel
theorem dX11_lot_14 : decode cX11_lot 14 = .ok (.invokestatic 37, 3) := by decide +kernel
theorem dX11_lot_17 : decode cX11_lot 17 = .ok (.ifCond .ne 6, 3) := by decide +kernel
theorem dX11_lot_20 : decode cX11_lot 20 = .ok (.ldc 41, 2) := by decide +kernel
theorem dX11_lot_22 : decode cX11_lot 22 = .ok (.ireturn, 1) := by decide +kernel
theorem dX11_lot_23 : decode cX11_lot 23 = .ok (.aload_n 0, 1) := by decide +kernel
theorem dX11_lot_24 : decode cX11_lot 24 = .ok (.getfield 7, 3) := by decide +kernel
theorem dX11_lot_27 : decode cX11_lot 27 = .ok (.bipush 13, 2) := by decide +kernel
theorem dX11_lot_29 : decode cX11_lot 29 = .ok (.iaload, 1) := by decide +kernel
theorem dX11_lot_30 : decode cX11_lot 30 = .ok (.bipush 6, 2) := by decide +kernel
theorem dX11_lot_32 : decode cX11_lot 32 = .ok (.if_icmp .ne 6, 3) := by decide +kernel
theorem dX11_lot_35 : decode cX11_lot 35 = .ok (.ldc 42, 2) := by decide +kernel
theorem dX11_lot_37 : decode cX11_lot 37 = .ok (.ireturn, 1) := by decide +kernel
theorem dX11_lot_38 : decode cX11_lot 38 = .ok (.aload_n 0, 1) := by decide +kernel
theorem dX11_lot_39 : decode cX11_lot 39 = .ok (.invokevirtual 43, 3) := by decide +kernel
theorem dX11_lot_42 : decode cX11_lot 42 = .ok (.aload_n 0, 1) := by decide +kernel
theorem dX11_lot_43 : decode cX11_lot 43 = .ok (.getfield 7, 3) := by decide +kernel
theorem dX11_lot_46 : decode cX11_lot 46 = .ok (.bipush 69, 2) := by decide +kernel
theorem dX11_lot_48 : decode cX11_lot 48 = .ok (.iconst 2, 1) := by decide +kernel
theorem dX11_lot_49 : decode cX11_lot 49 = .ok (.aload_n 0, 1) := by decide +kernel
theorem dX11_lot_50 : decode cX11_lot 50 = .ok (.getfield 7, 3) := by decide +kernel
theorem dX11_lot_53 : decode cX11_lot 53 = .ok (.bipush 13, 2) := by decide +kernel
theorem dX11_lot_55 : decode cX11_lot 55 = .ok (.iaload, 1) := by decide +kernel
theorem dX11_lot_56 : decode cX11_lot 56 = .ok (.imul, 1) := by decide +kernel
theorem dX11_lot_57 : decode cX11_lot 57 = .ok (.iadd, 1) := by decide +kernel
theorem dX11_lot_58 : decode cX11_lot 58 = .ok (.iload_n 1, 1) := by decide +kernel
theorem dX11_lot_59 : decode cX11_lot 59 = .ok (.iastore, 1) := by decide +kernel
theorem dX11_lot_60 : decode cX11_lot 60 = .ok (.aload_n 0, 1) := by decide +kernel
theorem dX11_lot_61 : decode cX11_lot 61 = .ok (.getfield 7, 3) := by decide +kernel
theorem dX11_lot_64 : decode cX11_lot 64 = .ok (.bipush 69, 2) := by decide +kernel
theorem dX11_lot_66 : decode cX11_lot 66 = .ok (.iconst 2, 1) := by decide +kernel
theorem dX11_lot_67 : decode cX11_lot 67 = .ok (.aload_n 0, 1) := by decide +kernel
theorem dX11_lot_68 : decode cX11_lot 68 = .ok (.getfield 7, 3) := by decide +kernel
theorem dX11_lot_71 : decode cX11_lot 71 = .ok (.bipush 13, 2) := by decide +kernel
theorem dX11_lot_73 : decode cX11_lot 73 = .ok (.iaload, 1) := by decide +kernel
theorem dX11_lot_74 : decode cX11_lot 74 = .ok (.imul, 1) := by decide +kernel
theorem dX11_lot_75 : decode cX11_lot 75 = .ok (.iadd, 1) := by decide +kernel
theorem dX11_lot_76 : decode cX11_lot 76 = .ok (.iconst 1, 1) := by decide +kernel
theorem dX11_lot_77 : decode cX11_lot 77 = .ok (.iadd, 1) := by decide +kernel
theorem dX11_lot_78 : decode cX11_lot 78 = .ok (.iload_n 2, 1) := by decide +kernel
theorem dX11_lot_79 : decode cX11_lot 79 = .ok (.iastore, 1) := by decide +kernel
theorem dX11_lot_80 : decode cX11_lot 80 = .ok (.aload_n 0, 1) := by decide +kernel
theorem dX11_lot_81 : decode cX11_lot 81 = .ok (.getfield 7, 3) := by decide +kernel
theorem dX11_lot_84 : decode cX11_lot 84 = .ok (.bipush 13, 2) := by decide +kernel
theorem dX11_lot_86 : decode cX11_lot 86 = .ok (.dup2, 1) := by decide +kernel
theorem dX11_lot_87 : decode cX11_lot 87 = .ok (.iaload, 1) := by decide +kernel
theorem dX11_lot_88 : decode cX11_lot 88 = .ok (.iconst 1, 1) := by decide +kernel
theorem dX11_lot_89 : decode cX11_lot 89 = .ok (.iadd, 1) := by decide +kernel
theorem dX11_lot_90 : decode cX11_lot 90 = .ok (.iastore, 1) := by decide +kernel
theorem dX11_lot_91 : decode cX11_lot 91 = .ok (.aload_n 0, 1) := by decide +kernel
theorem dX11_lot_92 : decode cX11_lot 92 = .ok (.getfield 7, 3) := by decide +kernel
theorem dX11_lot_95 : decode cX11_lot 95 = .ok (.bipush 9, 2) := by decide +kernel
theorem dX11_lot_97 : decode cX11_lot 97 = .ok (.dup2, 1) := by decide +kernel
theorem dX11_lot_98 : decode cX11_lot 98 = .ok (.iaload, 1) := by decide +kernel
theorem dX11_lot_99 : decode cX11_lot 99 = .ok (.iload_n 2, 1) := by decide +kernel
theorem dX11_lot_100 : decode cX11_lot 100 = .ok (.iadd, 1) := by decide +kernel
theorem dX11_lot_101 : decode cX11_lot 101 = .ok (.iastore, 1) := by decide +kernel
theorem dX11_lot_102 : decode cX11_lot 102 = .ok (.aload_n 0, 1) := by decide +kernel
theorem dX11_lot_103 : decode cX11_lot 103 = .ok (.getfield 7, 3) := by decide +kernel
theorem dX11_lot_106 : decode cX11_lot 106 = .ok (.bipush 13, 2) := by decide +kernel
theorem dX11_lot_108 : decode cX11_lot 108 = .ok (.iaload, 1) := by decide +kernel
theorem dX11_lot_109 : decode cX11_lot 109 = .ok (.ireturn, 1) := by decide +kernel
theorem dX11_gate_0 : decode cX11_gate 0 = .ok (.iload_n 1, 1) := by decide +kernel
theorem dX11_gate_1 : decode cX11_gate 1 = .ok (.iconst 0, 1) := by decide +kernel
theorem dX11_gate_2 : decode cX11_gate 2 = .ok (.sipush 200, 3) := by decide +kernel
theorem dX11_gate_5 : decode cX11_gate 5 = .ok (.invokestatic 37, 3) := by decide +kernel
theorem dX11_gate_8 : decode cX11_gate 8 = .ok (.ifCond .ne 6, 3) := by decide +kernel
theorem dX11_gate_11 : decode cX11_gate 11 = .ok (.ldc 41, 2) := by decide +kernel
theorem dX11_gate_13 : decode cX11_gate 13 = .ok (.ireturn, 1) := by decide +kernel
theorem dX11_gate_14 : decode cX11_gate 14 = .ok (.aload_n 0, 1) := by decide +kernel
theorem dX11_gate_15 : decode cX11_gate 15 = .ok (.invokevirtual 43, 3) := by decide +kernel
theorem dX11_gate_18 : decode cX11_gate 18 = .ok (.aload_n 0, 1) := by decide +kernel
theorem dX11_gate_19 : decode cX11_gate 19 = .ok (.getfield 7, 3) := by decide +kernel
theorem dX11_gate_22 : decode cX11_gate 22 = .ok (.iconst 0, 1) := by decide +kernel
theorem dX11_gate_23 : decode cX11_gate 23 = .ok (.iaload, 1) := by decide +kernel
theorem dX11_gate_24 : decode cX11_gate 24 = .ok (.istore_n 2, 1) := by decide +kernel
theorem dX11_gate_25 : decode cX11_gate 25 = .ok (.aload_n 0, 1) := by decide +kernel
theorem dX11_gate_26 : decode cX11_gate 26 = .ok (.getfield 7, 3) := by decide +kernel
theorem dX11_gate_29 : decode cX11_gate 29 = .ok (.iconst 0, 1) := by decide +kernel
theorem dX11_gate_30 : decode cX11_gate 30 = .ok (.iload_n 1, 1) := by decide +kernel
theorem dX11_gate_31 : decode cX11_gate 31 = .ok (.iastore, 1) := by decide +kernel
theorem dX11_gate_32 : decode cX11_gate 32 = .ok (.iload_n 2, 1) := by decide +kernel
theorem dX11_gate_33 : decode cX11_gate 33 = .ok (.ireturn, 1) := by decide +kernel
theorem dX11_run_0 : decode cX11_run 0 = .ok (.iload_n 1, 1) := by decide +kernel
theorem dX11_run_1 : decode cX11_run 1 = .ok (.iconst 0, 1) := by decide +kernel
theorem dX11_run_2 : decode cX11_run 2 = .ok (.iconst 1, 1) := by decide +kernel
theorem dX11_run_3 : decode cX11_run 3 = .ok (.invokestatic 37, 3) := by decide +kernel
theorem dX11_run_6 : decode cX11_run 6 = .ok (.ifCond .ne 6, 3) := by decide +kernel
theorem dX11_run_9 : decode cX11_run 9 = .ok (.ldc 41, 2) := by decide +kernel
theorem dX11_run_11 : decode cX11_run 11 = .ok (.ireturn, 1) := by decide +kernel
theorem dX11_run_12 : decode cX11_run 12 = .ok (.aload_n 0, 1) := by decide +kernel
theorem dX11_run_13 : decode cX11_run 13 = .ok (.invokevirtual 46, 3) := by decide +kernel
theorem dX11_run_16 : decode cX11_run 16 = .ok (.ifCond .eq 6, 3) := by decide +kernel
theorem dX11_run_19 : decode cX11_run 19 = .ok (.ldc 50, 2) := by decide +kernel
theorem dX11_run_21 : decode cX11_run 21 = .ok (.ireturn, 1) := by decide +kernel
theorem dX11_run_22 : decode cX11_run 22 = .ok (.aload_n 0, 1) := by decide +kernel
theorem dX11_run_23 : decode cX11_run 23 = .ok (.invokevirtual 43, 3) := by decide +kernel
theorem dX11_run_26 : decode cX11_run 26 = .ok (.aload_n 0, 1) := by decide +kernel
theorem dX11_run_27 : decode cX11_run 27 = .ok (.getfield 7, 3) := by decide +kernel
theorem dX11_run_30 : decode cX11_run 30 = .ok (.iconst 1, 1) := by decide +kernel
theorem dX11_run_31 : decode cX11_run 31 = .ok (.iaload, 1) := by decide +kernel
theorem dX11_run_32 : decode cX11_run 32 = .ok (.istore_n 2, 1) := by decide +kernel
theorem dX11_run_33 : decode cX11_run 33 = .ok (.aload_n 0, 1) := by decide +kernel
theorem dX11_run_34 : decode cX11_run 34 = .ok (.getfield 7, 3) := by decide +kernel
theorem dX11_run_37 : decode cX11_run 37 = .ok (.iconst 1, 1) := by decide +kernel
theorem dX11_run_38 : decode cX11_run 38 = .ok (.iload_n 1, 1) := by decide +kernel
theorem dX11_run_39 : decode cX11_run 39 = .ok (.iastore, 1) := by decide +kernel
theorem dX11_run_40 : decode cX11_run 40 = .ok (.iload_n 2, 1) := by decide +kernel
theorem dX11_run_41 : decode cX11_run 41 = .ok (.ireturn, 1) := by decide +kernel
theorem dX11_bin_0 : decode cX11_bin 0 = .ok (.aload_n 0, 1) := by decide +kernel
theorem dX11_bin_1 : decode cX11_bin 1 = .ok (.invokevirtual 46, 3) := by decide +kernel
theorem dX11_bin_4 : decode cX11_bin 4 = .ok (.ifCond .eq 6, 3) := by decide +kernel
theorem dX11_bin_7 : decode cX11_bin 7 = .ok (.ldc 50, 2) := by decide +kernel
theorem dX11_bin_9 : decode cX11_bin 9 = .ok (.ireturn, 1) := by decide +kernel
theorem dX11_bin_10 : decode cX11_bin 10 = .ok (.aload_n 0, 1) := by decide +kernel
theorem dX11_bin_11 : decode cX11_bin 11 = .ok (.getfield 7, 3) := by decide +kernel
theorem dX11_bin_14 : decode cX11_bin 14 = .ok (.bipush 12, 2) := by decide +kernel
theorem dX11_bin_16 : decode cX11_bin 16 = .ok (.iaload, 1) := by decide +kernel
theorem dX11_bin_17 : decode cX11_bin 17 = .ok (.istore_n 1, 1) := by decide +kernel
theorem dX11_bin_18 : decode cX11_bin 18 = .ok (.iload_n 1, 1) := by decide +kernel
theorem dX11_bin_19 : decode cX11_bin 19 = .ok (.bipush 8, 2) := by decide +kernel
theorem dX11_bin_21 : decode cX11_bin 21 = .ok (.if_icmp .ne 6, 3) := by decide +kernel
theorem dX11_bin_24 : decode cX11_bin 24 = .ok (.ldc 42, 2) := by decide +kernel
theorem dX11_bin_26 : decode cX11_bin 26 = .ok (.ireturn, 1) := by decide +kernel
theorem dX11_bin_27 : decode cX11_bin 27 = .ok (.aload_n 0, 1) := by decide +kernel
theorem dX11_bin_28 : decode cX11_bin 28 = .ok (.invokevirtual 43, 3) := by decide +kernel
theorem dX11_bin_31 : decode cX11_bin 31 = .ok (.iconst 0, 1) := by decide +kernel
theorem dX11_bin_32 : decode cX11_bin 32 = .ok (.istore_n 2, 1) := by decide +kernel
theorem dX11_bin_33 : decode cX11_bin 33 = .ok (.iload_n 2, 1) := by decide +kernel
theorem dX11_bin_34 : decode cX11_bin 34 = .ok (.bipush 6, 2) := by decide +kernel
theorem dX11_bin_36 : decode cX11_bin 36 = .ok (.if_icmp .ge 24, 3) := by decide +kernel
theorem dX11_bin_39 : decode cX11_bin 39 = .ok (.aload_n 0, 1) := by decide +kernel
theorem dX11_bin_40 : decode cX11_bin 40 = .ok (.getfield 7, 3) := by decide +kernel
theorem dX11_bin_43 : decode cX11_bin 43 = .ok (.bipush 81, 2) := by decide +kernel
theorem dX11_bin_45 : decode cX11_bin 45 = .ok (.bipush 6, 2) := by decide +kernel
theorem dX11_bin_47 : decode cX11_bin 47 = .ok (.iload_n 1, 1) := by decide +kernel
theorem dX11_bin_48 : decode cX11_bin 48 = .ok (.imul, 1) := by decide +kernel
theorem dX11_bin_49 : decode cX11_bin 49 = .ok (.iadd, 1) := by decide +kernel
theorem dX11_bin_50 : decode cX11_bin 50 = .ok (.iload_n 2, 1) := by decide +kernel
theorem dX11_bin_51 : decode cX11_bin 51 = .ok (.iadd, 1) := by decide +kernel
theorem dX11_bin_52 : decode cX11_bin 52 = .ok (.iconst 0, 1) := by decide +kernel
theorem dX11_bin_53 : decode cX11_bin 53 = .ok (.iastore, 1) := by decide +kernel
theorem dX11_bin_54 : decode cX11_bin 54 = .ok (.iinc 2 1, 3) := by decide +kernel
theorem dX11_bin_57 : decode cX11_bin 57 = .ok (.goto (-24), 3) := by decide +kernel
theorem dX11_bin_60 : decode cX11_bin 60 = .ok (.aload_n 0, 1) := by decide +kernel
theorem dX11_bin_61 : decode cX11_bin 61 = .ok (.getfield 7, 3) := by decide +kernel
theorem dX11_bin_64 : decode cX11_bin 64 = .ok (.bipush 12, 2) := by decide +kernel
theorem dX11_bin_66 : decode cX11_bin 66 = .ok (.dup2, 1) := by decide +kernel
theorem dX11_bin_67 : decode cX11_bin 67 = .ok (.iaload, 1) := by decide +kernel
theorem dX11_bin_68 : decode cX11_bin 68 = .ok (.iconst 1, 1) := by decide +kernel
theorem dX11_bin_69 : decode cX11_bin 69 = .ok (.iadd, 1) := by decide +kernel
theorem dX11_bin_70 : decode cX11_bin 70 = .ok (.iastore, 1) := by decide +kernel
theorem dX11_bin_71 : decode cX11_bin 71 = .ok (.iload_n 1, 1) := by decide +kernel
theorem dX11_bin_72 : decode cX11_bin 72 = .ok (.ireturn, 1) := by decide +kernel
theorem dX11_mass_0 : decode cX11_mass 0 = .ok (.iconst 0, 1) := by decide +kernel
theorem dX11_mass_1 : decode cX11_mass 1 = .ok (.istore_n 3, 1) := by decide +kernel
theorem dX11_mass_2 : decode cX11_mass 2 = .ok (.bipush 21, 2) := by decide +kernel
theorem dX11_mass_4 : decode cX11_mass 4 = .ok (.iconst 4, 1) := by decide +kernel
theorem dX11_mass_5 : decode cX11_mass 5 = .ok (.iload_n 1, 1) := by decide +kernel
theorem dX11_mass_6 : decode cX11_mass 6 = .ok (.imul, 1) := by decide +kernel
theorem dX11_mass_7 : decode cX11_mass 7 = .ok (.iadd, 1) := by decide +kernel
theorem dX11_mass_8 : decode cX11_mass 8 = .ok (.istore 4, 2) := by decide +kernel
theorem dX11_mass_10 : decode cX11_mass 10 = .ok (.iload 4, 2) := by decide +kernel
theorem dX11_mass_12 : decode cX11_mass 12 = .ok (.bipush 21, 2) := by decide +kernel
theorem dX11_mass_14 : decode cX11_mass 14 = .ok (.iconst 4, 1) := by decide +kernel
theorem dX11_mass_15 : decode cX11_mass 15 = .ok (.iload_n 2, 1) := by decide +kernel
theorem dX11_mass_16 : decode cX11_mass 16 = .ok (.imul, 1) := by decide +kernel
theorem dX11_mass_17 : decode cX11_mass 17 = .ok (.iadd, 1) := by decide +kernel
theorem dX11_mass_18 : decode cX11_mass 18 = .ok (.iconst 4, 1) := by decide +kernel
theorem dX11_mass_19 : decode cX11_mass 19 = .ok (.iadd, 1) := by decide +kernel
theorem dX11_mass_20 : decode cX11_mass 20 = .ok (.if_icmp .ge 19, 3) := by decide +kernel
theorem dX11_mass_23 : decode cX11_mass 23 = .ok (.iload_n 3, 1) := by decide +kernel
theorem dX11_mass_24 : decode cX11_mass 24 = .ok (.aload_n 0, 1) := by decide +kernel
theorem dX11_mass_25 : decode cX11_mass 25 = .ok (.getfield 7, 3) := by decide +kernel
theorem dX11_mass_28 : decode cX11_mass 28 = .ok (.iload 4, 2) := by decide +kernel
theorem dX11_mass_30 : decode cX11_mass 30 = .ok (.iaload, 1) := by decide +kernel
theorem dX11_mass_31 : decode cX11_mass 31 = .ok (.iadd, 1) := by decide +kernel
theorem dX11_mass_32 : decode cX11_mass 32 = .ok (.istore_n 3, 1) := by decide +kernel
theorem dX11_mass_33 : decode cX11_mass 33 = .ok (.iinc 4 1, 3) := by decide +kernel
theorem dX11_mass_36 : decode cX11_mass 36 = .ok (.goto (-26), 3) := by decide +kernel
theorem dX11_mass_39 : decode cX11_mass 39 = .ok (.iload_n 3, 1) := by decide +kernel
theorem dX11_mass_40 : decode cX11_mass 40 = .ok (.ireturn, 1) := by decide +kernel
theorem dX11_batch_0 : decode cX11_batch 0 = .ok (.iload_n 1, 1) := by decide +kernel
theorem dX11_batch_1 : decode cX11_batch 1 = .ok (.iconst 1, 1) := by decide +kernel
theorem dX11_batch_2 : decode cX11_batch 2 = .ok (.sipush 9999, 3) := by decide +kernel
theorem dX11_batch_5 : decode cX11_batch 5 = .ok (.invokestatic 37, 3) := by decide +kernel
theorem dX11_batch_8 : decode cX11_batch 8 = .ok (.ifCond .ne 6, 3) := by decide +kernel
theorem dX11_batch_11 : decode cX11_batch 11 = .ok (.ldc 41, 2) := by decide +kernel
theorem dX11_batch_13 : decode cX11_batch 13 = .ok (.ireturn, 1) := by decide +kernel
theorem dX11_batch_14 : decode cX11_batch 14 = .ok (.aload_n 0, 1) := by decide +kernel
theorem dX11_batch_15 : decode cX11_batch 15 = .ok (.invokevirtual 46, 3) := by decide +kernel
theorem dX11_batch_18 : decode cX11_batch 18 = .ok (.ifCond .ne 13, 3) := by decide +kernel
theorem dX11_batch_21 : decode cX11_batch 21 = .ok (.aload_n 0, 1) := by decide +kernel
theorem dX11_batch_22 : decode cX11_batch 22 = .ok (.getfield 7, 3) := by decide +kernel
theorem dX11_batch_25 : decode cX11_batch 25 = .ok (.bipush 12, 2) := by decide +kernel
theorem dX11_batch_27 : decode cX11_batch 27 = .ok (.iaload, 1) := by decide +kernel
theorem dX11_batch_28 : decode cX11_batch 28 = .ok (.ifCond .ne 6, 3) := by decide +kernel
theorem dX11_batch_31 : decode cX11_batch 31 = .ok (.ldc 50, 2) := by decide +kernel
theorem dX11_batch_33 : decode cX11_batch 33 = .ok (.ireturn, 1) := by decide +kernel
theorem dX11_batch_34 : decode cX11_batch 34 = .ok (.aload_n 0, 1) := by decide +kernel
theorem dX11_batch_35 : decode cX11_batch 35 = .ok (.invokevirtual 43, 3) := by decide +kernel
theorem dX11_batch_38 : decode cX11_batch 38 = .ok (.aload_n 0, 1) := by decide +kernel
theorem dX11_batch_39 : decode cX11_batch 39 = .ok (.getfield 7, 3) := by decide +kernel
theorem dX11_batch_42 : decode cX11_batch 42 = .ok (.bipush 15, 2) := by decide +kernel
theorem dX11_batch_44 : decode cX11_batch 44 = .ok (.iload_n 1, 1) := by decide +kernel
theorem dX11_batch_45 : decode cX11_batch 45 = .ok (.iastore, 1) := by decide +kernel
theorem dX11_batch_46 : decode cX11_batch 46 = .ok (.aload_n 0, 1) := by decide +kernel
theorem dX11_batch_47 : decode cX11_batch 47 = .ok (.getfield 7, 3) := by decide +kernel
theorem dX11_batch_50 : decode cX11_batch 50 = .ok (.bipush 16, 2) := by decide +kernel
theorem dX11_batch_52 : decode cX11_batch 52 = .ok (.iconst 0, 1) := by decide +kernel
theorem dX11_batch_53 : decode cX11_batch 53 = .ok (.iastore, 1) := by decide +kernel
theorem dX11_batch_54 : decode cX11_batch 54 = .ok (.aload_n 0, 1) := by decide +kernel
theorem dX11_batch_55 : decode cX11_batch 55 = .ok (.getfield 7, 3) := by decide +kernel
theorem dX11_batch_58 : decode cX11_batch 58 = .ok (.bipush 17, 2) := by decide +kernel
theorem dX11_batch_60 : decode cX11_batch 60 = .ok (.iconst 0, 1) := by decide +kernel
theorem dX11_batch_61 : decode cX11_batch 61 = .ok (.iastore, 1) := by decide +kernel
theorem dX11_batch_62 : decode cX11_batch 62 = .ok (.aload_n 0, 1) := by decide +kernel
theorem dX11_batch_63 : decode cX11_batch 63 = .ok (.getfield 7, 3) := by decide +kernel
theorem dX11_batch_66 : decode cX11_batch 66 = .ok (.iconst 1, 1) := by decide +kernel
theorem dX11_batch_67 : decode cX11_batch 67 = .ok (.iconst 0, 1) := by decide +kernel
theorem dX11_batch_68 : decode cX11_batch 68 = .ok (.iastore, 1) := by decide +kernel
theorem dX11_batch_69 : decode cX11_batch 69 = .ok (.aload_n 0, 1) := by decide +kernel
theorem dX11_batch_70 : decode cX11_batch 70 = .ok (.iconst 0, 1) := by decide +kernel
theorem dX11_batch_71 : decode cX11_batch 71 = .ok (.bipush 11, 2) := by decide +kernel
theorem dX11_batch_73 : decode cX11_batch 73 = .ok (.invokevirtual 51, 3) := by decide +kernel
theorem dX11_batch_76 : decode cX11_batch 76 = .ok (.ireturn, 1) := by decide +kernel
theorem dX11_falls_0 : decode cX11_falls 0 = .ok (.aload_n 0, 1) := by decide +kernel
theorem dX11_falls_1 : decode cX11_falls 1 = .ok (.bipush 11, 2) := by decide +kernel
theorem dX11_falls_3 : decode cX11_falls 3 = .ok (.bipush 11, 2) := by decide +kernel
theorem dX11_falls_5 : decode cX11_falls 5 = .ok (.invokevirtual 51, 3) := by decide +kernel
theorem dX11_falls_8 : decode cX11_falls 8 = .ok (.istore_n 1, 1) := by decide +kernel
theorem dX11_falls_9 : decode cX11_falls 9 = .ok (.aload_n 0, 1) := by decide +kernel
theorem dX11_falls_10 : decode cX11_falls 10 = .ok (.getfield 7, 3) := by decide +kernel
theorem dX11_falls_13 : decode cX11_falls 13 = .ok (.bipush 12, 2) := by decide +kernel
theorem dX11_falls_15 : decode cX11_falls 15 = .ok (.iaload, 1) := by decide +kernel
theorem dX11_falls_16 : decode cX11_falls 16 = .ok (.iconst 1, 1) := by decide +kernel
theorem dX11_falls_17 : decode cX11_falls 17 = .ok (.isub, 1) := by decide +kernel
theorem dX11_falls_18 : decode cX11_falls 18 = .ok (.istore_n 2, 1) := by decide +kernel
theorem dX11_falls_19 : decode cX11_falls 19 = .ok (.aload_n 0, 1) := by decide +kernel
theorem dX11_falls_20 : decode cX11_falls 20 = .ok (.getfield 7, 3) := by decide +kernel
theorem dX11_falls_23 : decode cX11_falls 23 = .ok (.bipush 11, 2) := by decide +kernel
theorem dX11_falls_25 : decode cX11_falls 25 = .ok (.dup2, 1) := by decide +kernel
theorem dX11_falls_26 : decode cX11_falls 26 = .ok (.iaload, 1) := by decide +kernel
theorem dX11_falls_27 : decode cX11_falls 27 = .ok (.iload_n 1, 1) := by decide +kernel
theorem dX11_falls_28 : decode cX11_falls 28 = .ok (.iadd, 1) := by decide +kernel
theorem dX11_falls_29 : decode cX11_falls 29 = .ok (.iastore, 1) := by decide +kernel
theorem dX11_falls_30 : decode cX11_falls 30 = .ok (.aload_n 0, 1) := by decide +kernel
theorem dX11_falls_31 : decode cX11_falls 31 = .ok (.getfield 7, 3) := by decide +kernel
theorem dX11_falls_34 : decode cX11_falls 34 = .ok (.bipush 10, 2) := by decide +kernel
theorem dX11_falls_36 : decode cX11_falls 36 = .ok (.dup2, 1) := by decide +kernel
theorem dX11_falls_37 : decode cX11_falls 37 = .ok (.iaload, 1) := by decide +kernel
theorem dX11_falls_38 : decode cX11_falls 38 = .ok (.iload_n 2, 1) := by decide +kernel
theorem dX11_falls_39 : decode cX11_falls 39 = .ok (.ifCond .ge 7, 3) := by decide +kernel
theorem dX11_falls_42 : decode cX11_falls 42 = .ok (.iload_n 1, 1) := by decide +kernel
theorem dX11_falls_43 : decode cX11_falls 43 = .ok (.goto 4, 3) := by decide +kernel
theorem dX11_falls_46 : decode cX11_falls 46 = .ok (.iconst 0, 1) := by decide +kernel
theorem dX11_falls_47 : decode cX11_falls 47 = .ok (.iadd, 1) := by decide +kernel
theorem dX11_falls_48 : decode cX11_falls 48 = .ok (.iastore, 1) := by decide +kernel
theorem dX11_falls_49 : decode cX11_falls 49 = .ok (.aload_n 0, 1) := by decide +kernel
theorem dX11_falls_50 : decode cX11_falls 50 = .ok (.getfield 7, 3) := by decide +kernel
theorem dX11_falls_53 : decode cX11_falls 53 = .ok (.bipush 17, 2) := by decide +kernel
theorem dX11_falls_55 : decode cX11_falls 55 = .ok (.dup2, 1) := by decide +kernel
theorem dX11_falls_56 : decode cX11_falls 56 = .ok (.iaload, 1) := by decide +kernel
theorem dX11_falls_57 : decode cX11_falls 57 = .ok (.iload_n 2, 1) := by decide +kernel
theorem dX11_falls_58 : decode cX11_falls 58 = .ok (.ifCond .ge 7, 3) := by decide +kernel
theorem dX11_falls_61 : decode cX11_falls 61 = .ok (.iconst 0, 1) := by decide +kernel
theorem dX11_falls_62 : decode cX11_falls 62 = .ok (.goto 4, 3) := by decide +kernel
theorem dX11_falls_65 : decode cX11_falls 65 = .ok (.iload_n 1, 1) := by decide +kernel
theorem dX11_falls_66 : decode cX11_falls 66 = .ok (.iadd, 1) := by decide +kernel
theorem dX11_falls_67 : decode cX11_falls 67 = .ok (.iastore, 1) := by decide +kernel
theorem dX11_falls_68 : decode cX11_falls 68 = .ok (.iconst 0, 1) := by decide +kernel
theorem dX11_falls_69 : decode cX11_falls 69 = .ok (.istore_n 3, 1) := by decide +kernel
theorem dX11_falls_70 : decode cX11_falls 70 = .ok (.iload_n 3, 1) := by decide +kernel
theorem dX11_falls_71 : decode cX11_falls 71 = .ok (.iconst 4, 1) := by decide +kernel
theorem dX11_falls_72 : decode cX11_falls 72 = .ok (.if_icmp .ge 71, 3) := by decide +kernel
theorem dX11_falls_75 : decode cX11_falls 75 = .ok (.iload_n 2, 1) := by decide +kernel
theorem dX11_falls_76 : decode cX11_falls 76 = .ok (.ifCond .lt 67, 3) := by decide +kernel
theorem dX11_falls_79 : decode cX11_falls 79 = .ok (.aload_n 0, 1) := by decide +kernel
theorem dX11_falls_80 : decode cX11_falls 80 = .ok (.getfield 7, 3) := by decide +kernel
theorem dX11_falls_83 : decode cX11_falls 83 = .ok (.bipush 65, 2) := by decide +kernel
theorem dX11_falls_85 : decode cX11_falls 85 = .ok (.iload_n 3, 1) := by decide +kernel
theorem dX11_falls_86 : decode cX11_falls 86 = .ok (.iadd, 1) := by decide +kernel
theorem dX11_falls_87 : decode cX11_falls 87 = .ok (.iaload, 1) := by decide +kernel
theorem dX11_falls_88 : decode cX11_falls 88 = .ok (.istore 4, 2) := by decide +kernel
theorem dX11_falls_90 : decode cX11_falls 90 = .ok (.aload_n 0, 1) := by decide +kernel
theorem dX11_falls_91 : decode cX11_falls 91 = .ok (.getfield 7, 3) := by decide +kernel
theorem dX11_falls_94 : decode cX11_falls 94 = .ok (.bipush 81, 2) := by decide +kernel
theorem dX11_falls_96 : decode cX11_falls 96 = .ok (.bipush 6, 2) := by decide +kernel
theorem dX11_falls_98 : decode cX11_falls 98 = .ok (.iload_n 2, 1) := by decide +kernel
theorem dX11_falls_99 : decode cX11_falls 99 = .ok (.imul, 1) := by decide +kernel
theorem dX11_falls_100 : decode cX11_falls 100 = .ok (.iadd, 1) := by decide +kernel
theorem dX11_falls_101 : decode cX11_falls 101 = .ok (.iload_n 3, 1) := by decide +kernel
theorem dX11_falls_102 : decode cX11_falls 102 = .ok (.iadd, 1) := by decide +kernel
theorem dX11_falls_103 : decode cX11_falls 103 = .ok (.dup2, 1) := by decide +kernel
theorem dX11_falls_104 : decode cX11_falls 104 = .ok (.iaload, 1) := by decide +kernel
theorem dX11_falls_105 : decode cX11_falls 105 = .ok (.iload 4, 2) := by decide +kernel
theorem dX11_falls_107 : decode cX11_falls 107 = .ok (.iadd, 1) := by decide +kernel
theorem dX11_falls_108 : decode cX11_falls 108 = .ok (.iastore, 1) := by decide +kernel
theorem dX11_falls_109 : decode cX11_falls 109 = .ok (.aload_n 0, 1) := by decide +kernel
theorem dX11_falls_110 : decode cX11_falls 110 = .ok (.getfield 7, 3) := by decide +kernel
theorem dX11_falls_113 : decode cX11_falls 113 = .ok (.sipush 129, 3) := by decide +kernel
theorem dX11_falls_116 : decode cX11_falls 116 = .ok (.iconst 2, 1) := by decide +kernel
theorem dX11_falls_117 : decode cX11_falls 117 = .ok (.aload_n 0, 1) := by decide +kernel
theorem dX11_falls_118 : decode cX11_falls 118 = .ok (.getfield 7, 3) := by decide +kernel
theorem dX11_falls_121 : decode cX11_falls 121 = .ok (.sipush 145, 3) := by decide +kernel
theorem dX11_falls_124 : decode cX11_falls 124 = .ok (.iload_n 3, 1) := by decide +kernel
theorem dX11_falls_125 : decode cX11_falls 125 = .ok (.iadd, 1) := by decide +kernel
theorem dX11_falls_126 : decode cX11_falls 126 = .ok (.iaload, 1) := by decide +kernel
theorem dX11_falls_127 : decode cX11_falls 127 = .ok (.imul, 1) := by decide +kernel
theorem dX11_falls_128 : decode cX11_falls 128 = .ok (.iadd, 1) := by decide +kernel
theorem dX11_falls_129 : decode cX11_falls 129 = .ok (.iconst 1, 1) := by decide +kernel
theorem dX11_falls_130 : decode cX11_falls 130 = .ok (.iadd, 1) := by decide +kernel
theorem dX11_falls_131 : decode cX11_falls 131 = .ok (.dup2, 1) := by decide +kernel
theorem dX11_falls_132 : decode cX11_falls 132 = .ok (.iaload, 1) := by decide +kernel
theorem dX11_falls_133 : decode cX11_falls 133 = .ok (.iload 4, 2) := by decide +kernel
theorem dX11_falls_135 : decode cX11_falls 135 = .ok (.iadd, 1) := by decide +kernel
theorem dX11_falls_136 : decode cX11_falls 136 = .ok (.iastore, 1) := by decide +kernel
theorem dX11_falls_137 : decode cX11_falls 137 = .ok (.iinc 3 1, 3) := by decide +kernel
theorem dX11_falls_140 : decode cX11_falls 140 = .ok (.goto (-70), 3) := by decide +kernel
theorem dX11_falls_143 : decode cX11_falls 143 = .ok (.iload_n 2, 1) := by decide +kernel
theorem dX11_falls_144 : decode cX11_falls 144 = .ok (.ifCond .lt 25, 3) := by decide +kernel
theorem dX11_falls_147 : decode cX11_falls 147 = .ok (.iload_n 1, 1) := by decide +kernel
theorem dX11_falls_148 : decode cX11_falls 148 = .ok (.ifCond .le 21, 3) := by decide +kernel
theorem dX11_falls_151 : decode cX11_falls 151 = .ok (.aload_n 0, 1) := by decide +kernel
theorem dX11_falls_152 : decode cX11_falls 152 = .ok (.getfield 7, 3) := by decide +kernel
theorem dX11_falls_155 : decode cX11_falls 155 = .ok (.bipush 81, 2) := by decide +kernel
theorem dX11_falls_157 : decode cX11_falls 157 = .ok (.bipush 6, 2) := by decide +kernel
theorem dX11_falls_159 : decode cX11_falls 159 = .ok (.iload_n 2, 1) := by decide +kernel
theorem dX11_falls_160 : decode cX11_falls 160 = .ok (.imul, 1) := by decide +kernel
theorem dX11_falls_161 : decode cX11_falls 161 = .ok (.iadd, 1) := by decide +kernel
theorem dX11_falls_162 : decode cX11_falls 162 = .ok (.iconst 5, 1) := by decide +kernel
theorem dX11_falls_163 : decode cX11_falls 163 = .ok (.iadd, 1) := by decide +kernel
theorem dX11_falls_164 : decode cX11_falls 164 = .ok (.dup2, 1) := by decide +kernel
theorem dX11_falls_165 : decode cX11_falls 165 = .ok (.iaload, 1) := by decide +kernel
theorem dX11_falls_166 : decode cX11_falls 166 = .ok (.iconst 1, 1) := by decide +kernel
theorem dX11_falls_167 : decode cX11_falls 167 = .ok (.iadd, 1) := by decide +kernel
theorem dX11_falls_168 : decode cX11_falls 168 = .ok (.iastore, 1) := by decide +kernel
theorem dX11_falls_169 : decode cX11_falls 169 = .ok (.return_, 1) := by decide +kernel
theorem dX11_feeds_0 : decode cX11_feeds 0 = .ok (.aload_n 0, 1) := by decide +kernel
theorem dX11_feeds_1 : decode cX11_feeds 1 = .ok (.getfield 7, 3) := by decide +kernel
theorem dX11_feeds_4 : decode cX11_feeds 4 = .ok (.iconst 0, 1) := by decide +kernel
theorem dX11_feeds_5 : decode cX11_feeds 5 = .ok (.iaload, 1) := by decide +kernel
theorem dX11_feeds_6 : decode cX11_feeds 6 = .ok (.istore_n 1, 1) := by decide +kernel
theorem dX11_feeds_7 : decode cX11_feeds 7 = .ok (.iload_n 1, 1) := by decide +kernel
theorem dX11_feeds_8 : decode cX11_feeds 8 = .ok (.ifCond .le 135, 3) := by decide +kernel
theorem dX11_feeds_11 : decode cX11_feeds 11 = .ok (.aload_n 0, 1) := by decide +kernel
theorem dX11_feeds_12 : decode cX11_feeds 12 = .ok (.getfield 7, 3) := by decide +kernel
theorem dX11_feeds_15 : decode cX11_feeds 15 = .ok (.bipush 13, 2) := by decide +kernel
theorem dX11_feeds_17 : decode cX11_feeds 17 = .ok (.iaload, 1) := by decide +kernel
theorem dX11_feeds_18 : decode cX11_feeds 18 = .ok (.ifCond .le 125, 3) := by decide +kernel
theorem dX11_feeds_21 : decode cX11_feeds 21 = .ok (.aload_n 0, 1) := by decide +kernel
theorem dX11_feeds_22 : decode cX11_feeds 22 = .ok (.getfield 7, 3) := by decide +kernel
theorem dX11_feeds_25 : decode cX11_feeds 25 = .ok (.bipush 70, 2) := by decide +kernel
theorem dX11_feeds_27 : decode cX11_feeds 27 = .ok (.iaload, 1) := by decide +kernel
theorem dX11_feeds_28 : decode cX11_feeds 28 = .ok (.iload_n 1, 1) := by decide +kernel
theorem dX11_feeds_29 : decode cX11_feeds 29 = .ok (.if_icmp .ge 13, 3) := by decide +kernel
theorem dX11_feeds_32 : decode cX11_feeds 32 = .ok (.aload_n 0, 1) := by decide +kernel
theorem dX11_feeds_33 : decode cX11_feeds 33 = .ok (.getfield 7, 3) := by decide +kernel
theorem dX11_feeds_36 : decode cX11_feeds 36 = .ok (.bipush 70, 2) := by decide +kernel
theorem dX11_feeds_38 : decode cX11_feeds 38 = .ok (.iaload, 1) := by decide +kernel
theorem dX11_feeds_39 : decode cX11_feeds 39 = .ok (.goto 4, 3) := by decide +kernel
theorem dX11_feeds_42 : decode cX11_feeds 42 = .ok (.iload_n 1, 1) := by decide +kernel
theorem dX11_feeds_43 : decode cX11_feeds 43 = .ok (.istore_n 2, 1) := by decide +kernel
theorem dX11_feeds_44 : decode cX11_feeds 44 = .ok (.aload_n 0, 1) := by decide +kernel
theorem dX11_feeds_45 : decode cX11_feeds 45 = .ok (.getfield 7, 3) := by decide +kernel
theorem dX11_feeds_48 : decode cX11_feeds 48 = .ok (.bipush 21, 2) := by decide +kernel
theorem dX11_feeds_50 : decode cX11_feeds 50 = .ok (.aload_n 0, 1) := by decide +kernel
theorem dX11_feeds_51 : decode cX11_feeds 51 = .ok (.getfield 7, 3) := by decide +kernel
theorem dX11_feeds_54 : decode cX11_feeds 54 = .ok (.bipush 69, 2) := by decide +kernel
theorem dX11_feeds_56 : decode cX11_feeds 56 = .ok (.iaload, 1) := by decide +kernel
theorem dX11_feeds_57 : decode cX11_feeds 57 = .ok (.iadd, 1) := by decide +kernel
theorem dX11_feeds_58 : decode cX11_feeds 58 = .ok (.dup2, 1) := by decide +kernel
theorem dX11_feeds_59 : decode cX11_feeds 59 = .ok (.iaload, 1) := by decide +kernel
theorem dX11_feeds_60 : decode cX11_feeds 60 = .ok (.iload_n 2, 1) := by decide +kernel
theorem dX11_feeds_61 : decode cX11_feeds 61 = .ok (.iadd, 1) := by decide +kernel
theorem dX11_feeds_62 : decode cX11_feeds 62 = .ok (.iastore, 1) := by decide +kernel
theorem dX11_feeds_63 : decode cX11_feeds 63 = .ok (.aload_n 0, 1) := by decide +kernel
theorem dX11_feeds_64 : decode cX11_feeds 64 = .ok (.getfield 7, 3) := by decide +kernel
theorem dX11_feeds_67 : decode cX11_feeds 67 = .ok (.bipush 70, 2) := by decide +kernel
theorem dX11_feeds_69 : decode cX11_feeds 69 = .ok (.dup2, 1) := by decide +kernel
theorem dX11_feeds_70 : decode cX11_feeds 70 = .ok (.iaload, 1) := by decide +kernel
theorem dX11_feeds_71 : decode cX11_feeds 71 = .ok (.iload_n 2, 1) := by decide +kernel
theorem dX11_feeds_72 : decode cX11_feeds 72 = .ok (.isub, 1) := by decide +kernel
theorem dX11_feeds_73 : decode cX11_feeds 73 = .ok (.iastore, 1) := by decide +kernel
theorem dX11_feeds_74 : decode cX11_feeds 74 = .ok (.iload_n 1, 1) := by decide +kernel
theorem dX11_feeds_75 : decode cX11_feeds 75 = .ok (.iload_n 2, 1) := by decide +kernel
theorem dX11_feeds_76 : decode cX11_feeds 76 = .ok (.isub, 1) := by decide +kernel
theorem dX11_feeds_77 : decode cX11_feeds 77 = .ok (.istore_n 1, 1) := by decide +kernel
theorem dX11_feeds_78 : decode cX11_feeds 78 = .ok (.aload_n 0, 1) := by decide +kernel
theorem dX11_feeds_79 : decode cX11_feeds 79 = .ok (.getfield 7, 3) := by decide +kernel
theorem dX11_feeds_82 : decode cX11_feeds 82 = .ok (.bipush 70, 2) := by decide +kernel
theorem dX11_feeds_84 : decode cX11_feeds 84 = .ok (.iaload, 1) := by decide +kernel
theorem dX11_feeds_85 : decode cX11_feeds 85 = .ok (.ifCond .ne 55, 3) := by decide +kernel
theorem dX11_feeds_88 : decode cX11_feeds 88 = .ok (.aload_n 0, 1) := by decide +kernel
theorem dX11_feeds_89 : decode cX11_feeds 89 = .ok (.getfield 7, 3) := by decide +kernel
theorem dX11_feeds_92 : decode cX11_feeds 92 = .ok (.bipush 13, 2) := by decide +kernel
theorem dX11_feeds_94 : decode cX11_feeds 94 = .ok (.dup2, 1) := by decide +kernel
theorem dX11_feeds_95 : decode cX11_feeds 95 = .ok (.iaload, 1) := by decide +kernel
theorem dX11_feeds_96 : decode cX11_feeds 96 = .ok (.iconst 1, 1) := by decide +kernel
theorem dX11_feeds_97 : decode cX11_feeds 97 = .ok (.isub, 1) := by decide +kernel
theorem dX11_feeds_98 : decode cX11_feeds 98 = .ok (.iastore, 1) := by decide +kernel
theorem dX11_feeds_99 : decode cX11_feeds 99 = .ok (.iconst 0, 1) := by decide +kernel
theorem dX11_feeds_100 : decode cX11_feeds 100 = .ok (.istore_n 3, 1) := by decide +kernel
theorem dX11_feeds_101 : decode cX11_feeds 101 = .ok (.iload_n 3, 1) := by decide +kernel
theorem dX11_feeds_102 : decode cX11_feeds 102 = .ok (.iconst 2, 1) := by decide +kernel
theorem dX11_feeds_103 : decode cX11_feeds 103 = .ok (.aload_n 0, 1) := by decide +kernel
theorem dX11_feeds_104 : decode cX11_feeds 104 = .ok (.getfield 7, 3) := by decide +kernel
theorem dX11_feeds_107 : decode cX11_feeds 107 = .ok (.bipush 13, 2) := by decide +kernel
theorem dX11_feeds_109 : decode cX11_feeds 109 = .ok (.iaload, 1) := by decide +kernel
theorem dX11_feeds_110 : decode cX11_feeds 110 = .ok (.imul, 1) := by decide +kernel
theorem dX11_feeds_111 : decode cX11_feeds 111 = .ok (.if_icmp .ge 29, 3) := by decide +kernel
theorem dX11_feeds_114 : decode cX11_feeds 114 = .ok (.aload_n 0, 1) := by decide +kernel
theorem dX11_feeds_115 : decode cX11_feeds 115 = .ok (.getfield 7, 3) := by decide +kernel
theorem dX11_feeds_118 : decode cX11_feeds 118 = .ok (.bipush 69, 2) := by decide +kernel
theorem dX11_feeds_120 : decode cX11_feeds 120 = .ok (.iload_n 3, 1) := by decide +kernel
theorem dX11_feeds_121 : decode cX11_feeds 121 = .ok (.iadd, 1) := by decide +kernel
theorem dX11_feeds_122 : decode cX11_feeds 122 = .ok (.aload_n 0, 1) := by decide +kernel
theorem dX11_feeds_123 : decode cX11_feeds 123 = .ok (.getfield 7, 3) := by decide +kernel
theorem dX11_feeds_126 : decode cX11_feeds 126 = .ok (.bipush 69, 2) := by decide +kernel
theorem dX11_feeds_128 : decode cX11_feeds 128 = .ok (.iload_n 3, 1) := by decide +kernel
theorem dX11_feeds_129 : decode cX11_feeds 129 = .ok (.iadd, 1) := by decide +kernel
theorem dX11_feeds_130 : decode cX11_feeds 130 = .ok (.iconst 2, 1) := by decide +kernel
theorem dX11_feeds_131 : decode cX11_feeds 131 = .ok (.iadd, 1) := by decide +kernel
theorem dX11_feeds_132 : decode cX11_feeds 132 = .ok (.iaload, 1) := by decide +kernel
theorem dX11_feeds_133 : decode cX11_feeds 133 = .ok (.iastore, 1) := by decide +kernel
theorem dX11_feeds_134 : decode cX11_feeds 134 = .ok (.iinc 3 1, 3) := by decide +kernel
theorem dX11_feeds_137 : decode cX11_feeds 137 = .ok (.goto (-36), 3) := by decide +kernel
theorem dX11_feeds_140 : decode cX11_feeds 140 = .ok (.goto (-133), 3) := by decide +kernel
theorem dX11_feeds_143 : decode cX11_feeds 143 = .ok (.aload_n 0, 1) := by decide +kernel
theorem dX11_feeds_144 : decode cX11_feeds 144 = .ok (.iconst 0, 1) := by decide +kernel
theorem dX11_feeds_145 : decode cX11_feeds 145 = .ok (.iconst 0, 1) := by decide +kernel
theorem dX11_feeds_146 : decode cX11_feeds 146 = .ok (.invokevirtual 51, 3) := by decide +kernel
theorem dX11_feeds_149 : decode cX11_feeds 149 = .ok (.aload_n 0, 1) := by decide +kernel
theorem dX11_feeds_150 : decode cX11_feeds 150 = .ok (.getfield 7, 3) := by decide +kernel
theorem dX11_feeds_153 : decode cX11_feeds 153 = .ok (.bipush 18, 2) := by decide +kernel
theorem dX11_feeds_155 : decode cX11_feeds 155 = .ok (.iaload, 1) := by decide +kernel
theorem dX11_feeds_156 : decode cX11_feeds 156 = .ok (.isub, 1) := by decide +kernel
theorem dX11_feeds_157 : decode cX11_feeds 157 = .ok (.istore_n 2, 1) := by decide +kernel
theorem dX11_feeds_158 : decode cX11_feeds 158 = .ok (.iconst 3, 1) := by decide +kernel
theorem dX11_feeds_159 : decode cX11_feeds 159 = .ok (.istore_n 3, 1) := by decide +kernel
theorem dX11_feeds_160 : decode cX11_feeds 160 = .ok (.iload_n 3, 1) := by decide +kernel
theorem dX11_feeds_161 : decode cX11_feeds 161 = .ok (.ifCond .lt 72, 3) := by decide +kernel
theorem dX11_feeds_164 : decode cX11_feeds 164 = .ok (.iload_n 2, 1) := by decide +kernel
theorem dX11_feeds_165 : decode cX11_feeds 165 = .ok (.ifCond .le 68, 3) := by decide +kernel
theorem dX11_feeds_168 : decode cX11_feeds 168 = .ok (.aload_n 0, 1) := by decide +kernel
theorem dX11_feeds_169 : decode cX11_feeds 169 = .ok (.getfield 7, 3) := by decide +kernel
theorem dX11_feeds_172 : decode cX11_feeds 172 = .ok (.bipush 21, 2) := by decide +kernel
theorem dX11_feeds_174 : decode cX11_feeds 174 = .ok (.iload_n 3, 1) := by decide +kernel
theorem dX11_feeds_175 : decode cX11_feeds 175 = .ok (.iadd, 1) := by decide +kernel
theorem dX11_feeds_176 : decode cX11_feeds 176 = .ok (.iaload, 1) := by decide +kernel
theorem dX11_feeds_177 : decode cX11_feeds 177 = .ok (.iload_n 2, 1) := by decide +kernel
theorem dX11_feeds_178 : decode cX11_feeds 178 = .ok (.if_icmp .ge 15, 3) := by decide +kernel
theorem dX11_feeds_181 : decode cX11_feeds 181 = .ok (.aload_n 0, 1) := by decide +kernel
theorem dX11_feeds_182 : decode cX11_feeds 182 = .ok (.getfield 7, 3) := by decide +kernel
theorem dX11_feeds_185 : decode cX11_feeds 185 = .ok (.bipush 21, 2) := by decide +kernel
theorem dX11_feeds_187 : decode cX11_feeds 187 = .ok (.iload_n 3, 1) := by decide +kernel
theorem dX11_feeds_188 : decode cX11_feeds 188 = .ok (.iadd, 1) := by decide +kernel
theorem dX11_feeds_189 : decode cX11_feeds 189 = .ok (.iaload, 1) := by decide +kernel
theorem dX11_feeds_190 : decode cX11_feeds 190 = .ok (.goto 4, 3) := by decide +kernel
theorem dX11_feeds_193 : decode cX11_feeds 193 = .ok (.iload_n 2, 1) := by decide +kernel
theorem dX11_feeds_194 : decode cX11_feeds 194 = .ok (.istore 4, 2) := by decide +kernel
theorem dX11_feeds_196 : decode cX11_feeds 196 = .ok (.aload_n 0, 1) := by decide +kernel
theorem dX11_feeds_197 : decode cX11_feeds 197 = .ok (.getfield 7, 3) := by decide +kernel
theorem dX11_feeds_200 : decode cX11_feeds 200 = .ok (.bipush 21, 2) := by decide +kernel
theorem dX11_feeds_202 : decode cX11_feeds 202 = .ok (.iload_n 3, 1) := by decide +kernel
theorem dX11_feeds_203 : decode cX11_feeds 203 = .ok (.iadd, 1) := by decide +kernel
theorem dX11_feeds_204 : decode cX11_feeds 204 = .ok (.dup2, 1) := by decide +kernel
theorem dX11_feeds_205 : decode cX11_feeds 205 = .ok (.iaload, 1) := by decide +kernel
theorem dX11_feeds_206 : decode cX11_feeds 206 = .ok (.iload 4, 2) := by decide +kernel
theorem dX11_feeds_208 : decode cX11_feeds 208 = .ok (.isub, 1) := by decide +kernel
theorem dX11_feeds_209 : decode cX11_feeds 209 = .ok (.iastore, 1) := by decide +kernel
theorem dX11_feeds_210 : decode cX11_feeds 210 = .ok (.aload_n 0, 1) := by decide +kernel
theorem dX11_feeds_211 : decode cX11_feeds 211 = .ok (.getfield 7, 3) := by decide +kernel
theorem dX11_feeds_214 : decode cX11_feeds 214 = .ok (.bipush 10, 2) := by decide +kernel
theorem dX11_feeds_216 : decode cX11_feeds 216 = .ok (.dup2, 1) := by decide +kernel
theorem dX11_feeds_217 : decode cX11_feeds 217 = .ok (.iaload, 1) := by decide +kernel
theorem dX11_feeds_218 : decode cX11_feeds 218 = .ok (.iload 4, 2) := by decide +kernel
theorem dX11_feeds_220 : decode cX11_feeds 220 = .ok (.iadd, 1) := by decide +kernel
theorem dX11_feeds_221 : decode cX11_feeds 221 = .ok (.iastore, 1) := by decide +kernel
theorem dX11_feeds_222 : decode cX11_feeds 222 = .ok (.iload_n 2, 1) := by decide +kernel
theorem dX11_feeds_223 : decode cX11_feeds 223 = .ok (.iload 4, 2) := by decide +kernel
theorem dX11_feeds_225 : decode cX11_feeds 225 = .ok (.isub, 1) := by decide +kernel
theorem dX11_feeds_226 : decode cX11_feeds 226 = .ok (.istore_n 2, 1) := by decide +kernel
theorem dX11_feeds_227 : decode cX11_feeds 227 = .ok (.iinc 3 (-1), 3) := by decide +kernel
theorem dX11_feeds_230 : decode cX11_feeds 230 = .ok (.goto (-70), 3) := by decide +kernel
theorem dX11_feeds_233 : decode cX11_feeds 233 = .ok (.return_, 1) := by decide +kernel
theorem dX11_reading_0 : decode cX11_reading 0 = .ok (.aload_n 0, 1) := by decide +kernel
theorem dX11_reading_1 : decode cX11_reading 1 = .ok (.iconst 4, 1) := by decide +kernel
theorem dX11_reading_2 : decode cX11_reading 2 = .ok (.bipush 7, 2) := by decide +kernel
theorem dX11_reading_4 : decode cX11_reading 4 = .ok (.invokevirtual 51, 3) := by decide +kernel
theorem dX11_reading_7 : decode cX11_reading 7 = .ok (.aload_n 0, 1) := by decide +kernel
theorem dX11_reading_8 : decode cX11_reading 8 = .ok (.getfield 7, 3) := by decide +kernel
theorem dX11_reading_11 : decode cX11_reading 11 = .ok (.iconst 3, 1) := by decide +kernel
theorem dX11_reading_12 : decode cX11_reading 12 = .ok (.iaload, 1) := by decide +kernel
theorem dX11_reading_13 : decode cX11_reading 13 = .ok (.iadd, 1) := by decide +kernel
theorem dX11_reading_14 : decode cX11_reading 14 = .ok (.aload_n 0, 1) := by decide +kernel
theorem dX11_reading_15 : decode cX11_reading 15 = .ok (.getfield 7, 3) := by decide +kernel
theorem dX11_reading_18 : decode cX11_reading 18 = .ok (.iconst 4, 1) := by decide +kernel
theorem dX11_reading_19 : decode cX11_reading 19 = .ok (.iaload, 1) := by decide +kernel
theorem dX11_reading_20 : decode cX11_reading 20 = .ok (.isub, 1) := by decide +kernel
theorem dX11_reading_21 : decode cX11_reading 21 = .ok (.ireturn, 1) := by decide +kernel
theorem dX11_reads_0 : decode cX11_reads 0 = .ok (.aload_n 0, 1) := by decide +kernel
theorem dX11_reads_1 : decode cX11_reads 1 = .ok (.invokevirtual 55, 3) := by decide +kernel
theorem dX11_reads_4 : decode cX11_reads 4 = .ok (.aload_n 0, 1) := by decide +kernel
theorem dX11_reads_5 : decode cX11_reads 5 = .ok (.getfield 7, 3) := by decide +kernel
theorem dX11_reads_8 : decode cX11_reads 8 = .ok (.bipush 6, 2) := by decide +kernel
theorem dX11_reads_10 : decode cX11_reads 10 = .ok (.iaload, 1) := by decide +kernel
theorem dX11_reads_11 : decode cX11_reads 11 = .ok (.iadd, 1) := by decide +kernel
theorem dX11_reads_12 : decode cX11_reads 12 = .ok (.istore_n 1, 1) := by decide +kernel
theorem dX11_reads_13 : decode cX11_reads 13 = .ok (.aload_n 0, 1) := by decide +kernel
theorem dX11_reads_14 : decode cX11_reads 14 = .ok (.getfield 7, 3) := by decide +kernel
theorem dX11_reads_17 : decode cX11_reads 17 = .ok (.iconst 5, 1) := by decide +kernel
theorem dX11_reads_18 : decode cX11_reads 18 = .ok (.dup2, 1) := by decide +kernel
theorem dX11_reads_19 : decode cX11_reads 19 = .ok (.iaload, 1) := by decide +kernel
theorem dX11_reads_20 : decode cX11_reads 20 = .ok (.iload_n 1, 1) := by decide +kernel
theorem dX11_reads_21 : decode cX11_reads 21 = .ok (.iconst 4, 1) := by decide +kernel
theorem dX11_reads_22 : decode cX11_reads 22 = .ok (.idiv, 1) := by decide +kernel
theorem dX11_reads_23 : decode cX11_reads 23 = .ok (.iadd, 1) := by decide +kernel
theorem dX11_reads_24 : decode cX11_reads 24 = .ok (.iastore, 1) := by decide +kernel
theorem dX11_reads_25 : decode cX11_reads 25 = .ok (.aload_n 0, 1) := by decide +kernel
theorem dX11_reads_26 : decode cX11_reads 26 = .ok (.getfield 7, 3) := by decide +kernel
theorem dX11_reads_29 : decode cX11_reads 29 = .ok (.bipush 6, 2) := by decide +kernel
theorem dX11_reads_31 : decode cX11_reads 31 = .ok (.iload_n 1, 1) := by decide +kernel
theorem dX11_reads_32 : decode cX11_reads 32 = .ok (.iconst 4, 1) := by decide +kernel
theorem dX11_reads_33 : decode cX11_reads 33 = .ok (.irem, 1) := by decide +kernel
theorem dX11_reads_34 : decode cX11_reads 34 = .ok (.iastore, 1) := by decide +kernel
theorem dX11_reads_35 : decode cX11_reads 35 = .ok (.aload_n 0, 1) := by decide +kernel
theorem dX11_reads_36 : decode cX11_reads 36 = .ok (.getfield 7, 3) := by decide +kernel
theorem dX11_reads_39 : decode cX11_reads 39 = .ok (.bipush 12, 2) := by decide +kernel
theorem dX11_reads_41 : decode cX11_reads 41 = .ok (.iaload, 1) := by decide +kernel
theorem dX11_reads_42 : decode cX11_reads 42 = .ok (.ifCond .le 31, 3) := by decide +kernel
theorem dX11_reads_45 : decode cX11_reads 45 = .ok (.aload_n 0, 1) := by decide +kernel
theorem dX11_reads_46 : decode cX11_reads 46 = .ok (.getfield 7, 3) := by decide +kernel
theorem dX11_reads_49 : decode cX11_reads 49 = .ok (.bipush 81, 2) := by decide +kernel
theorem dX11_reads_51 : decode cX11_reads 51 = .ok (.bipush 6, 2) := by decide +kernel
theorem dX11_reads_53 : decode cX11_reads 53 = .ok (.aload_n 0, 1) := by decide +kernel
theorem dX11_reads_54 : decode cX11_reads 54 = .ok (.getfield 7, 3) := by decide +kernel
theorem dX11_reads_57 : decode cX11_reads 57 = .ok (.bipush 12, 2) := by decide +kernel
theorem dX11_reads_59 : decode cX11_reads 59 = .ok (.iaload, 1) := by decide +kernel
theorem dX11_reads_60 : decode cX11_reads 60 = .ok (.iconst 1, 1) := by decide +kernel
theorem dX11_reads_61 : decode cX11_reads 61 = .ok (.isub, 1) := by decide +kernel
theorem dX11_reads_62 : decode cX11_reads 62 = .ok (.imul, 1) := by decide +kernel
theorem dX11_reads_63 : decode cX11_reads 63 = .ok (.iadd, 1) := by decide +kernel
theorem dX11_reads_64 : decode cX11_reads 64 = .ok (.iconst 4, 1) := by decide +kernel
theorem dX11_reads_65 : decode cX11_reads 65 = .ok (.iadd, 1) := by decide +kernel
theorem dX11_reads_66 : decode cX11_reads 66 = .ok (.dup2, 1) := by decide +kernel
theorem dX11_reads_67 : decode cX11_reads 67 = .ok (.iaload, 1) := by decide +kernel
theorem dX11_reads_68 : decode cX11_reads 68 = .ok (.iload_n 1, 1) := by decide +kernel
theorem dX11_reads_69 : decode cX11_reads 69 = .ok (.iconst 4, 1) := by decide +kernel
theorem dX11_reads_70 : decode cX11_reads 70 = .ok (.idiv, 1) := by decide +kernel
theorem dX11_reads_71 : decode cX11_reads 71 = .ok (.iadd, 1) := by decide +kernel
theorem dX11_reads_72 : decode cX11_reads 72 = .ok (.iastore, 1) := by decide +kernel
theorem dX11_reads_73 : decode cX11_reads 73 = .ok (.return_, 1) := by decide +kernel
theorem dX11_goes_0 : decode cX11_goes 0 = .ok (.aload_n 0, 1) := by decide +kernel
theorem dX11_goes_1 : decode cX11_goes 1 = .ok (.invokevirtual 59, 3) := by decide +kernel
theorem dX11_goes_4 : decode cX11_goes 4 = .ok (.bipush 68, 2) := by decide +kernel
theorem dX11_goes_6 : decode cX11_goes 6 = .ok (.istore_n 1, 1) := by decide +kernel
theorem dX11_goes_7 : decode cX11_goes 7 = .ok (.iload_n 1, 1) := by decide +kernel
theorem dX11_goes_8 : decode cX11_goes 8 = .ok (.bipush 25, 2) := by decide +kernel
theorem dX11_goes_10 : decode cX11_goes 10 = .ok (.if_icmp .lt 23, 3) := by decide +kernel
theorem dX11_goes_13 : decode cX11_goes 13 = .ok (.aload_n 0, 1) := by decide +kernel
theorem dX11_goes_14 : decode cX11_goes 14 = .ok (.getfield 7, 3) := by decide +kernel
theorem dX11_goes_17 : decode cX11_goes 17 = .ok (.iload_n 1, 1) := by decide +kernel
theorem dX11_goes_18 : decode cX11_goes 18 = .ok (.aload_n 0, 1) := by decide +kernel
theorem dX11_goes_19 : decode cX11_goes 19 = .ok (.getfield 7, 3) := by decide +kernel
theorem dX11_goes_22 : decode cX11_goes 22 = .ok (.iload_n 1, 1) := by decide +kernel
theorem dX11_goes_23 : decode cX11_goes 23 = .ok (.iconst 4, 1) := by decide +kernel
theorem dX11_goes_24 : decode cX11_goes 24 = .ok (.isub, 1) := by decide +kernel
theorem dX11_goes_25 : decode cX11_goes 25 = .ok (.iaload, 1) := by decide +kernel
theorem dX11_goes_26 : decode cX11_goes 26 = .ok (.iastore, 1) := by decide +kernel
theorem dX11_goes_27 : decode cX11_goes 27 = .ok (.iinc 1 (-1), 3) := by decide +kernel
theorem dX11_goes_30 : decode cX11_goes 30 = .ok (.goto (-23), 3) := by decide +kernel
theorem dX11_goes_33 : decode cX11_goes 33 = .ok (.iconst 0, 1) := by decide +kernel
theorem dX11_goes_34 : decode cX11_goes 34 = .ok (.istore_n 1, 1) := by decide +kernel
theorem dX11_goes_35 : decode cX11_goes 35 = .ok (.iload_n 1, 1) := by decide +kernel
theorem dX11_goes_36 : decode cX11_goes 36 = .ok (.iconst 4, 1) := by decide +kernel
theorem dX11_goes_37 : decode cX11_goes 37 = .ok (.if_icmp .ge 19, 3) := by decide +kernel
theorem dX11_goes_40 : decode cX11_goes 40 = .ok (.aload_n 0, 1) := by decide +kernel
theorem dX11_goes_41 : decode cX11_goes 41 = .ok (.getfield 7, 3) := by decide +kernel
theorem dX11_goes_44 : decode cX11_goes 44 = .ok (.bipush 21, 2) := by decide +kernel
theorem dX11_goes_46 : decode cX11_goes 46 = .ok (.iload_n 1, 1) := by decide +kernel
theorem dX11_goes_47 : decode cX11_goes 47 = .ok (.iadd, 1) := by decide +kernel
theorem dX11_goes_48 : decode cX11_goes 48 = .ok (.iconst 0, 1) := by decide +kernel
theorem dX11_goes_49 : decode cX11_goes 49 = .ok (.iastore, 1) := by decide +kernel
theorem dX11_goes_50 : decode cX11_goes 50 = .ok (.iinc 1 1, 3) := by decide +kernel
theorem dX11_goes_53 : decode cX11_goes 53 = .ok (.goto (-18), 3) := by decide +kernel
theorem dX11_goes_56 : decode cX11_goes 56 = .ok (.aload_n 0, 1) := by decide +kernel
theorem dX11_goes_57 : decode cX11_goes 57 = .ok (.invokevirtual 46, 3) := by decide +kernel
theorem dX11_goes_60 : decode cX11_goes 60 = .ok (.ifCond .eq 13, 3) := by decide +kernel
theorem dX11_goes_63 : decode cX11_goes 63 = .ok (.aload_n 0, 1) := by decide +kernel
theorem dX11_goes_64 : decode cX11_goes 64 = .ok (.getfield 7, 3) := by decide +kernel
theorem dX11_goes_67 : decode cX11_goes 67 = .ok (.bipush 16, 2) := by decide +kernel
theorem dX11_goes_69 : decode cX11_goes 69 = .ok (.iaload, 1) := by decide +kernel
theorem dX11_goes_70 : decode cX11_goes 70 = .ok (.ifCond .ne 7, 3) := by decide +kernel
theorem dX11_goes_73 : decode cX11_goes 73 = .ok (.aload_n 0, 1) := by decide +kernel
theorem dX11_goes_74 : decode cX11_goes 74 = .ok (.invokevirtual 62, 3) := by decide +kernel
theorem dX11_goes_77 : decode cX11_goes 77 = .ok (.aload_n 0, 1) := by decide +kernel
theorem dX11_goes_78 : decode cX11_goes 78 = .ok (.invokevirtual 65, 3) := by decide +kernel
theorem dX11_goes_81 : decode cX11_goes 81 = .ok (.aload_n 0, 1) := by decide +kernel
theorem dX11_goes_82 : decode cX11_goes 82 = .ok (.getfield 7, 3) := by decide +kernel
theorem dX11_goes_85 : decode cX11_goes 85 = .ok (.bipush 8, 2) := by decide +kernel
theorem dX11_goes_87 : decode cX11_goes 87 = .ok (.iconst 0, 1) := by decide +kernel
theorem dX11_goes_88 : decode cX11_goes 88 = .ok (.iastore, 1) := by decide +kernel
theorem dX11_goes_89 : decode cX11_goes 89 = .ok (.return_, 1) := by decide +kernel
theorem dX11_ticks_0 : decode cX11_ticks 0 = .ok (.aload_n 0, 1) := by decide +kernel
theorem dX11_ticks_1 : decode cX11_ticks 1 = .ok (.getfield 7, 3) := by decide +kernel
theorem dX11_ticks_4 : decode cX11_ticks 4 = .ok (.iconst 2, 1) := by decide +kernel
theorem dX11_ticks_5 : decode cX11_ticks 5 = .ok (.dup2, 1) := by decide +kernel
theorem dX11_ticks_6 : decode cX11_ticks 6 = .ok (.iaload, 1) := by decide +kernel
theorem dX11_ticks_7 : decode cX11_ticks 7 = .ok (.iconst 1, 1) := by decide +kernel
theorem dX11_ticks_8 : decode cX11_ticks 8 = .ok (.iadd, 1) := by decide +kernel
theorem dX11_ticks_9 : decode cX11_ticks 9 = .ok (.iastore, 1) := by decide +kernel
theorem dX11_ticks_10 : decode cX11_ticks 10 = .ok (.aload_n 0, 1) := by decide +kernel
theorem dX11_ticks_11 : decode cX11_ticks 11 = .ok (.getfield 7, 3) := by decide +kernel
theorem dX11_ticks_14 : decode cX11_ticks 14 = .ok (.iconst 3, 1) := by decide +kernel
theorem dX11_ticks_15 : decode cX11_ticks 15 = .ok (.dup2, 1) := by decide +kernel
theorem dX11_ticks_16 : decode cX11_ticks 16 = .ok (.iaload, 1) := by decide +kernel
theorem dX11_ticks_17 : decode cX11_ticks 17 = .ok (.aload_n 0, 1) := by decide +kernel
theorem dX11_ticks_18 : decode cX11_ticks 18 = .ok (.getfield 7, 3) := by decide +kernel
theorem dX11_ticks_21 : decode cX11_ticks 21 = .ok (.iconst 2, 1) := by decide +kernel
theorem dX11_ticks_22 : decode cX11_ticks 22 = .ok (.iaload, 1) := by decide +kernel
theorem dX11_ticks_23 : decode cX11_ticks 23 = .ok (.aload_n 0, 1) := by decide +kernel
theorem dX11_ticks_24 : decode cX11_ticks 24 = .ok (.getfield 7, 3) := by decide +kernel
theorem dX11_ticks_27 : decode cX11_ticks 27 = .ok (.bipush 19, 2) := by decide +kernel
theorem dX11_ticks_29 : decode cX11_ticks 29 = .ok (.iaload, 1) := by decide +kernel
theorem dX11_ticks_30 : decode cX11_ticks 30 = .ok (.irem, 1) := by decide +kernel
theorem dX11_ticks_31 : decode cX11_ticks 31 = .ok (.ifCond .ne 13, 3) := by decide +kernel
theorem dX11_ticks_34 : decode cX11_ticks 34 = .ok (.aload_n 0, 1) := by decide +kernel
theorem dX11_ticks_35 : decode cX11_ticks 35 = .ok (.getfield 7, 3) := by decide +kernel
theorem dX11_ticks_38 : decode cX11_ticks 38 = .ok (.bipush 20, 2) := by decide +kernel
theorem dX11_ticks_40 : decode cX11_ticks 40 = .ok (.iaload, 1) := by decide +kernel
theorem dX11_ticks_41 : decode cX11_ticks 41 = .ok (.goto 4, 3) := by decide +kernel
theorem dX11_ticks_44 : decode cX11_ticks 44 = .ok (.iconst 0, 1) := by decide +kernel
theorem dX11_ticks_45 : decode cX11_ticks 45 = .ok (.iadd, 1) := by decide +kernel
theorem dX11_ticks_46 : decode cX11_ticks 46 = .ok (.iastore, 1) := by decide +kernel
theorem dX11_ticks_47 : decode cX11_ticks 47 = .ok (.aload_n 0, 1) := by decide +kernel
theorem dX11_ticks_48 : decode cX11_ticks 48 = .ok (.invokevirtual 46, 3) := by decide +kernel
theorem dX11_ticks_51 : decode cX11_ticks 51 = .ok (.ifCond .eq 46, 3) := by decide +kernel
theorem dX11_ticks_54 : decode cX11_ticks 54 = .ok (.aload_n 0, 1) := by decide +kernel
theorem dX11_ticks_55 : decode cX11_ticks 55 = .ok (.iconst 0, 1) := by decide +kernel
theorem dX11_ticks_56 : decode cX11_ticks 56 = .ok (.bipush 11, 2) := by decide +kernel
theorem dX11_ticks_58 : decode cX11_ticks 58 = .ok (.invokevirtual 51, 3) := by decide +kernel
theorem dX11_ticks_61 : decode cX11_ticks 61 = .ok (.aload_n 0, 1) := by decide +kernel
theorem dX11_ticks_62 : decode cX11_ticks 62 = .ok (.getfield 7, 3) := by decide +kernel
theorem dX11_ticks_65 : decode cX11_ticks 65 = .ok (.bipush 17, 2) := by decide +kernel
theorem dX11_ticks_67 : decode cX11_ticks 67 = .ok (.iaload, 1) := by decide +kernel
theorem dX11_ticks_68 : decode cX11_ticks 68 = .ok (.iadd, 1) := by decide +kernel
theorem dX11_ticks_69 : decode cX11_ticks 69 = .ok (.aload_n 0, 1) := by decide +kernel
theorem dX11_ticks_70 : decode cX11_ticks 70 = .ok (.getfield 7, 3) := by decide +kernel
theorem dX11_ticks_73 : decode cX11_ticks 73 = .ok (.bipush 15, 2) := by decide +kernel
theorem dX11_ticks_75 : decode cX11_ticks 75 = .ok (.iaload, 1) := by decide +kernel
theorem dX11_ticks_76 : decode cX11_ticks 76 = .ok (.if_icmp .ge 13, 3) := by decide +kernel
theorem dX11_ticks_79 : decode cX11_ticks 79 = .ok (.aload_n 0, 1) := by decide +kernel
theorem dX11_ticks_80 : decode cX11_ticks 80 = .ok (.getfield 7, 3) := by decide +kernel
theorem dX11_ticks_83 : decode cX11_ticks 83 = .ok (.bipush 13, 2) := by decide +kernel
theorem dX11_ticks_85 : decode cX11_ticks 85 = .ok (.iaload, 1) := by decide +kernel
theorem dX11_ticks_86 : decode cX11_ticks 86 = .ok (.ifCond .ne 11, 3) := by decide +kernel
theorem dX11_ticks_89 : decode cX11_ticks 89 = .ok (.aload_n 0, 1) := by decide +kernel
theorem dX11_ticks_90 : decode cX11_ticks 90 = .ok (.getfield 7, 3) := by decide +kernel
theorem dX11_ticks_93 : decode cX11_ticks 93 = .ok (.bipush 16, 2) := by decide +kernel
theorem dX11_ticks_95 : decode cX11_ticks 95 = .ok (.iconst 1, 1) := by decide +kernel
theorem dX11_ticks_96 : decode cX11_ticks 96 = .ok (.iastore, 1) := by decide +kernel
theorem dX11_ticks_97 : decode cX11_ticks 97 = .ok (.aload_n 0, 1) := by decide +kernel
theorem dX11_ticks_98 : decode cX11_ticks 98 = .ok (.invokevirtual 46, 3) := by decide +kernel
theorem dX11_ticks_101 : decode cX11_ticks 101 = .ok (.ifCond .ne 13, 3) := by decide +kernel
theorem dX11_ticks_104 : decode cX11_ticks 104 = .ok (.aload_n 0, 1) := by decide +kernel
theorem dX11_ticks_105 : decode cX11_ticks 105 = .ok (.getfield 7, 3) := by decide +kernel
theorem dX11_ticks_108 : decode cX11_ticks 108 = .ok (.iconst 1, 1) := by decide +kernel
theorem dX11_ticks_109 : decode cX11_ticks 109 = .ok (.iaload, 1) := by decide +kernel
theorem dX11_ticks_110 : decode cX11_ticks 110 = .ok (.iconst 1, 1) := by decide +kernel
theorem dX11_ticks_111 : decode cX11_ticks 111 = .ok (.if_icmp .ne 10, 3) := by decide +kernel
theorem dX11_ticks_114 : decode cX11_ticks 114 = .ok (.aload_n 0, 1) := by decide +kernel
theorem dX11_ticks_115 : decode cX11_ticks 115 = .ok (.invokevirtual 68, 3) := by decide +kernel
theorem dX11_ticks_118 : decode cX11_ticks 118 = .ok (.goto 14, 3) := by decide +kernel
theorem dX11_ticks_121 : decode cX11_ticks 121 = .ok (.aload_n 0, 1) := by decide +kernel
theorem dX11_ticks_122 : decode cX11_ticks 122 = .ok (.getfield 7, 3) := by decide +kernel
theorem dX11_ticks_125 : decode cX11_ticks 125 = .ok (.bipush 8, 2) := by decide +kernel
theorem dX11_ticks_127 : decode cX11_ticks 127 = .ok (.dup2, 1) := by decide +kernel
theorem dX11_ticks_128 : decode cX11_ticks 128 = .ok (.iaload, 1) := by decide +kernel
theorem dX11_ticks_129 : decode cX11_ticks 129 = .ok (.iconst 1, 1) := by decide +kernel
theorem dX11_ticks_130 : decode cX11_ticks 130 = .ok (.iadd, 1) := by decide +kernel
theorem dX11_ticks_131 : decode cX11_ticks 131 = .ok (.iastore, 1) := by decide +kernel
theorem dX11_ticks_132 : decode cX11_ticks 132 = .ok (.aload_n 0, 1) := by decide +kernel
theorem dX11_ticks_133 : decode cX11_ticks 133 = .ok (.invokevirtual 46, 3) := by decide +kernel
theorem dX11_ticks_136 : decode cX11_ticks 136 = .ok (.ifCond .eq 32, 3) := by decide +kernel
theorem dX11_ticks_139 : decode cX11_ticks 139 = .ok (.aload_n 0, 1) := by decide +kernel
theorem dX11_ticks_140 : decode cX11_ticks 140 = .ok (.getfield 7, 3) := by decide +kernel
theorem dX11_ticks_143 : decode cX11_ticks 143 = .ok (.bipush 16, 2) := by decide +kernel
theorem dX11_ticks_145 : decode cX11_ticks 145 = .ok (.iaload, 1) := by decide +kernel
theorem dX11_ticks_146 : decode cX11_ticks 146 = .ok (.iconst 1, 1) := by decide +kernel
theorem dX11_ticks_147 : decode cX11_ticks 147 = .ok (.if_icmp .ne 21, 3) := by decide +kernel
theorem dX11_ticks_150 : decode cX11_ticks 150 = .ok (.aload_n 0, 1) := by decide +kernel
theorem dX11_ticks_151 : decode cX11_ticks 151 = .ok (.iconst 0, 1) := by decide +kernel
theorem dX11_ticks_152 : decode cX11_ticks 152 = .ok (.bipush 11, 2) := by decide +kernel
theorem dX11_ticks_154 : decode cX11_ticks 154 = .ok (.invokevirtual 51, 3) := by decide +kernel
theorem dX11_ticks_157 : decode cX11_ticks 157 = .ok (.ifCond .ne 11, 3) := by decide +kernel
theorem dX11_ticks_160 : decode cX11_ticks 160 = .ok (.aload_n 0, 1) := by decide +kernel
theorem dX11_ticks_161 : decode cX11_ticks 161 = .ok (.getfield 7, 3) := by decide +kernel
theorem dX11_ticks_164 : decode cX11_ticks 164 = .ok (.bipush 15, 2) := by decide +kernel
theorem dX11_ticks_166 : decode cX11_ticks 166 = .ok (.iconst 0, 1) := by decide +kernel
theorem dX11_ticks_167 : decode cX11_ticks 167 = .ok (.iastore, 1) := by decide +kernel
theorem dX11_ticks_168 : decode cX11_ticks 168 = .ok (.return_, 1) := by decide +kernel
theorem dX11_tick_0 : decode cX11_tick 0 = .ok (.iload_n 1, 1) := by decide +kernel
theorem dX11_tick_1 : decode cX11_tick 1 = .ok (.iconst 1, 1) := by decide +kernel
theorem dX11_tick_2 : decode cX11_tick 2 = .ok (.sipush 200, 3) := by decide +kernel
theorem dX11_tick_5 : decode cX11_tick 5 = .ok (.invokestatic 37, 3) := by decide +kernel
theorem dX11_tick_8 : decode cX11_tick 8 = .ok (.ifCond .ne 6, 3) := by decide +kernel
theorem dX11_tick_11 : decode cX11_tick 11 = .ok (.ldc 41, 2) := by decide +kernel
theorem dX11_tick_13 : decode cX11_tick 13 = .ok (.ireturn, 1) := by decide +kernel
theorem dX11_tick_14 : decode cX11_tick 14 = .ok (.aload_n 0, 1) := by decide +kernel
theorem dX11_tick_15 : decode cX11_tick 15 = .ok (.getfield 7, 3) := by decide +kernel
theorem dX11_tick_18 : decode cX11_tick 18 = .ok (.iconst 2, 1) := by decide +kernel
theorem dX11_tick_19 : decode cX11_tick 19 = .ok (.iaload, 1) := by decide +kernel
theorem dX11_tick_20 : decode cX11_tick 20 = .ok (.iload_n 1, 1) := by decide +kernel
theorem dX11_tick_21 : decode cX11_tick 21 = .ok (.iadd, 1) := by decide +kernel
theorem dX11_tick_22 : decode cX11_tick 22 = .ok (.sipush 9000, 3) := by decide +kernel
theorem dX11_tick_25 : decode cX11_tick 25 = .ok (.if_icmp .le 6, 3) := by decide +kernel
theorem dX11_tick_28 : decode cX11_tick 28 = .ok (.ldc 42, 2) := by decide +kernel
theorem dX11_tick_30 : decode cX11_tick 30 = .ok (.ireturn, 1) := by decide +kernel
theorem dX11_tick_31 : decode cX11_tick 31 = .ok (.aload_n 0, 1) := by decide +kernel
theorem dX11_tick_32 : decode cX11_tick 32 = .ok (.invokevirtual 43, 3) := by decide +kernel
theorem dX11_tick_35 : decode cX11_tick 35 = .ok (.aload_n 0, 1) := by decide +kernel
theorem dX11_tick_36 : decode cX11_tick 36 = .ok (.getfield 7, 3) := by decide +kernel
theorem dX11_tick_39 : decode cX11_tick 39 = .ok (.bipush 11, 2) := by decide +kernel
theorem dX11_tick_41 : decode cX11_tick 41 = .ok (.iaload, 1) := by decide +kernel
theorem dX11_tick_42 : decode cX11_tick 42 = .ok (.istore_n 2, 1) := by decide +kernel
theorem dX11_tick_43 : decode cX11_tick 43 = .ok (.iconst 0, 1) := by decide +kernel
theorem dX11_tick_44 : decode cX11_tick 44 = .ok (.istore_n 3, 1) := by decide +kernel
theorem dX11_tick_45 : decode cX11_tick 45 = .ok (.iload_n 3, 1) := by decide +kernel
theorem dX11_tick_46 : decode cX11_tick 46 = .ok (.iload_n 1, 1) := by decide +kernel
theorem dX11_tick_47 : decode cX11_tick 47 = .ok (.if_icmp .ge 13, 3) := by decide +kernel
theorem dX11_tick_50 : decode cX11_tick 50 = .ok (.aload_n 0, 1) := by decide +kernel
theorem dX11_tick_51 : decode cX11_tick 51 = .ok (.invokevirtual 71, 3) := by decide +kernel
theorem dX11_tick_54 : decode cX11_tick 54 = .ok (.iinc 3 1, 3) := by decide +kernel
theorem dX11_tick_57 : decode cX11_tick 57 = .ok (.goto (-12), 3) := by decide +kernel
theorem dX11_tick_60 : decode cX11_tick 60 = .ok (.aload_n 0, 1) := by decide +kernel
theorem dX11_tick_61 : decode cX11_tick 61 = .ok (.getfield 7, 3) := by decide +kernel
theorem dX11_tick_64 : decode cX11_tick 64 = .ok (.bipush 11, 2) := by decide +kernel
theorem dX11_tick_66 : decode cX11_tick 66 = .ok (.iaload, 1) := by decide +kernel
theorem dX11_tick_67 : decode cX11_tick 67 = .ok (.iload_n 2, 1) := by decide +kernel
theorem dX11_tick_68 : decode cX11_tick 68 = .ok (.isub, 1) := by decide +kernel
theorem dX11_tick_69 : decode cX11_tick 69 = .ok (.ireturn, 1) := by decide +kernel
theorem dX11_zero_0 : decode cX11_zero 0 = .ok (.aload_n 0, 1) := by decide +kernel
theorem dX11_zero_1 : decode cX11_zero 1 = .ok (.getfield 7, 3) := by decide +kernel
theorem dX11_zero_4 : decode cX11_zero 4 = .ok (.bipush 8, 2) := by decide +kernel
theorem dX11_zero_6 : decode cX11_zero 6 = .ok (.iaload, 1) := by decide +kernel
theorem dX11_zero_7 : decode cX11_zero 7 = .ok (.iconst 4, 1) := by decide +kernel
theorem dX11_zero_8 : decode cX11_zero 8 = .ok (.if_icmp .ge 16, 3) := by decide +kernel
theorem dX11_zero_11 : decode cX11_zero 11 = .ok (.aload_n 0, 1) := by decide +kernel
theorem dX11_zero_12 : decode cX11_zero 12 = .ok (.iconst 4, 1) := by decide +kernel
theorem dX11_zero_13 : decode cX11_zero 13 = .ok (.bipush 7, 2) := by decide +kernel
theorem dX11_zero_15 : decode cX11_zero 15 = .ok (.invokevirtual 51, 3) := by decide +kernel
theorem dX11_zero_18 : decode cX11_zero 18 = .ok (.ifCond .le 6, 3) := by decide +kernel
theorem dX11_zero_21 : decode cX11_zero 21 = .ok (.ldc 50, 2) := by decide +kernel
theorem dX11_zero_23 : decode cX11_zero 23 = .ok (.ireturn, 1) := by decide +kernel
theorem dX11_zero_24 : decode cX11_zero 24 = .ok (.aload_n 0, 1) := by decide +kernel
theorem dX11_zero_25 : decode cX11_zero 25 = .ok (.invokevirtual 43, 3) := by decide +kernel
theorem dX11_zero_28 : decode cX11_zero 28 = .ok (.aload_n 0, 1) := by decide +kernel
theorem dX11_zero_29 : decode cX11_zero 29 = .ok (.getfield 7, 3) := by decide +kernel
theorem dX11_zero_32 : decode cX11_zero 32 = .ok (.iconst 4, 1) := by decide +kernel
theorem dX11_zero_33 : decode cX11_zero 33 = .ok (.iaload, 1) := by decide +kernel
theorem dX11_zero_34 : decode cX11_zero 34 = .ok (.istore_n 1, 1) := by decide +kernel
theorem dX11_zero_35 : decode cX11_zero 35 = .ok (.aload_n 0, 1) := by decide +kernel
theorem dX11_zero_36 : decode cX11_zero 36 = .ok (.getfield 7, 3) := by decide +kernel
theorem dX11_zero_39 : decode cX11_zero 39 = .ok (.iconst 4, 1) := by decide +kernel
theorem dX11_zero_40 : decode cX11_zero 40 = .ok (.aload_n 0, 1) := by decide +kernel
theorem dX11_zero_41 : decode cX11_zero 41 = .ok (.iconst 4, 1) := by decide +kernel
theorem dX11_zero_42 : decode cX11_zero 42 = .ok (.bipush 7, 2) := by decide +kernel
theorem dX11_zero_44 : decode cX11_zero 44 = .ok (.invokevirtual 51, 3) := by decide +kernel
theorem dX11_zero_47 : decode cX11_zero 47 = .ok (.aload_n 0, 1) := by decide +kernel
theorem dX11_zero_48 : decode cX11_zero 48 = .ok (.getfield 7, 3) := by decide +kernel
theorem dX11_zero_51 : decode cX11_zero 51 = .ok (.iconst 3, 1) := by decide +kernel
theorem dX11_zero_52 : decode cX11_zero 52 = .ok (.iaload, 1) := by decide +kernel
theorem dX11_zero_53 : decode cX11_zero 53 = .ok (.iadd, 1) := by decide +kernel
theorem dX11_zero_54 : decode cX11_zero 54 = .ok (.iastore, 1) := by decide +kernel
theorem dX11_zero_55 : decode cX11_zero 55 = .ok (.iload_n 1, 1) := by decide +kernel
theorem dX11_zero_56 : decode cX11_zero 56 = .ok (.ldc 74, 2) := by decide +kernel
theorem dX11_zero_58 : decode cX11_zero 58 = .ok (.iadd, 1) := by decide +kernel
theorem dX11_zero_59 : decode cX11_zero 59 = .ok (.ireturn, 1) := by decide +kernel
theorem dX11_isBin_0 : decode cX11_isBin 0 = .ok (.iload_n 1, 1) := by decide +kernel
theorem dX11_isBin_1 : decode cX11_isBin 1 = .ok (.ifCond .lt 18, 3) := by decide +kernel
theorem dX11_isBin_4 : decode cX11_isBin 4 = .ok (.iload_n 1, 1) := by decide +kernel
theorem dX11_isBin_5 : decode cX11_isBin 5 = .ok (.aload_n 0, 1) := by decide +kernel
theorem dX11_isBin_6 : decode cX11_isBin 6 = .ok (.getfield 7, 3) := by decide +kernel
theorem dX11_isBin_9 : decode cX11_isBin 9 = .ok (.bipush 12, 2) := by decide +kernel
theorem dX11_isBin_11 : decode cX11_isBin 11 = .ok (.iaload, 1) := by decide +kernel
theorem dX11_isBin_12 : decode cX11_isBin 12 = .ok (.if_icmp .ge 7, 3) := by decide +kernel
theorem dX11_isBin_15 : decode cX11_isBin 15 = .ok (.iconst 1, 1) := by decide +kernel
theorem dX11_isBin_16 : decode cX11_isBin 16 = .ok (.goto 4, 3) := by decide +kernel
theorem dX11_isBin_19 : decode cX11_isBin 19 = .ok (.iconst 0, 1) := by decide +kernel
theorem dX11_isBin_20 : decode cX11_isBin 20 = .ok (.ireturn, 1) := by decide +kernel
theorem dX11_binMass_0 : decode cX11_binMass 0 = .ok (.bipush 81, 2) := by decide +kernel
theorem dX11_binMass_2 : decode cX11_binMass 2 = .ok (.bipush 6, 2) := by decide +kernel
theorem dX11_binMass_4 : decode cX11_binMass 4 = .ok (.iload_n 1, 1) := by decide +kernel
theorem dX11_binMass_5 : decode cX11_binMass 5 = .ok (.imul, 1) := by decide +kernel
theorem dX11_binMass_6 : decode cX11_binMass 6 = .ok (.iadd, 1) := by decide +kernel
theorem dX11_binMass_7 : decode cX11_binMass 7 = .ok (.istore_n 2, 1) := by decide +kernel
theorem dX11_binMass_8 : decode cX11_binMass 8 = .ok (.aload_n 0, 1) := by decide +kernel
theorem dX11_binMass_9 : decode cX11_binMass 9 = .ok (.getfield 7, 3) := by decide +kernel
theorem dX11_binMass_12 : decode cX11_binMass 12 = .ok (.iload_n 2, 1) := by decide +kernel
theorem dX11_binMass_13 : decode cX11_binMass 13 = .ok (.iaload, 1) := by decide +kernel
theorem dX11_binMass_14 : decode cX11_binMass 14 = .ok (.aload_n 0, 1) := by decide +kernel
theorem dX11_binMass_15 : decode cX11_binMass 15 = .ok (.getfield 7, 3) := by decide +kernel
theorem dX11_binMass_18 : decode cX11_binMass 18 = .ok (.iload_n 2, 1) := by decide +kernel
theorem dX11_binMass_19 : decode cX11_binMass 19 = .ok (.iconst 1, 1) := by decide +kernel
theorem dX11_binMass_20 : decode cX11_binMass 20 = .ok (.iadd, 1) := by decide +kernel
theorem dX11_binMass_21 : decode cX11_binMass 21 = .ok (.iaload, 1) := by decide +kernel
theorem dX11_binMass_22 : decode cX11_binMass 22 = .ok (.iadd, 1) := by decide +kernel
theorem dX11_binMass_23 : decode cX11_binMass 23 = .ok (.aload_n 0, 1) := by decide +kernel
theorem dX11_binMass_24 : decode cX11_binMass 24 = .ok (.getfield 7, 3) := by decide +kernel
theorem dX11_binMass_27 : decode cX11_binMass 27 = .ok (.iload_n 2, 1) := by decide +kernel
theorem dX11_binMass_28 : decode cX11_binMass 28 = .ok (.iconst 2, 1) := by decide +kernel
theorem dX11_binMass_29 : decode cX11_binMass 29 = .ok (.iadd, 1) := by decide +kernel
theorem dX11_binMass_30 : decode cX11_binMass 30 = .ok (.iaload, 1) := by decide +kernel
theorem dX11_binMass_31 : decode cX11_binMass 31 = .ok (.iadd, 1) := by decide +kernel
theorem dX11_binMass_32 : decode cX11_binMass 32 = .ok (.aload_n 0, 1) := by decide +kernel
theorem dX11_binMass_33 : decode cX11_binMass 33 = .ok (.getfield 7, 3) := by decide +kernel
theorem dX11_binMass_36 : decode cX11_binMass 36 = .ok (.iload_n 2, 1) := by decide +kernel
theorem dX11_binMass_37 : decode cX11_binMass 37 = .ok (.iconst 3, 1) := by decide +kernel
theorem dX11_binMass_38 : decode cX11_binMass 38 = .ok (.iadd, 1) := by decide +kernel
theorem dX11_binMass_39 : decode cX11_binMass 39 = .ok (.iaload, 1) := by decide +kernel
theorem dX11_binMass_40 : decode cX11_binMass 40 = .ok (.iadd, 1) := by decide +kernel
theorem dX11_binMass_41 : decode cX11_binMass 41 = .ok (.ireturn, 1) := by decide +kernel
theorem dX11_correct_0 : decode cX11_correct 0 = .ok (.aload_n 0, 1) := by decide +kernel
theorem dX11_correct_1 : decode cX11_correct 1 = .ok (.iload_n 1, 1) := by decide +kernel
theorem dX11_correct_2 : decode cX11_correct 2 = .ok (.invokevirtual 75, 3) := by decide +kernel
theorem dX11_correct_5 : decode cX11_correct 5 = .ok (.ifCond .ne 6, 3) := by decide +kernel
theorem dX11_correct_8 : decode cX11_correct 8 = .ok (.ldc 41, 2) := by decide +kernel
theorem dX11_correct_10 : decode cX11_correct 10 = .ok (.ireturn, 1) := by decide +kernel
theorem dX11_correct_11 : decode cX11_correct 11 = .ok (.aload_n 0, 1) := by decide +kernel
theorem dX11_correct_12 : decode cX11_correct 12 = .ok (.getfield 7, 3) := by decide +kernel
theorem dX11_correct_15 : decode cX11_correct 15 = .ok (.bipush 81, 2) := by decide +kernel
theorem dX11_correct_17 : decode cX11_correct 17 = .ok (.bipush 6, 2) := by decide +kernel
theorem dX11_correct_19 : decode cX11_correct 19 = .ok (.iload_n 1, 1) := by decide +kernel
theorem dX11_correct_20 : decode cX11_correct 20 = .ok (.imul, 1) := by decide +kernel
theorem dX11_correct_21 : decode cX11_correct 21 = .ok (.iadd, 1) := by decide +kernel
theorem dX11_correct_22 : decode cX11_correct 22 = .ok (.iconst 4, 1) := by decide +kernel
theorem dX11_correct_23 : decode cX11_correct 23 = .ok (.iadd, 1) := by decide +kernel
theorem dX11_correct_24 : decode cX11_correct 24 = .ok (.iaload, 1) := by decide +kernel
theorem dX11_correct_25 : decode cX11_correct 25 = .ok (.istore_n 2, 1) := by decide +kernel
theorem dX11_correct_26 : decode cX11_correct 26 = .ok (.iload_n 2, 1) := by decide +kernel
theorem dX11_correct_27 : decode cX11_correct 27 = .ok (.ifCond .le 19, 3) := by decide +kernel
theorem dX11_correct_30 : decode cX11_correct 30 = .ok (.ldc2_w 79, 3) := by decide +kernel
theorem dX11_correct_33 : decode cX11_correct 33 = .ok (.aload_n 0, 1) := by decide +kernel
theorem dX11_correct_34 : decode cX11_correct 34 = .ok (.iload_n 1, 1) := by decide +kernel
theorem dX11_correct_35 : decode cX11_correct 35 = .ok (.invokevirtual 81, 3) := by decide +kernel
theorem dX11_correct_38 : decode cX11_correct 38 = .ok (.i2l, 1) := by decide +kernel
theorem dX11_correct_39 : decode cX11_correct 39 = .ok (.lmul, 1) := by decide +kernel
theorem dX11_correct_40 : decode cX11_correct 40 = .ok (.iload_n 2, 1) := by decide +kernel
theorem dX11_correct_41 : decode cX11_correct 41 = .ok (.i2l, 1) := by decide +kernel
theorem dX11_correct_42 : decode cX11_correct 42 = .ok (.ldiv, 1) := by decide +kernel
theorem dX11_correct_43 : decode cX11_correct 43 = .ok (.goto 4, 3) := by decide +kernel
theorem dX11_correct_46 : decode cX11_correct 46 = .ok (.lconst 0, 1) := by decide +kernel
theorem dX11_correct_47 : decode cX11_correct 47 = .ok (.lstore_n 3, 1) := by decide +kernel
theorem dX11_correct_48 : decode cX11_correct 48 = .ok (.lload_n 3, 1) := by decide +kernel
theorem dX11_correct_49 : decode cX11_correct 49 = .ok (.ldc2_w 85, 3) := by decide +kernel
theorem dX11_correct_52 : decode cX11_correct 52 = .ok (.lcmp, 1) := by decide +kernel
theorem dX11_correct_53 : decode cX11_correct 53 = .ok (.ifCond .lt 11, 3) := by decide +kernel
theorem dX11_correct_56 : decode cX11_correct 56 = .ok (.lload_n 3, 1) := by decide +kernel
theorem dX11_correct_57 : decode cX11_correct 57 = .ok (.ldc2_w 87, 3) := by decide +kernel
theorem dX11_correct_60 : decode cX11_correct 60 = .ok (.lcmp, 1) := by decide +kernel
theorem dX11_correct_61 : decode cX11_correct 61 = .ok (.ifCond .le 6, 3) := by decide +kernel
theorem dX11_correct_64 : decode cX11_correct 64 = .ok (.ldc 50, 2) := by decide +kernel
theorem dX11_correct_66 : decode cX11_correct 66 = .ok (.ireturn, 1) := by decide +kernel
theorem dX11_correct_67 : decode cX11_correct 67 = .ok (.aload_n 0, 1) := by decide +kernel
theorem dX11_correct_68 : decode cX11_correct 68 = .ok (.invokevirtual 43, 3) := by decide +kernel
theorem dX11_correct_71 : decode cX11_correct 71 = .ok (.aload_n 0, 1) := by decide +kernel
theorem dX11_correct_72 : decode cX11_correct 72 = .ok (.getfield 7, 3) := by decide +kernel
theorem dX11_correct_75 : decode cX11_correct 75 = .ok (.bipush 7, 2) := by decide +kernel
theorem dX11_correct_77 : decode cX11_correct 77 = .ok (.lload_n 3, 1) := by decide +kernel
theorem dX11_correct_78 : decode cX11_correct 78 = .ok (.l2i, 1) := by decide +kernel
theorem dX11_correct_79 : decode cX11_correct 79 = .ok (.iastore, 1) := by decide +kernel
theorem dX11_correct_80 : decode cX11_correct 80 = .ok (.aload_n 0, 1) := by decide +kernel
theorem dX11_correct_81 : decode cX11_correct 81 = .ok (.getfield 7, 3) := by decide +kernel
theorem dX11_correct_84 : decode cX11_correct 84 = .ok (.bipush 7, 2) := by decide +kernel
theorem dX11_correct_86 : decode cX11_correct 86 = .ok (.iaload, 1) := by decide +kernel
theorem dX11_correct_87 : decode cX11_correct 87 = .ok (.ireturn, 1) := by decide +kernel
theorem dX11_set_0 : decode cX11_set 0 = .ok (.iload_n 1, 1) := by decide +kernel
theorem dX11_set_1 : decode cX11_set 1 = .ok (.iconst 0, 1) := by decide +kernel
theorem dX11_set_2 : decode cX11_set 2 = .ok (.iconst 2, 1) := by decide +kernel
theorem dX11_set_3 : decode cX11_set 3 = .ok (.invokestatic 37, 3) := by decide +kernel
theorem dX11_set_6 : decode cX11_set 6 = .ok (.ifCond .eq 43, 3) := by decide +kernel
theorem dX11_set_9 : decode cX11_set 9 = .ok (.iload_n 2, 1) := by decide +kernel
theorem dX11_set_10 : decode cX11_set 10 = .ok (.iload_n 1, 1) := by decide +kernel
theorem dX11_set_11 : decode cX11_set 11 = .ok (.iconst 2, 1) := by decide +kernel
theorem dX11_set_12 : decode cX11_set 12 = .ok (.if_icmp .ne 8, 3) := by decide +kernel
theorem dX11_set_15 : decode cX11_set 15 = .ok (.bipush (-9), 2) := by decide +kernel
theorem dX11_set_17 : decode cX11_set 17 = .ok (.goto 4, 3) := by decide +kernel
theorem dX11_set_20 : decode cX11_set 20 = .ok (.iconst 1, 1) := by decide +kernel
theorem dX11_set_21 : decode cX11_set 21 = .ok (.iload_n 1, 1) := by decide +kernel
theorem dX11_set_22 : decode cX11_set 22 = .ok (.ifCond .ne 9, 3) := by decide +kernel
theorem dX11_set_25 : decode cX11_set 25 = .ok (.sipush 500, 3) := by decide +kernel
theorem dX11_set_28 : decode cX11_set 28 = .ok (.goto 15, 3) := by decide +kernel
theorem dX11_set_31 : decode cX11_set 31 = .ok (.iload_n 1, 1) := by decide +kernel
theorem dX11_set_32 : decode cX11_set 32 = .ok (.iconst 1, 1) := by decide +kernel
theorem dX11_set_33 : decode cX11_set 33 = .ok (.if_icmp .ne 8, 3) := by decide +kernel
theorem dX11_set_36 : decode cX11_set 36 = .ok (.bipush 99, 2) := by decide +kernel
theorem dX11_set_38 : decode cX11_set 38 = .ok (.goto 5, 3) := by decide +kernel
theorem dX11_set_41 : decode cX11_set 41 = .ok (.bipush 9, 2) := by decide +kernel
theorem dX11_set_43 : decode cX11_set 43 = .ok (.invokestatic 37, 3) := by decide +kernel
theorem dX11_set_46 : decode cX11_set 46 = .ok (.ifCond .ne 6, 3) := by decide +kernel
theorem dX11_set_49 : decode cX11_set 49 = .ok (.ldc 41, 2) := by decide +kernel
theorem dX11_set_51 : decode cX11_set 51 = .ok (.ireturn, 1) := by decide +kernel
theorem dX11_set_52 : decode cX11_set 52 = .ok (.aload_n 0, 1) := by decide +kernel
theorem dX11_set_53 : decode cX11_set 53 = .ok (.invokevirtual 43, 3) := by decide +kernel
theorem dX11_set_56 : decode cX11_set 56 = .ok (.aload_n 0, 1) := by decide +kernel
theorem dX11_set_57 : decode cX11_set 57 = .ok (.getfield 7, 3) := by decide +kernel
theorem dX11_set_60 : decode cX11_set 60 = .ok (.bipush 18, 2) := by decide +kernel
theorem dX11_set_62 : decode cX11_set 62 = .ok (.iload_n 1, 1) := by decide +kernel
theorem dX11_set_63 : decode cX11_set 63 = .ok (.iadd, 1) := by decide +kernel
theorem dX11_set_64 : decode cX11_set 64 = .ok (.iaload, 1) := by decide +kernel
theorem dX11_set_65 : decode cX11_set 65 = .ok (.istore_n 3, 1) := by decide +kernel
theorem dX11_set_66 : decode cX11_set 66 = .ok (.aload_n 0, 1) := by decide +kernel
theorem dX11_set_67 : decode cX11_set 67 = .ok (.getfield 7, 3) := by decide +kernel
theorem dX11_set_70 : decode cX11_set 70 = .ok (.bipush 18, 2) := by decide +kernel
theorem dX11_set_72 : decode cX11_set 72 = .ok (.iload_n 1, 1) := by decide +kernel
theorem dX11_set_73 : decode cX11_set 73 = .ok (.iadd, 1) := by decide +kernel
theorem dX11_set_74 : decode cX11_set 74 = .ok (.iload_n 2, 1) := by decide +kernel
theorem dX11_set_75 : decode cX11_set 75 = .ok (.iastore, 1) := by decide +kernel
theorem dX11_set_76 : decode cX11_set 76 = .ok (.iload_n 3, 1) := by decide +kernel
theorem dX11_set_77 : decode cX11_set 77 = .ok (.ireturn, 1) := by decide +kernel
theorem dX11_isAccount_0 : decode cX11_isAccount 0 = .ok (.iload_n 1, 1) := by decide +kernel
theorem dX11_isAccount_1 : decode cX11_isAccount 1 = .ok (.ifCond .lt 18, 3) := by decide +kernel
theorem dX11_isAccount_4 : decode cX11_isAccount 4 = .ok (.iload_n 1, 1) := by decide +kernel
theorem dX11_isAccount_5 : decode cX11_isAccount 5 = .ok (.aload_n 0, 1) := by decide +kernel
theorem dX11_isAccount_6 : decode cX11_isAccount 6 = .ok (.getfield 7, 3) := by decide +kernel
theorem dX11_isAccount_9 : decode cX11_isAccount 9 = .ok (.bipush 14, 2) := by decide +kernel
theorem dX11_isAccount_11 : decode cX11_isAccount 11 = .ok (.iaload, 1) := by decide +kernel
theorem dX11_isAccount_12 : decode cX11_isAccount 12 = .ok (.if_icmp .ge 7, 3) := by decide +kernel
theorem dX11_isAccount_15 : decode cX11_isAccount 15 = .ok (.iconst 1, 1) := by decide +kernel
theorem dX11_isAccount_16 : decode cX11_isAccount 16 = .ok (.goto 4, 3) := by decide +kernel
theorem dX11_isAccount_19 : decode cX11_isAccount 19 = .ok (.iconst 0, 1) := by decide +kernel
theorem dX11_isAccount_20 : decode cX11_isAccount 20 = .ok (.ireturn, 1) := by decide +kernel
theorem dX11_account_0 : decode cX11_account 0 = .ok (.aload_n 0, 1) := by decide +kernel
theorem dX11_account_1 : decode cX11_account 1 = .ok (.iload_n 1, 1) := by decide +kernel
theorem dX11_account_2 : decode cX11_account 2 = .ok (.invokevirtual 89, 3) := by decide +kernel
theorem dX11_account_5 : decode cX11_account 5 = .ok (.ifCond .ne 6, 3) := by decide +kernel
theorem dX11_account_8 : decode cX11_account 8 = .ok (.ldc 41, 2) := by decide +kernel
theorem dX11_account_10 : decode cX11_account 10 = .ok (.ireturn, 1) := by decide +kernel
theorem dX11_account_11 : decode cX11_account 11 = .ok (.aload_n 0, 1) := by decide +kernel
theorem dX11_account_12 : decode cX11_account 12 = .ok (.getfield 7, 3) := by decide +kernel
theorem dX11_account_15 : decode cX11_account 15 = .ok (.bipush 14, 2) := by decide +kernel
theorem dX11_account_17 : decode cX11_account 17 = .ok (.iaload, 1) := by decide +kernel
theorem dX11_account_18 : decode cX11_account 18 = .ok (.istore_n 2, 1) := by decide +kernel
theorem dX11_account_19 : decode cX11_account 19 = .ok (.iload_n 2, 1) := by decide +kernel
theorem dX11_account_20 : decode cX11_account 20 = .ok (.bipush 8, 2) := by decide +kernel
theorem dX11_account_22 : decode cX11_account 22 = .ok (.if_icmp .ne 6, 3) := by decide +kernel
theorem dX11_account_25 : decode cX11_account 25 = .ok (.ldc 42, 2) := by decide +kernel
theorem dX11_account_27 : decode cX11_account 27 = .ok (.ireturn, 1) := by decide +kernel
theorem dX11_account_28 : decode cX11_account 28 = .ok (.aload_n 0, 1) := by decide +kernel
theorem dX11_account_29 : decode cX11_account 29 = .ok (.invokevirtual 43, 3) := by decide +kernel
theorem dX11_account_32 : decode cX11_account 32 = .ok (.aload_n 0, 1) := by decide +kernel
theorem dX11_account_33 : decode cX11_account 33 = .ok (.getfield 7, 3) := by decide +kernel
theorem dX11_account_36 : decode cX11_account 36 = .ok (.sipush 129, 3) := by decide +kernel
theorem dX11_account_39 : decode cX11_account 39 = .ok (.iconst 2, 1) := by decide +kernel
theorem dX11_account_40 : decode cX11_account 40 = .ok (.iload_n 2, 1) := by decide +kernel
theorem dX11_account_41 : decode cX11_account 41 = .ok (.imul, 1) := by decide +kernel
theorem dX11_account_42 : decode cX11_account 42 = .ok (.iadd, 1) := by decide +kernel
theorem dX11_account_43 : decode cX11_account 43 = .ok (.iload_n 1, 1) := by decide +kernel
theorem dX11_account_44 : decode cX11_account 44 = .ok (.iastore, 1) := by decide +kernel
theorem dX11_account_45 : decode cX11_account 45 = .ok (.aload_n 0, 1) := by decide +kernel
theorem dX11_account_46 : decode cX11_account 46 = .ok (.getfield 7, 3) := by decide +kernel
theorem dX11_account_49 : decode cX11_account 49 = .ok (.sipush 129, 3) := by decide +kernel
theorem dX11_account_52 : decode cX11_account 52 = .ok (.iconst 2, 1) := by decide +kernel
theorem dX11_account_53 : decode cX11_account 53 = .ok (.iload_n 2, 1) := by decide +kernel
theorem dX11_account_54 : decode cX11_account 54 = .ok (.imul, 1) := by decide +kernel
theorem dX11_account_55 : decode cX11_account 55 = .ok (.iadd, 1) := by decide +kernel
theorem dX11_account_56 : decode cX11_account 56 = .ok (.iconst 1, 1) := by decide +kernel
theorem dX11_account_57 : decode cX11_account 57 = .ok (.iadd, 1) := by decide +kernel
theorem dX11_account_58 : decode cX11_account 58 = .ok (.iconst 0, 1) := by decide +kernel
theorem dX11_account_59 : decode cX11_account 59 = .ok (.iastore, 1) := by decide +kernel
theorem dX11_account_60 : decode cX11_account 60 = .ok (.aload_n 0, 1) := by decide +kernel
theorem dX11_account_61 : decode cX11_account 61 = .ok (.getfield 7, 3) := by decide +kernel
theorem dX11_account_64 : decode cX11_account 64 = .ok (.bipush 14, 2) := by decide +kernel
theorem dX11_account_66 : decode cX11_account 66 = .ok (.dup2, 1) := by decide +kernel
theorem dX11_account_67 : decode cX11_account 67 = .ok (.iaload, 1) := by decide +kernel
theorem dX11_account_68 : decode cX11_account 68 = .ok (.iconst 1, 1) := by decide +kernel
theorem dX11_account_69 : decode cX11_account 69 = .ok (.iadd, 1) := by decide +kernel
theorem dX11_account_70 : decode cX11_account 70 = .ok (.iastore, 1) := by decide +kernel
theorem dX11_account_71 : decode cX11_account 71 = .ok (.iload_n 2, 1) := by decide +kernel
theorem dX11_account_72 : decode cX11_account 72 = .ok (.ireturn, 1) := by decide +kernel
theorem dX11_book_0 : decode cX11_book 0 = .ok (.iload_n 1, 1) := by decide +kernel
theorem dX11_book_1 : decode cX11_book 1 = .ok (.iconst 0, 1) := by decide +kernel
theorem dX11_book_2 : decode cX11_book 2 = .ok (.iconst 3, 1) := by decide +kernel
theorem dX11_book_3 : decode cX11_book 3 = .ok (.invokestatic 37, 3) := by decide +kernel
theorem dX11_book_6 : decode cX11_book 6 = .ok (.ifCond .eq 11, 3) := by decide +kernel
theorem dX11_book_9 : decode cX11_book 9 = .ok (.aload_n 0, 1) := by decide +kernel
theorem dX11_book_10 : decode cX11_book 10 = .ok (.iload_n 2, 1) := by decide +kernel
theorem dX11_book_11 : decode cX11_book 11 = .ok (.invokevirtual 89, 3) := by decide +kernel
theorem dX11_book_14 : decode cX11_book 14 = .ok (.ifCond .ne 6, 3) := by decide +kernel
theorem dX11_book_17 : decode cX11_book 17 = .ok (.ldc 41, 2) := by decide +kernel
theorem dX11_book_19 : decode cX11_book 19 = .ok (.ireturn, 1) := by decide +kernel
theorem dX11_book_20 : decode cX11_book 20 = .ok (.aload_n 0, 1) := by decide +kernel
theorem dX11_book_21 : decode cX11_book 21 = .ok (.invokevirtual 43, 3) := by decide +kernel
theorem dX11_book_24 : decode cX11_book 24 = .ok (.aload_n 0, 1) := by decide +kernel
theorem dX11_book_25 : decode cX11_book 25 = .ok (.getfield 7, 3) := by decide +kernel
theorem dX11_book_28 : decode cX11_book 28 = .ok (.sipush 145, 3) := by decide +kernel
theorem dX11_book_31 : decode cX11_book 31 = .ok (.iload_n 1, 1) := by decide +kernel
theorem dX11_book_32 : decode cX11_book 32 = .ok (.iadd, 1) := by decide +kernel
theorem dX11_book_33 : decode cX11_book 33 = .ok (.iaload, 1) := by decide +kernel
theorem dX11_book_34 : decode cX11_book 34 = .ok (.istore_n 3, 1) := by decide +kernel
theorem dX11_book_35 : decode cX11_book 35 = .ok (.aload_n 0, 1) := by decide +kernel
theorem dX11_book_36 : decode cX11_book 36 = .ok (.getfield 7, 3) := by decide +kernel
theorem dX11_book_39 : decode cX11_book 39 = .ok (.sipush 145, 3) := by decide +kernel
theorem dX11_book_42 : decode cX11_book 42 = .ok (.iload_n 1, 1) := by decide +kernel
theorem dX11_book_43 : decode cX11_book 43 = .ok (.iadd, 1) := by decide +kernel
theorem dX11_book_44 : decode cX11_book 44 = .ok (.iload_n 2, 1) := by decide +kernel
theorem dX11_book_45 : decode cX11_book 45 = .ok (.iastore, 1) := by decide +kernel
theorem dX11_book_46 : decode cX11_book 46 = .ok (.iload_n 3, 1) := by decide +kernel
theorem dX11_book_47 : decode cX11_book 47 = .ok (.ireturn, 1) := by decide +kernel
theorem dX11_isUnder_0 : decode cX11_isUnder 0 = .ok (.iload_n 1, 1) := by decide +kernel
theorem dX11_isUnder_1 : decode cX11_isUnder 1 = .ok (.istore_n 3, 1) := by decide +kernel
theorem dX11_isUnder_2 : decode cX11_isUnder 2 = .ok (.iload_n 3, 1) := by decide +kernel
theorem dX11_isUnder_3 : decode cX11_isUnder 3 = .ok (.iload_n 2, 1) := by decide +kernel
theorem dX11_isUnder_4 : decode cX11_isUnder 4 = .ok (.if_icmp .le 19, 3) := by decide +kernel
theorem dX11_isUnder_7 : decode cX11_isUnder 7 = .ok (.aload_n 0, 1) := by decide +kernel
theorem dX11_isUnder_8 : decode cX11_isUnder 8 = .ok (.getfield 7, 3) := by decide +kernel
theorem dX11_isUnder_11 : decode cX11_isUnder 11 = .ok (.sipush 129, 3) := by decide +kernel
theorem dX11_isUnder_14 : decode cX11_isUnder 14 = .ok (.iconst 2, 1) := by decide +kernel
theorem dX11_isUnder_15 : decode cX11_isUnder 15 = .ok (.iload_n 3, 1) := by decide +kernel
theorem dX11_isUnder_16 : decode cX11_isUnder 16 = .ok (.imul, 1) := by decide +kernel
theorem dX11_isUnder_17 : decode cX11_isUnder 17 = .ok (.iadd, 1) := by decide +kernel
theorem dX11_isUnder_18 : decode cX11_isUnder 18 = .ok (.iaload, 1) := by decide +kernel
theorem dX11_isUnder_19 : decode cX11_isUnder 19 = .ok (.istore_n 3, 1) := by decide +kernel
theorem dX11_isUnder_20 : decode cX11_isUnder 20 = .ok (.goto (-18), 3) := by decide +kernel
theorem dX11_isUnder_23 : decode cX11_isUnder 23 = .ok (.iload_n 3, 1) := by decide +kernel
theorem dX11_isUnder_24 : decode cX11_isUnder 24 = .ok (.iload_n 2, 1) := by decide +kernel
theorem dX11_isUnder_25 : decode cX11_isUnder 25 = .ok (.if_icmp .ne 7, 3) := by decide +kernel
theorem dX11_isUnder_28 : decode cX11_isUnder 28 = .ok (.iconst 1, 1) := by decide +kernel
theorem dX11_isUnder_29 : decode cX11_isUnder 29 = .ok (.goto 4, 3) := by decide +kernel
theorem dX11_isUnder_32 : decode cX11_isUnder 32 = .ok (.iconst 0, 1) := by decide +kernel
theorem dX11_isUnder_33 : decode cX11_isUnder 33 = .ok (.ireturn, 1) := by decide +kernel
theorem dX11_depth_0 : decode cX11_depth 0 = .ok (.iconst 0, 1) := by decide +kernel
theorem dX11_depth_1 : decode cX11_depth 1 = .ok (.istore_n 2, 1) := by decide +kernel
theorem dX11_depth_2 : decode cX11_depth 2 = .ok (.iload_n 1, 1) := by decide +kernel
theorem dX11_depth_3 : decode cX11_depth 3 = .ok (.istore_n 3, 1) := by decide +kernel
theorem dX11_depth_4 : decode cX11_depth 4 = .ok (.iload_n 3, 1) := by decide +kernel
theorem dX11_depth_5 : decode cX11_depth 5 = .ok (.ifCond .le 22, 3) := by decide +kernel
theorem dX11_depth_8 : decode cX11_depth 8 = .ok (.iinc 2 1, 3) := by decide +kernel
theorem dX11_depth_11 : decode cX11_depth 11 = .ok (.aload_n 0, 1) := by decide +kernel
theorem dX11_depth_12 : decode cX11_depth 12 = .ok (.getfield 7, 3) := by decide +kernel
theorem dX11_depth_15 : decode cX11_depth 15 = .ok (.sipush 129, 3) := by decide +kernel
theorem dX11_depth_18 : decode cX11_depth 18 = .ok (.iconst 2, 1) := by decide +kernel
theorem dX11_depth_19 : decode cX11_depth 19 = .ok (.iload_n 3, 1) := by decide +kernel
theorem dX11_depth_20 : decode cX11_depth 20 = .ok (.imul, 1) := by decide +kernel
theorem dX11_depth_21 : decode cX11_depth 21 = .ok (.iadd, 1) := by decide +kernel
theorem dX11_depth_22 : decode cX11_depth 22 = .ok (.iaload, 1) := by decide +kernel
theorem dX11_depth_23 : decode cX11_depth 23 = .ok (.istore_n 3, 1) := by decide +kernel
theorem dX11_depth_24 : decode cX11_depth 24 = .ok (.goto (-20), 3) := by decide +kernel
theorem dX11_depth_27 : decode cX11_depth 27 = .ok (.iload_n 2, 1) := by decide +kernel
theorem dX11_depth_28 : decode cX11_depth 28 = .ok (.ireturn, 1) := by decide +kernel
theorem dX11_accountOf_0 : decode cX11_accountOf 0 = .ok (.aload_n 0, 1) := by decide +kernel
theorem dX11_accountOf_1 : decode cX11_accountOf 1 = .ok (.iload_n 1, 1) := by decide +kernel
theorem dX11_accountOf_2 : decode cX11_accountOf 2 = .ok (.invokevirtual 89, 3) := by decide +kernel
theorem dX11_accountOf_5 : decode cX11_accountOf 5 = .ok (.ifCond .eq 12, 3) := by decide +kernel
theorem dX11_accountOf_8 : decode cX11_accountOf 8 = .ok (.iload_n 2, 1) := by decide +kernel
theorem dX11_accountOf_9 : decode cX11_accountOf 9 = .ok (.iconst 0, 1) := by decide +kernel
theorem dX11_accountOf_10 : decode cX11_accountOf 10 = .ok (.iconst 4, 1) := by decide +kernel
theorem dX11_accountOf_11 : decode cX11_accountOf 11 = .ok (.invokestatic 37, 3) := by decide +kernel
theorem dX11_accountOf_14 : decode cX11_accountOf 14 = .ok (.ifCond .ne 6, 3) := by decide +kernel
theorem dX11_accountOf_17 : decode cX11_accountOf 17 = .ok (.ldc 41, 2) := by decide +kernel
theorem dX11_accountOf_19 : decode cX11_accountOf 19 = .ok (.ireturn, 1) := by decide +kernel
theorem dX11_accountOf_20 : decode cX11_accountOf 20 = .ok (.iconst 0, 1) := by decide +kernel
theorem dX11_accountOf_21 : decode cX11_accountOf 21 = .ok (.istore_n 3, 1) := by decide +kernel
theorem dX11_accountOf_22 : decode cX11_accountOf 22 = .ok (.iconst 0, 1) := by decide +kernel
theorem dX11_accountOf_23 : decode cX11_accountOf 23 = .ok (.istore 4, 2) := by decide +kernel
theorem dX11_accountOf_25 : decode cX11_accountOf 25 = .ok (.iload_n 1, 1) := by decide +kernel
theorem dX11_accountOf_26 : decode cX11_accountOf 26 = .ok (.istore 5, 2) := by decide +kernel
theorem dX11_accountOf_28 : decode cX11_accountOf 28 = .ok (.iload 5, 2) := by decide +kernel
theorem dX11_accountOf_30 : decode cX11_accountOf 30 = .ok (.aload_n 0, 1) := by decide +kernel
theorem dX11_accountOf_31 : decode cX11_accountOf 31 = .ok (.getfield 7, 3) := by decide +kernel
theorem dX11_accountOf_34 : decode cX11_accountOf 34 = .ok (.bipush 14, 2) := by decide +kernel
theorem dX11_accountOf_36 : decode cX11_accountOf 36 = .ok (.iaload, 1) := by decide +kernel
theorem dX11_accountOf_37 : decode cX11_accountOf 37 = .ok (.if_icmp .ge 60, 3) := by decide +kernel
theorem dX11_accountOf_40 : decode cX11_accountOf 40 = .ok (.aload_n 0, 1) := by decide +kernel
theorem dX11_accountOf_41 : decode cX11_accountOf 41 = .ok (.iload 5, 2) := by decide +kernel
theorem dX11_accountOf_43 : decode cX11_accountOf 43 = .ok (.iload_n 1, 1) := by decide +kernel
theorem dX11_accountOf_44 : decode cX11_accountOf 44 = .ok (.invokevirtual 92, 3) := by decide +kernel
theorem dX11_accountOf_47 : decode cX11_accountOf 47 = .ok (.istore 6, 2) := by decide +kernel
theorem dX11_accountOf_49 : decode cX11_accountOf 49 = .ok (.iload_n 3, 1) := by decide +kernel
theorem dX11_accountOf_50 : decode cX11_accountOf 50 = .ok (.iload 6, 2) := by decide +kernel
theorem dX11_accountOf_52 : decode cX11_accountOf 52 = .ok (.ifCond .eq 21, 3) := by decide +kernel
theorem dX11_accountOf_55 : decode cX11_accountOf 55 = .ok (.aload_n 0, 1) := by decide +kernel
theorem dX11_accountOf_56 : decode cX11_accountOf 56 = .ok (.getfield 7, 3) := by decide +kernel
theorem dX11_accountOf_59 : decode cX11_accountOf 59 = .ok (.sipush 129, 3) := by decide +kernel
theorem dX11_accountOf_62 : decode cX11_accountOf 62 = .ok (.iconst 2, 1) := by decide +kernel
theorem dX11_accountOf_63 : decode cX11_accountOf 63 = .ok (.iload 5, 2) := by decide +kernel
theorem dX11_accountOf_65 : decode cX11_accountOf 65 = .ok (.imul, 1) := by decide +kernel
theorem dX11_accountOf_66 : decode cX11_accountOf 66 = .ok (.iadd, 1) := by decide +kernel
theorem dX11_accountOf_67 : decode cX11_accountOf 67 = .ok (.iconst 1, 1) := by decide +kernel
theorem dX11_accountOf_68 : decode cX11_accountOf 68 = .ok (.iadd, 1) := by decide +kernel
theorem dX11_accountOf_69 : decode cX11_accountOf 69 = .ok (.iaload, 1) := by decide +kernel
theorem dX11_accountOf_70 : decode cX11_accountOf 70 = .ok (.goto 4, 3) := by decide +kernel
theorem dX11_accountOf_73 : decode cX11_accountOf 73 = .ok (.iconst 0, 1) := by decide +kernel
theorem dX11_accountOf_74 : decode cX11_accountOf 74 = .ok (.iadd, 1) := by decide +kernel
theorem dX11_accountOf_75 : decode cX11_accountOf 75 = .ok (.istore_n 3, 1) := by decide +kernel
theorem dX11_accountOf_76 : decode cX11_accountOf 76 = .ok (.iload 4, 2) := by decide +kernel
theorem dX11_accountOf_78 : decode cX11_accountOf 78 = .ok (.iload 6, 2) := by decide +kernel
theorem dX11_accountOf_80 : decode cX11_accountOf 80 = .ok (.ifCond .eq 7, 3) := by decide +kernel
theorem dX11_accountOf_83 : decode cX11_accountOf 83 = .ok (.iconst 1, 1) := by decide +kernel
theorem dX11_accountOf_84 : decode cX11_accountOf 84 = .ok (.goto 4, 3) := by decide +kernel
theorem dX11_accountOf_87 : decode cX11_accountOf 87 = .ok (.iconst 0, 1) := by decide +kernel
theorem dX11_accountOf_88 : decode cX11_accountOf 88 = .ok (.iadd, 1) := by decide +kernel
theorem dX11_accountOf_89 : decode cX11_accountOf 89 = .ok (.istore 4, 2) := by decide +kernel
theorem dX11_accountOf_91 : decode cX11_accountOf 91 = .ok (.iinc 5 1, 3) := by decide +kernel
theorem dX11_accountOf_94 : decode cX11_accountOf 94 = .ok (.goto (-66), 3) := by decide +kernel
theorem dX11_accountOf_97 : decode cX11_accountOf 97 = .ok (.iload_n 2, 1) := by decide +kernel
theorem dX11_accountOf_98 : decode cX11_accountOf 98 = .ok (.iconst 2, 1) := by decide +kernel
theorem dX11_accountOf_99 : decode cX11_accountOf 99 = .ok (.if_icmp .ge 20, 3) := by decide +kernel
theorem dX11_accountOf_102 : decode cX11_accountOf 102 = .ok (.aload_n 0, 1) := by decide +kernel
theorem dX11_accountOf_103 : decode cX11_accountOf 103 = .ok (.getfield 7, 3) := by decide +kernel
theorem dX11_accountOf_106 : decode cX11_accountOf 106 = .ok (.sipush 129, 3) := by decide +kernel
theorem dX11_accountOf_109 : decode cX11_accountOf 109 = .ok (.iconst 2, 1) := by decide +kernel
theorem dX11_accountOf_110 : decode cX11_accountOf 110 = .ok (.iload_n 1, 1) := by decide +kernel
theorem dX11_accountOf_111 : decode cX11_accountOf 111 = .ok (.imul, 1) := by decide +kernel
theorem dX11_accountOf_112 : decode cX11_accountOf 112 = .ok (.iadd, 1) := by decide +kernel
theorem dX11_accountOf_113 : decode cX11_accountOf 113 = .ok (.iload_n 2, 1) := by decide +kernel
theorem dX11_accountOf_114 : decode cX11_accountOf 114 = .ok (.iadd, 1) := by decide +kernel
theorem dX11_accountOf_115 : decode cX11_accountOf 115 = .ok (.iaload, 1) := by decide +kernel
theorem dX11_accountOf_116 : decode cX11_accountOf 116 = .ok (.goto 29, 3) := by decide +kernel
theorem dX11_accountOf_119 : decode cX11_accountOf 119 = .ok (.iload_n 2, 1) := by decide +kernel
theorem dX11_accountOf_120 : decode cX11_accountOf 120 = .ok (.iconst 2, 1) := by decide +kernel
theorem dX11_accountOf_121 : decode cX11_accountOf 121 = .ok (.if_icmp .ne 7, 3) := by decide +kernel
theorem dX11_accountOf_124 : decode cX11_accountOf 124 = .ok (.iload_n 3, 1) := by decide +kernel
theorem dX11_accountOf_125 : decode cX11_accountOf 125 = .ok (.goto 20, 3) := by decide +kernel
theorem dX11_accountOf_128 : decode cX11_accountOf 128 = .ok (.iload_n 2, 1) := by decide +kernel
theorem dX11_accountOf_129 : decode cX11_accountOf 129 = .ok (.iconst 3, 1) := by decide +kernel
theorem dX11_accountOf_130 : decode cX11_accountOf 130 = .ok (.if_icmp .ne 10, 3) := by decide +kernel
theorem dX11_accountOf_133 : decode cX11_accountOf 133 = .ok (.iload 4, 2) := by decide +kernel
theorem dX11_accountOf_135 : decode cX11_accountOf 135 = .ok (.iconst 1, 1) := by decide +kernel
theorem dX11_accountOf_136 : decode cX11_accountOf 136 = .ok (.isub, 1) := by decide +kernel
theorem dX11_accountOf_137 : decode cX11_accountOf 137 = .ok (.goto 8, 3) := by decide +kernel
theorem dX11_accountOf_140 : decode cX11_accountOf 140 = .ok (.aload_n 0, 1) := by decide +kernel
theorem dX11_accountOf_141 : decode cX11_accountOf 141 = .ok (.iload_n 1, 1) := by decide +kernel
theorem dX11_accountOf_142 : decode cX11_accountOf 142 = .ok (.invokevirtual 96, 3) := by decide +kernel
theorem dX11_accountOf_145 : decode cX11_accountOf 145 = .ok (.ireturn, 1) := by decide +kernel
theorem dX11_massAt_0 : decode cX11_massAt 0 = .ok (.iload_n 1, 1) := by decide +kernel
theorem dX11_massAt_1 : decode cX11_massAt 1 = .ok (.iconst 0, 1) := by decide +kernel
theorem dX11_massAt_2 : decode cX11_massAt 2 = .ok (.bipush 11, 2) := by decide +kernel
theorem dX11_massAt_4 : decode cX11_massAt 4 = .ok (.invokestatic 37, 3) := by decide +kernel
theorem dX11_massAt_7 : decode cX11_massAt 7 = .ok (.ifCond .eq 12, 3) := by decide +kernel
theorem dX11_massAt_10 : decode cX11_massAt 10 = .ok (.iload_n 2, 1) := by decide +kernel
theorem dX11_massAt_11 : decode cX11_massAt 11 = .ok (.iconst (-1), 1) := by decide +kernel
theorem dX11_massAt_12 : decode cX11_massAt 12 = .ok (.iconst 3, 1) := by decide +kernel
theorem dX11_massAt_13 : decode cX11_massAt 13 = .ok (.invokestatic 37, 3) := by decide +kernel
theorem dX11_massAt_16 : decode cX11_massAt 16 = .ok (.ifCond .ne 6, 3) := by decide +kernel
theorem dX11_massAt_19 : decode cX11_massAt 19 = .ok (.ldc 41, 2) := by decide +kernel
theorem dX11_massAt_21 : decode cX11_massAt 21 = .ok (.ireturn, 1) := by decide +kernel
theorem dX11_massAt_22 : decode cX11_massAt 22 = .ok (.iload_n 2, 1) := by decide +kernel
theorem dX11_massAt_23 : decode cX11_massAt 23 = .ok (.ifCond .ge 12, 3) := by decide +kernel
theorem dX11_massAt_26 : decode cX11_massAt 26 = .ok (.aload_n 0, 1) := by decide +kernel
theorem dX11_massAt_27 : decode cX11_massAt 27 = .ok (.iload_n 1, 1) := by decide +kernel
theorem dX11_massAt_28 : decode cX11_massAt 28 = .ok (.iload_n 1, 1) := by decide +kernel
theorem dX11_massAt_29 : decode cX11_massAt 29 = .ok (.invokevirtual 51, 3) := by decide +kernel
theorem dX11_massAt_32 : decode cX11_massAt 32 = .ok (.goto 16, 3) := by decide +kernel
theorem dX11_massAt_35 : decode cX11_massAt 35 = .ok (.aload_n 0, 1) := by decide +kernel
theorem dX11_massAt_36 : decode cX11_massAt 36 = .ok (.getfield 7, 3) := by decide +kernel
theorem dX11_massAt_39 : decode cX11_massAt 39 = .ok (.bipush 21, 2) := by decide +kernel
theorem dX11_massAt_41 : decode cX11_massAt 41 = .ok (.iconst 4, 1) := by decide +kernel
theorem dX11_massAt_42 : decode cX11_massAt 42 = .ok (.iload_n 1, 1) := by decide +kernel
theorem dX11_massAt_43 : decode cX11_massAt 43 = .ok (.imul, 1) := by decide +kernel
theorem dX11_massAt_44 : decode cX11_massAt 44 = .ok (.iadd, 1) := by decide +kernel
theorem dX11_massAt_45 : decode cX11_massAt 45 = .ok (.iload_n 2, 1) := by decide +kernel
theorem dX11_massAt_46 : decode cX11_massAt 46 = .ok (.iadd, 1) := by decide +kernel
theorem dX11_massAt_47 : decode cX11_massAt 47 = .ok (.iaload, 1) := by decide +kernel
theorem dX11_massAt_48 : decode cX11_massAt 48 = .ok (.ireturn, 1) := by decide +kernel
theorem dX11_lotOf_0 : decode cX11_lotOf 0 = .ok (.iload_n 1, 1) := by decide +kernel
theorem dX11_lotOf_1 : decode cX11_lotOf 1 = .ok (.ifCond .lt 12, 3) := by decide +kernel
theorem dX11_lotOf_4 : decode cX11_lotOf 4 = .ok (.iload_n 2, 1) := by decide +kernel
theorem dX11_lotOf_5 : decode cX11_lotOf 5 = .ok (.iconst 0, 1) := by decide +kernel
theorem dX11_lotOf_6 : decode cX11_lotOf 6 = .ok (.iconst 1, 1) := by decide +kernel
theorem dX11_lotOf_7 : decode cX11_lotOf 7 = .ok (.invokestatic 37, 3) := by decide +kernel
theorem dX11_lotOf_10 : decode cX11_lotOf 10 = .ok (.ifCond .ne 6, 3) := by decide +kernel
theorem dX11_lotOf_13 : decode cX11_lotOf 13 = .ok (.ldc 41, 2) := by decide +kernel
theorem dX11_lotOf_15 : decode cX11_lotOf 15 = .ok (.ireturn, 1) := by decide +kernel
theorem dX11_lotOf_16 : decode cX11_lotOf 16 = .ok (.iload_n 1, 1) := by decide +kernel
theorem dX11_lotOf_17 : decode cX11_lotOf 17 = .ok (.aload_n 0, 1) := by decide +kernel
theorem dX11_lotOf_18 : decode cX11_lotOf 18 = .ok (.getfield 7, 3) := by decide +kernel
theorem dX11_lotOf_21 : decode cX11_lotOf 21 = .ok (.bipush 13, 2) := by decide +kernel
theorem dX11_lotOf_23 : decode cX11_lotOf 23 = .ok (.iaload, 1) := by decide +kernel
theorem dX11_lotOf_24 : decode cX11_lotOf 24 = .ok (.if_icmp .lt 8, 3) := by decide +kernel
theorem dX11_lotOf_27 : decode cX11_lotOf 27 = .ok (.ldc 28, 2) := by decide +kernel
theorem dX11_lotOf_29 : decode cX11_lotOf 29 = .ok (.goto 16, 3) := by decide +kernel
theorem dX11_lotOf_32 : decode cX11_lotOf 32 = .ok (.aload_n 0, 1) := by decide +kernel
theorem dX11_lotOf_33 : decode cX11_lotOf 33 = .ok (.getfield 7, 3) := by decide +kernel
theorem dX11_lotOf_36 : decode cX11_lotOf 36 = .ok (.bipush 69, 2) := by decide +kernel
theorem dX11_lotOf_38 : decode cX11_lotOf 38 = .ok (.iconst 2, 1) := by decide +kernel
theorem dX11_lotOf_39 : decode cX11_lotOf 39 = .ok (.iload_n 1, 1) := by decide +kernel
theorem dX11_lotOf_40 : decode cX11_lotOf 40 = .ok (.imul, 1) := by decide +kernel
theorem dX11_lotOf_41 : decode cX11_lotOf 41 = .ok (.iadd, 1) := by decide +kernel
theorem dX11_lotOf_42 : decode cX11_lotOf 42 = .ok (.iload_n 2, 1) := by decide +kernel
theorem dX11_lotOf_43 : decode cX11_lotOf 43 = .ok (.iadd, 1) := by decide +kernel
theorem dX11_lotOf_44 : decode cX11_lotOf 44 = .ok (.iaload, 1) := by decide +kernel
theorem dX11_lotOf_45 : decode cX11_lotOf 45 = .ok (.ireturn, 1) := by decide +kernel
theorem dX11_binOf_0 : decode cX11_binOf 0 = .ok (.aload_n 0, 1) := by decide +kernel
theorem dX11_binOf_1 : decode cX11_binOf 1 = .ok (.iload_n 1, 1) := by decide +kernel
theorem dX11_binOf_2 : decode cX11_binOf 2 = .ok (.invokevirtual 75, 3) := by decide +kernel
theorem dX11_binOf_5 : decode cX11_binOf 5 = .ok (.ifCond .eq 13, 3) := by decide +kernel
theorem dX11_binOf_8 : decode cX11_binOf 8 = .ok (.iload_n 2, 1) := by decide +kernel
theorem dX11_binOf_9 : decode cX11_binOf 9 = .ok (.iconst 0, 1) := by decide +kernel
theorem dX11_binOf_10 : decode cX11_binOf 10 = .ok (.bipush 6, 2) := by decide +kernel
theorem dX11_binOf_12 : decode cX11_binOf 12 = .ok (.invokestatic 37, 3) := by decide +kernel
theorem dX11_binOf_15 : decode cX11_binOf 15 = .ok (.ifCond .ne 6, 3) := by decide +kernel
theorem dX11_binOf_18 : decode cX11_binOf 18 = .ok (.ldc 41, 2) := by decide +kernel
theorem dX11_binOf_20 : decode cX11_binOf 20 = .ok (.ireturn, 1) := by decide +kernel
theorem dX11_binOf_21 : decode cX11_binOf 21 = .ok (.iload_n 2, 1) := by decide +kernel
theorem dX11_binOf_22 : decode cX11_binOf 22 = .ok (.iconst 4, 1) := by decide +kernel
theorem dX11_binOf_23 : decode cX11_binOf 23 = .ok (.if_icmp .ge 20, 3) := by decide +kernel
theorem dX11_binOf_26 : decode cX11_binOf 26 = .ok (.aload_n 0, 1) := by decide +kernel
theorem dX11_binOf_27 : decode cX11_binOf 27 = .ok (.getfield 7, 3) := by decide +kernel
theorem dX11_binOf_30 : decode cX11_binOf 30 = .ok (.bipush 81, 2) := by decide +kernel
theorem dX11_binOf_32 : decode cX11_binOf 32 = .ok (.bipush 6, 2) := by decide +kernel
theorem dX11_binOf_34 : decode cX11_binOf 34 = .ok (.iload_n 1, 1) := by decide +kernel
theorem dX11_binOf_35 : decode cX11_binOf 35 = .ok (.imul, 1) := by decide +kernel
theorem dX11_binOf_36 : decode cX11_binOf 36 = .ok (.iadd, 1) := by decide +kernel
theorem dX11_binOf_37 : decode cX11_binOf 37 = .ok (.iload_n 2, 1) := by decide +kernel
theorem dX11_binOf_38 : decode cX11_binOf 38 = .ok (.iadd, 1) := by decide +kernel
theorem dX11_binOf_39 : decode cX11_binOf 39 = .ok (.iaload, 1) := by decide +kernel
theorem dX11_binOf_40 : decode cX11_binOf 40 = .ok (.goto 55, 3) := by decide +kernel
theorem dX11_binOf_43 : decode cX11_binOf 43 = .ok (.iload_n 2, 1) := by decide +kernel
theorem dX11_binOf_44 : decode cX11_binOf 44 = .ok (.iconst 4, 1) := by decide +kernel
theorem dX11_binOf_45 : decode cX11_binOf 45 = .ok (.if_icmp .ne 11, 3) := by decide +kernel
theorem dX11_binOf_48 : decode cX11_binOf 48 = .ok (.aload_n 0, 1) := by decide +kernel
theorem dX11_binOf_49 : decode cX11_binOf 49 = .ok (.iload_n 1, 1) := by decide +kernel
theorem dX11_binOf_50 : decode cX11_binOf 50 = .ok (.invokevirtual 81, 3) := by decide +kernel
theorem dX11_binOf_53 : decode cX11_binOf 53 = .ok (.goto 42, 3) := by decide +kernel
theorem dX11_binOf_56 : decode cX11_binOf 56 = .ok (.iload_n 2, 1) := by decide +kernel
theorem dX11_binOf_57 : decode cX11_binOf 57 = .ok (.iconst 5, 1) := by decide +kernel
theorem dX11_binOf_58 : decode cX11_binOf 58 = .ok (.if_icmp .ne 23, 3) := by decide +kernel
theorem dX11_binOf_61 : decode cX11_binOf 61 = .ok (.aload_n 0, 1) := by decide +kernel
theorem dX11_binOf_62 : decode cX11_binOf 62 = .ok (.getfield 7, 3) := by decide +kernel
theorem dX11_binOf_65 : decode cX11_binOf 65 = .ok (.bipush 81, 2) := by decide +kernel
theorem dX11_binOf_67 : decode cX11_binOf 67 = .ok (.bipush 6, 2) := by decide +kernel
theorem dX11_binOf_69 : decode cX11_binOf 69 = .ok (.iload_n 1, 1) := by decide +kernel
theorem dX11_binOf_70 : decode cX11_binOf 70 = .ok (.imul, 1) := by decide +kernel
theorem dX11_binOf_71 : decode cX11_binOf 71 = .ok (.iadd, 1) := by decide +kernel
theorem dX11_binOf_72 : decode cX11_binOf 72 = .ok (.iconst 4, 1) := by decide +kernel
theorem dX11_binOf_73 : decode cX11_binOf 73 = .ok (.iadd, 1) := by decide +kernel
theorem dX11_binOf_74 : decode cX11_binOf 74 = .ok (.iaload, 1) := by decide +kernel
theorem dX11_binOf_75 : decode cX11_binOf 75 = .ok (.ldc 99, 2) := by decide +kernel
theorem dX11_binOf_77 : decode cX11_binOf 77 = .ok (.iadd, 1) := by decide +kernel
theorem dX11_binOf_78 : decode cX11_binOf 78 = .ok (.goto 17, 3) := by decide +kernel
theorem dX11_binOf_81 : decode cX11_binOf 81 = .ok (.aload_n 0, 1) := by decide +kernel
theorem dX11_binOf_82 : decode cX11_binOf 82 = .ok (.getfield 7, 3) := by decide +kernel
theorem dX11_binOf_85 : decode cX11_binOf 85 = .ok (.bipush 81, 2) := by decide +kernel
theorem dX11_binOf_87 : decode cX11_binOf 87 = .ok (.bipush 6, 2) := by decide +kernel
theorem dX11_binOf_89 : decode cX11_binOf 89 = .ok (.iload_n 1, 1) := by decide +kernel
theorem dX11_binOf_90 : decode cX11_binOf 90 = .ok (.imul, 1) := by decide +kernel
theorem dX11_binOf_91 : decode cX11_binOf 91 = .ok (.iadd, 1) := by decide +kernel
theorem dX11_binOf_92 : decode cX11_binOf 92 = .ok (.iconst 5, 1) := by decide +kernel
theorem dX11_binOf_93 : decode cX11_binOf 93 = .ok (.iadd, 1) := by decide +kernel
theorem dX11_binOf_94 : decode cX11_binOf 94 = .ok (.iaload, 1) := by decide +kernel
theorem dX11_binOf_95 : decode cX11_binOf 95 = .ok (.ireturn, 1) := by decide +kernel
theorem dX11_total_0 : decode cX11_total 0 = .ok (.aload_n 0, 1) := by decide +kernel
theorem dX11_total_1 : decode cX11_total 1 = .ok (.getfield 7, 3) := by decide +kernel
theorem dX11_total_4 : decode cX11_total 4 = .ok (.iconst 5, 1) := by decide +kernel
theorem dX11_total_5 : decode cX11_total 5 = .ok (.iaload, 1) := by decide +kernel
theorem dX11_total_6 : decode cX11_total 6 = .ok (.i2l, 1) := by decide +kernel
theorem dX11_total_7 : decode cX11_total 7 = .ok (.aload_n 0, 1) := by decide +kernel
theorem dX11_total_8 : decode cX11_total 8 = .ok (.getfield 7, 3) := by decide +kernel
theorem dX11_total_11 : decode cX11_total 11 = .ok (.bipush 7, 2) := by decide +kernel
theorem dX11_total_13 : decode cX11_total 13 = .ok (.iaload, 1) := by decide +kernel
theorem dX11_total_14 : decode cX11_total 14 = .ok (.i2l, 1) := by decide +kernel
theorem dX11_total_15 : decode cX11_total 15 = .ok (.lmul, 1) := by decide +kernel
theorem dX11_total_16 : decode cX11_total 16 = .ok (.ldc2_w 79, 3) := by decide +kernel
theorem dX11_total_19 : decode cX11_total 19 = .ok (.ldiv, 1) := by decide +kernel
theorem dX11_total_20 : decode cX11_total 20 = .ok (.l2i, 1) := by decide +kernel
theorem dX11_total_21 : decode cX11_total 21 = .ok (.ireturn, 1) := by decide +kernel
theorem dX11_scale_0 : decode cX11_scale 0 = .ok (.iload_n 1, 1) := by decide +kernel
theorem dX11_scale_1 : decode cX11_scale 1 = .ok (.tableswitch 105 0 6 #[43, 51, 61, 71, 81, 89, 97], 43) := by decide +kernel
theorem dX11_scale_44 : decode cX11_scale 44 = .ok (.aload_n 0, 1) := by decide +kernel
theorem dX11_scale_45 : decode cX11_scale 45 = .ok (.invokevirtual 55, 3) := by decide +kernel
theorem dX11_scale_48 : decode cX11_scale 48 = .ok (.ldc 74, 2) := by decide +kernel
theorem dX11_scale_50 : decode cX11_scale 50 = .ok (.iadd, 1) := by decide +kernel
theorem dX11_scale_51 : decode cX11_scale 51 = .ok (.ireturn, 1) := by decide +kernel
theorem dX11_scale_52 : decode cX11_scale 52 = .ok (.aload_n 0, 1) := by decide +kernel
theorem dX11_scale_53 : decode cX11_scale 53 = .ok (.getfield 7, 3) := by decide +kernel
theorem dX11_scale_56 : decode cX11_scale 56 = .ok (.iconst 3, 1) := by decide +kernel
theorem dX11_scale_57 : decode cX11_scale 57 = .ok (.iaload, 1) := by decide +kernel
theorem dX11_scale_58 : decode cX11_scale 58 = .ok (.ldc 74, 2) := by decide +kernel
theorem dX11_scale_60 : decode cX11_scale 60 = .ok (.iadd, 1) := by decide +kernel
theorem dX11_scale_61 : decode cX11_scale 61 = .ok (.ireturn, 1) := by decide +kernel
theorem dX11_scale_62 : decode cX11_scale 62 = .ok (.aload_n 0, 1) := by decide +kernel
theorem dX11_scale_63 : decode cX11_scale 63 = .ok (.getfield 7, 3) := by decide +kernel
theorem dX11_scale_66 : decode cX11_scale 66 = .ok (.iconst 4, 1) := by decide +kernel
theorem dX11_scale_67 : decode cX11_scale 67 = .ok (.iaload, 1) := by decide +kernel
theorem dX11_scale_68 : decode cX11_scale 68 = .ok (.ldc 74, 2) := by decide +kernel
theorem dX11_scale_70 : decode cX11_scale 70 = .ok (.iadd, 1) := by decide +kernel
theorem dX11_scale_71 : decode cX11_scale 71 = .ok (.ireturn, 1) := by decide +kernel
theorem dX11_scale_72 : decode cX11_scale 72 = .ok (.aload_n 0, 1) := by decide +kernel
theorem dX11_scale_73 : decode cX11_scale 73 = .ok (.getfield 7, 3) := by decide +kernel
theorem dX11_scale_76 : decode cX11_scale 76 = .ok (.iconst 5, 1) := by decide +kernel
theorem dX11_scale_77 : decode cX11_scale 77 = .ok (.iaload, 1) := by decide +kernel
theorem dX11_scale_78 : decode cX11_scale 78 = .ok (.ldc 99, 2) := by decide +kernel
theorem dX11_scale_80 : decode cX11_scale 80 = .ok (.iadd, 1) := by decide +kernel
theorem dX11_scale_81 : decode cX11_scale 81 = .ok (.ireturn, 1) := by decide +kernel
theorem dX11_scale_82 : decode cX11_scale 82 = .ok (.aload_n 0, 1) := by decide +kernel
theorem dX11_scale_83 : decode cX11_scale 83 = .ok (.invokevirtual 100, 3) := by decide +kernel
theorem dX11_scale_86 : decode cX11_scale 86 = .ok (.ldc 99, 2) := by decide +kernel
theorem dX11_scale_88 : decode cX11_scale 88 = .ok (.iadd, 1) := by decide +kernel
theorem dX11_scale_89 : decode cX11_scale 89 = .ok (.ireturn, 1) := by decide +kernel
theorem dX11_scale_90 : decode cX11_scale 90 = .ok (.aload_n 0, 1) := by decide +kernel
theorem dX11_scale_91 : decode cX11_scale 91 = .ok (.getfield 7, 3) := by decide +kernel
theorem dX11_scale_94 : decode cX11_scale 94 = .ok (.bipush 7, 2) := by decide +kernel
theorem dX11_scale_96 : decode cX11_scale 96 = .ok (.iaload, 1) := by decide +kernel
theorem dX11_scale_97 : decode cX11_scale 97 = .ok (.ireturn, 1) := by decide +kernel
theorem dX11_scale_98 : decode cX11_scale 98 = .ok (.aload_n 0, 1) := by decide +kernel
theorem dX11_scale_99 : decode cX11_scale 99 = .ok (.getfield 7, 3) := by decide +kernel
theorem dX11_scale_102 : decode cX11_scale 102 = .ok (.bipush 8, 2) := by decide +kernel
theorem dX11_scale_104 : decode cX11_scale 104 = .ok (.iaload, 1) := by decide +kernel
theorem dX11_scale_105 : decode cX11_scale 105 = .ok (.ireturn, 1) := by decide +kernel
theorem dX11_scale_106 : decode cX11_scale 106 = .ok (.ldc 41, 2) := by decide +kernel
theorem dX11_scale_108 : decode cX11_scale 108 = .ok (.ireturn, 1) := by decide +kernel
theorem dX11_hopper_0 : decode cX11_hopper 0 = .ok (.iconst 0, 1) := by decide +kernel
theorem dX11_hopper_1 : decode cX11_hopper 1 = .ok (.istore_n 1, 1) := by decide +kernel
theorem dX11_hopper_2 : decode cX11_hopper 2 = .ok (.iconst 0, 1) := by decide +kernel
theorem dX11_hopper_3 : decode cX11_hopper 3 = .ok (.istore_n 2, 1) := by decide +kernel
theorem dX11_hopper_4 : decode cX11_hopper 4 = .ok (.iload_n 2, 1) := by decide +kernel
theorem dX11_hopper_5 : decode cX11_hopper 5 = .ok (.aload_n 0, 1) := by decide +kernel
theorem dX11_hopper_6 : decode cX11_hopper 6 = .ok (.getfield 7, 3) := by decide +kernel
theorem dX11_hopper_9 : decode cX11_hopper 9 = .ok (.bipush 13, 2) := by decide +kernel
theorem dX11_hopper_11 : decode cX11_hopper 11 = .ok (.iaload, 1) := by decide +kernel
theorem dX11_hopper_12 : decode cX11_hopper 12 = .ok (.if_icmp .ge 25, 3) := by decide +kernel
theorem dX11_hopper_15 : decode cX11_hopper 15 = .ok (.iload_n 1, 1) := by decide +kernel
theorem dX11_hopper_16 : decode cX11_hopper 16 = .ok (.aload_n 0, 1) := by decide +kernel
theorem dX11_hopper_17 : decode cX11_hopper 17 = .ok (.getfield 7, 3) := by decide +kernel
theorem dX11_hopper_20 : decode cX11_hopper 20 = .ok (.bipush 69, 2) := by decide +kernel
theorem dX11_hopper_22 : decode cX11_hopper 22 = .ok (.iconst 2, 1) := by decide +kernel
theorem dX11_hopper_23 : decode cX11_hopper 23 = .ok (.iload_n 2, 1) := by decide +kernel
theorem dX11_hopper_24 : decode cX11_hopper 24 = .ok (.imul, 1) := by decide +kernel
theorem dX11_hopper_25 : decode cX11_hopper 25 = .ok (.iadd, 1) := by decide +kernel
theorem dX11_hopper_26 : decode cX11_hopper 26 = .ok (.iconst 1, 1) := by decide +kernel
theorem dX11_hopper_27 : decode cX11_hopper 27 = .ok (.iadd, 1) := by decide +kernel
theorem dX11_hopper_28 : decode cX11_hopper 28 = .ok (.iaload, 1) := by decide +kernel
theorem dX11_hopper_29 : decode cX11_hopper 29 = .ok (.iadd, 1) := by decide +kernel
theorem dX11_hopper_30 : decode cX11_hopper 30 = .ok (.istore_n 1, 1) := by decide +kernel
theorem dX11_hopper_31 : decode cX11_hopper 31 = .ok (.iinc 2 1, 3) := by decide +kernel
theorem dX11_hopper_34 : decode cX11_hopper 34 = .ok (.goto (-30), 3) := by decide +kernel
theorem dX11_hopper_37 : decode cX11_hopper 37 = .ok (.iload_n 1, 1) := by decide +kernel
theorem dX11_hopper_38 : decode cX11_hopper 38 = .ok (.ireturn, 1) := by decide +kernel
theorem dX11_inBins_0 : decode cX11_inBins 0 = .ok (.iconst 0, 1) := by decide +kernel
theorem dX11_inBins_1 : decode cX11_inBins 1 = .ok (.istore_n 1, 1) := by decide +kernel
theorem dX11_inBins_2 : decode cX11_inBins 2 = .ok (.iconst 0, 1) := by decide +kernel
theorem dX11_inBins_3 : decode cX11_inBins 3 = .ok (.istore_n 2, 1) := by decide +kernel
theorem dX11_inBins_4 : decode cX11_inBins 4 = .ok (.iload_n 2, 1) := by decide +kernel
theorem dX11_inBins_5 : decode cX11_inBins 5 = .ok (.aload_n 0, 1) := by decide +kernel
theorem dX11_inBins_6 : decode cX11_inBins 6 = .ok (.getfield 7, 3) := by decide +kernel
theorem dX11_inBins_9 : decode cX11_inBins 9 = .ok (.bipush 12, 2) := by decide +kernel
theorem dX11_inBins_11 : decode cX11_inBins 11 = .ok (.iaload, 1) := by decide +kernel
theorem dX11_inBins_12 : decode cX11_inBins 12 = .ok (.if_icmp .ge 17, 3) := by decide +kernel
theorem dX11_inBins_15 : decode cX11_inBins 15 = .ok (.iload_n 1, 1) := by decide +kernel
theorem dX11_inBins_16 : decode cX11_inBins 16 = .ok (.aload_n 0, 1) := by decide +kernel
theorem dX11_inBins_17 : decode cX11_inBins 17 = .ok (.iload_n 2, 1) := by decide +kernel
theorem dX11_inBins_18 : decode cX11_inBins 18 = .ok (.invokevirtual 81, 3) := by decide +kernel
theorem dX11_inBins_21 : decode cX11_inBins 21 = .ok (.iadd, 1) := by decide +kernel
theorem dX11_inBins_22 : decode cX11_inBins 22 = .ok (.istore_n 1, 1) := by decide +kernel
theorem dX11_inBins_23 : decode cX11_inBins 23 = .ok (.iinc 2 1, 3) := by decide +kernel
theorem dX11_inBins_26 : decode cX11_inBins 26 = .ok (.goto (-22), 3) := by decide +kernel
theorem dX11_inBins_29 : decode cX11_inBins 29 = .ok (.iload_n 1, 1) := by decide +kernel
theorem dX11_inBins_30 : decode cX11_inBins 30 = .ok (.ireturn, 1) := by decide +kernel
theorem dX11_batchTold_0 : decode cX11_batchTold 0 = .ok (.aload_n 0, 1) := by decide +kernel
theorem dX11_batchTold_1 : decode cX11_batchTold 1 = .ok (.invokevirtual 46, 3) := by decide +kernel
theorem dX11_batchTold_4 : decode cX11_batchTold 4 = .ok (.ifCond .ne 8, 3) := by decide +kernel
theorem dX11_batchTold_7 : decode cX11_batchTold 7 = .ok (.ldc 28, 2) := by decide +kernel
theorem dX11_batchTold_9 : decode cX11_batchTold 9 = .ok (.goto 25, 3) := by decide +kernel
theorem dX11_batchTold_12 : decode cX11_batchTold 12 = .ok (.iload_n 1, 1) := by decide +kernel
theorem dX11_batchTold_13 : decode cX11_batchTold 13 = .ok (.iconst 5, 1) := by decide +kernel
theorem dX11_batchTold_14 : decode cX11_batchTold 14 = .ok (.if_icmp .ne 13, 3) := by decide +kernel
theorem dX11_batchTold_17 : decode cX11_batchTold 17 = .ok (.aload_n 0, 1) := by decide +kernel
theorem dX11_batchTold_18 : decode cX11_batchTold 18 = .ok (.getfield 7, 3) := by decide +kernel
theorem dX11_batchTold_21 : decode cX11_batchTold 21 = .ok (.bipush 15, 2) := by decide +kernel
theorem dX11_batchTold_23 : decode cX11_batchTold 23 = .ok (.iaload, 1) := by decide +kernel
theorem dX11_batchTold_24 : decode cX11_batchTold 24 = .ok (.goto 10, 3) := by decide +kernel
theorem dX11_batchTold_27 : decode cX11_batchTold 27 = .ok (.aload_n 0, 1) := by decide +kernel
theorem dX11_batchTold_28 : decode cX11_batchTold 28 = .ok (.getfield 7, 3) := by decide +kernel
theorem dX11_batchTold_31 : decode cX11_batchTold 31 = .ok (.bipush 16, 2) := by decide +kernel
theorem dX11_batchTold_33 : decode cX11_batchTold 33 = .ok (.iaload, 1) := by decide +kernel
theorem dX11_batchTold_34 : decode cX11_batchTold 34 = .ok (.ireturn, 1) := by decide +kernel
theorem dX11_count_0 : decode cX11_count 0 = .ok (.iload_n 1, 1) := by decide +kernel
theorem dX11_count_1 : decode cX11_count 1 = .ok (.tableswitch 199 0 15 #[79, 87, 94, 101, 109, 134, 134, 140, 147, 155, 160, 168, 173, 181, 189, 194], 79) := by decide +kernel
theorem dX11_count_80 : decode cX11_count 80 = .ok (.aload_n 0, 1) := by decide +kernel
theorem dX11_count_81 : decode cX11_count 81 = .ok (.getfield 7, 3) := by decide +kernel
theorem dX11_count_84 : decode cX11_count 84 = .ok (.bipush 13, 2) := by decide +kernel
theorem dX11_count_86 : decode cX11_count 86 = .ok (.iaload, 1) := by decide +kernel
theorem dX11_count_87 : decode cX11_count 87 = .ok (.ireturn, 1) := by decide +kernel
theorem dX11_count_88 : decode cX11_count 88 = .ok (.aload_n 0, 1) := by decide +kernel
theorem dX11_count_89 : decode cX11_count 89 = .ok (.getfield 7, 3) := by decide +kernel
theorem dX11_count_92 : decode cX11_count 92 = .ok (.iconst 0, 1) := by decide +kernel
theorem dX11_count_93 : decode cX11_count 93 = .ok (.iaload, 1) := by decide +kernel
theorem dX11_count_94 : decode cX11_count 94 = .ok (.ireturn, 1) := by decide +kernel
theorem dX11_count_95 : decode cX11_count 95 = .ok (.aload_n 0, 1) := by decide +kernel
theorem dX11_count_96 : decode cX11_count 96 = .ok (.getfield 7, 3) := by decide +kernel
theorem dX11_count_99 : decode cX11_count 99 = .ok (.iconst 1, 1) := by decide +kernel
theorem dX11_count_100 : decode cX11_count 100 = .ok (.iaload, 1) := by decide +kernel
theorem dX11_count_101 : decode cX11_count 101 = .ok (.ireturn, 1) := by decide +kernel
theorem dX11_count_102 : decode cX11_count 102 = .ok (.aload_n 0, 1) := by decide +kernel
theorem dX11_count_103 : decode cX11_count 103 = .ok (.getfield 7, 3) := by decide +kernel
theorem dX11_count_106 : decode cX11_count 106 = .ok (.bipush 12, 2) := by decide +kernel
theorem dX11_count_108 : decode cX11_count 108 = .ok (.iaload, 1) := by decide +kernel
theorem dX11_count_109 : decode cX11_count 109 = .ok (.ireturn, 1) := by decide +kernel
theorem dX11_count_110 : decode cX11_count 110 = .ok (.aload_n 0, 1) := by decide +kernel
theorem dX11_count_111 : decode cX11_count 111 = .ok (.getfield 7, 3) := by decide +kernel
theorem dX11_count_114 : decode cX11_count 114 = .ok (.bipush 12, 2) := by decide +kernel
theorem dX11_count_116 : decode cX11_count 116 = .ok (.iaload, 1) := by decide +kernel
theorem dX11_count_117 : decode cX11_count 117 = .ok (.ifCond .ne 8, 3) := by decide +kernel
theorem dX11_count_120 : decode cX11_count 120 = .ok (.ldc 28, 2) := by decide +kernel
theorem dX11_count_122 : decode cX11_count 122 = .ok (.goto 12, 3) := by decide +kernel
theorem dX11_count_125 : decode cX11_count 125 = .ok (.aload_n 0, 1) := by decide +kernel
theorem dX11_count_126 : decode cX11_count 126 = .ok (.getfield 7, 3) := by decide +kernel
theorem dX11_count_129 : decode cX11_count 129 = .ok (.bipush 12, 2) := by decide +kernel
theorem dX11_count_131 : decode cX11_count 131 = .ok (.iaload, 1) := by decide +kernel
theorem dX11_count_132 : decode cX11_count 132 = .ok (.iconst 1, 1) := by decide +kernel
theorem dX11_count_133 : decode cX11_count 133 = .ok (.isub, 1) := by decide +kernel
theorem dX11_count_134 : decode cX11_count 134 = .ok (.ireturn, 1) := by decide +kernel
theorem dX11_count_135 : decode cX11_count 135 = .ok (.aload_n 0, 1) := by decide +kernel
theorem dX11_count_136 : decode cX11_count 136 = .ok (.iload_n 1, 1) := by decide +kernel
theorem dX11_count_137 : decode cX11_count 137 = .ok (.invokevirtual 103, 3) := by decide +kernel
theorem dX11_count_140 : decode cX11_count 140 = .ok (.ireturn, 1) := by decide +kernel
theorem dX11_count_141 : decode cX11_count 141 = .ok (.aload_n 0, 1) := by decide +kernel
theorem dX11_count_142 : decode cX11_count 142 = .ok (.getfield 7, 3) := by decide +kernel
theorem dX11_count_145 : decode cX11_count 145 = .ok (.iconst 2, 1) := by decide +kernel
theorem dX11_count_146 : decode cX11_count 146 = .ok (.iaload, 1) := by decide +kernel
theorem dX11_count_147 : decode cX11_count 147 = .ok (.ireturn, 1) := by decide +kernel
theorem dX11_count_148 : decode cX11_count 148 = .ok (.aload_n 0, 1) := by decide +kernel
theorem dX11_count_149 : decode cX11_count 149 = .ok (.iconst 0, 1) := by decide +kernel
theorem dX11_count_150 : decode cX11_count 150 = .ok (.bipush 11, 2) := by decide +kernel
theorem dX11_count_152 : decode cX11_count 152 = .ok (.invokevirtual 51, 3) := by decide +kernel
theorem dX11_count_155 : decode cX11_count 155 = .ok (.ireturn, 1) := by decide +kernel
theorem dX11_count_156 : decode cX11_count 156 = .ok (.aload_n 0, 1) := by decide +kernel
theorem dX11_count_157 : decode cX11_count 157 = .ok (.invokevirtual 106, 3) := by decide +kernel
theorem dX11_count_160 : decode cX11_count 160 = .ok (.ireturn, 1) := by decide +kernel
theorem dX11_count_161 : decode cX11_count 161 = .ok (.aload_n 0, 1) := by decide +kernel
theorem dX11_count_162 : decode cX11_count 162 = .ok (.getfield 7, 3) := by decide +kernel
theorem dX11_count_165 : decode cX11_count 165 = .ok (.bipush 9, 2) := by decide +kernel
theorem dX11_count_167 : decode cX11_count 167 = .ok (.iaload, 1) := by decide +kernel
theorem dX11_count_168 : decode cX11_count 168 = .ok (.ireturn, 1) := by decide +kernel
theorem dX11_count_169 : decode cX11_count 169 = .ok (.aload_n 0, 1) := by decide +kernel
theorem dX11_count_170 : decode cX11_count 170 = .ok (.invokevirtual 109, 3) := by decide +kernel
theorem dX11_count_173 : decode cX11_count 173 = .ok (.ireturn, 1) := by decide +kernel
theorem dX11_count_174 : decode cX11_count 174 = .ok (.aload_n 0, 1) := by decide +kernel
theorem dX11_count_175 : decode cX11_count 175 = .ok (.getfield 7, 3) := by decide +kernel
theorem dX11_count_178 : decode cX11_count 178 = .ok (.bipush 10, 2) := by decide +kernel
theorem dX11_count_180 : decode cX11_count 180 = .ok (.iaload, 1) := by decide +kernel
theorem dX11_count_181 : decode cX11_count 181 = .ok (.ireturn, 1) := by decide +kernel
theorem dX11_count_182 : decode cX11_count 182 = .ok (.aload_n 0, 1) := by decide +kernel
theorem dX11_count_183 : decode cX11_count 183 = .ok (.getfield 7, 3) := by decide +kernel
theorem dX11_count_186 : decode cX11_count 186 = .ok (.bipush 14, 2) := by decide +kernel
theorem dX11_count_188 : decode cX11_count 188 = .ok (.iaload, 1) := by decide +kernel
theorem dX11_count_189 : decode cX11_count 189 = .ok (.ireturn, 1) := by decide +kernel
theorem dX11_count_190 : decode cX11_count 190 = .ok (.aload_n 0, 1) := by decide +kernel
theorem dX11_count_191 : decode cX11_count 191 = .ok (.getfield 33, 3) := by decide +kernel
theorem dX11_count_194 : decode cX11_count 194 = .ok (.ireturn, 1) := by decide +kernel
theorem dX11_count_195 : decode cX11_count 195 = .ok (.aload_n 0, 1) := by decide +kernel
theorem dX11_count_196 : decode cX11_count 196 = .ok (.getfield 112, 3) := by decide +kernel
theorem dX11_count_199 : decode cX11_count 199 = .ok (.ireturn, 1) := by decide +kernel
theorem dX11_count_200 : decode cX11_count 200 = .ok (.iload_n 1, 1) := by decide +kernel
theorem dX11_count_201 : decode cX11_count 201 = .ok (.bipush 20, 2) := by decide +kernel
theorem dX11_count_203 : decode cX11_count 203 = .ok (.bipush 22, 2) := by decide +kernel
theorem dX11_count_205 : decode cX11_count 205 = .ok (.invokestatic 37, 3) := by decide +kernel
theorem dX11_count_208 : decode cX11_count 208 = .ok (.ifCond .eq 31, 3) := by decide +kernel
theorem dX11_count_211 : decode cX11_count 211 = .ok (.aload_n 0, 1) := by decide +kernel
theorem dX11_count_212 : decode cX11_count 212 = .ok (.getfield 7, 3) := by decide +kernel
theorem dX11_count_215 : decode cX11_count 215 = .ok (.bipush 18, 2) := by decide +kernel
theorem dX11_count_217 : decode cX11_count 217 = .ok (.iload_n 1, 1) := by decide +kernel
theorem dX11_count_218 : decode cX11_count 218 = .ok (.iadd, 1) := by decide +kernel
theorem dX11_count_219 : decode cX11_count 219 = .ok (.bipush 20, 2) := by decide +kernel
theorem dX11_count_221 : decode cX11_count 221 = .ok (.isub, 1) := by decide +kernel
theorem dX11_count_222 : decode cX11_count 222 = .ok (.iaload, 1) := by decide +kernel
theorem dX11_count_223 : decode cX11_count 223 = .ok (.iload_n 1, 1) := by decide +kernel
theorem dX11_count_224 : decode cX11_count 224 = .ok (.bipush 22, 2) := by decide +kernel
theorem dX11_count_226 : decode cX11_count 226 = .ok (.if_icmp .ne 8, 3) := by decide +kernel
theorem dX11_count_229 : decode cX11_count 229 = .ok (.bipush 10, 2) := by decide +kernel
theorem dX11_count_231 : decode cX11_count 231 = .ok (.goto 4, 3) := by decide +kernel
theorem dX11_count_234 : decode cX11_count 234 = .ok (.iconst 0, 1) := by decide +kernel
theorem dX11_count_235 : decode cX11_count 235 = .ok (.iadd, 1) := by decide +kernel
theorem dX11_count_236 : decode cX11_count 236 = .ok (.goto 32, 3) := by decide +kernel
theorem dX11_count_239 : decode cX11_count 239 = .ok (.iload_n 1, 1) := by decide +kernel
theorem dX11_count_240 : decode cX11_count 240 = .ok (.bipush 30, 2) := by decide +kernel
theorem dX11_count_242 : decode cX11_count 242 = .ok (.bipush 33, 2) := by decide +kernel
theorem dX11_count_244 : decode cX11_count 244 = .ok (.invokestatic 37, 3) := by decide +kernel
theorem dX11_count_247 : decode cX11_count 247 = .ok (.ifCond .eq 19, 3) := by decide +kernel
theorem dX11_count_250 : decode cX11_count 250 = .ok (.aload_n 0, 1) := by decide +kernel
theorem dX11_count_251 : decode cX11_count 251 = .ok (.getfield 7, 3) := by decide +kernel
theorem dX11_count_254 : decode cX11_count 254 = .ok (.sipush 145, 3) := by decide +kernel
theorem dX11_count_257 : decode cX11_count 257 = .ok (.iload_n 1, 1) := by decide +kernel
theorem dX11_count_258 : decode cX11_count 258 = .ok (.iadd, 1) := by decide +kernel
theorem dX11_count_259 : decode cX11_count 259 = .ok (.bipush 30, 2) := by decide +kernel
theorem dX11_count_261 : decode cX11_count 261 = .ok (.isub, 1) := by decide +kernel
theorem dX11_count_262 : decode cX11_count 262 = .ok (.iaload, 1) := by decide +kernel
theorem dX11_count_263 : decode cX11_count 263 = .ok (.goto 5, 3) := by decide +kernel
theorem dX11_count_266 : decode cX11_count 266 = .ok (.ldc 41, 2) := by decide +kernel
theorem dX11_count_268 : decode cX11_count 268 = .ok (.ireturn, 1) := by decide +kernel
theorem dX11_lasts_0 : decode cX11_lasts 0 = .ok (.aload_n 0, 1) := by decide +kernel
theorem dX11_lasts_1 : decode cX11_lasts 1 = .ok (.getfield 7, 3) := by decide +kernel
theorem dX11_lasts_4 : decode cX11_lasts 4 = .ok (.aload_n 0, 1) := by decide +kernel
theorem dX11_lasts_5 : decode cX11_lasts 5 = .ok (.getfield 19, 3) := by decide +kernel
theorem dX11_lasts_8 : decode cX11_lasts 8 = .ok (.invokestatic 115, 3) := by decide +kernel
theorem dX11_lasts_11 : decode cX11_lasts 11 = .ok (.iconst 0, 1) := by decide +kernel
theorem dX11_lasts_12 : decode cX11_lasts 12 = .ok (.istore_n 1, 1) := by decide +kernel
theorem dX11_lasts_13 : decode cX11_lasts 13 = .ok (.aload_n 0, 1) := by decide +kernel
theorem dX11_lasts_14 : decode cX11_lasts 14 = .ok (.invokevirtual 46, 3) := by decide +kernel
theorem dX11_lasts_17 : decode cX11_lasts 17 = .ok (.ifCond .eq 20, 3) := by decide +kernel
theorem dX11_lasts_20 : decode cX11_lasts 20 = .ok (.iload_n 1, 1) := by decide +kernel
theorem dX11_lasts_21 : decode cX11_lasts 21 = .ok (.sipush 2000, 3) := by decide +kernel
theorem dX11_lasts_24 : decode cX11_lasts 24 = .ok (.if_icmp .ge 13, 3) := by decide +kernel
theorem dX11_lasts_27 : decode cX11_lasts 27 = .ok (.aload_n 0, 1) := by decide +kernel
theorem dX11_lasts_28 : decode cX11_lasts 28 = .ok (.invokevirtual 71, 3) := by decide +kernel
theorem dX11_lasts_31 : decode cX11_lasts 31 = .ok (.iinc 1 1, 3) := by decide +kernel
theorem dX11_lasts_34 : decode cX11_lasts 34 = .ok (.goto (-21), 3) := by decide +kernel
theorem dX11_lasts_37 : decode cX11_lasts 37 = .ok (.aload_n 0, 1) := by decide +kernel
theorem dX11_lasts_38 : decode cX11_lasts 38 = .ok (.invokevirtual 46, 3) := by decide +kernel
theorem dX11_lasts_41 : decode cX11_lasts 41 = .ok (.ifCond .ne 7, 3) := by decide +kernel
theorem dX11_lasts_44 : decode cX11_lasts 44 = .ok (.iconst 1, 1) := by decide +kernel
theorem dX11_lasts_45 : decode cX11_lasts 45 = .ok (.goto 4, 3) := by decide +kernel
theorem dX11_lasts_48 : decode cX11_lasts 48 = .ok (.iconst 0, 1) := by decide +kernel
theorem dX11_lasts_49 : decode cX11_lasts 49 = .ok (.istore_n 2, 1) := by decide +kernel
theorem dX11_lasts_50 : decode cX11_lasts 50 = .ok (.aload_n 0, 1) := by decide +kernel
theorem dX11_lasts_51 : decode cX11_lasts 51 = .ok (.aload_n 0, 1) := by decide +kernel
theorem dX11_lasts_52 : decode cX11_lasts 52 = .ok (.aload_n 0, 1) := by decide +kernel
theorem dX11_lasts_53 : decode cX11_lasts 53 = .ok (.getfield 7, 3) := by decide +kernel
theorem dX11_lasts_56 : decode cX11_lasts 56 = .ok (.bipush 12, 2) := by decide +kernel
theorem dX11_lasts_58 : decode cX11_lasts 58 = .ok (.iaload, 1) := by decide +kernel
theorem dX11_lasts_59 : decode cX11_lasts 59 = .ok (.iconst 1, 1) := by decide +kernel
theorem dX11_lasts_60 : decode cX11_lasts 60 = .ok (.isub, 1) := by decide +kernel
theorem dX11_lasts_61 : decode cX11_lasts 61 = .ok (.invokevirtual 81, 3) := by decide +kernel
theorem dX11_lasts_64 : decode cX11_lasts 64 = .ok (.putfield 119, 3) := by decide +kernel
theorem dX11_lasts_67 : decode cX11_lasts 67 = .ok (.aload_n 0, 1) := by decide +kernel
theorem dX11_lasts_68 : decode cX11_lasts 68 = .ok (.getfield 19, 3) := by decide +kernel
theorem dX11_lasts_71 : decode cX11_lasts 71 = .ok (.aload_n 0, 1) := by decide +kernel
theorem dX11_lasts_72 : decode cX11_lasts 72 = .ok (.getfield 7, 3) := by decide +kernel
theorem dX11_lasts_75 : decode cX11_lasts 75 = .ok (.invokestatic 115, 3) := by decide +kernel
theorem dX11_lasts_78 : decode cX11_lasts 78 = .ok (.iload_n 2, 1) := by decide +kernel
theorem dX11_lasts_79 : decode cX11_lasts 79 = .ok (.ifCond .eq 7, 3) := by decide +kernel
theorem dX11_lasts_82 : decode cX11_lasts 82 = .ok (.iload_n 1, 1) := by decide +kernel
theorem dX11_lasts_83 : decode cX11_lasts 83 = .ok (.goto 5, 3) := by decide +kernel
theorem dX11_lasts_86 : decode cX11_lasts 86 = .ok (.ldc 28, 2) := by decide +kernel
theorem dX11_lasts_88 : decode cX11_lasts 88 = .ok (.ireturn, 1) := by decide +kernel
theorem dX11_batchIn_0 : decode cX11_batchIn 0 = .ok (.aload_n 0, 1) := by decide +kernel
theorem dX11_batchIn_1 : decode cX11_batchIn 1 = .ok (.invokevirtual 46, 3) := by decide +kernel
theorem dX11_batchIn_4 : decode cX11_batchIn 4 = .ok (.ifCond .eq 10, 3) := by decide +kernel
theorem dX11_batchIn_7 : decode cX11_batchIn 7 = .ok (.aload_n 0, 1) := by decide +kernel
theorem dX11_batchIn_8 : decode cX11_batchIn 8 = .ok (.invokevirtual 122, 3) := by decide +kernel
theorem dX11_batchIn_11 : decode cX11_batchIn 11 = .ok (.goto 5, 3) := by decide +kernel
theorem dX11_batchIn_14 : decode cX11_batchIn 14 = .ok (.ldc 50, 2) := by decide +kernel
theorem dX11_batchIn_16 : decode cX11_batchIn 16 = .ok (.ireturn, 1) := by decide +kernel
theorem dX11_batchOut_0 : decode cX11_batchOut 0 = .ok (.aload_n 0, 1) := by decide +kernel
theorem dX11_batchOut_1 : decode cX11_batchOut 1 = .ok (.invokevirtual 46, 3) := by decide +kernel
theorem dX11_batchOut_4 : decode cX11_batchOut 4 = .ok (.ifCond .ne 6, 3) := by decide +kernel
theorem dX11_batchOut_7 : decode cX11_batchOut 7 = .ok (.ldc 50, 2) := by decide +kernel
theorem dX11_batchOut_9 : decode cX11_batchOut 9 = .ok (.ireturn, 1) := by decide +kernel
theorem dX11_batchOut_10 : decode cX11_batchOut 10 = .ok (.aload_n 0, 1) := by decide +kernel
theorem dX11_batchOut_11 : decode cX11_batchOut 11 = .ok (.invokevirtual 122, 3) := by decide +kernel
theorem dX11_batchOut_14 : decode cX11_batchOut 14 = .ok (.ifCond .ge 8, 3) := by decide +kernel
theorem dX11_batchOut_17 : decode cX11_batchOut 17 = .ok (.ldc 28, 2) := by decide +kernel
theorem dX11_batchOut_19 : decode cX11_batchOut 19 = .ok (.goto 7, 3) := by decide +kernel
theorem dX11_batchOut_22 : decode cX11_batchOut 22 = .ok (.aload_n 0, 1) := by decide +kernel
theorem dX11_batchOut_23 : decode cX11_batchOut 23 = .ok (.getfield 119, 3) := by decide +kernel
theorem dX11_batchOut_26 : decode cX11_batchOut 26 = .ok (.ireturn, 1) := by decide +kernel
theorem dX11_error_0 : decode cX11_error 0 = .ok (.aload_n 0, 1) := by decide +kernel
theorem dX11_error_1 : decode cX11_error 1 = .ok (.invokevirtual 100, 3) := by decide +kernel
theorem dX11_error_4 : decode cX11_error 4 = .ok (.aload_n 0, 1) := by decide +kernel
theorem dX11_error_5 : decode cX11_error 5 = .ok (.getfield 7, 3) := by decide +kernel
theorem dX11_error_8 : decode cX11_error 8 = .ok (.bipush 11, 2) := by decide +kernel
theorem dX11_error_10 : decode cX11_error 10 = .ok (.iaload, 1) := by decide +kernel
theorem dX11_error_11 : decode cX11_error 11 = .ok (.isub, 1) := by decide +kernel
theorem dX11_error_12 : decode cX11_error 12 = .ok (.ldc 99, 2) := by decide +kernel
theorem dX11_error_14 : decode cX11_error 14 = .ok (.iadd, 1) := by decide +kernel
theorem dX11_error_15 : decode cX11_error 15 = .ok (.ireturn, 1) := by decide +kernel
theorem dX11_undo_0 : decode cX11_undo 0 = .ok (.aload_n 0, 1) := by decide +kernel
theorem dX11_undo_1 : decode cX11_undo 1 = .ok (.getfield 33, 3) := by decide +kernel
theorem dX11_undo_4 : decode cX11_undo 4 = .ok (.ifCond .ne 6, 3) := by decide +kernel
theorem dX11_undo_7 : decode cX11_undo 7 = .ok (.ldc 50, 2) := by decide +kernel
theorem dX11_undo_9 : decode cX11_undo 9 = .ok (.ireturn, 1) := by decide +kernel
theorem dX11_undo_10 : decode cX11_undo 10 = .ok (.aload_n 0, 1) := by decide +kernel
theorem dX11_undo_11 : decode cX11_undo 11 = .ok (.dup, 1) := by decide +kernel
theorem dX11_undo_12 : decode cX11_undo 12 = .ok (.getfield 33, 3) := by decide +kernel
theorem dX11_undo_15 : decode cX11_undo 15 = .ok (.iconst 1, 1) := by decide +kernel
theorem dX11_undo_16 : decode cX11_undo 16 = .ok (.isub, 1) := by decide +kernel
theorem dX11_undo_17 : decode cX11_undo 17 = .ok (.putfield 33, 3) := by decide +kernel
theorem dX11_undo_20 : decode cX11_undo 20 = .ok (.iconst 0, 1) := by decide +kernel
theorem dX11_undo_21 : decode cX11_undo 21 = .ok (.istore_n 1, 1) := by decide +kernel
theorem dX11_undo_22 : decode cX11_undo 22 = .ok (.iload_n 1, 1) := by decide +kernel
theorem dX11_undo_23 : decode cX11_undo 23 = .ok (.sipush 149, 3) := by decide +kernel
theorem dX11_undo_26 : decode cX11_undo 26 = .ok (.if_icmp .ge 30, 3) := by decide +kernel
theorem dX11_undo_29 : decode cX11_undo 29 = .ok (.aload_n 0, 1) := by decide +kernel
theorem dX11_undo_30 : decode cX11_undo 30 = .ok (.getfield 7, 3) := by decide +kernel
theorem dX11_undo_33 : decode cX11_undo 33 = .ok (.iload_n 1, 1) := by decide +kernel
theorem dX11_undo_34 : decode cX11_undo 34 = .ok (.aload_n 0, 1) := by decide +kernel
theorem dX11_undo_35 : decode cX11_undo 35 = .ok (.getfield 13, 3) := by decide +kernel
theorem dX11_undo_38 : decode cX11_undo 38 = .ok (.sipush 149, 3) := by decide +kernel
theorem dX11_undo_41 : decode cX11_undo 41 = .ok (.aload_n 0, 1) := by decide +kernel
theorem dX11_undo_42 : decode cX11_undo 42 = .ok (.getfield 33, 3) := by decide +kernel
theorem dX11_undo_45 : decode cX11_undo 45 = .ok (.imul, 1) := by decide +kernel
theorem dX11_undo_46 : decode cX11_undo 46 = .ok (.iload_n 1, 1) := by decide +kernel
theorem dX11_undo_47 : decode cX11_undo 47 = .ok (.iadd, 1) := by decide +kernel
theorem dX11_undo_48 : decode cX11_undo 48 = .ok (.iaload, 1) := by decide +kernel
theorem dX11_undo_49 : decode cX11_undo 49 = .ok (.iastore, 1) := by decide +kernel
theorem dX11_undo_50 : decode cX11_undo 50 = .ok (.iinc 1 1, 3) := by decide +kernel
theorem dX11_undo_53 : decode cX11_undo 53 = .ok (.goto (-31), 3) := by decide +kernel
theorem dX11_undo_56 : decode cX11_undo 56 = .ok (.aload_n 0, 1) := by decide +kernel
theorem dX11_undo_57 : decode cX11_undo 57 = .ok (.getfield 33, 3) := by decide +kernel
theorem dX11_undo_60 : decode cX11_undo 60 = .ok (.ireturn, 1) := by decide +kernel
theorem dX11_type_0 : decode cX11_type 0 = .ok (.iload_n 1, 1) := by decide +kernel
theorem dX11_type_1 : decode cX11_type 1 = .ok (.bipush 32, 2) := by decide +kernel
theorem dX11_type_3 : decode cX11_type 3 = .ok (.bipush 126, 2) := by decide +kernel
theorem dX11_type_5 : decode cX11_type 5 = .ok (.invokestatic 37, 3) := by decide +kernel
theorem dX11_type_8 : decode cX11_type 8 = .ok (.ifCond .ne 6, 3) := by decide +kernel
theorem dX11_type_11 : decode cX11_type 11 = .ok (.ldc 41, 2) := by decide +kernel
theorem dX11_type_13 : decode cX11_type 13 = .ok (.ireturn, 1) := by decide +kernel
theorem dX11_type_14 : decode cX11_type 14 = .ok (.aload_n 0, 1) := by decide +kernel
theorem dX11_type_15 : decode cX11_type 15 = .ok (.getfield 112, 3) := by decide +kernel
theorem dX11_type_18 : decode cX11_type 18 = .ok (.bipush 60, 2) := by decide +kernel
theorem dX11_type_20 : decode cX11_type 20 = .ok (.if_icmp .ne 6, 3) := by decide +kernel
theorem dX11_type_23 : decode cX11_type 23 = .ok (.ldc 42, 2) := by decide +kernel
theorem dX11_type_25 : decode cX11_type 25 = .ok (.ireturn, 1) := by decide +kernel
theorem dX11_type_26 : decode cX11_type 26 = .ok (.aload_n 0, 1) := by decide +kernel
theorem dX11_type_27 : decode cX11_type 27 = .ok (.getfield 22, 3) := by decide +kernel
theorem dX11_type_30 : decode cX11_type 30 = .ok (.aload_n 0, 1) := by decide +kernel
theorem dX11_type_31 : decode cX11_type 31 = .ok (.getfield 112, 3) := by decide +kernel
theorem dX11_type_34 : decode cX11_type 34 = .ok (.iload_n 1, 1) := by decide +kernel
theorem dX11_type_35 : decode cX11_type 35 = .ok (.iastore, 1) := by decide +kernel
theorem dX11_type_36 : decode cX11_type 36 = .ok (.aload_n 0, 1) := by decide +kernel
theorem dX11_type_37 : decode cX11_type 37 = .ok (.dup, 1) := by decide +kernel
theorem dX11_type_38 : decode cX11_type 38 = .ok (.getfield 112, 3) := by decide +kernel
theorem dX11_type_41 : decode cX11_type 41 = .ok (.iconst 1, 1) := by decide +kernel
theorem dX11_type_42 : decode cX11_type 42 = .ok (.iadd, 1) := by decide +kernel
theorem dX11_type_43 : decode cX11_type 43 = .ok (.putfield 112, 3) := by decide +kernel
theorem dX11_type_46 : decode cX11_type 46 = .ok (.aload_n 0, 1) := by decide +kernel
theorem dX11_type_47 : decode cX11_type 47 = .ok (.getfield 112, 3) := by decide +kernel
theorem dX11_type_50 : decode cX11_type 50 = .ok (.ireturn, 1) := by decide +kernel
theorem dX11_clearText_0 : decode cX11_clearText 0 = .ok (.aload_n 0, 1) := by decide +kernel
theorem dX11_clearText_1 : decode cX11_clearText 1 = .ok (.getfield 112, 3) := by decide +kernel
theorem dX11_clearText_4 : decode cX11_clearText 4 = .ok (.istore_n 1, 1) := by decide +kernel
theorem dX11_clearText_5 : decode cX11_clearText 5 = .ok (.aload_n 0, 1) := by decide +kernel
theorem dX11_clearText_6 : decode cX11_clearText 6 = .ok (.iconst 0, 1) := by decide +kernel
theorem dX11_clearText_7 : decode cX11_clearText 7 = .ok (.putfield 112, 3) := by decide +kernel
theorem dX11_clearText_10 : decode cX11_clearText 10 = .ok (.iload_n 1, 1) := by decide +kernel
theorem dX11_clearText_11 : decode cX11_clearText 11 = .ok (.ireturn, 1) := by decide +kernel
theorem dX11_isAt_0 : decode cX11_isAt 0 = .ok (.aload_n 0, 1) := by decide +kernel
theorem dX11_isAt_1 : decode cX11_isAt 1 = .ok (.getfield 125, 3) := by decide +kernel
theorem dX11_isAt_4 : decode cX11_isAt 4 = .ok (.aload_n 0, 1) := by decide +kernel
theorem dX11_isAt_5 : decode cX11_isAt 5 = .ok (.getfield 112, 3) := by decide +kernel
theorem dX11_isAt_8 : decode cX11_isAt 8 = .ok (.if_icmp .ge 24, 3) := by decide +kernel
theorem dX11_isAt_11 : decode cX11_isAt 11 = .ok (.aload_n 0, 1) := by decide +kernel
theorem dX11_isAt_12 : decode cX11_isAt 12 = .ok (.getfield 22, 3) := by decide +kernel
theorem dX11_isAt_15 : decode cX11_isAt 15 = .ok (.aload_n 0, 1) := by decide +kernel
theorem dX11_isAt_16 : decode cX11_isAt 16 = .ok (.getfield 125, 3) := by decide +kernel
theorem dX11_isAt_19 : decode cX11_isAt 19 = .ok (.iaload, 1) := by decide +kernel
theorem dX11_isAt_20 : decode cX11_isAt 20 = .ok (.iload_n 1, 1) := by decide +kernel
theorem dX11_isAt_21 : decode cX11_isAt 21 = .ok (.iload_n 2, 1) := by decide +kernel
theorem dX11_isAt_22 : decode cX11_isAt 22 = .ok (.invokestatic 37, 3) := by decide +kernel
theorem dX11_isAt_25 : decode cX11_isAt 25 = .ok (.ifCond .eq 7, 3) := by decide +kernel
theorem dX11_isAt_28 : decode cX11_isAt 28 = .ok (.iconst 1, 1) := by decide +kernel
theorem dX11_isAt_29 : decode cX11_isAt 29 = .ok (.goto 4, 3) := by decide +kernel
theorem dX11_isAt_32 : decode cX11_isAt 32 = .ok (.iconst 0, 1) := by decide +kernel
theorem dX11_isAt_33 : decode cX11_isAt 33 = .ok (.ireturn, 1) := by decide +kernel
theorem dX11_passes_0 : decode cX11_passes 0 = .ok (.aload_n 0, 1) := by decide +kernel
theorem dX11_passes_1 : decode cX11_passes 1 = .ok (.iload_n 1, 1) := by decide +kernel
theorem dX11_passes_2 : decode cX11_passes 2 = .ok (.iload_n 1, 1) := by decide +kernel
theorem dX11_passes_3 : decode cX11_passes 3 = .ok (.invokevirtual 128, 3) := by decide +kernel
theorem dX11_passes_6 : decode cX11_passes 6 = .ok (.istore_n 2, 1) := by decide +kernel
theorem dX11_passes_7 : decode cX11_passes 7 = .ok (.aload_n 0, 1) := by decide +kernel
theorem dX11_passes_8 : decode cX11_passes 8 = .ok (.dup, 1) := by decide +kernel
theorem dX11_passes_9 : decode cX11_passes 9 = .ok (.getfield 125, 3) := by decide +kernel
theorem dX11_passes_12 : decode cX11_passes 12 = .ok (.iload_n 2, 1) := by decide +kernel
theorem dX11_passes_13 : decode cX11_passes 13 = .ok (.ifCond .eq 7, 3) := by decide +kernel
theorem dX11_passes_16 : decode cX11_passes 16 = .ok (.iconst 1, 1) := by decide +kernel
theorem dX11_passes_17 : decode cX11_passes 17 = .ok (.goto 4, 3) := by decide +kernel
theorem dX11_passes_20 : decode cX11_passes 20 = .ok (.iconst 0, 1) := by decide +kernel
theorem dX11_passes_21 : decode cX11_passes 21 = .ok (.iadd, 1) := by decide +kernel
theorem dX11_passes_22 : decode cX11_passes 22 = .ok (.putfield 125, 3) := by decide +kernel
theorem dX11_passes_25 : decode cX11_passes 25 = .ok (.iload_n 2, 1) := by decide +kernel
theorem dX11_passes_26 : decode cX11_passes 26 = .ok (.ireturn, 1) := by decide +kernel
theorem dX11_number_0 : decode cX11_number 0 = .ok (.aload_n 0, 1) := by decide +kernel
theorem dX11_number_1 : decode cX11_number 1 = .ok (.getfield 125, 3) := by decide +kernel
theorem dX11_number_4 : decode cX11_number 4 = .ok (.istore_n 2, 1) := by decide +kernel
theorem dX11_number_5 : decode cX11_number 5 = .ok (.aload_n 0, 1) := by decide +kernel
theorem dX11_number_6 : decode cX11_number 6 = .ok (.getfield 25, 3) := by decide +kernel
theorem dX11_number_9 : decode cX11_number 9 = .ok (.iload_n 1, 1) := by decide +kernel
theorem dX11_number_10 : decode cX11_number 10 = .ok (.iconst 0, 1) := by decide +kernel
theorem dX11_number_11 : decode cX11_number 11 = .ok (.iastore, 1) := by decide +kernel
theorem dX11_number_12 : decode cX11_number 12 = .ok (.aload_n 0, 1) := by decide +kernel
theorem dX11_number_13 : decode cX11_number 13 = .ok (.bipush 48, 2) := by decide +kernel
theorem dX11_number_15 : decode cX11_number 15 = .ok (.bipush 57, 2) := by decide +kernel
theorem dX11_number_17 : decode cX11_number 17 = .ok (.invokevirtual 128, 3) := by decide +kernel
theorem dX11_number_20 : decode cX11_number 20 = .ok (.ifCond .eq 54, 3) := by decide +kernel
theorem dX11_number_23 : decode cX11_number 23 = .ok (.aload_n 0, 1) := by decide +kernel
theorem dX11_number_24 : decode cX11_number 24 = .ok (.getfield 125, 3) := by decide +kernel
theorem dX11_number_27 : decode cX11_number 27 = .ok (.iload_n 2, 1) := by decide +kernel
theorem dX11_number_28 : decode cX11_number 28 = .ok (.isub, 1) := by decide +kernel
theorem dX11_number_29 : decode cX11_number 29 = .ok (.iconst 4, 1) := by decide +kernel
theorem dX11_number_30 : decode cX11_number 30 = .ok (.if_icmp .ge 44, 3) := by decide +kernel
theorem dX11_number_33 : decode cX11_number 33 = .ok (.aload_n 0, 1) := by decide +kernel
theorem dX11_number_34 : decode cX11_number 34 = .ok (.getfield 25, 3) := by decide +kernel
theorem dX11_number_37 : decode cX11_number 37 = .ok (.iload_n 1, 1) := by decide +kernel
theorem dX11_number_38 : decode cX11_number 38 = .ok (.bipush 10, 2) := by decide +kernel
theorem dX11_number_40 : decode cX11_number 40 = .ok (.aload_n 0, 1) := by decide +kernel
theorem dX11_number_41 : decode cX11_number 41 = .ok (.getfield 25, 3) := by decide +kernel
theorem dX11_number_44 : decode cX11_number 44 = .ok (.iload_n 1, 1) := by decide +kernel
theorem dX11_number_45 : decode cX11_number 45 = .ok (.iaload, 1) := by decide +kernel
theorem dX11_number_46 : decode cX11_number 46 = .ok (.imul, 1) := by decide +kernel
theorem dX11_number_47 : decode cX11_number 47 = .ok (.aload_n 0, 1) := by decide +kernel
theorem dX11_number_48 : decode cX11_number 48 = .ok (.getfield 22, 3) := by decide +kernel
theorem dX11_number_51 : decode cX11_number 51 = .ok (.aload_n 0, 1) := by decide +kernel
theorem dX11_number_52 : decode cX11_number 52 = .ok (.getfield 125, 3) := by decide +kernel
theorem dX11_number_55 : decode cX11_number 55 = .ok (.iaload, 1) := by decide +kernel
theorem dX11_number_56 : decode cX11_number 56 = .ok (.iadd, 1) := by decide +kernel
theorem dX11_number_57 : decode cX11_number 57 = .ok (.bipush 48, 2) := by decide +kernel
theorem dX11_number_59 : decode cX11_number 59 = .ok (.isub, 1) := by decide +kernel
theorem dX11_number_60 : decode cX11_number 60 = .ok (.iastore, 1) := by decide +kernel
theorem dX11_number_61 : decode cX11_number 61 = .ok (.aload_n 0, 1) := by decide +kernel
theorem dX11_number_62 : decode cX11_number 62 = .ok (.dup, 1) := by decide +kernel
theorem dX11_number_63 : decode cX11_number 63 = .ok (.getfield 125, 3) := by decide +kernel
theorem dX11_number_66 : decode cX11_number 66 = .ok (.iconst 1, 1) := by decide +kernel
theorem dX11_number_67 : decode cX11_number 67 = .ok (.iadd, 1) := by decide +kernel
theorem dX11_number_68 : decode cX11_number 68 = .ok (.putfield 125, 3) := by decide +kernel
theorem dX11_number_71 : decode cX11_number 71 = .ok (.goto (-59), 3) := by decide +kernel
theorem dX11_number_74 : decode cX11_number 74 = .ok (.aload_n 0, 1) := by decide +kernel
theorem dX11_number_75 : decode cX11_number 75 = .ok (.getfield 125, 3) := by decide +kernel
theorem dX11_number_78 : decode cX11_number 78 = .ok (.iload_n 2, 1) := by decide +kernel
theorem dX11_number_79 : decode cX11_number 79 = .ok (.if_icmp .le 7, 3) := by decide +kernel
theorem dX11_number_82 : decode cX11_number 82 = .ok (.iconst 1, 1) := by decide +kernel
theorem dX11_number_83 : decode cX11_number 83 = .ok (.goto 4, 3) := by decide +kernel
theorem dX11_number_86 : decode cX11_number 86 = .ok (.iconst 0, 1) := by decide +kernel
theorem dX11_number_87 : decode cX11_number 87 = .ok (.ireturn, 1) := by decide +kernel
theorem dX11_parses_0 : decode cX11_parses 0 = .ok (.aload_n 0, 1) := by decide +kernel
theorem dX11_parses_1 : decode cX11_parses 1 = .ok (.aload_n 0, 1) := by decide +kernel
theorem dX11_parses_2 : decode cX11_parses 2 = .ok (.getfield 22, 3) := by decide +kernel
theorem dX11_parses_5 : decode cX11_parses 5 = .ok (.aload_n 0, 1) := by decide +kernel
theorem dX11_parses_6 : decode cX11_parses 6 = .ok (.getfield 125, 3) := by decide +kernel
theorem dX11_parses_9 : decode cX11_parses 9 = .ok (.iaload, 1) := by decide +kernel
theorem dX11_parses_10 : decode cX11_parses 10 = .ok (.putfield 131, 3) := by decide +kernel
theorem dX11_parses_13 : decode cX11_parses 13 = .ok (.aload_n 0, 1) := by decide +kernel
theorem dX11_parses_14 : decode cX11_parses 14 = .ok (.dup, 1) := by decide +kernel
theorem dX11_parses_15 : decode cX11_parses 15 = .ok (.getfield 125, 3) := by decide +kernel
theorem dX11_parses_18 : decode cX11_parses 18 = .ok (.iconst 1, 1) := by decide +kernel
theorem dX11_parses_19 : decode cX11_parses 19 = .ok (.iadd, 1) := by decide +kernel
theorem dX11_parses_20 : decode cX11_parses 20 = .ok (.putfield 125, 3) := by decide +kernel
theorem dX11_parses_23 : decode cX11_parses 23 = .ok (.aload_n 0, 1) := by decide +kernel
theorem dX11_parses_24 : decode cX11_parses 24 = .ok (.getfield 131, 3) := by decide +kernel
theorem dX11_parses_27 : decode cX11_parses 27 = .ok (.bipush 98, 2) := by decide +kernel
theorem dX11_parses_29 : decode cX11_parses 29 = .ok (.if_icmp .eq 30, 3) := by decide +kernel
theorem dX11_parses_32 : decode cX11_parses 32 = .ok (.aload_n 0, 1) := by decide +kernel
theorem dX11_parses_33 : decode cX11_parses 33 = .ok (.getfield 131, 3) := by decide +kernel
theorem dX11_parses_36 : decode cX11_parses 36 = .ok (.bipush 115, 2) := by decide +kernel
theorem dX11_parses_38 : decode cX11_parses 38 = .ok (.if_icmp .eq 21, 3) := by decide +kernel
theorem dX11_parses_41 : decode cX11_parses 41 = .ok (.aload_n 0, 1) := by decide +kernel
theorem dX11_parses_42 : decode cX11_parses 42 = .ok (.getfield 131, 3) := by decide +kernel
theorem dX11_parses_45 : decode cX11_parses 45 = .ok (.bipush 120, 2) := by decide +kernel
theorem dX11_parses_47 : decode cX11_parses 47 = .ok (.if_icmp .eq 12, 3) := by decide +kernel
theorem dX11_parses_50 : decode cX11_parses 50 = .ok (.aload_n 0, 1) := by decide +kernel
theorem dX11_parses_51 : decode cX11_parses 51 = .ok (.getfield 131, 3) := by decide +kernel
theorem dX11_parses_54 : decode cX11_parses 54 = .ok (.bipush 122, 2) := by decide +kernel
theorem dX11_parses_56 : decode cX11_parses 56 = .ok (.if_icmp .ne 10, 3) := by decide +kernel
theorem dX11_parses_59 : decode cX11_parses 59 = .ok (.aload_n 0, 1) := by decide +kernel
theorem dX11_parses_60 : decode cX11_parses 60 = .ok (.bipush 59, 2) := by decide +kernel
theorem dX11_parses_62 : decode cX11_parses 62 = .ok (.invokevirtual 134, 3) := by decide +kernel
theorem dX11_parses_65 : decode cX11_parses 65 = .ok (.ireturn, 1) := by decide +kernel
theorem dX11_parses_66 : decode cX11_parses 66 = .ok (.aload_n 0, 1) := by decide +kernel
theorem dX11_parses_67 : decode cX11_parses 67 = .ok (.getfield 131, 3) := by decide +kernel
theorem dX11_parses_70 : decode cX11_parses 70 = .ok (.bipush 108, 2) := by decide +kernel
theorem dX11_parses_72 : decode cX11_parses 72 = .ok (.if_icmp .ne 43, 3) := by decide +kernel
theorem dX11_parses_75 : decode cX11_parses 75 = .ok (.aload_n 0, 1) := by decide +kernel
theorem dX11_parses_76 : decode cX11_parses 76 = .ok (.iconst 0, 1) := by decide +kernel
theorem dX11_parses_77 : decode cX11_parses 77 = .ok (.invokevirtual 137, 3) := by decide +kernel
theorem dX11_parses_80 : decode cX11_parses 80 = .ok (.ifCond .eq 33, 3) := by decide +kernel
theorem dX11_parses_83 : decode cX11_parses 83 = .ok (.aload_n 0, 1) := by decide +kernel
theorem dX11_parses_84 : decode cX11_parses 84 = .ok (.bipush 44, 2) := by decide +kernel
theorem dX11_parses_86 : decode cX11_parses 86 = .ok (.invokevirtual 134, 3) := by decide +kernel
theorem dX11_parses_89 : decode cX11_parses 89 = .ok (.ifCond .eq 24, 3) := by decide +kernel
theorem dX11_parses_92 : decode cX11_parses 92 = .ok (.aload_n 0, 1) := by decide +kernel
theorem dX11_parses_93 : decode cX11_parses 93 = .ok (.iconst 1, 1) := by decide +kernel
theorem dX11_parses_94 : decode cX11_parses 94 = .ok (.invokevirtual 137, 3) := by decide +kernel
theorem dX11_parses_97 : decode cX11_parses 97 = .ok (.ifCond .eq 16, 3) := by decide +kernel
theorem dX11_parses_100 : decode cX11_parses 100 = .ok (.aload_n 0, 1) := by decide +kernel
theorem dX11_parses_101 : decode cX11_parses 101 = .ok (.bipush 59, 2) := by decide +kernel
theorem dX11_parses_103 : decode cX11_parses 103 = .ok (.invokevirtual 134, 3) := by decide +kernel
theorem dX11_parses_106 : decode cX11_parses 106 = .ok (.ifCond .eq 7, 3) := by decide +kernel
theorem dX11_parses_109 : decode cX11_parses 109 = .ok (.iconst 1, 1) := by decide +kernel
theorem dX11_parses_110 : decode cX11_parses 110 = .ok (.goto 4, 3) := by decide +kernel
theorem dX11_parses_113 : decode cX11_parses 113 = .ok (.iconst 0, 1) := by decide +kernel
theorem dX11_parses_114 : decode cX11_parses 114 = .ok (.ireturn, 1) := by decide +kernel
theorem dX11_parses_115 : decode cX11_parses 115 = .ok (.aload_n 0, 1) := by decide +kernel
theorem dX11_parses_116 : decode cX11_parses 116 = .ok (.getfield 131, 3) := by decide +kernel
theorem dX11_parses_119 : decode cX11_parses 119 = .ok (.bipush 103, 2) := by decide +kernel
theorem dX11_parses_121 : decode cX11_parses 121 = .ok (.if_icmp .eq 30, 3) := by decide +kernel
theorem dX11_parses_124 : decode cX11_parses 124 = .ok (.aload_n 0, 1) := by decide +kernel
theorem dX11_parses_125 : decode cX11_parses 125 = .ok (.getfield 131, 3) := by decide +kernel
theorem dX11_parses_128 : decode cX11_parses 128 = .ok (.bipush 109, 2) := by decide +kernel
theorem dX11_parses_130 : decode cX11_parses 130 = .ok (.if_icmp .eq 21, 3) := by decide +kernel
theorem dX11_parses_133 : decode cX11_parses 133 = .ok (.aload_n 0, 1) := by decide +kernel
theorem dX11_parses_134 : decode cX11_parses 134 = .ok (.getfield 131, 3) := by decide +kernel
theorem dX11_parses_137 : decode cX11_parses 137 = .ok (.bipush 99, 2) := by decide +kernel
theorem dX11_parses_139 : decode cX11_parses 139 = .ok (.if_icmp .eq 12, 3) := by decide +kernel
theorem dX11_parses_142 : decode cX11_parses 142 = .ok (.aload_n 0, 1) := by decide +kernel
theorem dX11_parses_143 : decode cX11_parses 143 = .ok (.getfield 131, 3) := by decide +kernel
theorem dX11_parses_146 : decode cX11_parses 146 = .ok (.bipush 116, 2) := by decide +kernel
theorem dX11_parses_148 : decode cX11_parses 148 = .ok (.if_icmp .ne 24, 3) := by decide +kernel
theorem dX11_parses_151 : decode cX11_parses 151 = .ok (.aload_n 0, 1) := by decide +kernel
theorem dX11_parses_152 : decode cX11_parses 152 = .ok (.iconst 0, 1) := by decide +kernel
theorem dX11_parses_153 : decode cX11_parses 153 = .ok (.invokevirtual 137, 3) := by decide +kernel
theorem dX11_parses_156 : decode cX11_parses 156 = .ok (.ifCond .eq 16, 3) := by decide +kernel
theorem dX11_parses_159 : decode cX11_parses 159 = .ok (.aload_n 0, 1) := by decide +kernel
theorem dX11_parses_160 : decode cX11_parses 160 = .ok (.bipush 59, 2) := by decide +kernel
theorem dX11_parses_162 : decode cX11_parses 162 = .ok (.invokevirtual 134, 3) := by decide +kernel
theorem dX11_parses_165 : decode cX11_parses 165 = .ok (.ifCond .eq 7, 3) := by decide +kernel
theorem dX11_parses_168 : decode cX11_parses 168 = .ok (.iconst 1, 1) := by decide +kernel
theorem dX11_parses_169 : decode cX11_parses 169 = .ok (.goto 4, 3) := by decide +kernel
theorem dX11_parses_172 : decode cX11_parses 172 = .ok (.iconst 0, 1) := by decide +kernel
theorem dX11_parses_173 : decode cX11_parses 173 = .ok (.ireturn, 1) := by decide +kernel
theorem dX11_calls_0 : decode cX11_calls 0 = .ok (.aload_n 0, 1) := by decide +kernel
theorem dX11_calls_1 : decode cX11_calls 1 = .ok (.getfield 131, 3) := by decide +kernel
theorem dX11_calls_4 : decode cX11_calls 4 = .ok (.tableswitch 188 98 122 #[116, 177, 188, 188, 188, 155, 188, 188, 188, 188, 138, 166, 188, 188, 188, 188, 188, 121, 188, 188, 188, 188, 127, 188, 133], 116) := by decide +kernel
theorem dX11_calls_120 : decode cX11_calls 120 = .ok (.aload_n 0, 1) := by decide +kernel
theorem dX11_calls_121 : decode cX11_calls 121 = .ok (.invokevirtual 140, 3) := by decide +kernel
theorem dX11_calls_124 : decode cX11_calls 124 = .ok (.ireturn, 1) := by decide +kernel
theorem dX11_calls_125 : decode cX11_calls 125 = .ok (.aload_n 0, 1) := by decide +kernel
theorem dX11_calls_126 : decode cX11_calls 126 = .ok (.iconst 1, 1) := by decide +kernel
theorem dX11_calls_127 : decode cX11_calls 127 = .ok (.invokevirtual 143, 3) := by decide +kernel
theorem dX11_calls_130 : decode cX11_calls 130 = .ok (.ireturn, 1) := by decide +kernel
theorem dX11_calls_131 : decode cX11_calls 131 = .ok (.aload_n 0, 1) := by decide +kernel
theorem dX11_calls_132 : decode cX11_calls 132 = .ok (.iconst 0, 1) := by decide +kernel
theorem dX11_calls_133 : decode cX11_calls 133 = .ok (.invokevirtual 143, 3) := by decide +kernel
theorem dX11_calls_136 : decode cX11_calls 136 = .ok (.ireturn, 1) := by decide +kernel
theorem dX11_calls_137 : decode cX11_calls 137 = .ok (.aload_n 0, 1) := by decide +kernel
theorem dX11_calls_138 : decode cX11_calls 138 = .ok (.invokevirtual 146, 3) := by decide +kernel
theorem dX11_calls_141 : decode cX11_calls 141 = .ok (.ireturn, 1) := by decide +kernel
theorem dX11_calls_142 : decode cX11_calls 142 = .ok (.aload_n 0, 1) := by decide +kernel
theorem dX11_calls_143 : decode cX11_calls 143 = .ok (.aload_n 0, 1) := by decide +kernel
theorem dX11_calls_144 : decode cX11_calls 144 = .ok (.getfield 25, 3) := by decide +kernel
theorem dX11_calls_147 : decode cX11_calls 147 = .ok (.iconst 0, 1) := by decide +kernel
theorem dX11_calls_148 : decode cX11_calls 148 = .ok (.iaload, 1) := by decide +kernel
theorem dX11_calls_149 : decode cX11_calls 149 = .ok (.aload_n 0, 1) := by decide +kernel
theorem dX11_calls_150 : decode cX11_calls 150 = .ok (.getfield 25, 3) := by decide +kernel
theorem dX11_calls_153 : decode cX11_calls 153 = .ok (.iconst 1, 1) := by decide +kernel
theorem dX11_calls_154 : decode cX11_calls 154 = .ok (.iaload, 1) := by decide +kernel
theorem dX11_calls_155 : decode cX11_calls 155 = .ok (.invokevirtual 149, 3) := by decide +kernel
theorem dX11_calls_158 : decode cX11_calls 158 = .ok (.ireturn, 1) := by decide +kernel
theorem dX11_calls_159 : decode cX11_calls 159 = .ok (.aload_n 0, 1) := by decide +kernel
theorem dX11_calls_160 : decode cX11_calls 160 = .ok (.aload_n 0, 1) := by decide +kernel
theorem dX11_calls_161 : decode cX11_calls 161 = .ok (.getfield 25, 3) := by decide +kernel
theorem dX11_calls_164 : decode cX11_calls 164 = .ok (.iconst 0, 1) := by decide +kernel
theorem dX11_calls_165 : decode cX11_calls 165 = .ok (.iaload, 1) := by decide +kernel
theorem dX11_calls_166 : decode cX11_calls 166 = .ok (.invokevirtual 152, 3) := by decide +kernel
theorem dX11_calls_169 : decode cX11_calls 169 = .ok (.ireturn, 1) := by decide +kernel
theorem dX11_calls_170 : decode cX11_calls 170 = .ok (.aload_n 0, 1) := by decide +kernel
theorem dX11_calls_171 : decode cX11_calls 171 = .ok (.aload_n 0, 1) := by decide +kernel
theorem dX11_calls_172 : decode cX11_calls 172 = .ok (.getfield 25, 3) := by decide +kernel
theorem dX11_calls_175 : decode cX11_calls 175 = .ok (.iconst 0, 1) := by decide +kernel
theorem dX11_calls_176 : decode cX11_calls 176 = .ok (.iaload, 1) := by decide +kernel
theorem dX11_calls_177 : decode cX11_calls 177 = .ok (.invokevirtual 155, 3) := by decide +kernel
theorem dX11_calls_180 : decode cX11_calls 180 = .ok (.ireturn, 1) := by decide +kernel
theorem dX11_calls_181 : decode cX11_calls 181 = .ok (.aload_n 0, 1) := by decide +kernel
theorem dX11_calls_182 : decode cX11_calls 182 = .ok (.aload_n 0, 1) := by decide +kernel
theorem dX11_calls_183 : decode cX11_calls 183 = .ok (.getfield 25, 3) := by decide +kernel
theorem dX11_calls_186 : decode cX11_calls 186 = .ok (.iconst 0, 1) := by decide +kernel
theorem dX11_calls_187 : decode cX11_calls 187 = .ok (.iaload, 1) := by decide +kernel
theorem dX11_calls_188 : decode cX11_calls 188 = .ok (.invokevirtual 158, 3) := by decide +kernel
theorem dX11_calls_191 : decode cX11_calls 191 = .ok (.ireturn, 1) := by decide +kernel
theorem dX11_calls_192 : decode cX11_calls 192 = .ok (.aload_n 0, 1) := by decide +kernel
theorem dX11_calls_193 : decode cX11_calls 193 = .ok (.aload_n 0, 1) := by decide +kernel
theorem dX11_calls_194 : decode cX11_calls 194 = .ok (.getfield 25, 3) := by decide +kernel
theorem dX11_calls_197 : decode cX11_calls 197 = .ok (.iconst 0, 1) := by decide +kernel
theorem dX11_calls_198 : decode cX11_calls 198 = .ok (.iaload, 1) := by decide +kernel
theorem dX11_calls_199 : decode cX11_calls 199 = .ok (.invokevirtual 161, 3) := by decide +kernel
theorem dX11_calls_202 : decode cX11_calls 202 = .ok (.ireturn, 1) := by decide +kernel
theorem dX11_plays_0 : decode cX11_plays 0 = .ok (.aload_n 0, 1) := by decide +kernel
theorem dX11_plays_1 : decode cX11_plays 1 = .ok (.iconst 1, 1) := by decide +kernel
theorem dX11_plays_2 : decode cX11_plays 2 = .ok (.putfield 29, 3) := by decide +kernel
theorem dX11_plays_5 : decode cX11_plays 5 = .ok (.aload_n 0, 1) := by decide +kernel
theorem dX11_plays_6 : decode cX11_plays 6 = .ok (.iconst 0, 1) := by decide +kernel
theorem dX11_plays_7 : decode cX11_plays 7 = .ok (.putfield 125, 3) := by decide +kernel
theorem dX11_plays_10 : decode cX11_plays 10 = .ok (.aload_n 0, 1) := by decide +kernel
theorem dX11_plays_11 : decode cX11_plays 11 = .ok (.iconst 0, 1) := by decide +kernel
theorem dX11_plays_12 : decode cX11_plays 12 = .ok (.putfield 164, 3) := by decide +kernel
theorem dX11_plays_15 : decode cX11_plays 15 = .ok (.iconst 0, 1) := by decide +kernel
theorem dX11_plays_16 : decode cX11_plays 16 = .ok (.istore_n 1, 1) := by decide +kernel
theorem dX11_plays_17 : decode cX11_plays 17 = .ok (.iconst 1, 1) := by decide +kernel
theorem dX11_plays_18 : decode cX11_plays 18 = .ok (.istore_n 2, 1) := by decide +kernel
theorem dX11_plays_19 : decode cX11_plays 19 = .ok (.aload_n 0, 1) := by decide +kernel
theorem dX11_plays_20 : decode cX11_plays 20 = .ok (.getfield 125, 3) := by decide +kernel
theorem dX11_plays_23 : decode cX11_plays 23 = .ok (.aload_n 0, 1) := by decide +kernel
theorem dX11_plays_24 : decode cX11_plays 24 = .ok (.getfield 112, 3) := by decide +kernel
theorem dX11_plays_27 : decode cX11_plays 27 = .ok (.if_icmp .ge 63, 3) := by decide +kernel
theorem dX11_plays_30 : decode cX11_plays 30 = .ok (.iload_n 2, 1) := by decide +kernel
theorem dX11_plays_31 : decode cX11_plays 31 = .ok (.ifCond .eq 59, 3) := by decide +kernel
theorem dX11_plays_34 : decode cX11_plays 34 = .ok (.aload_n 0, 1) := by decide +kernel
theorem dX11_plays_35 : decode cX11_plays 35 = .ok (.getfield 125, 3) := by decide +kernel
theorem dX11_plays_38 : decode cX11_plays 38 = .ok (.istore_n 1, 1) := by decide +kernel
theorem dX11_plays_39 : decode cX11_plays 39 = .ok (.aload_n 0, 1) := by decide +kernel
theorem dX11_plays_40 : decode cX11_plays 40 = .ok (.invokevirtual 167, 3) := by decide +kernel
theorem dX11_plays_43 : decode cX11_plays 43 = .ok (.istore_n 3, 1) := by decide +kernel
theorem dX11_plays_44 : decode cX11_plays 44 = .ok (.aload_n 0, 1) := by decide +kernel
theorem dX11_plays_45 : decode cX11_plays 45 = .ok (.iload_n 3, 1) := by decide +kernel
theorem dX11_plays_46 : decode cX11_plays 46 = .ok (.ifCond .eq 10, 3) := by decide +kernel
theorem dX11_plays_49 : decode cX11_plays 49 = .ok (.aload_n 0, 1) := by decide +kernel
theorem dX11_plays_50 : decode cX11_plays 50 = .ok (.invokevirtual 170, 3) := by decide +kernel
theorem dX11_plays_53 : decode cX11_plays 53 = .ok (.goto 4, 3) := by decide +kernel
theorem dX11_plays_56 : decode cX11_plays 56 = .ok (.iconst 0, 1) := by decide +kernel
theorem dX11_plays_57 : decode cX11_plays 57 = .ok (.putfield 173, 3) := by decide +kernel
theorem dX11_plays_60 : decode cX11_plays 60 = .ok (.iload_n 3, 1) := by decide +kernel
theorem dX11_plays_61 : decode cX11_plays 61 = .ok (.ifCond .eq 14, 3) := by decide +kernel
theorem dX11_plays_64 : decode cX11_plays 64 = .ok (.aload_n 0, 1) := by decide +kernel
theorem dX11_plays_65 : decode cX11_plays 65 = .ok (.getfield 173, 3) := by decide +kernel
theorem dX11_plays_68 : decode cX11_plays 68 = .ok (.ifCond .lt 7, 3) := by decide +kernel
theorem dX11_plays_71 : decode cX11_plays 71 = .ok (.iconst 1, 1) := by decide +kernel
theorem dX11_plays_72 : decode cX11_plays 72 = .ok (.goto 4, 3) := by decide +kernel
theorem dX11_plays_75 : decode cX11_plays 75 = .ok (.iconst 0, 1) := by decide +kernel
theorem dX11_plays_76 : decode cX11_plays 76 = .ok (.istore_n 2, 1) := by decide +kernel
theorem dX11_plays_77 : decode cX11_plays 77 = .ok (.aload_n 0, 1) := by decide +kernel
theorem dX11_plays_78 : decode cX11_plays 78 = .ok (.dup, 1) := by decide +kernel
theorem dX11_plays_79 : decode cX11_plays 79 = .ok (.getfield 164, 3) := by decide +kernel
theorem dX11_plays_82 : decode cX11_plays 82 = .ok (.iconst 1, 1) := by decide +kernel
theorem dX11_plays_83 : decode cX11_plays 83 = .ok (.iadd, 1) := by decide +kernel
theorem dX11_plays_84 : decode cX11_plays 84 = .ok (.putfield 164, 3) := by decide +kernel
theorem dX11_plays_87 : decode cX11_plays 87 = .ok (.goto (-68), 3) := by decide +kernel
theorem dX11_plays_90 : decode cX11_plays 90 = .ok (.aload_n 0, 1) := by decide +kernel
theorem dX11_plays_91 : decode cX11_plays 91 = .ok (.iconst 0, 1) := by decide +kernel
theorem dX11_plays_92 : decode cX11_plays 92 = .ok (.putfield 29, 3) := by decide +kernel
theorem dX11_plays_95 : decode cX11_plays 95 = .ok (.iload_n 2, 1) := by decide +kernel
theorem dX11_plays_96 : decode cX11_plays 96 = .ok (.ifCond .eq 8, 3) := by decide +kernel
theorem dX11_plays_99 : decode cX11_plays 99 = .ok (.ldc 28, 2) := by decide +kernel
theorem dX11_plays_101 : decode cX11_plays 101 = .ok (.goto 4, 3) := by decide +kernel
theorem dX11_plays_104 : decode cX11_plays 104 = .ok (.iload_n 1, 1) := by decide +kernel
theorem dX11_plays_105 : decode cX11_plays 105 = .ok (.ireturn, 1) := by decide +kernel
theorem dX11_fault_0 : decode cX11_fault 0 = .ok (.iload_n 1, 1) := by decide +kernel
theorem dX11_fault_1 : decode cX11_fault 1 = .ok (.iconst 0, 1) := by decide +kernel
theorem dX11_fault_2 : decode cX11_fault 2 = .ok (.iconst 2, 1) := by decide +kernel
theorem dX11_fault_3 : decode cX11_fault 3 = .ok (.invokestatic 37, 3) := by decide +kernel
theorem dX11_fault_6 : decode cX11_fault 6 = .ok (.ifCond .ne 6, 3) := by decide +kernel
theorem dX11_fault_9 : decode cX11_fault 9 = .ok (.ldc 41, 2) := by decide +kernel
theorem dX11_fault_11 : decode cX11_fault 11 = .ok (.ireturn, 1) := by decide +kernel
theorem dX11_fault_12 : decode cX11_fault 12 = .ok (.aload_n 0, 1) := by decide +kernel
theorem dX11_fault_13 : decode cX11_fault 13 = .ok (.getfield 7, 3) := by decide +kernel
theorem dX11_fault_16 : decode cX11_fault 16 = .ok (.aload_n 0, 1) := by decide +kernel
theorem dX11_fault_17 : decode cX11_fault 17 = .ok (.getfield 16, 3) := by decide +kernel
theorem dX11_fault_20 : decode cX11_fault 20 = .ok (.invokestatic 115, 3) := by decide +kernel
theorem dX11_fault_23 : decode cX11_fault 23 = .ok (.aload_n 0, 1) := by decide +kernel
theorem dX11_fault_24 : decode cX11_fault 24 = .ok (.invokevirtual 176, 3) := by decide +kernel
theorem dX11_fault_27 : decode cX11_fault 27 = .ok (.istore_n 2, 1) := by decide +kernel
theorem dX11_fault_28 : decode cX11_fault 28 = .ok (.aload_n 0, 1) := by decide +kernel
theorem dX11_fault_29 : decode cX11_fault 29 = .ok (.getfield 16, 3) := by decide +kernel
theorem dX11_fault_32 : decode cX11_fault 32 = .ok (.aload_n 0, 1) := by decide +kernel
theorem dX11_fault_33 : decode cX11_fault 33 = .ok (.getfield 7, 3) := by decide +kernel
theorem dX11_fault_36 : decode cX11_fault 36 = .ok (.invokestatic 115, 3) := by decide +kernel
theorem dX11_fault_39 : decode cX11_fault 39 = .ok (.iload_n 2, 1) := by decide +kernel
theorem dX11_fault_40 : decode cX11_fault 40 = .ok (.ldc 28, 2) := by decide +kernel
theorem dX11_fault_42 : decode cX11_fault 42 = .ok (.if_icmp .eq 7, 3) := by decide +kernel
theorem dX11_fault_45 : decode cX11_fault 45 = .ok (.iload_n 1, 1) := by decide +kernel
theorem dX11_fault_46 : decode cX11_fault 46 = .ok (.ifCond .ne 7, 3) := by decide +kernel
theorem dX11_fault_49 : decode cX11_fault 49 = .ok (.iload_n 2, 1) := by decide +kernel
theorem dX11_fault_50 : decode cX11_fault 50 = .ok (.goto 39, 3) := by decide +kernel
theorem dX11_fault_53 : decode cX11_fault 53 = .ok (.iload_n 1, 1) := by decide +kernel
theorem dX11_fault_54 : decode cX11_fault 54 = .ok (.iconst 1, 1) := by decide +kernel
theorem dX11_fault_55 : decode cX11_fault 55 = .ok (.if_icmp .ne 18, 3) := by decide +kernel
theorem dX11_fault_58 : decode cX11_fault 58 = .ok (.aload_n 0, 1) := by decide +kernel
theorem dX11_fault_59 : decode cX11_fault 59 = .ok (.getfield 173, 3) := by decide +kernel
theorem dX11_fault_62 : decode cX11_fault 62 = .ok (.ifCond .ne 7, 3) := by decide +kernel
theorem dX11_fault_65 : decode cX11_fault 65 = .ok (.iconst 1, 1) := by decide +kernel
theorem dX11_fault_66 : decode cX11_fault 66 = .ok (.goto 23, 3) := by decide +kernel
theorem dX11_fault_69 : decode cX11_fault 69 = .ok (.iconst 2, 1) := by decide +kernel
theorem dX11_fault_70 : decode cX11_fault 70 = .ok (.goto 19, 3) := by decide +kernel
theorem dX11_fault_73 : decode cX11_fault 73 = .ok (.aload_n 0, 1) := by decide +kernel
theorem dX11_fault_74 : decode cX11_fault 74 = .ok (.getfield 173, 3) := by decide +kernel
theorem dX11_fault_77 : decode cX11_fault 77 = .ok (.ifCond .ne 8, 3) := by decide +kernel
theorem dX11_fault_80 : decode cX11_fault 80 = .ok (.ldc 28, 2) := by decide +kernel
theorem dX11_fault_82 : decode cX11_fault 82 = .ok (.goto 7, 3) := by decide +kernel
theorem dX11_fault_85 : decode cX11_fault 85 = .ok (.aload_n 0, 1) := by decide +kernel
theorem dX11_fault_86 : decode cX11_fault 86 = .ok (.getfield 173, 3) := by decide +kernel
theorem dX11_fault_89 : decode cX11_fault 89 = .ok (.ireturn, 1) := by decide +kernel
theorem dX11_play_0 : decode cX11_play 0 = .ok (.aload_n 0, 1) := by decide +kernel
theorem dX11_play_1 : decode cX11_play 1 = .ok (.getfield 7, 3) := by decide +kernel
theorem dX11_play_4 : decode cX11_play 4 = .ok (.aload_n 0, 1) := by decide +kernel
theorem dX11_play_5 : decode cX11_play 5 = .ok (.getfield 16, 3) := by decide +kernel
theorem dX11_play_8 : decode cX11_play 8 = .ok (.invokestatic 115, 3) := by decide +kernel
theorem dX11_play_11 : decode cX11_play 11 = .ok (.aload_n 0, 1) := by decide +kernel
theorem dX11_play_12 : decode cX11_play 12 = .ok (.invokevirtual 176, 3) := by decide +kernel
theorem dX11_play_15 : decode cX11_play 15 = .ok (.istore_n 1, 1) := by decide +kernel
theorem dX11_play_16 : decode cX11_play 16 = .ok (.aload_n 0, 1) := by decide +kernel
theorem dX11_play_17 : decode cX11_play 17 = .ok (.getfield 16, 3) := by decide +kernel
theorem dX11_play_20 : decode cX11_play 20 = .ok (.aload_n 0, 1) := by decide +kernel
theorem dX11_play_21 : decode cX11_play 21 = .ok (.getfield 7, 3) := by decide +kernel
theorem dX11_play_24 : decode cX11_play 24 = .ok (.invokestatic 115, 3) := by decide +kernel
theorem dX11_play_27 : decode cX11_play 27 = .ok (.iload_n 1, 1) := by decide +kernel
theorem dX11_play_28 : decode cX11_play 28 = .ok (.ldc 28, 2) := by decide +kernel
theorem dX11_play_30 : decode cX11_play 30 = .ok (.if_icmp .eq 6, 3) := by decide +kernel
theorem dX11_play_33 : decode cX11_play 33 = .ok (.ldc 50, 2) := by decide +kernel
theorem dX11_play_35 : decode cX11_play 35 = .ok (.ireturn, 1) := by decide +kernel
theorem dX11_play_36 : decode cX11_play 36 = .ok (.aload_n 0, 1) := by decide +kernel
theorem dX11_play_37 : decode cX11_play 37 = .ok (.invokevirtual 43, 3) := by decide +kernel
theorem dX11_play_40 : decode cX11_play 40 = .ok (.aload_n 0, 1) := by decide +kernel
theorem dX11_play_41 : decode cX11_play 41 = .ok (.invokevirtual 176, 3) := by decide +kernel
theorem dX11_play_44 : decode cX11_play 44 = .ok (.ldc 28, 2) := by decide +kernel
theorem dX11_play_46 : decode cX11_play 46 = .ok (.if_icmp .ne 10, 3) := by decide +kernel
theorem dX11_play_49 : decode cX11_play 49 = .ok (.aload_n 0, 1) := by decide +kernel
theorem dX11_play_50 : decode cX11_play 50 = .ok (.getfield 164, 3) := by decide +kernel
theorem dX11_play_53 : decode cX11_play 53 = .ok (.goto 5, 3) := by decide +kernel
theorem dX11_play_56 : decode cX11_play 56 = .ok (.ldc 28, 2) := by decide +kernel
theorem dX11_play_58 : decode cX11_play 58 = .ok (.ireturn, 1) := by decide +kernel
theorem dL_law_0 : decode cL_law 0 = .ok (.new 7, 3) := by decide +kernel
theorem dL_law_3 : decode cL_law 3 = .ok (.dup, 1) := by decide +kernel
theorem dL_law_4 : decode cL_law 4 = .ok (.invokespecial 9, 3) := by decide +kernel
theorem dL_law_7 : decode cL_law 7 = .ok (.astore_n 1, 1) := by decide +kernel
theorem dL_law_8 : decode cL_law 8 = .ok (.new 10, 3) := by decide +kernel
theorem dL_law_11 : decode cL_law 11 = .ok (.dup, 1) := by decide +kernel
theorem dL_law_12 : decode cL_law 12 = .ok (.invokespecial 12, 3) := by decide +kernel
theorem dL_law_15 : decode cL_law 15 = .ok (.astore_n 2, 1) := by decide +kernel
theorem dL_law_16 : decode cL_law 16 = .ok (.iconst 0, 1) := by decide +kernel
theorem dL_law_17 : decode cL_law 17 = .ok (.istore_n 3, 1) := by decide +kernel
theorem dL_law_18 : decode cL_law 18 = .ok (.iload_n 3, 1) := by decide +kernel
theorem dL_law_19 : decode cL_law 19 = .ok (.aload_n 0, 1) := by decide +kernel
theorem dL_law_20 : decode cL_law 20 = .ok (.arraylength, 1) := by decide +kernel
theorem dL_law_21 : decode cL_law 21 = .ok (.iconst 3, 1) := by decide +kernel
theorem dL_law_22 : decode cL_law 22 = .ok (.isub, 1) := by decide +kernel
theorem dL_law_23 : decode cL_law 23 = .ok (.if_icmp .gt 696, 3) := by decide +kernel
theorem dL_law_26 : decode cL_law 26 = .ok (.aload_n 0, 1) := by decide +kernel
theorem dL_law_27 : decode cL_law 27 = .ok (.iload_n 3, 1) := by decide +kernel
theorem dL_law_28 : decode cL_law 28 = .ok (.iaload, 1) := by decide +kernel
theorem dL_law_29 : decode cL_law 29 = .ok (.bipush 31, 2) := by decide +kernel
theorem dL_law_31 : decode cL_law 31 = .ok (.iand, 1) := by decide +kernel
theorem dL_law_32 : decode cL_law 32 = .ok (.tableswitch 681 0 24 #[116, 149, 172, 195, 208, 231, 254, 267, 290, 323, 346, 379, 412, 445, 478, 511, 534, 557, 570, 583, 596, 609, 632, 645, 668], 116) := by decide +kernel
theorem dL_law_148 : decode cL_law 148 = .ok (.aload_n 1, 1) := by decide +kernel
theorem dL_law_149 : decode cL_law 149 = .ok (.aload_n 0, 1) := by decide +kernel
theorem dL_law_150 : decode cL_law 150 = .ok (.iload_n 3, 1) := by decide +kernel
theorem dL_law_151 : decode cL_law 151 = .ok (.iconst 1, 1) := by decide +kernel
theorem dL_law_152 : decode cL_law 152 = .ok (.iadd, 1) := by decide +kernel
theorem dL_law_153 : decode cL_law 153 = .ok (.iaload, 1) := by decide +kernel
theorem dL_law_154 : decode cL_law 154 = .ok (.aload_n 0, 1) := by decide +kernel
theorem dL_law_155 : decode cL_law 155 = .ok (.iload_n 3, 1) := by decide +kernel
theorem dL_law_156 : decode cL_law 156 = .ok (.iconst 2, 1) := by decide +kernel
theorem dL_law_157 : decode cL_law 157 = .ok (.iadd, 1) := by decide +kernel
theorem dL_law_158 : decode cL_law 158 = .ok (.iaload, 1) := by decide +kernel
theorem dL_law_159 : decode cL_law 159 = .ok (.invokevirtual 13, 3) := by decide +kernel
theorem dL_law_162 : decode cL_law 162 = .ok (.aload_n 2, 1) := by decide +kernel
theorem dL_law_163 : decode cL_law 163 = .ok (.aload_n 0, 1) := by decide +kernel
theorem dL_law_164 : decode cL_law 164 = .ok (.iload_n 3, 1) := by decide +kernel
theorem dL_law_165 : decode cL_law 165 = .ok (.iconst 1, 1) := by decide +kernel
theorem dL_law_166 : decode cL_law 166 = .ok (.iadd, 1) := by decide +kernel
theorem dL_law_167 : decode cL_law 167 = .ok (.iaload, 1) := by decide +kernel
theorem dL_law_168 : decode cL_law 168 = .ok (.aload_n 0, 1) := by decide +kernel
theorem dL_law_169 : decode cL_law 169 = .ok (.iload_n 3, 1) := by decide +kernel
theorem dL_law_170 : decode cL_law 170 = .ok (.iconst 2, 1) := by decide +kernel
theorem dL_law_171 : decode cL_law 171 = .ok (.iadd, 1) := by decide +kernel
theorem dL_law_172 : decode cL_law 172 = .ok (.iaload, 1) := by decide +kernel
theorem dL_law_173 : decode cL_law 173 = .ok (.invokevirtual 17, 3) := by decide +kernel
theorem dL_law_176 : decode cL_law 176 = .ok (.if_icmp .eq 537, 3) := by decide +kernel
theorem dL_law_179 : decode cL_law 179 = .ok (.iconst 0, 1) := by decide +kernel
theorem dL_law_180 : decode cL_law 180 = .ok (.ireturn, 1) := by decide +kernel
theorem dL_law_181 : decode cL_law 181 = .ok (.aload_n 1, 1) := by decide +kernel
theorem dL_law_182 : decode cL_law 182 = .ok (.aload_n 0, 1) := by decide +kernel
theorem dL_law_183 : decode cL_law 183 = .ok (.iload_n 3, 1) := by decide +kernel
theorem dL_law_184 : decode cL_law 184 = .ok (.iconst 1, 1) := by decide +kernel
theorem dL_law_185 : decode cL_law 185 = .ok (.iadd, 1) := by decide +kernel
theorem dL_law_186 : decode cL_law 186 = .ok (.iaload, 1) := by decide +kernel
theorem dL_law_187 : decode cL_law 187 = .ok (.invokevirtual 18, 3) := by decide +kernel
theorem dL_law_190 : decode cL_law 190 = .ok (.aload_n 2, 1) := by decide +kernel
theorem dL_law_191 : decode cL_law 191 = .ok (.aload_n 0, 1) := by decide +kernel
theorem dL_law_192 : decode cL_law 192 = .ok (.iload_n 3, 1) := by decide +kernel
theorem dL_law_193 : decode cL_law 193 = .ok (.iconst 1, 1) := by decide +kernel
theorem dL_law_194 : decode cL_law 194 = .ok (.iadd, 1) := by decide +kernel
theorem dL_law_195 : decode cL_law 195 = .ok (.iaload, 1) := by decide +kernel
theorem dL_law_196 : decode cL_law 196 = .ok (.invokevirtual 22, 3) := by decide +kernel
theorem dL_law_199 : decode cL_law 199 = .ok (.if_icmp .eq 514, 3) := by decide +kernel
theorem dL_law_202 : decode cL_law 202 = .ok (.iconst 0, 1) := by decide +kernel
theorem dL_law_203 : decode cL_law 203 = .ok (.ireturn, 1) := by decide +kernel
theorem dL_law_204 : decode cL_law 204 = .ok (.aload_n 1, 1) := by decide +kernel
theorem dL_law_205 : decode cL_law 205 = .ok (.aload_n 0, 1) := by decide +kernel
theorem dL_law_206 : decode cL_law 206 = .ok (.iload_n 3, 1) := by decide +kernel
theorem dL_law_207 : decode cL_law 207 = .ok (.iconst 1, 1) := by decide +kernel
theorem dL_law_208 : decode cL_law 208 = .ok (.iadd, 1) := by decide +kernel
theorem dL_law_209 : decode cL_law 209 = .ok (.iaload, 1) := by decide +kernel
theorem dL_law_210 : decode cL_law 210 = .ok (.invokevirtual 23, 3) := by decide +kernel
theorem dL_law_213 : decode cL_law 213 = .ok (.aload_n 2, 1) := by decide +kernel
theorem dL_law_214 : decode cL_law 214 = .ok (.aload_n 0, 1) := by decide +kernel
theorem dL_law_215 : decode cL_law 215 = .ok (.iload_n 3, 1) := by decide +kernel
theorem dL_law_216 : decode cL_law 216 = .ok (.iconst 1, 1) := by decide +kernel
theorem dL_law_217 : decode cL_law 217 = .ok (.iadd, 1) := by decide +kernel
theorem dL_law_218 : decode cL_law 218 = .ok (.iaload, 1) := by decide +kernel
theorem dL_law_219 : decode cL_law 219 = .ok (.invokevirtual 26, 3) := by decide +kernel
theorem dL_law_222 : decode cL_law 222 = .ok (.if_icmp .eq 491, 3) := by decide +kernel
theorem dL_law_225 : decode cL_law 225 = .ok (.iconst 0, 1) := by decide +kernel
theorem dL_law_226 : decode cL_law 226 = .ok (.ireturn, 1) := by decide +kernel
theorem dL_law_227 : decode cL_law 227 = .ok (.aload_n 1, 1) := by decide +kernel
theorem dL_law_228 : decode cL_law 228 = .ok (.invokevirtual 27, 3) := by decide +kernel
theorem dL_law_231 : decode cL_law 231 = .ok (.aload_n 2, 1) := by decide +kernel
theorem dL_law_232 : decode cL_law 232 = .ok (.invokevirtual 31, 3) := by decide +kernel
theorem dL_law_235 : decode cL_law 235 = .ok (.if_icmp .eq 478, 3) := by decide +kernel
theorem dL_law_238 : decode cL_law 238 = .ok (.iconst 0, 1) := by decide +kernel
theorem dL_law_239 : decode cL_law 239 = .ok (.ireturn, 1) := by decide +kernel
theorem dL_law_240 : decode cL_law 240 = .ok (.aload_n 1, 1) := by decide +kernel
theorem dL_law_241 : decode cL_law 241 = .ok (.aload_n 0, 1) := by decide +kernel
theorem dL_law_242 : decode cL_law 242 = .ok (.iload_n 3, 1) := by decide +kernel
theorem dL_law_243 : decode cL_law 243 = .ok (.iconst 1, 1) := by decide +kernel
theorem dL_law_244 : decode cL_law 244 = .ok (.iadd, 1) := by decide +kernel
theorem dL_law_245 : decode cL_law 245 = .ok (.iaload, 1) := by decide +kernel
theorem dL_law_246 : decode cL_law 246 = .ok (.invokevirtual 32, 3) := by decide +kernel
theorem dL_law_249 : decode cL_law 249 = .ok (.aload_n 2, 1) := by decide +kernel
theorem dL_law_250 : decode cL_law 250 = .ok (.aload_n 0, 1) := by decide +kernel
theorem dL_law_251 : decode cL_law 251 = .ok (.iload_n 3, 1) := by decide +kernel
theorem dL_law_252 : decode cL_law 252 = .ok (.iconst 1, 1) := by decide +kernel
theorem dL_law_253 : decode cL_law 253 = .ok (.iadd, 1) := by decide +kernel
theorem dL_law_254 : decode cL_law 254 = .ok (.iaload, 1) := by decide +kernel
theorem dL_law_255 : decode cL_law 255 = .ok (.invokevirtual 35, 3) := by decide +kernel
theorem dL_law_258 : decode cL_law 258 = .ok (.if_icmp .eq 455, 3) := by decide +kernel
theorem dL_law_261 : decode cL_law 261 = .ok (.iconst 0, 1) := by decide +kernel
theorem dL_law_262 : decode cL_law 262 = .ok (.ireturn, 1) := by decide +kernel
theorem dL_law_263 : decode cL_law 263 = .ok (.aload_n 1, 1) := by decide +kernel
theorem dL_law_264 : decode cL_law 264 = .ok (.aload_n 0, 1) := by decide +kernel
theorem dL_law_265 : decode cL_law 265 = .ok (.iload_n 3, 1) := by decide +kernel
theorem dL_law_266 : decode cL_law 266 = .ok (.iconst 1, 1) := by decide +kernel
theorem dL_law_267 : decode cL_law 267 = .ok (.iadd, 1) := by decide +kernel
theorem dL_law_268 : decode cL_law 268 = .ok (.iaload, 1) := by decide +kernel
theorem dL_law_269 : decode cL_law 269 = .ok (.invokevirtual 36, 3) := by decide +kernel
theorem dL_law_272 : decode cL_law 272 = .ok (.aload_n 2, 1) := by decide +kernel
theorem dL_law_273 : decode cL_law 273 = .ok (.aload_n 0, 1) := by decide +kernel
theorem dL_law_274 : decode cL_law 274 = .ok (.iload_n 3, 1) := by decide +kernel
theorem dL_law_275 : decode cL_law 275 = .ok (.iconst 1, 1) := by decide +kernel
theorem dL_law_276 : decode cL_law 276 = .ok (.iadd, 1) := by decide +kernel
theorem dL_law_277 : decode cL_law 277 = .ok (.iaload, 1) := by decide +kernel
theorem dL_law_278 : decode cL_law 278 = .ok (.invokevirtual 39, 3) := by decide +kernel
theorem dL_law_281 : decode cL_law 281 = .ok (.if_icmp .eq 432, 3) := by decide +kernel
theorem dL_law_284 : decode cL_law 284 = .ok (.iconst 0, 1) := by decide +kernel
theorem dL_law_285 : decode cL_law 285 = .ok (.ireturn, 1) := by decide +kernel
theorem dL_law_286 : decode cL_law 286 = .ok (.aload_n 1, 1) := by decide +kernel
theorem dL_law_287 : decode cL_law 287 = .ok (.invokevirtual 40, 3) := by decide +kernel
theorem dL_law_290 : decode cL_law 290 = .ok (.aload_n 2, 1) := by decide +kernel
theorem dL_law_291 : decode cL_law 291 = .ok (.invokevirtual 43, 3) := by decide +kernel
theorem dL_law_294 : decode cL_law 294 = .ok (.if_icmp .eq 419, 3) := by decide +kernel
theorem dL_law_297 : decode cL_law 297 = .ok (.iconst 0, 1) := by decide +kernel
theorem dL_law_298 : decode cL_law 298 = .ok (.ireturn, 1) := by decide +kernel
theorem dL_law_299 : decode cL_law 299 = .ok (.aload_n 1, 1) := by decide +kernel
theorem dL_law_300 : decode cL_law 300 = .ok (.aload_n 0, 1) := by decide +kernel
theorem dL_law_301 : decode cL_law 301 = .ok (.iload_n 3, 1) := by decide +kernel
theorem dL_law_302 : decode cL_law 302 = .ok (.iconst 1, 1) := by decide +kernel
theorem dL_law_303 : decode cL_law 303 = .ok (.iadd, 1) := by decide +kernel
theorem dL_law_304 : decode cL_law 304 = .ok (.iaload, 1) := by decide +kernel
theorem dL_law_305 : decode cL_law 305 = .ok (.invokevirtual 44, 3) := by decide +kernel
theorem dL_law_308 : decode cL_law 308 = .ok (.aload_n 2, 1) := by decide +kernel
theorem dL_law_309 : decode cL_law 309 = .ok (.aload_n 0, 1) := by decide +kernel
theorem dL_law_310 : decode cL_law 310 = .ok (.iload_n 3, 1) := by decide +kernel
theorem dL_law_311 : decode cL_law 311 = .ok (.iconst 1, 1) := by decide +kernel
theorem dL_law_312 : decode cL_law 312 = .ok (.iadd, 1) := by decide +kernel
theorem dL_law_313 : decode cL_law 313 = .ok (.iaload, 1) := by decide +kernel
theorem dL_law_314 : decode cL_law 314 = .ok (.invokevirtual 47, 3) := by decide +kernel
theorem dL_law_317 : decode cL_law 317 = .ok (.if_icmp .eq 396, 3) := by decide +kernel
theorem dL_law_320 : decode cL_law 320 = .ok (.iconst 0, 1) := by decide +kernel
theorem dL_law_321 : decode cL_law 321 = .ok (.ireturn, 1) := by decide +kernel
theorem dL_law_322 : decode cL_law 322 = .ok (.aload_n 1, 1) := by decide +kernel
theorem dL_law_323 : decode cL_law 323 = .ok (.aload_n 0, 1) := by decide +kernel
theorem dL_law_324 : decode cL_law 324 = .ok (.iload_n 3, 1) := by decide +kernel
theorem dL_law_325 : decode cL_law 325 = .ok (.iconst 1, 1) := by decide +kernel
theorem dL_law_326 : decode cL_law 326 = .ok (.iadd, 1) := by decide +kernel
theorem dL_law_327 : decode cL_law 327 = .ok (.iaload, 1) := by decide +kernel
theorem dL_law_328 : decode cL_law 328 = .ok (.aload_n 0, 1) := by decide +kernel
theorem dL_law_329 : decode cL_law 329 = .ok (.iload_n 3, 1) := by decide +kernel
theorem dL_law_330 : decode cL_law 330 = .ok (.iconst 2, 1) := by decide +kernel
theorem dL_law_331 : decode cL_law 331 = .ok (.iadd, 1) := by decide +kernel
theorem dL_law_332 : decode cL_law 332 = .ok (.iaload, 1) := by decide +kernel
theorem dL_law_333 : decode cL_law 333 = .ok (.invokevirtual 48, 3) := by decide +kernel
theorem dL_law_336 : decode cL_law 336 = .ok (.aload_n 2, 1) := by decide +kernel
theorem dL_law_337 : decode cL_law 337 = .ok (.aload_n 0, 1) := by decide +kernel
theorem dL_law_338 : decode cL_law 338 = .ok (.iload_n 3, 1) := by decide +kernel
theorem dL_law_339 : decode cL_law 339 = .ok (.iconst 1, 1) := by decide +kernel
theorem dL_law_340 : decode cL_law 340 = .ok (.iadd, 1) := by decide +kernel
theorem dL_law_341 : decode cL_law 341 = .ok (.iaload, 1) := by decide +kernel
theorem dL_law_342 : decode cL_law 342 = .ok (.aload_n 0, 1) := by decide +kernel
theorem dL_law_343 : decode cL_law 343 = .ok (.iload_n 3, 1) := by decide +kernel
theorem dL_law_344 : decode cL_law 344 = .ok (.iconst 2, 1) := by decide +kernel
theorem dL_law_345 : decode cL_law 345 = .ok (.iadd, 1) := by decide +kernel
theorem dL_law_346 : decode cL_law 346 = .ok (.iaload, 1) := by decide +kernel
theorem dL_law_347 : decode cL_law 347 = .ok (.invokevirtual 51, 3) := by decide +kernel
theorem dL_law_350 : decode cL_law 350 = .ok (.if_icmp .eq 363, 3) := by decide +kernel
theorem dL_law_353 : decode cL_law 353 = .ok (.iconst 0, 1) := by decide +kernel
theorem dL_law_354 : decode cL_law 354 = .ok (.ireturn, 1) := by decide +kernel
theorem dL_law_355 : decode cL_law 355 = .ok (.aload_n 1, 1) := by decide +kernel
theorem dL_law_356 : decode cL_law 356 = .ok (.aload_n 0, 1) := by decide +kernel
theorem dL_law_357 : decode cL_law 357 = .ok (.iload_n 3, 1) := by decide +kernel
theorem dL_law_358 : decode cL_law 358 = .ok (.iconst 1, 1) := by decide +kernel
theorem dL_law_359 : decode cL_law 359 = .ok (.iadd, 1) := by decide +kernel
theorem dL_law_360 : decode cL_law 360 = .ok (.iaload, 1) := by decide +kernel
theorem dL_law_361 : decode cL_law 361 = .ok (.invokevirtual 52, 3) := by decide +kernel
theorem dL_law_364 : decode cL_law 364 = .ok (.aload_n 2, 1) := by decide +kernel
theorem dL_law_365 : decode cL_law 365 = .ok (.aload_n 0, 1) := by decide +kernel
theorem dL_law_366 : decode cL_law 366 = .ok (.iload_n 3, 1) := by decide +kernel
theorem dL_law_367 : decode cL_law 367 = .ok (.iconst 1, 1) := by decide +kernel
theorem dL_law_368 : decode cL_law 368 = .ok (.iadd, 1) := by decide +kernel
theorem dL_law_369 : decode cL_law 369 = .ok (.iaload, 1) := by decide +kernel
theorem dL_law_370 : decode cL_law 370 = .ok (.invokevirtual 55, 3) := by decide +kernel
theorem dL_law_373 : decode cL_law 373 = .ok (.if_icmp .eq 340, 3) := by decide +kernel
theorem dL_law_376 : decode cL_law 376 = .ok (.iconst 0, 1) := by decide +kernel
theorem dL_law_377 : decode cL_law 377 = .ok (.ireturn, 1) := by decide +kernel
theorem dL_law_378 : decode cL_law 378 = .ok (.aload_n 1, 1) := by decide +kernel
theorem dL_law_379 : decode cL_law 379 = .ok (.aload_n 0, 1) := by decide +kernel
theorem dL_law_380 : decode cL_law 380 = .ok (.iload_n 3, 1) := by decide +kernel
theorem dL_law_381 : decode cL_law 381 = .ok (.iconst 1, 1) := by decide +kernel
theorem dL_law_382 : decode cL_law 382 = .ok (.iadd, 1) := by decide +kernel
theorem dL_law_383 : decode cL_law 383 = .ok (.iaload, 1) := by decide +kernel
theorem dL_law_384 : decode cL_law 384 = .ok (.aload_n 0, 1) := by decide +kernel
theorem dL_law_385 : decode cL_law 385 = .ok (.iload_n 3, 1) := by decide +kernel
theorem dL_law_386 : decode cL_law 386 = .ok (.iconst 2, 1) := by decide +kernel
theorem dL_law_387 : decode cL_law 387 = .ok (.iadd, 1) := by decide +kernel
theorem dL_law_388 : decode cL_law 388 = .ok (.iaload, 1) := by decide +kernel
theorem dL_law_389 : decode cL_law 389 = .ok (.invokevirtual 56, 3) := by decide +kernel
theorem dL_law_392 : decode cL_law 392 = .ok (.aload_n 2, 1) := by decide +kernel
theorem dL_law_393 : decode cL_law 393 = .ok (.aload_n 0, 1) := by decide +kernel
theorem dL_law_394 : decode cL_law 394 = .ok (.iload_n 3, 1) := by decide +kernel
theorem dL_law_395 : decode cL_law 395 = .ok (.iconst 1, 1) := by decide +kernel
theorem dL_law_396 : decode cL_law 396 = .ok (.iadd, 1) := by decide +kernel
theorem dL_law_397 : decode cL_law 397 = .ok (.iaload, 1) := by decide +kernel
theorem dL_law_398 : decode cL_law 398 = .ok (.aload_n 0, 1) := by decide +kernel
theorem dL_law_399 : decode cL_law 399 = .ok (.iload_n 3, 1) := by decide +kernel
theorem dL_law_400 : decode cL_law 400 = .ok (.iconst 2, 1) := by decide +kernel
theorem dL_law_401 : decode cL_law 401 = .ok (.iadd, 1) := by decide +kernel
theorem dL_law_402 : decode cL_law 402 = .ok (.iaload, 1) := by decide +kernel
theorem dL_law_403 : decode cL_law 403 = .ok (.invokevirtual 59, 3) := by decide +kernel
theorem dL_law_406 : decode cL_law 406 = .ok (.if_icmp .eq 307, 3) := by decide +kernel
theorem dL_law_409 : decode cL_law 409 = .ok (.iconst 0, 1) := by decide +kernel
theorem dL_law_410 : decode cL_law 410 = .ok (.ireturn, 1) := by decide +kernel
theorem dL_law_411 : decode cL_law 411 = .ok (.aload_n 1, 1) := by decide +kernel
theorem dL_law_412 : decode cL_law 412 = .ok (.aload_n 0, 1) := by decide +kernel
theorem dL_law_413 : decode cL_law 413 = .ok (.iload_n 3, 1) := by decide +kernel
theorem dL_law_414 : decode cL_law 414 = .ok (.iconst 1, 1) := by decide +kernel
theorem dL_law_415 : decode cL_law 415 = .ok (.iadd, 1) := by decide +kernel
theorem dL_law_416 : decode cL_law 416 = .ok (.iaload, 1) := by decide +kernel
theorem dL_law_417 : decode cL_law 417 = .ok (.aload_n 0, 1) := by decide +kernel
theorem dL_law_418 : decode cL_law 418 = .ok (.iload_n 3, 1) := by decide +kernel
theorem dL_law_419 : decode cL_law 419 = .ok (.iconst 2, 1) := by decide +kernel
theorem dL_law_420 : decode cL_law 420 = .ok (.iadd, 1) := by decide +kernel
theorem dL_law_421 : decode cL_law 421 = .ok (.iaload, 1) := by decide +kernel
theorem dL_law_422 : decode cL_law 422 = .ok (.invokevirtual 60, 3) := by decide +kernel
theorem dL_law_425 : decode cL_law 425 = .ok (.aload_n 2, 1) := by decide +kernel
theorem dL_law_426 : decode cL_law 426 = .ok (.aload_n 0, 1) := by decide +kernel
theorem dL_law_427 : decode cL_law 427 = .ok (.iload_n 3, 1) := by decide +kernel
theorem dL_law_428 : decode cL_law 428 = .ok (.iconst 1, 1) := by decide +kernel
theorem dL_law_429 : decode cL_law 429 = .ok (.iadd, 1) := by decide +kernel
theorem dL_law_430 : decode cL_law 430 = .ok (.iaload, 1) := by decide +kernel
theorem dL_law_431 : decode cL_law 431 = .ok (.aload_n 0, 1) := by decide +kernel
theorem dL_law_432 : decode cL_law 432 = .ok (.iload_n 3, 1) := by decide +kernel
theorem dL_law_433 : decode cL_law 433 = .ok (.iconst 2, 1) := by decide +kernel
theorem dL_law_434 : decode cL_law 434 = .ok (.iadd, 1) := by decide +kernel
theorem dL_law_435 : decode cL_law 435 = .ok (.iaload, 1) := by decide +kernel
theorem dL_law_436 : decode cL_law 436 = .ok (.invokevirtual 63, 3) := by decide +kernel
theorem dL_law_439 : decode cL_law 439 = .ok (.if_icmp .eq 274, 3) := by decide +kernel
theorem dL_law_442 : decode cL_law 442 = .ok (.iconst 0, 1) := by decide +kernel
theorem dL_law_443 : decode cL_law 443 = .ok (.ireturn, 1) := by decide +kernel
theorem dL_law_444 : decode cL_law 444 = .ok (.aload_n 1, 1) := by decide +kernel
theorem dL_law_445 : decode cL_law 445 = .ok (.aload_n 0, 1) := by decide +kernel
theorem dL_law_446 : decode cL_law 446 = .ok (.iload_n 3, 1) := by decide +kernel
theorem dL_law_447 : decode cL_law 447 = .ok (.iconst 1, 1) := by decide +kernel
theorem dL_law_448 : decode cL_law 448 = .ok (.iadd, 1) := by decide +kernel
theorem dL_law_449 : decode cL_law 449 = .ok (.iaload, 1) := by decide +kernel
theorem dL_law_450 : decode cL_law 450 = .ok (.aload_n 0, 1) := by decide +kernel
theorem dL_law_451 : decode cL_law 451 = .ok (.iload_n 3, 1) := by decide +kernel
theorem dL_law_452 : decode cL_law 452 = .ok (.iconst 2, 1) := by decide +kernel
theorem dL_law_453 : decode cL_law 453 = .ok (.iadd, 1) := by decide +kernel
theorem dL_law_454 : decode cL_law 454 = .ok (.iaload, 1) := by decide +kernel
theorem dL_law_455 : decode cL_law 455 = .ok (.invokevirtual 64, 3) := by decide +kernel
theorem dL_law_458 : decode cL_law 458 = .ok (.aload_n 2, 1) := by decide +kernel
theorem dL_law_459 : decode cL_law 459 = .ok (.aload_n 0, 1) := by decide +kernel
theorem dL_law_460 : decode cL_law 460 = .ok (.iload_n 3, 1) := by decide +kernel
theorem dL_law_461 : decode cL_law 461 = .ok (.iconst 1, 1) := by decide +kernel
theorem dL_law_462 : decode cL_law 462 = .ok (.iadd, 1) := by decide +kernel
theorem dL_law_463 : decode cL_law 463 = .ok (.iaload, 1) := by decide +kernel
theorem dL_law_464 : decode cL_law 464 = .ok (.aload_n 0, 1) := by decide +kernel
theorem dL_law_465 : decode cL_law 465 = .ok (.iload_n 3, 1) := by decide +kernel
theorem dL_law_466 : decode cL_law 466 = .ok (.iconst 2, 1) := by decide +kernel
theorem dL_law_467 : decode cL_law 467 = .ok (.iadd, 1) := by decide +kernel
theorem dL_law_468 : decode cL_law 468 = .ok (.iaload, 1) := by decide +kernel
theorem dL_law_469 : decode cL_law 469 = .ok (.invokevirtual 67, 3) := by decide +kernel
theorem dL_law_472 : decode cL_law 472 = .ok (.if_icmp .eq 241, 3) := by decide +kernel
theorem dL_law_475 : decode cL_law 475 = .ok (.iconst 0, 1) := by decide +kernel
theorem dL_law_476 : decode cL_law 476 = .ok (.ireturn, 1) := by decide +kernel
theorem dL_law_477 : decode cL_law 477 = .ok (.aload_n 1, 1) := by decide +kernel
theorem dL_law_478 : decode cL_law 478 = .ok (.aload_n 0, 1) := by decide +kernel
theorem dL_law_479 : decode cL_law 479 = .ok (.iload_n 3, 1) := by decide +kernel
theorem dL_law_480 : decode cL_law 480 = .ok (.iconst 1, 1) := by decide +kernel
theorem dL_law_481 : decode cL_law 481 = .ok (.iadd, 1) := by decide +kernel
theorem dL_law_482 : decode cL_law 482 = .ok (.iaload, 1) := by decide +kernel
theorem dL_law_483 : decode cL_law 483 = .ok (.aload_n 0, 1) := by decide +kernel
theorem dL_law_484 : decode cL_law 484 = .ok (.iload_n 3, 1) := by decide +kernel
theorem dL_law_485 : decode cL_law 485 = .ok (.iconst 2, 1) := by decide +kernel
theorem dL_law_486 : decode cL_law 486 = .ok (.iadd, 1) := by decide +kernel
theorem dL_law_487 : decode cL_law 487 = .ok (.iaload, 1) := by decide +kernel
theorem dL_law_488 : decode cL_law 488 = .ok (.invokevirtual 68, 3) := by decide +kernel
theorem dL_law_491 : decode cL_law 491 = .ok (.aload_n 2, 1) := by decide +kernel
theorem dL_law_492 : decode cL_law 492 = .ok (.aload_n 0, 1) := by decide +kernel
theorem dL_law_493 : decode cL_law 493 = .ok (.iload_n 3, 1) := by decide +kernel
theorem dL_law_494 : decode cL_law 494 = .ok (.iconst 1, 1) := by decide +kernel
theorem dL_law_495 : decode cL_law 495 = .ok (.iadd, 1) := by decide +kernel
theorem dL_law_496 : decode cL_law 496 = .ok (.iaload, 1) := by decide +kernel
theorem dL_law_497 : decode cL_law 497 = .ok (.aload_n 0, 1) := by decide +kernel
theorem dL_law_498 : decode cL_law 498 = .ok (.iload_n 3, 1) := by decide +kernel
theorem dL_law_499 : decode cL_law 499 = .ok (.iconst 2, 1) := by decide +kernel
theorem dL_law_500 : decode cL_law 500 = .ok (.iadd, 1) := by decide +kernel
theorem dL_law_501 : decode cL_law 501 = .ok (.iaload, 1) := by decide +kernel
theorem dL_law_502 : decode cL_law 502 = .ok (.invokevirtual 71, 3) := by decide +kernel
theorem dL_law_505 : decode cL_law 505 = .ok (.if_icmp .eq 208, 3) := by decide +kernel
theorem dL_law_508 : decode cL_law 508 = .ok (.iconst 0, 1) := by decide +kernel
theorem dL_law_509 : decode cL_law 509 = .ok (.ireturn, 1) := by decide +kernel
theorem dL_law_510 : decode cL_law 510 = .ok (.aload_n 1, 1) := by decide +kernel
theorem dL_law_511 : decode cL_law 511 = .ok (.aload_n 0, 1) := by decide +kernel
theorem dL_law_512 : decode cL_law 512 = .ok (.iload_n 3, 1) := by decide +kernel
theorem dL_law_513 : decode cL_law 513 = .ok (.iconst 1, 1) := by decide +kernel
theorem dL_law_514 : decode cL_law 514 = .ok (.iadd, 1) := by decide +kernel
theorem dL_law_515 : decode cL_law 515 = .ok (.iaload, 1) := by decide +kernel
theorem dL_law_516 : decode cL_law 516 = .ok (.aload_n 0, 1) := by decide +kernel
theorem dL_law_517 : decode cL_law 517 = .ok (.iload_n 3, 1) := by decide +kernel
theorem dL_law_518 : decode cL_law 518 = .ok (.iconst 2, 1) := by decide +kernel
theorem dL_law_519 : decode cL_law 519 = .ok (.iadd, 1) := by decide +kernel
theorem dL_law_520 : decode cL_law 520 = .ok (.iaload, 1) := by decide +kernel
theorem dL_law_521 : decode cL_law 521 = .ok (.invokevirtual 72, 3) := by decide +kernel
theorem dL_law_524 : decode cL_law 524 = .ok (.aload_n 2, 1) := by decide +kernel
theorem dL_law_525 : decode cL_law 525 = .ok (.aload_n 0, 1) := by decide +kernel
theorem dL_law_526 : decode cL_law 526 = .ok (.iload_n 3, 1) := by decide +kernel
theorem dL_law_527 : decode cL_law 527 = .ok (.iconst 1, 1) := by decide +kernel
theorem dL_law_528 : decode cL_law 528 = .ok (.iadd, 1) := by decide +kernel
theorem dL_law_529 : decode cL_law 529 = .ok (.iaload, 1) := by decide +kernel
theorem dL_law_530 : decode cL_law 530 = .ok (.aload_n 0, 1) := by decide +kernel
theorem dL_law_531 : decode cL_law 531 = .ok (.iload_n 3, 1) := by decide +kernel
theorem dL_law_532 : decode cL_law 532 = .ok (.iconst 2, 1) := by decide +kernel
theorem dL_law_533 : decode cL_law 533 = .ok (.iadd, 1) := by decide +kernel
theorem dL_law_534 : decode cL_law 534 = .ok (.iaload, 1) := by decide +kernel
theorem dL_law_535 : decode cL_law 535 = .ok (.invokevirtual 75, 3) := by decide +kernel
theorem dL_law_538 : decode cL_law 538 = .ok (.if_icmp .eq 175, 3) := by decide +kernel
theorem dL_law_541 : decode cL_law 541 = .ok (.iconst 0, 1) := by decide +kernel
theorem dL_law_542 : decode cL_law 542 = .ok (.ireturn, 1) := by decide +kernel
theorem dL_law_543 : decode cL_law 543 = .ok (.aload_n 1, 1) := by decide +kernel
theorem dL_law_544 : decode cL_law 544 = .ok (.aload_n 0, 1) := by decide +kernel
theorem dL_law_545 : decode cL_law 545 = .ok (.iload_n 3, 1) := by decide +kernel
theorem dL_law_546 : decode cL_law 546 = .ok (.iconst 1, 1) := by decide +kernel
theorem dL_law_547 : decode cL_law 547 = .ok (.iadd, 1) := by decide +kernel
theorem dL_law_548 : decode cL_law 548 = .ok (.iaload, 1) := by decide +kernel
theorem dL_law_549 : decode cL_law 549 = .ok (.invokevirtual 76, 3) := by decide +kernel
theorem dL_law_552 : decode cL_law 552 = .ok (.aload_n 2, 1) := by decide +kernel
theorem dL_law_553 : decode cL_law 553 = .ok (.aload_n 0, 1) := by decide +kernel
theorem dL_law_554 : decode cL_law 554 = .ok (.iload_n 3, 1) := by decide +kernel
theorem dL_law_555 : decode cL_law 555 = .ok (.iconst 1, 1) := by decide +kernel
theorem dL_law_556 : decode cL_law 556 = .ok (.iadd, 1) := by decide +kernel
theorem dL_law_557 : decode cL_law 557 = .ok (.iaload, 1) := by decide +kernel
theorem dL_law_558 : decode cL_law 558 = .ok (.invokevirtual 79, 3) := by decide +kernel
theorem dL_law_561 : decode cL_law 561 = .ok (.if_icmp .eq 152, 3) := by decide +kernel
theorem dL_law_564 : decode cL_law 564 = .ok (.iconst 0, 1) := by decide +kernel
theorem dL_law_565 : decode cL_law 565 = .ok (.ireturn, 1) := by decide +kernel
theorem dL_law_566 : decode cL_law 566 = .ok (.aload_n 1, 1) := by decide +kernel
theorem dL_law_567 : decode cL_law 567 = .ok (.aload_n 0, 1) := by decide +kernel
theorem dL_law_568 : decode cL_law 568 = .ok (.iload_n 3, 1) := by decide +kernel
theorem dL_law_569 : decode cL_law 569 = .ok (.iconst 1, 1) := by decide +kernel
theorem dL_law_570 : decode cL_law 570 = .ok (.iadd, 1) := by decide +kernel
theorem dL_law_571 : decode cL_law 571 = .ok (.iaload, 1) := by decide +kernel
theorem dL_law_572 : decode cL_law 572 = .ok (.invokevirtual 80, 3) := by decide +kernel
theorem dL_law_575 : decode cL_law 575 = .ok (.aload_n 2, 1) := by decide +kernel
theorem dL_law_576 : decode cL_law 576 = .ok (.aload_n 0, 1) := by decide +kernel
theorem dL_law_577 : decode cL_law 577 = .ok (.iload_n 3, 1) := by decide +kernel
theorem dL_law_578 : decode cL_law 578 = .ok (.iconst 1, 1) := by decide +kernel
theorem dL_law_579 : decode cL_law 579 = .ok (.iadd, 1) := by decide +kernel
theorem dL_law_580 : decode cL_law 580 = .ok (.iaload, 1) := by decide +kernel
theorem dL_law_581 : decode cL_law 581 = .ok (.invokevirtual 83, 3) := by decide +kernel
theorem dL_law_584 : decode cL_law 584 = .ok (.if_icmp .eq 129, 3) := by decide +kernel
theorem dL_law_587 : decode cL_law 587 = .ok (.iconst 0, 1) := by decide +kernel
theorem dL_law_588 : decode cL_law 588 = .ok (.ireturn, 1) := by decide +kernel
theorem dL_law_589 : decode cL_law 589 = .ok (.aload_n 1, 1) := by decide +kernel
theorem dL_law_590 : decode cL_law 590 = .ok (.invokevirtual 84, 3) := by decide +kernel
theorem dL_law_593 : decode cL_law 593 = .ok (.aload_n 2, 1) := by decide +kernel
theorem dL_law_594 : decode cL_law 594 = .ok (.invokevirtual 87, 3) := by decide +kernel
theorem dL_law_597 : decode cL_law 597 = .ok (.if_icmp .eq 116, 3) := by decide +kernel
theorem dL_law_600 : decode cL_law 600 = .ok (.iconst 0, 1) := by decide +kernel
theorem dL_law_601 : decode cL_law 601 = .ok (.ireturn, 1) := by decide +kernel
theorem dL_law_602 : decode cL_law 602 = .ok (.aload_n 1, 1) := by decide +kernel
theorem dL_law_603 : decode cL_law 603 = .ok (.invokevirtual 88, 3) := by decide +kernel
theorem dL_law_606 : decode cL_law 606 = .ok (.aload_n 2, 1) := by decide +kernel
theorem dL_law_607 : decode cL_law 607 = .ok (.invokevirtual 91, 3) := by decide +kernel
theorem dL_law_610 : decode cL_law 610 = .ok (.if_icmp .eq 103, 3) := by decide +kernel
theorem dL_law_613 : decode cL_law 613 = .ok (.iconst 0, 1) := by decide +kernel
theorem dL_law_614 : decode cL_law 614 = .ok (.ireturn, 1) := by decide +kernel
theorem dL_law_615 : decode cL_law 615 = .ok (.aload_n 1, 1) := by decide +kernel
theorem dL_law_616 : decode cL_law 616 = .ok (.invokevirtual 92, 3) := by decide +kernel
theorem dL_law_619 : decode cL_law 619 = .ok (.aload_n 2, 1) := by decide +kernel
theorem dL_law_620 : decode cL_law 620 = .ok (.invokevirtual 95, 3) := by decide +kernel
theorem dL_law_623 : decode cL_law 623 = .ok (.if_icmp .eq 90, 3) := by decide +kernel
theorem dL_law_626 : decode cL_law 626 = .ok (.iconst 0, 1) := by decide +kernel
theorem dL_law_627 : decode cL_law 627 = .ok (.ireturn, 1) := by decide +kernel
theorem dL_law_628 : decode cL_law 628 = .ok (.aload_n 1, 1) := by decide +kernel
theorem dL_law_629 : decode cL_law 629 = .ok (.invokevirtual 96, 3) := by decide +kernel
theorem dL_law_632 : decode cL_law 632 = .ok (.aload_n 2, 1) := by decide +kernel
theorem dL_law_633 : decode cL_law 633 = .ok (.invokevirtual 99, 3) := by decide +kernel
theorem dL_law_636 : decode cL_law 636 = .ok (.if_icmp .eq 77, 3) := by decide +kernel
theorem dL_law_639 : decode cL_law 639 = .ok (.iconst 0, 1) := by decide +kernel
theorem dL_law_640 : decode cL_law 640 = .ok (.ireturn, 1) := by decide +kernel
theorem dL_law_641 : decode cL_law 641 = .ok (.aload_n 1, 1) := by decide +kernel
theorem dL_law_642 : decode cL_law 642 = .ok (.aload_n 0, 1) := by decide +kernel
theorem dL_law_643 : decode cL_law 643 = .ok (.iload_n 3, 1) := by decide +kernel
theorem dL_law_644 : decode cL_law 644 = .ok (.iconst 1, 1) := by decide +kernel
theorem dL_law_645 : decode cL_law 645 = .ok (.iadd, 1) := by decide +kernel
theorem dL_law_646 : decode cL_law 646 = .ok (.iaload, 1) := by decide +kernel
theorem dL_law_647 : decode cL_law 647 = .ok (.invokevirtual 100, 3) := by decide +kernel
theorem dL_law_650 : decode cL_law 650 = .ok (.aload_n 2, 1) := by decide +kernel
theorem dL_law_651 : decode cL_law 651 = .ok (.aload_n 0, 1) := by decide +kernel
theorem dL_law_652 : decode cL_law 652 = .ok (.iload_n 3, 1) := by decide +kernel
theorem dL_law_653 : decode cL_law 653 = .ok (.iconst 1, 1) := by decide +kernel
theorem dL_law_654 : decode cL_law 654 = .ok (.iadd, 1) := by decide +kernel
theorem dL_law_655 : decode cL_law 655 = .ok (.iaload, 1) := by decide +kernel
theorem dL_law_656 : decode cL_law 656 = .ok (.invokevirtual 103, 3) := by decide +kernel
theorem dL_law_659 : decode cL_law 659 = .ok (.if_icmp .eq 54, 3) := by decide +kernel
theorem dL_law_662 : decode cL_law 662 = .ok (.iconst 0, 1) := by decide +kernel
theorem dL_law_663 : decode cL_law 663 = .ok (.ireturn, 1) := by decide +kernel
theorem dL_law_664 : decode cL_law 664 = .ok (.aload_n 1, 1) := by decide +kernel
theorem dL_law_665 : decode cL_law 665 = .ok (.invokevirtual 104, 3) := by decide +kernel
theorem dL_law_668 : decode cL_law 668 = .ok (.aload_n 2, 1) := by decide +kernel
theorem dL_law_669 : decode cL_law 669 = .ok (.invokevirtual 107, 3) := by decide +kernel
theorem dL_law_672 : decode cL_law 672 = .ok (.if_icmp .eq 41, 3) := by decide +kernel
theorem dL_law_675 : decode cL_law 675 = .ok (.iconst 0, 1) := by decide +kernel
theorem dL_law_676 : decode cL_law 676 = .ok (.ireturn, 1) := by decide +kernel
theorem dL_law_677 : decode cL_law 677 = .ok (.aload_n 1, 1) := by decide +kernel
theorem dL_law_678 : decode cL_law 678 = .ok (.aload_n 0, 1) := by decide +kernel
theorem dL_law_679 : decode cL_law 679 = .ok (.iload_n 3, 1) := by decide +kernel
theorem dL_law_680 : decode cL_law 680 = .ok (.iconst 1, 1) := by decide +kernel
theorem dL_law_681 : decode cL_law 681 = .ok (.iadd, 1) := by decide +kernel
theorem dL_law_682 : decode cL_law 682 = .ok (.iaload, 1) := by decide +kernel
theorem dL_law_683 : decode cL_law 683 = .ok (.invokevirtual 108, 3) := by decide +kernel
theorem dL_law_686 : decode cL_law 686 = .ok (.aload_n 2, 1) := by decide +kernel
theorem dL_law_687 : decode cL_law 687 = .ok (.aload_n 0, 1) := by decide +kernel
theorem dL_law_688 : decode cL_law 688 = .ok (.iload_n 3, 1) := by decide +kernel
theorem dL_law_689 : decode cL_law 689 = .ok (.iconst 1, 1) := by decide +kernel
theorem dL_law_690 : decode cL_law 690 = .ok (.iadd, 1) := by decide +kernel
theorem dL_law_691 : decode cL_law 691 = .ok (.iaload, 1) := by decide +kernel
theorem dL_law_692 : decode cL_law 692 = .ok (.invokevirtual 111, 3) := by decide +kernel
theorem dL_law_695 : decode cL_law 695 = .ok (.if_icmp .eq 18, 3) := by decide +kernel
theorem dL_law_698 : decode cL_law 698 = .ok (.iconst 0, 1) := by decide +kernel
theorem dL_law_699 : decode cL_law 699 = .ok (.ireturn, 1) := by decide +kernel
theorem dL_law_700 : decode cL_law 700 = .ok (.aload_n 1, 1) := by decide +kernel
theorem dL_law_701 : decode cL_law 701 = .ok (.invokevirtual 112, 3) := by decide +kernel
theorem dL_law_704 : decode cL_law 704 = .ok (.aload_n 2, 1) := by decide +kernel
theorem dL_law_705 : decode cL_law 705 = .ok (.invokevirtual 115, 3) := by decide +kernel
theorem dL_law_708 : decode cL_law 708 = .ok (.if_icmp .eq 5, 3) := by decide +kernel
theorem dL_law_711 : decode cL_law 711 = .ok (.iconst 0, 1) := by decide +kernel
theorem dL_law_712 : decode cL_law 712 = .ok (.ireturn, 1) := by decide +kernel
theorem dL_law_713 : decode cL_law 713 = .ok (.iinc 3 3, 3) := by decide +kernel
theorem dL_law_716 : decode cL_law 716 = .ok (.goto (-698), 3) := by decide +kernel
theorem dL_law_719 : decode cL_law 719 = .ok (.iconst 1, 1) := by decide +kernel
theorem dL_law_720 : decode cL_law 720 = .ok (.ireturn, 1) := by decide +kernel
end
section
abbrev kG : Type := Launch × va_G × ClassId × ClassId × Nat × (Nat → Nat)
abbrev kS : Type := Nat × (Nat → Nat × Nat) × (Nat → Nat → Option Nat)
abbrev kI : Type := Nat → Nat → Int32
abbrev kP : Type := Option Value → kS → kI → Prop
abbrev kM : Type := MethodName × ByteArray × Nat × Option FieldType
abbrev kB (g : kG) : Nat := g.2.2.2.2.1
def kA (g : kG) : Nat → Prop := fun q => kB g ≤ q
-- the fields of a class by its number: a reference (true) or an int
def kft (ci : Nat) : List Bool := match ci with
  | 0 => [true, true, true, false]
  | 1 => [true, false, false]
  | 2 => [true, true, true, false]
  | 3 => [false, false, false, false]
  | 4 => [true, true, true, true, false]
  | 5 => [true, true, false, false]
  | 6 => [true, true, true, true, true, true, false, false, false, false, false, false, false, false, false]
  | 7 => [true, false, false, false, false]
  | 8 => [false, false, false, false, false]
  | 9 => [true, false]
  | 10 => [true, true, true, true, true]
  | 11 => [true, true, true, true, false, false, true, false, false, false, false, false, false, true]
  | _ => []
def kfv (f : Nat → Option Nat) (i : Nat → Int32) : List Bool → Nat → List Value
  | [], _ => []
  | b :: r, k => (if b then va_rf (f k) else .int (i k)) :: kfv f i r (k + 1)
theorem kfv_get {f : Nat → Option Nat} {i : Nat → Int32} : ∀ (ts : List Bool) (k j : Nat) (b : Bool), ts[j]? = some b → (kfv f i ts k)[j]? = some (if b then va_rf (f (k + j)) else .int (i (k + j)))
  | [], k, j, b, h => by simp at h
  | t :: r, k, 0, b, h => by simp at h; subst h; simp [kfv]
  | t :: r, k, j + 1, b, h => by
    have h' : r[j]? = some b := by simpa using h
    have ih := kfv_get (f := f) (i := i) r (k + 1) j b h'
    simp only [kfv, List.getElem?_cons_succ]
    rw [ih, show k + 1 + j = k + (j + 1) by omega]
theorem kfv_len {f : Nat → Option Nat} {i : Nat → Int32} : ∀ (ts : List Bool) (k : Nat), (kfv f i ts k).length = ts.length
  | [], k => rfl
  | t :: r, k => by simp [kfv, kfv_len r (k + 1)]
theorem kfv_same {f f' : Nat → Option Nat} {i i' : Nat → Int32} : ∀ (ts : List Bool) (k : Nat), (∀ j, k ≤ j → f j = f' j) → (∀ j, k ≤ j → i j = i' j) → kfv f i ts k = kfv f' i' ts k
  | [], k, _, _ => rfl
  | t :: r, k, h1, h2 => by
    simp only [kfv]
    rw [h1 k (Nat.le_refl k), h2 k (Nat.le_refl k), kfv_same r (k + 1) (fun j hj => h1 j (by omega)) (fun j hj => h2 j (by omega))]
theorem kfv_setI {f : Nat → Option Nat} {i : Nat → Int32} {x : Int32} : ∀ (ts : List Bool) (k j : Nat), ts[j]? = some false → (kfv f i ts k).set j (.int x) = kfv f (upd i (k + j) x) ts k
  | [], k, j, h => by simp at h
  | t :: r, k, 0, h => by
    simp at h; subst h
    simp only [kfv, List.set_cons_zero, Nat.add_zero]
    rw [kfv_same (f' := f) (i' := upd i k x) r (k + 1) (fun _ _ => rfl) (fun j hj => by simp [upd, show j ≠ k by omega])]
    simp [upd]
  | t :: r, k, j + 1, h => by
    have h' : r[j]? = some false := by simpa using h
    have ih := kfv_setI (f := f) (i := i) (x := x) r (k + 1) j h'
    simp only [kfv, List.set_cons_succ]
    rw [ih, show k + 1 + j = k + (j + 1) by omega]
    simp [upd, show k ≠ k + (j + 1) by omega]
theorem kfv_setR {f : Nat → Option Nat} {i : Nat → Int32} {x : Option Nat} : ∀ (ts : List Bool) (k j : Nat), ts[j]? = some true → (kfv f i ts k).set j (va_rf x) = kfv (va_up f (k + j) x) i ts k
  | [], k, j, h => by simp at h
  | t :: r, k, 0, h => by
    simp at h; subst h
    simp only [kfv, List.set_cons_zero, Nat.add_zero]
    rw [kfv_same (f' := va_up f k x) (i' := i) r (k + 1) (fun j hj => by simp [va_up, show j ≠ k by omega]) (fun _ _ => rfl)]
    simp [va_up]
  | t :: r, k, j + 1, h => by
    have h' : r[j]? = some true := by simpa using h
    have ih := kfv_setR (f := f) (i := i) (x := x) r (k + 1) j h'
    simp only [kfv, List.set_cons_succ]
    rw [ih, show k + 1 + j = k + (j + 1) by omega]
    simp [va_up, show k ≠ k + (j + 1) by omega]
-- a cell by its shape: (class, 0), or (100, n) an int array, (101, n) a char array
def kE (cI cC : ClassId) (h : Nat × Nat) (f : Nat → Option Nat) (i : Nat → Int32) : va_E := if h.1 = 100 then .inl (cI, h.2, .inl i) else if h.1 = 101 then .inl (cC, h.2, .inl i) else .inr (h.1, kfv f i (kft h.1) 0)
def kF (g : kG) (σ : kS) (I : kI) : Nat → va_E := fun a => kE g.2.2.1 g.2.2.2.1 (σ.2.1 a) (σ.2.2 a) (I a)
def kL (g : kG) (σ : kS) : List Nat := List.range' (kB g) (σ.1 - kB g)
def kW (g : kG) (σ : kS) (I : kI) : va_W := va_pl (kL g σ) (kF g σ I)
abbrev kTy (g : kG) : List (ClassId × FieldType) := [(g.2.2.1, .int), (g.2.2.2.1, .char)]
def kHold (g : kG) (σ : kS) (I : kI) (s : State) (H : Heap) : Prop := H.size = σ.1 ∧ kB g ≤ σ.1 ∧ va_P g.2.1 vwCl (kW g σ I) H ∧ va_K g.2.1 vwCl (kTy g) s
def kLh (ls : Array Slot) (nL : Nat) (loc : List (Option Value)) : Prop := ls.size = nL ∧ lv_wf ls ∧ loc.length = nL ∧ ∀ (i : Nat) (v : Value), loc[i]? = some (some v) → ls[i]? = some (.val v)
def kSa (i : Nat) : String := match i with
  | 0 => "FIRST_SETTINGS"
  | 1 => "LEAST_SETTINGS"
  | _ => "MOST_SETTINGS"
def kSv (i j : Nat) : Int32 := match i, j with
  | 0, 0 => 120
  | 0, 1 => 20
  | 0, _ => 1
  | 1, 0 => 1
  | 1, 1 => 1
  | 1, _ => -9
  | _, 0 => 500
  | _, 1 => 99
  | _, _ => 9
-- what every method may take as given of the start: the three tables of the class, the links between nest mates
def kST (g : kG) (s : State) : Prop := (∀ i, i < 3 → va_Z "BeltSums" (kSa i) "[I" (.ref (g.2.2.2.2.2 i)) (kA g) s s.heap ∧ va_T .int (g.2.2.2.2.2 i) 3 (fun j => .int (kSv i j)) (kA g) s s.heap) ∧ ∀ w ∈ nestWs, va_Nw w s
def kCx (g : kG) (μ : kM) (p : Program) (s : State) (m : MethodId) (args : Array Value) (meth : Method) (c : Code) : Prop :=
  p.tables.exec = Jvm.exec ∧ c.code = μ.2.1 ∧ c.maxLocals = μ.2.2.1 ∧ s.vm.findClass μ.1.cls = some m.cls ∧ (∀ w ∈ tblG, w.before args s = true) ∧ meth.locks = false ∧ meth.sig.returnType = μ.2.2.2 ∧ (μ.1.name = "<init>" → meth.name = "<init>") ∧ kST g s
def kAll (g : kG) (μ : kM) (E : State → Prop) (σ : kS) (I : kI) (loc : List (Option Value)) (p : Program) (s : State) (m : MethodId) (args : Array Value) (meth : Method) (c : Code) (H : Heap) (locs : List Loc) (ls : Array Slot) : Prop :=
  kCx g μ p s m args meth c ∧ E s ∧ kHold g σ I s H ∧ va_S (kA g) s.heap H locs ∧ kLh ls μ.2.2.1 loc
def kQ (g : kG) (Q : kP) : Array Value → State → Outcome → State → Prop := fun _ st oc t => ∃ (v : Option Value) (σ : kS) (I : kI), oc = .returned v ∧ Q v σ I ∧ kHold g σ I t t.heap ∧ va_F (kA g) st t
def wp (g : kG) (μ : kM) (R : Room) (E : State → Prop) (Q : kP) (n : Nat × Nat) (σ : kS) (I : kI) (pc : Nat) (loc : List (Option Value)) (st : List Value) : Prop :=
  ∀ (p : Program) (e : Env) (s : State) (m : MethodId) (args : Array Value) (below : List Frame) (meth : Method) (c : Code) (H : Heap) (locs : List Loc) (ls : Array Slot),
    kAll g μ E σ I loc p s m args meth c H locs ls → W p g.1 e R s m args below meth c H locs n.1 n.2 (MQ below (kQ g Q) args s R.cells R.slots (kA g)) (F0 m pc ls st)
/-- a contract -/
def ct (g : kG) (μ : kM) (R : Room) (as : List Value) (σ : kS) (I : kI) (Q : kP) : Prop :=
  Met g.1 μ.1 (.code μ.1 μ.2.1 μ.2.2.1 μ.2.2.2 :: tblG) R (va_Pc as (fun U => kHold g σ I U U.heap ∧ kST g U)) (kQ g Q) R.cells R.slots (kA g)
def kcat (v : Option Value) : Bool := match v with
  | some (.long _) => false
  | some (.double _) => false
  | _ => true
theorem kcat1 {v : Value} (h : kcat (some v) = true) : v.category = 1 := by cases v <;> simp_all [kcat, Value.category]
theorem kMono {g : kG} {μ : kM} {R : Room} {E : State → Prop} {Q Q' : kP} {n : Nat × Nat} {σ : kS} {I : kI} {pc : Nat} {loc : List (Option Value)} {st : List Value} (h : ∀ v σ I, Q v σ I → Q' v σ I) (w : wp g μ R E Q n σ I pc loc st) : wp g μ R E Q' n σ I pc loc st := by
  intro p e s m args below meth c H locs ls hh T hT X
  obtain ⟨t, a, o, b1, b2, ⟨v, σ', I', c1, c2, c3⟩, b4⟩ := w p e s m args below meth c H locs ls hh T hT X
  exact ⟨t, a, o, b1, b2, ⟨v, σ', I', c1, h _ _ _ c2, c3⟩, b4⟩
theorem kD {g : kG} {σ : kS} {I : kI} : va_D (kA g) (kW g σ I) := by
  refine ⟨fun i j p q hi hj hpq => ?_, fun k q hk => ?_⟩
  · simp only [kW, va_pl, List.getElem?_map, Option.map_eq_some_iff] at hi hj
    obtain ⟨a, ha, rfl⟩ := hi
    obtain ⟨b, hb, rfl⟩ := hj
    simp only at hpq
    subst hpq
    simp only [kL] at ha hb
    have h1 := List.getElem?_eq_some_iff.mp ha
    have h2 := List.getElem?_eq_some_iff.mp hb
    obtain ⟨h1a, h1b⟩ := h1
    obtain ⟨h2a, h2b⟩ := h2
    simp at h1b h2b
    omega
  · simp only [kW, va_pl, List.getElem?_map, Option.map_eq_some_iff] at hk
    obtain ⟨a, ha, rfl⟩ := hk
    have := List.mem_of_getElem? ha
    simp only [kL, List.mem_range'_1] at this
    exact this.1
theorem kIn {g : kG} {σ : kS} {I : kI} {a : Nat} (h : kB g ≤ a ∧ a < σ.1) : ∃ k : Nat, (kW g σ I)[k]? = some (a, kF g σ I a) := by
  have := va_pl_get (X := []) (L := kL g σ) (f := kF g σ I) (a := a) (by simp only [kL, List.mem_range'_1]; omega)
  simpa [kW] using this
def kst (I : kI) (a k : Nat) (x : Int32) : kI := va_up I a (upd (I a) k x)
theorem kst_s {I : kI} {a k : Nat} {x : Int32} : kst I a k x a = upd (I a) k x := by simp [kst, va_up]
theorem kst_n {I : kI} {a b k : Nat} {x : Int32} (h : b ≠ a) : kst I a k x b = I b := by simp [kst, va_up, h]
theorem kF_st {g : kG} {σ : kS} {I : kI} {a k : Nat} {x : Int32} : va_up (kF g σ I) a (kE g.2.2.1 g.2.2.2.1 (σ.2.1 a) (σ.2.2 a) (upd (I a) k x)) = kF g σ (kst I a k x) := by
  funext b
  by_cases h : b = a
  · subst h; simp [va_up, kF, kst_s]
  · simp [va_up, kF, h, kst_n h]
theorem kSet {g : kG} {σ : kS} {I : kI} {a k q : Nat} {x : Int32} (h : kB g ≤ a ∧ a < σ.1) (hq : (kW g σ I)[q]? = some (a, kF g σ I a)) : (kW g σ I).set q (a, kE g.2.2.1 g.2.2.2.1 (σ.2.1 a) (σ.2.2 a) (upd (I a) k x)) = kW g σ (kst I a k x) := by
  have hD : va_D (kA g) ([] ++ va_pl (kL g σ) (kF g σ I)) := kD
  have := va_pl_set (X := []) (a := a) (k := q) (e := kE g.2.2.1 g.2.2.2.1 (σ.2.1 a) (σ.2.2 a) (upd (I a) k x)) hD (by simp only [kL, List.mem_range'_1]; omega) hq
  simp only [List.nil_append] at this
  rw [show kW g σ I = va_pl (kL g σ) (kF g σ I) from rfl, this, kF_st]
  rfl
def kgst (G : Nat → Nat → Option Nat) (a k : Nat) (x : Option Nat) : Nat → Nat → Option Nat := va_up G a (va_up (G a) k x)
theorem kSetR {g : kG} {σ : kS} {I : kI} {a k q : Nat} {x : Option Nat} (h : kB g ≤ a ∧ a < σ.1) (hq : (kW g σ I)[q]? = some (a, kF g σ I a)) : (kW g σ I).set q (a, kE g.2.2.1 g.2.2.2.1 (σ.2.1 a) (va_up (σ.2.2 a) k x) (I a)) = kW g (σ.1, σ.2.1, kgst σ.2.2 a k x) I := by
  have hD : va_D (kA g) ([] ++ va_pl (kL g σ) (kF g σ I)) := kD
  have := va_pl_set (X := []) (a := a) (k := q) (e := kE g.2.2.1 g.2.2.2.1 (σ.2.1 a) (va_up (σ.2.2 a) k x) (I a)) hD (by simp only [kL, List.mem_range'_1]; omega) hq
  simp only [List.nil_append] at this
  rw [show kW g σ I = va_pl (kL g σ) (kF g σ I) from rfl, this]
  show va_pl _ _ = va_pl _ _
  congr 1
  funext b
  by_cases h : b = a
  · subst h; simp [va_up, kF, kgst]
  · simp [va_up, kF, kgst, h]
def kCI (ci : Nat) (C : String) (T : u_T) (ty : Nat → FieldType) (N : Nat) : Prop := vwCl[ci]? = some (C, T, N) ∧ (∀ w ∈ u_ws C T N, w ∈ tblG) ∧ (∀ k, k < N → parseFieldDescriptor (T k).2.2.1 = some (ty k)) ∧ (∀ a, a < N → ∀ b, b < N → a ≠ b → (T a).2.1 ≠ (T b).2.1) ∧ (kft ci).length = N ∧ ci ≠ 100 ∧ ci ≠ 101
theorem kc0 : kCI 0 RX0 TX0 tyX0 4 := ⟨rfl, inW0, tyX0_ok, nmX0, rfl, by decide, by decide⟩
theorem kc1 : kCI 1 RX1 TX1 tyX1 3 := ⟨rfl, inW1, tyX1_ok, nmX1, rfl, by decide, by decide⟩
theorem kc2 : kCI 2 RX2 TX2 tyX2 4 := ⟨rfl, inW2, tyX2_ok, nmX2, rfl, by decide, by decide⟩
theorem kc3 : kCI 3 RX3 TX3 tyX3 4 := ⟨rfl, inW3, tyX3_ok, nmX3, rfl, by decide, by decide⟩
theorem kc4 : kCI 4 RX4 TX4 tyX4 5 := ⟨rfl, inW4, tyX4_ok, nmX4, rfl, by decide, by decide⟩
theorem kc5 : kCI 5 RX5 TX5 tyX5 4 := ⟨rfl, inW5, tyX5_ok, nmX5, rfl, by decide, by decide⟩
theorem kc6 : kCI 6 RX6 TX6 tyX6 15 := ⟨rfl, inW6, tyX6_ok, nmX6, rfl, by decide, by decide⟩
theorem kc7 : kCI 7 RX7 TX7 tyX7 5 := ⟨rfl, inW7, tyX7_ok, nmX7, rfl, by decide, by decide⟩
theorem kc8 : kCI 8 RX8 TX8 tyX8 5 := ⟨rfl, inW8, tyX8_ok, nmX8, rfl, by decide, by decide⟩
theorem kc9 : kCI 9 RX9 TX9 tyX9 2 := ⟨rfl, inW9, tyX9_ok, nmX9, rfl, by decide, by decide⟩
theorem kc10 : kCI 10 RX10 TX10 tyX10 5 := ⟨rfl, inW10, tyX10_ok, nmX10, rfl, by decide, by decide⟩
theorem kc11 : kCI 11 RX11 TX11 tyX11 14 := ⟨rfl, inW11, tyX11_ok, nmX11, rfl, by decide, by decide⟩
section KWP
variable {g : kG} {μ : kM} {R : Room} {E : State → Prop} {Q : kP} {n : Nat × Nat} {σ : kS} {I : kI} {pc : Nat} {loc : List (Option Value)} {st : List Value}
theorem w_iconst {k : Int} {v : Int32} (hd : decode μ.2.1 pc = .ok (.iconst k, 1)) (hv : Int32.ofInt k = v) (kk : wp g μ R E Q n σ I (pc + 1) loc (.int v :: st)) : wp g μ R E Q n σ I pc loc (st) := fun p e s m args below meth c H locs ls h => lv_iconst h.1.1 h.1.2.1 hd hv (kk p e s m args below meth c H locs ls h)
theorem w_bipush {k : Int} {v : Int32} (hd : decode μ.2.1 pc = .ok (.bipush k, 2)) (hv : (Int8.ofInt k).toInt32 = v) (kk : wp g μ R E Q n σ I (pc + 2) loc (.int v :: st)) : wp g μ R E Q n σ I pc loc (st) := fun p e s m args below meth c H locs ls h => lv_bipush h.1.1 h.1.2.1 hd hv (kk p e s m args below meth c H locs ls h)
theorem w_sipush {k : Int} {v : Int32} (hd : decode μ.2.1 pc = .ok (.sipush k, 3)) (hv : (Int16.ofInt k).toInt32 = v) (kk : wp g μ R E Q n σ I (pc + 3) loc (.int v :: st)) : wp g μ R E Q n σ I pc loc (st) := fun p e s m args below meth c H locs ls h => lv_sipush h.1.1 h.1.2.1 hd hv (kk p e s m args below meth c H locs ls h)
theorem w_lconst {k : Fin 2} {v : Int64} (hd : decode μ.2.1 pc = .ok (.lconst k, 1)) (hv : Int64.ofNat (k : Nat) = v) (kk : wp g μ R E Q n σ I (pc + 1) loc (.long v :: st)) : wp g μ R E Q n σ I pc loc (st) := fun p e s m args below meth c H locs ls h => lv_lconst h.1.1 h.1.2.1 hd hv (kk p e s m args below meth c H locs ls h)
theorem w_iadd {x y : Int32} (hd : decode μ.2.1 pc = .ok (.iadd, 1)) (kk : wp g μ R E Q n σ I (pc + 1) loc (.int (x + y) :: st)) : wp g μ R E Q n σ I pc loc (.int y :: .int x :: st) := fun p e s m args below meth c H locs ls h => lv_iadd h.1.1 h.1.2.1 hd (kk p e s m args below meth c H locs ls h)
theorem w_isub {x y : Int32} (hd : decode μ.2.1 pc = .ok (.isub, 1)) (kk : wp g μ R E Q n σ I (pc + 1) loc (.int (x - y) :: st)) : wp g μ R E Q n σ I pc loc (.int y :: .int x :: st) := fun p e s m args below meth c H locs ls h => lv_isub h.1.1 h.1.2.1 hd (kk p e s m args below meth c H locs ls h)
theorem w_imul {x y : Int32} (hd : decode μ.2.1 pc = .ok (.imul, 1)) (kk : wp g μ R E Q n σ I (pc + 1) loc (.int (x * y) :: st)) : wp g μ R E Q n σ I pc loc (.int y :: .int x :: st) := fun p e s m args below meth c H locs ls h => lv_imul h.1.1 h.1.2.1 hd (kk p e s m args below meth c H locs ls h)
theorem w_iand {x y : Int32} (hd : decode μ.2.1 pc = .ok (.iand, 1)) (kk : wp g μ R E Q n σ I (pc + 1) loc (.int (x &&& y) :: st)) : wp g μ R E Q n σ I pc loc (.int y :: .int x :: st) := fun p e s m args below meth c H locs ls h => lv_iand h.1.1 h.1.2.1 hd (kk p e s m args below meth c H locs ls h)
theorem w_lmul {x y : Int64} (hd : decode μ.2.1 pc = .ok (.lmul, 1)) (kk : wp g μ R E Q n σ I (pc + 1) loc (.long (x * y) :: st)) : wp g μ R E Q n σ I pc loc (.long y :: .long x :: st) := fun p e s m args below meth c H locs ls h => lv_lmul h.1.1 h.1.2.1 hd (kk p e s m args below meth c H locs ls h)
theorem w_ldiv {x y : Int64} (hd : decode μ.2.1 pc = .ok (.ldiv, 1)) (hne : ¬ y = 0) (kk : wp g μ R E Q n σ I (pc + 1) loc (.long (x / y) :: st)) : wp g μ R E Q n σ I pc loc (.long y :: .long x :: st) := fun p e s m args below meth c H locs ls h => lv_ldiv h.1.1 h.1.2.1 hd hne (kk p e s m args below meth c H locs ls h)
theorem w_idiv {x y : Int32} (hd : decode μ.2.1 pc = .ok (.idiv, 1)) (hne : ¬ y = 0) (kk : wp g μ R E Q n σ I (pc + 1) loc (.int (x / y) :: st)) : wp g μ R E Q n σ I pc loc (.int y :: .int x :: st) := fun p e s m args below meth c H locs ls h => lv_idiv h.1.1 h.1.2.1 hd hne (kk p e s m args below meth c H locs ls h)
theorem w_irem {x y : Int32} (hd : decode μ.2.1 pc = .ok (.irem, 1)) (hne : ¬ y = 0) (kk : wp g μ R E Q n σ I (pc + 1) loc (.int (x - x / y * y) :: st)) : wp g μ R E Q n σ I pc loc (.int y :: .int x :: st) := fun p e s m args below meth c H locs ls h => lv_irem h.1.1 h.1.2.1 hd hne (kk p e s m args below meth c H locs ls h)
theorem w_i2l {x : Int32} (hd : decode μ.2.1 pc = .ok (.i2l, 1)) (kk : wp g μ R E Q n σ I (pc + 1) loc (.long (x.toInt64) :: st)) : wp g μ R E Q n σ I pc loc (.int x :: st) := fun p e s m args below meth c H locs ls h => lv_i2l h.1.1 h.1.2.1 hd rfl (kk p e s m args below meth c H locs ls h)
theorem w_l2i {x : Int64} (hd : decode μ.2.1 pc = .ok (.l2i, 1)) (kk : wp g μ R E Q n σ I (pc + 1) loc (.int (x.toInt32) :: st)) : wp g μ R E Q n σ I pc loc (.long x :: st) := fun p e s m args below meth c H locs ls h => lv_l2i h.1.1 h.1.2.1 hd rfl (kk p e s m args below meth c H locs ls h)
theorem w_i2c {x : Int32} (hd : decode μ.2.1 pc = .ok (.i2c, 1)) (kk : wp g μ R E Q n σ I (pc + 1) loc (.int ((x.toUInt32 % 65536).toInt32) :: st)) : wp g μ R E Q n σ I pc loc (.int x :: st) := fun p e s m args below meth c H locs ls h => lv_i2c h.1.1 h.1.2.1 hd rfl (kk p e s m args below meth c H locs ls h)
theorem w_lcmp {x y : Int64} (hd : decode μ.2.1 pc = .ok (.lcmp, 1)) (kk : wp g μ R E Q n σ I (pc + 1) loc (.int (lg_cmp x y) :: st)) : wp g μ R E Q n σ I pc loc (.long y :: .long x :: st) := fun p e s m args below meth c H locs ls h => W.lcmp h.1.1 h.1.2.1 hd (kk p e s m args below meth c H locs ls h)
theorem w_dup_i {x : Int32} (hd : decode μ.2.1 pc = .ok (.dup, 1)) (kk : wp g μ R E Q n σ I (pc + 1) loc (.int x :: .int x :: st)) : wp g μ R E Q n σ I pc loc (.int x :: st) := fun p e s m args below meth c H locs ls h => lv_dup h.1.1 h.1.2.1 hd rfl (kk p e s m args below meth c H locs ls h)
theorem w_pop_i {x : Int32} (hd : decode μ.2.1 pc = .ok (.pop, 1)) (kk : wp g μ R E Q n σ I (pc + 1) loc (st)) : wp g μ R E Q n σ I pc loc (.int x :: st) := fun p e s m args below meth c H locs ls h => lv_pop h.1.1 h.1.2.1 hd rfl (kk p e s m args below meth c H locs ls h)
theorem w_dup_a {x : Nat} (hd : decode μ.2.1 pc = .ok (.dup, 1)) (kk : wp g μ R E Q n σ I (pc + 1) loc (.ref x :: .ref x :: st)) : wp g μ R E Q n σ I pc loc (.ref x :: st) := fun p e s m args below meth c H locs ls h => lv_dup h.1.1 h.1.2.1 hd rfl (kk p e s m args below meth c H locs ls h)
theorem w_pop_a {x : Nat} (hd : decode μ.2.1 pc = .ok (.pop, 1)) (kk : wp g μ R E Q n σ I (pc + 1) loc (st)) : wp g μ R E Q n σ I pc loc (.ref x :: st) := fun p e s m args below meth c H locs ls h => lv_pop h.1.1 h.1.2.1 hd rfl (kk p e s m args below meth c H locs ls h)
theorem w_dup2 {x : Nat} {y : Int32} (hd : decode μ.2.1 pc = .ok (.dup2, 1)) (kk : wp g μ R E Q n σ I (pc + 1) loc (.int y :: .ref x :: .int y :: .ref x :: st)) : wp g μ R E Q n σ I pc loc (.int y :: .ref x :: st) := fun p e s m args below meth c H locs ls h => lv_dup2_11 h.1.1 h.1.2.1 hd rfl rfl (kk p e s m args below meth c H locs ls h)
theorem w_ldc {i : Nat} {v : Int32} (hw : Cond.constant μ.1.cls i v ∈ tblG) (hd : decode μ.2.1 pc = .ok (.ldc i, 2)) (kk : wp g μ R E Q n σ I (pc + 2) loc (.int v :: st)) : wp g μ R E Q n σ I pc loc st := fun p e s m args below meth c H locs ls h => lv_ldc h.1.1 h.1.2.1 h.1.2.2.2.1 (h.1.2.2.2.2.1 _ hw) hd (kk p e s m args below meth c H locs ls h)
theorem w_ldc2 {i : Nat} {v : Int64} (hw : Cond.constantLong μ.1.cls i v ∈ tblG) (hd : decode μ.2.1 pc = .ok (.ldc2_w i, 3)) (kk : wp g μ R E Q n σ I (pc + 3) loc (.long v :: st)) : wp g μ R E Q n σ I pc loc st := fun p e s m args below meth c H locs ls h => lv_ldc2 h.1.1 h.1.2.1 h.1.2.2.2.1 (h.1.2.2.2.2.1 _ hw) hd (kk p e s m args below meth c H locs ls h)
theorem w_goto {off : Int} {tgt : Nat} (hd : decode μ.2.1 pc = .ok (.goto off, 3)) (ht : (pc : Int) + off = (tgt : Int)) (kk : wp g μ R E Q n σ I tgt loc st) : wp g μ R E Q n σ I pc loc st := fun p e s m args below meth c H locs ls h => lv_goto h.1.1 h.1.2.1 hd ht (kk p e s m args below meth c H locs ls h)
theorem w_if_eq {x : Int32} {off : Int} {tgt : Nat} (hd : decode μ.2.1 pc = .ok (.ifCond .eq off, 3)) (ht : (pc : Int) + off = (tgt : Int)) (kt : x = 0 → wp g μ R E Q n σ I tgt loc st) (kf : ¬ x = 0 → wp g μ R E Q n σ I (pc + 3) loc st) : wp g μ R E Q n σ I pc loc (.int x :: st) := fun p e s m args below meth c H locs ls h => lv_if_eq h.1.1 h.1.2.1 hd ht (fun z => kt z p e s m args below meth c H locs ls h) (fun z => kf z p e s m args below meth c H locs ls h)
theorem w_icmp_eq {x y : Int32} {off : Int} {tgt : Nat} (hd : decode μ.2.1 pc = .ok (.if_icmp .eq off, 3)) (ht : (pc : Int) + off = (tgt : Int)) (kt : x = y → wp g μ R E Q n σ I tgt loc st) (kf : ¬ x = y → wp g μ R E Q n σ I (pc + 3) loc st) : wp g μ R E Q n σ I pc loc (.int y :: .int x :: st) := fun p e s m args below meth c H locs ls h => lv_icmp_eq h.1.1 h.1.2.1 hd ht (fun z => kt z p e s m args below meth c H locs ls h) (fun z => kf z p e s m args below meth c H locs ls h)
theorem w_if_ne {x : Int32} {off : Int} {tgt : Nat} (hd : decode μ.2.1 pc = .ok (.ifCond .ne off, 3)) (ht : (pc : Int) + off = (tgt : Int)) (kt : ¬ x = 0 → wp g μ R E Q n σ I tgt loc st) (kf : x = 0 → wp g μ R E Q n σ I (pc + 3) loc st) : wp g μ R E Q n σ I pc loc (.int x :: st) := fun p e s m args below meth c H locs ls h => lv_if_ne h.1.1 h.1.2.1 hd ht (fun z => kt z p e s m args below meth c H locs ls h) (fun z => kf z p e s m args below meth c H locs ls h)
theorem w_icmp_ne {x y : Int32} {off : Int} {tgt : Nat} (hd : decode μ.2.1 pc = .ok (.if_icmp .ne off, 3)) (ht : (pc : Int) + off = (tgt : Int)) (kt : ¬ x = y → wp g μ R E Q n σ I tgt loc st) (kf : x = y → wp g μ R E Q n σ I (pc + 3) loc st) : wp g μ R E Q n σ I pc loc (.int y :: .int x :: st) := fun p e s m args below meth c H locs ls h => lv_icmp_ne h.1.1 h.1.2.1 hd ht (fun z => kt z p e s m args below meth c H locs ls h) (fun z => kf z p e s m args below meth c H locs ls h)
theorem w_if_lt {x : Int32} {off : Int} {tgt : Nat} (hd : decode μ.2.1 pc = .ok (.ifCond .lt off, 3)) (ht : (pc : Int) + off = (tgt : Int)) (kt : x < 0 → wp g μ R E Q n σ I tgt loc st) (kf : ¬ x < 0 → wp g μ R E Q n σ I (pc + 3) loc st) : wp g μ R E Q n σ I pc loc (.int x :: st) := fun p e s m args below meth c H locs ls h => lv_if_lt h.1.1 h.1.2.1 hd ht (fun z => kt z p e s m args below meth c H locs ls h) (fun z => kf z p e s m args below meth c H locs ls h)
theorem w_icmp_lt {x y : Int32} {off : Int} {tgt : Nat} (hd : decode μ.2.1 pc = .ok (.if_icmp .lt off, 3)) (ht : (pc : Int) + off = (tgt : Int)) (kt : x < y → wp g μ R E Q n σ I tgt loc st) (kf : ¬ x < y → wp g μ R E Q n σ I (pc + 3) loc st) : wp g μ R E Q n σ I pc loc (.int y :: .int x :: st) := fun p e s m args below meth c H locs ls h => lv_icmp_lt h.1.1 h.1.2.1 hd ht (fun z => kt z p e s m args below meth c H locs ls h) (fun z => kf z p e s m args below meth c H locs ls h)
theorem w_if_ge {x : Int32} {off : Int} {tgt : Nat} (hd : decode μ.2.1 pc = .ok (.ifCond .ge off, 3)) (ht : (pc : Int) + off = (tgt : Int)) (kt : 0 ≤ x → wp g μ R E Q n σ I tgt loc st) (kf : ¬ 0 ≤ x → wp g μ R E Q n σ I (pc + 3) loc st) : wp g μ R E Q n σ I pc loc (.int x :: st) := fun p e s m args below meth c H locs ls h => lv_if_ge h.1.1 h.1.2.1 hd ht (fun z => kt z p e s m args below meth c H locs ls h) (fun z => kf z p e s m args below meth c H locs ls h)
theorem w_icmp_ge {x y : Int32} {off : Int} {tgt : Nat} (hd : decode μ.2.1 pc = .ok (.if_icmp .ge off, 3)) (ht : (pc : Int) + off = (tgt : Int)) (kt : y ≤ x → wp g μ R E Q n σ I tgt loc st) (kf : ¬ y ≤ x → wp g μ R E Q n σ I (pc + 3) loc st) : wp g μ R E Q n σ I pc loc (.int y :: .int x :: st) := fun p e s m args below meth c H locs ls h => lv_icmp_ge h.1.1 h.1.2.1 hd ht (fun z => kt z p e s m args below meth c H locs ls h) (fun z => kf z p e s m args below meth c H locs ls h)
theorem w_if_gt {x : Int32} {off : Int} {tgt : Nat} (hd : decode μ.2.1 pc = .ok (.ifCond .gt off, 3)) (ht : (pc : Int) + off = (tgt : Int)) (kt : 0 < x → wp g μ R E Q n σ I tgt loc st) (kf : ¬ 0 < x → wp g μ R E Q n σ I (pc + 3) loc st) : wp g μ R E Q n σ I pc loc (.int x :: st) := fun p e s m args below meth c H locs ls h => lv_if_gt h.1.1 h.1.2.1 hd ht (fun z => kt z p e s m args below meth c H locs ls h) (fun z => kf z p e s m args below meth c H locs ls h)
theorem w_icmp_gt {x y : Int32} {off : Int} {tgt : Nat} (hd : decode μ.2.1 pc = .ok (.if_icmp .gt off, 3)) (ht : (pc : Int) + off = (tgt : Int)) (kt : y < x → wp g μ R E Q n σ I tgt loc st) (kf : ¬ y < x → wp g μ R E Q n σ I (pc + 3) loc st) : wp g μ R E Q n σ I pc loc (.int y :: .int x :: st) := fun p e s m args below meth c H locs ls h => lv_icmp_gt h.1.1 h.1.2.1 hd ht (fun z => kt z p e s m args below meth c H locs ls h) (fun z => kf z p e s m args below meth c H locs ls h)
theorem w_if_le {x : Int32} {off : Int} {tgt : Nat} (hd : decode μ.2.1 pc = .ok (.ifCond .le off, 3)) (ht : (pc : Int) + off = (tgt : Int)) (kt : x ≤ 0 → wp g μ R E Q n σ I tgt loc st) (kf : ¬ x ≤ 0 → wp g μ R E Q n σ I (pc + 3) loc st) : wp g μ R E Q n σ I pc loc (.int x :: st) := fun p e s m args below meth c H locs ls h => lv_if_le h.1.1 h.1.2.1 hd ht (fun z => kt z p e s m args below meth c H locs ls h) (fun z => kf z p e s m args below meth c H locs ls h)
theorem w_icmp_le {x y : Int32} {off : Int} {tgt : Nat} (hd : decode μ.2.1 pc = .ok (.if_icmp .le off, 3)) (ht : (pc : Int) + off = (tgt : Int)) (kt : x ≤ y → wp g μ R E Q n σ I tgt loc st) (kf : ¬ x ≤ y → wp g μ R E Q n σ I (pc + 3) loc st) : wp g μ R E Q n σ I pc loc (.int y :: .int x :: st) := fun p e s m args below meth c H locs ls h => lv_icmp_le h.1.1 h.1.2.1 hd ht (fun z => kt z p e s m args below meth c H locs ls h) (fun z => kf z p e s m args below meth c H locs ls h)
theorem w_tableOut {dflt lo hi : Int} {offs : Array Int} {len : Nat} {x : Int32} {tgt : Nat} (hd : decode μ.2.1 pc = .ok (.tableswitch dflt lo hi offs, len)) (h9 : x.toInt < lo ∨ hi < x.toInt) (ht : (pc : Int) + dflt = (tgt : Int)) (kk : wp g μ R E Q n σ I tgt loc st) : wp g μ R E Q n σ I pc loc (.int x :: st) := fun p e s m args below meth c H locs ls h => lv_tableOut h.1.1 h.1.2.1 hd h9 ht (kk p e s m args below meth c H locs ls h)
theorem w_tableIn {dflt lo hi : Int} {offs : Array Int} {len : Nat} {x : Int32} {off : Int} {tgt : Nat} (hd : decode μ.2.1 pc = .ok (.tableswitch dflt lo hi offs, len)) (h1 : ¬ x.toInt < lo) (h2 : ¬ hi < x.toInt) (ho : offs[(x.toInt - lo).toNat]? = some off) (ht : (pc : Int) + off = (tgt : Int)) (kk : wp g μ R E Q n σ I tgt loc st) : wp g μ R E Q n σ I pc loc (.int x :: st) := fun p e s m args below meth c H locs ls h => lv_tableIn h.1.1 h.1.2.1 hd h1 h2 ho ht (kk p e s m args below meth c H locs ls h)
theorem w_lookup {dflt : Int} {ps : Array (Int × Int)} {len : Nat} {x : Int32} {off : Int} {tgt : Nat} (hd : decode μ.2.1 pc = .ok (.lookupswitch dflt ps, len)) (hp : (ps.toList.zip (ps.toList.drop 1)).all (fun (a, next) => a.1 < next.1) = true) (ho : Op.lookupswitch.offset ps.toList dflt x.toInt = off) (ht : (pc : Int) + off = (tgt : Int)) (kk : wp g μ R E Q n σ I tgt loc st) : wp g μ R E Q n σ I pc loc (.int x :: st) := fun p e s m args below meth c H locs ls h => lv_lookup h.1.1 h.1.2.1 hd hp ho ht (kk p e s m args below meth c H locs ls h)
theorem w_iload_n {k : Fin 4} {x : Int32} (hd : decode μ.2.1 pc = .ok (.iload_n k, 1)) (hl : loc[(k : Nat)]? = some (some (.int x))) (kk : wp g μ R E Q n σ I (pc + 1) loc (.int x :: st)) : wp g μ R E Q n σ I pc loc st := fun p e s m args below meth c H locs ls h => lv_iload_n h.1.1 h.1.2.1 hd rfl (h.2.2.2.2.2.2.2 _ _ hl) (kk p e s m args below meth c H locs ls h)
theorem w_iload {k : Nat} {x : Int32} (hd : decode μ.2.1 pc = .ok (.iload k, 2)) (hl : loc[k]? = some (some (.int x))) (kk : wp g μ R E Q n σ I (pc + 2) loc (.int x :: st)) : wp g μ R E Q n σ I pc loc st := fun p e s m args below meth c H locs ls h => lv_iload h.1.1 h.1.2.1 hd (h.2.2.2.2.2.2.2 _ _ hl) (kk p e s m args below meth c H locs ls h)
theorem w_iload_0 {l : List (Option Value)} {x : Int32} (hd : decode μ.2.1 pc = .ok (.iload_n 0, 1)) (kk : wp g μ R E Q n σ I (pc + 1) (some (.int x) :: l) (.int x :: st)) : wp g μ R E Q n σ I pc (some (.int x) :: l) st := w_iload_n hd rfl kk
theorem w_iload_1 {a0 : Option Value} {l : List (Option Value)} {x : Int32} (hd : decode μ.2.1 pc = .ok (.iload_n 1, 1)) (kk : wp g μ R E Q n σ I (pc + 1) (a0 :: some (.int x) :: l) (.int x :: st)) : wp g μ R E Q n σ I pc (a0 :: some (.int x) :: l) st := w_iload_n hd rfl kk
theorem w_iload_2 {a0 a1 : Option Value} {l : List (Option Value)} {x : Int32} (hd : decode μ.2.1 pc = .ok (.iload_n 2, 1)) (kk : wp g μ R E Q n σ I (pc + 1) (a0 :: a1 :: some (.int x) :: l) (.int x :: st)) : wp g μ R E Q n σ I pc (a0 :: a1 :: some (.int x) :: l) st := w_iload_n hd rfl kk
theorem w_iload_3 {a0 a1 a2 : Option Value} {l : List (Option Value)} {x : Int32} (hd : decode μ.2.1 pc = .ok (.iload_n 3, 1)) (kk : wp g μ R E Q n σ I (pc + 1) (a0 :: a1 :: a2 :: some (.int x) :: l) (.int x :: st)) : wp g μ R E Q n σ I pc (a0 :: a1 :: a2 :: some (.int x) :: l) st := w_iload_n hd rfl kk
theorem w_iload_4 {a0 a1 a2 a3 : Option Value} {l : List (Option Value)} {x : Int32} (hd : decode μ.2.1 pc = .ok (.iload 4, 2)) (kk : wp g μ R E Q n σ I (pc + 2) (a0 :: a1 :: a2 :: a3 :: some (.int x) :: l) (.int x :: st)) : wp g μ R E Q n σ I pc (a0 :: a1 :: a2 :: a3 :: some (.int x) :: l) st := w_iload hd rfl kk
theorem w_iload_5 {a0 a1 a2 a3 a4 : Option Value} {l : List (Option Value)} {x : Int32} (hd : decode μ.2.1 pc = .ok (.iload 5, 2)) (kk : wp g μ R E Q n σ I (pc + 2) (a0 :: a1 :: a2 :: a3 :: a4 :: some (.int x) :: l) (.int x :: st)) : wp g μ R E Q n σ I pc (a0 :: a1 :: a2 :: a3 :: a4 :: some (.int x) :: l) st := w_iload hd rfl kk
theorem w_iload_6 {a0 a1 a2 a3 a4 a5 : Option Value} {l : List (Option Value)} {x : Int32} (hd : decode μ.2.1 pc = .ok (.iload 6, 2)) (kk : wp g μ R E Q n σ I (pc + 2) (a0 :: a1 :: a2 :: a3 :: a4 :: a5 :: some (.int x) :: l) (.int x :: st)) : wp g μ R E Q n σ I pc (a0 :: a1 :: a2 :: a3 :: a4 :: a5 :: some (.int x) :: l) st := w_iload hd rfl kk
theorem w_iload_7 {a0 a1 a2 a3 a4 a5 a6 : Option Value} {l : List (Option Value)} {x : Int32} (hd : decode μ.2.1 pc = .ok (.iload 7, 2)) (kk : wp g μ R E Q n σ I (pc + 2) (a0 :: a1 :: a2 :: a3 :: a4 :: a5 :: a6 :: some (.int x) :: l) (.int x :: st)) : wp g μ R E Q n σ I pc (a0 :: a1 :: a2 :: a3 :: a4 :: a5 :: a6 :: some (.int x) :: l) st := w_iload hd rfl kk
theorem w_aload_n {k : Fin 4} {x : Nat} (hd : decode μ.2.1 pc = .ok (.aload_n k, 1)) (hl : loc[(k : Nat)]? = some (some (.ref x))) (kk : wp g μ R E Q n σ I (pc + 1) loc (.ref x :: st)) : wp g μ R E Q n σ I pc loc st := fun p e s m args below meth c H locs ls h => lv_aload_n h.1.1 h.1.2.1 hd rfl (h.2.2.2.2.2.2.2 _ _ hl) (kk p e s m args below meth c H locs ls h)
theorem w_aload {k : Nat} {x : Nat} (hd : decode μ.2.1 pc = .ok (.aload k, 2)) (hl : loc[k]? = some (some (.ref x))) (kk : wp g μ R E Q n σ I (pc + 2) loc (.ref x :: st)) : wp g μ R E Q n σ I pc loc st := fun p e s m args below meth c H locs ls h => lv_aload h.1.1 h.1.2.1 hd (h.2.2.2.2.2.2.2 _ _ hl) (kk p e s m args below meth c H locs ls h)
theorem w_aload_0 {l : List (Option Value)} {x : Nat} (hd : decode μ.2.1 pc = .ok (.aload_n 0, 1)) (kk : wp g μ R E Q n σ I (pc + 1) (some (.ref x) :: l) (.ref x :: st)) : wp g μ R E Q n σ I pc (some (.ref x) :: l) st := w_aload_n hd rfl kk
theorem w_aload_1 {a0 : Option Value} {l : List (Option Value)} {x : Nat} (hd : decode μ.2.1 pc = .ok (.aload_n 1, 1)) (kk : wp g μ R E Q n σ I (pc + 1) (a0 :: some (.ref x) :: l) (.ref x :: st)) : wp g μ R E Q n σ I pc (a0 :: some (.ref x) :: l) st := w_aload_n hd rfl kk
theorem w_aload_2 {a0 a1 : Option Value} {l : List (Option Value)} {x : Nat} (hd : decode μ.2.1 pc = .ok (.aload_n 2, 1)) (kk : wp g μ R E Q n σ I (pc + 1) (a0 :: a1 :: some (.ref x) :: l) (.ref x :: st)) : wp g μ R E Q n σ I pc (a0 :: a1 :: some (.ref x) :: l) st := w_aload_n hd rfl kk
theorem w_aload_3 {a0 a1 a2 : Option Value} {l : List (Option Value)} {x : Nat} (hd : decode μ.2.1 pc = .ok (.aload_n 3, 1)) (kk : wp g μ R E Q n σ I (pc + 1) (a0 :: a1 :: a2 :: some (.ref x) :: l) (.ref x :: st)) : wp g μ R E Q n σ I pc (a0 :: a1 :: a2 :: some (.ref x) :: l) st := w_aload_n hd rfl kk
theorem w_aload_4 {a0 a1 a2 a3 : Option Value} {l : List (Option Value)} {x : Nat} (hd : decode μ.2.1 pc = .ok (.aload 4, 2)) (kk : wp g μ R E Q n σ I (pc + 2) (a0 :: a1 :: a2 :: a3 :: some (.ref x) :: l) (.ref x :: st)) : wp g μ R E Q n σ I pc (a0 :: a1 :: a2 :: a3 :: some (.ref x) :: l) st := w_aload hd rfl kk
theorem w_aload_5 {a0 a1 a2 a3 a4 : Option Value} {l : List (Option Value)} {x : Nat} (hd : decode μ.2.1 pc = .ok (.aload 5, 2)) (kk : wp g μ R E Q n σ I (pc + 2) (a0 :: a1 :: a2 :: a3 :: a4 :: some (.ref x) :: l) (.ref x :: st)) : wp g μ R E Q n σ I pc (a0 :: a1 :: a2 :: a3 :: a4 :: some (.ref x) :: l) st := w_aload hd rfl kk
theorem w_aload_6 {a0 a1 a2 a3 a4 a5 : Option Value} {l : List (Option Value)} {x : Nat} (hd : decode μ.2.1 pc = .ok (.aload 6, 2)) (kk : wp g μ R E Q n σ I (pc + 2) (a0 :: a1 :: a2 :: a3 :: a4 :: a5 :: some (.ref x) :: l) (.ref x :: st)) : wp g μ R E Q n σ I pc (a0 :: a1 :: a2 :: a3 :: a4 :: a5 :: some (.ref x) :: l) st := w_aload hd rfl kk
theorem w_aload_7 {a0 a1 a2 a3 a4 a5 a6 : Option Value} {l : List (Option Value)} {x : Nat} (hd : decode μ.2.1 pc = .ok (.aload 7, 2)) (kk : wp g μ R E Q n σ I (pc + 2) (a0 :: a1 :: a2 :: a3 :: a4 :: a5 :: a6 :: some (.ref x) :: l) (.ref x :: st)) : wp g μ R E Q n σ I pc (a0 :: a1 :: a2 :: a3 :: a4 :: a5 :: a6 :: some (.ref x) :: l) st := w_aload hd rfl kk
theorem w_lload_n {k : Fin 4} {x : Int64} (hd : decode μ.2.1 pc = .ok (.lload_n k, 1)) (hl : loc[(k : Nat)]? = some (some (.long x))) (kk : wp g μ R E Q n σ I (pc + 1) loc (.long x :: st)) : wp g μ R E Q n σ I pc loc st := fun p e s m args below meth c H locs ls h => lv_lload_n h.1.1 h.1.2.1 hd rfl (h.2.2.2.2.2.2.2 _ _ hl) (kk p e s m args below meth c H locs ls h)
theorem w_lload {k : Nat} {x : Int64} (hd : decode μ.2.1 pc = .ok (.lload k, 2)) (hl : loc[k]? = some (some (.long x))) (kk : wp g μ R E Q n σ I (pc + 2) loc (.long x :: st)) : wp g μ R E Q n σ I pc loc st := fun p e s m args below meth c H locs ls h => lv_lload h.1.1 h.1.2.1 hd (h.2.2.2.2.2.2.2 _ _ hl) (kk p e s m args below meth c H locs ls h)
theorem w_lload_3 {a0 a1 a2 : Option Value} {l : List (Option Value)} {x : Int64} (hd : decode μ.2.1 pc = .ok (.lload_n 3, 1)) (kk : wp g μ R E Q n σ I (pc + 1) (a0 :: a1 :: a2 :: some (.long x) :: l) (.long x :: st)) : wp g μ R E Q n σ I pc (a0 :: a1 :: a2 :: some (.long x) :: l) st := w_lload_n hd rfl kk
def ktoA (loc : List (Option Value)) : List (Nat × Value) := (loc.zipIdx).filterMap (fun q => q.1.map (fun v => (q.2, v)))
theorem ktoA_mem {loc : List (Option Value)} {i : Nat} {v : Value} : (i, v) ∈ ktoA loc ↔ loc[i]? = some (some v) := by
  simp only [ktoA, List.mem_filterMap, Option.map_eq_some_iff]
  constructor
  · rintro ⟨⟨o, k⟩, h1, w, h2, h3⟩
    simp only [Prod.mk.injEq] at h3
    obtain ⟨rfl, rfl⟩ := h3
    have := List.mem_zipIdx_iff_getElem?.mp h1
    simp only at this h2
    rw [this, h2]
  · intro h
    exact ⟨(some v, i), List.mem_zipIdx_iff_getElem?.mpr h, v, rfl, rfl⟩
theorem kLh_has {ls : Array Slot} {nL : Nat} {loc : List (Option Value)} (h : kLh ls nL loc) : lv_has ls nL (ktoA loc) := ⟨h.1, h.2.1, fun q hq => h.2.2.2 q.1 q.2 (ktoA_mem.mp hq)⟩
theorem kLh_set {ls' : Array Slot} {nL i : Nat} {v : Value} {loc : List (Option Value)} (hlen : loc.length = nL) (hi : i < nL) (hcat : loc.all kcat = true) (h : lv_has ls' nL ((i, v) :: (ktoA loc).filter (fun q => !(q.1 == i) && !(q.1 + 1 == i && q.2.category == 2)))) : kLh ls' nL (loc.set i (some v)) := by
  refine ⟨h.1, h.2.1, by rw [List.length_set]; exact hlen, fun j w hj => ?_⟩
  by_cases hji : j = i
  · subst hji
    rw [List.getElem?_set_self (by omega)] at hj
    cases hj
    exact h.2.2 (j, v) List.mem_cons_self
  · rw [List.getElem?_set_ne (Ne.symm hji)] at hj
    have hc : kcat (some w) = true := List.all_eq_true.mp hcat _ (List.mem_of_getElem? hj)
    have hc1 := kcat1 hc
    refine h.2.2 (j, w) (List.mem_cons_of_mem _ (List.mem_filter.mpr ⟨ktoA_mem.mpr hj, ?_⟩))
    simp [hji, hc1]
theorem w_istore_n {k : Fin 4} {x : Int32} (hd : decode μ.2.1 pc = .ok (.istore_n k, 1)) (hcat : loc.all kcat = true) (hk : (k : Nat) < loc.length) (kk : wp g μ R E Q n σ I (pc + 1) (loc.set (k : Nat) (some (.int x))) st) : wp g μ R E Q n σ I pc loc (.int x :: st) := by
  intro p e s m args below meth c H locs ls h
  have hL := h.2.2.2.2
  have hk' : (k : Nat) < μ.2.2.1 := by rw [← hL.2.2.1]; exact hk
  exact lv_istore_n h.1.1 h.1.2.1 hd rfl (kLh_has hL) hk' rfl (fun ls' h' => kk p e s m args below meth c H locs ls' ⟨h.1, h.2.1, h.2.2.1, h.2.2.2.1, kLh_set hL.2.2.1 hk' hcat h'⟩)
theorem w_istore {k : Nat} {x : Int32} (hd : decode μ.2.1 pc = .ok (.istore k, 2)) (hcat : loc.all kcat = true) (hk : k < loc.length) (kk : wp g μ R E Q n σ I (pc + 2) (loc.set k (some (.int x))) st) : wp g μ R E Q n σ I pc loc (.int x :: st) := by
  intro p e s m args below meth c H locs ls h
  have hL := h.2.2.2.2
  have hk' : k < μ.2.2.1 := by rw [← hL.2.2.1]; exact hk
  exact lv_istore h.1.1 h.1.2.1 hd (kLh_has hL) hk' rfl (fun ls' h' => kk p e s m args below meth c H locs ls' ⟨h.1, h.2.1, h.2.2.1, h.2.2.2.1, kLh_set hL.2.2.1 hk' hcat h'⟩)
theorem w_istore_0 {a0 : Option Value} {l : List (Option Value)} {x : Int32} (hd : decode μ.2.1 pc = .ok (.istore_n 0, 1)) (hcat : (a0 :: l).all kcat = true) (kk : wp g μ R E Q n σ I (pc + 1) (some (.int x) :: l) st) : wp g μ R E Q n σ I pc (a0 :: l) (.int x :: st) := w_istore_n hd hcat (by simp only [List.length_cons]; first | omega | (show 0 < _; omega)) kk
theorem w_istore_1 {a0 a1 : Option Value} {l : List (Option Value)} {x : Int32} (hd : decode μ.2.1 pc = .ok (.istore_n 1, 1)) (hcat : (a0 :: a1 :: l).all kcat = true) (kk : wp g μ R E Q n σ I (pc + 1) (a0 :: some (.int x) :: l) st) : wp g μ R E Q n σ I pc (a0 :: a1 :: l) (.int x :: st) := w_istore_n hd hcat (by simp only [List.length_cons]; first | omega | (show 1 < _; omega)) kk
theorem w_istore_2 {a0 a1 a2 : Option Value} {l : List (Option Value)} {x : Int32} (hd : decode μ.2.1 pc = .ok (.istore_n 2, 1)) (hcat : (a0 :: a1 :: a2 :: l).all kcat = true) (kk : wp g μ R E Q n σ I (pc + 1) (a0 :: a1 :: some (.int x) :: l) st) : wp g μ R E Q n σ I pc (a0 :: a1 :: a2 :: l) (.int x :: st) := w_istore_n hd hcat (by simp only [List.length_cons]; first | omega | (show 2 < _; omega)) kk
theorem w_istore_3 {a0 a1 a2 a3 : Option Value} {l : List (Option Value)} {x : Int32} (hd : decode μ.2.1 pc = .ok (.istore_n 3, 1)) (hcat : (a0 :: a1 :: a2 :: a3 :: l).all kcat = true) (kk : wp g μ R E Q n σ I (pc + 1) (a0 :: a1 :: a2 :: some (.int x) :: l) st) : wp g μ R E Q n σ I pc (a0 :: a1 :: a2 :: a3 :: l) (.int x :: st) := w_istore_n hd hcat (by simp only [List.length_cons]; first | omega | (show 3 < _; omega)) kk
theorem w_istore_4 {a0 a1 a2 a3 a4 : Option Value} {l : List (Option Value)} {x : Int32} (hd : decode μ.2.1 pc = .ok (.istore 4, 2)) (hcat : (a0 :: a1 :: a2 :: a3 :: a4 :: l).all kcat = true) (kk : wp g μ R E Q n σ I (pc + 2) (a0 :: a1 :: a2 :: a3 :: some (.int x) :: l) st) : wp g μ R E Q n σ I pc (a0 :: a1 :: a2 :: a3 :: a4 :: l) (.int x :: st) := w_istore hd hcat (by simp only [List.length_cons]; first | omega | (show 4 < _; omega)) kk
theorem w_istore_5 {a0 a1 a2 a3 a4 a5 : Option Value} {l : List (Option Value)} {x : Int32} (hd : decode μ.2.1 pc = .ok (.istore 5, 2)) (hcat : (a0 :: a1 :: a2 :: a3 :: a4 :: a5 :: l).all kcat = true) (kk : wp g μ R E Q n σ I (pc + 2) (a0 :: a1 :: a2 :: a3 :: a4 :: some (.int x) :: l) st) : wp g μ R E Q n σ I pc (a0 :: a1 :: a2 :: a3 :: a4 :: a5 :: l) (.int x :: st) := w_istore hd hcat (by simp only [List.length_cons]; first | omega | (show 5 < _; omega)) kk
theorem w_istore_6 {a0 a1 a2 a3 a4 a5 a6 : Option Value} {l : List (Option Value)} {x : Int32} (hd : decode μ.2.1 pc = .ok (.istore 6, 2)) (hcat : (a0 :: a1 :: a2 :: a3 :: a4 :: a5 :: a6 :: l).all kcat = true) (kk : wp g μ R E Q n σ I (pc + 2) (a0 :: a1 :: a2 :: a3 :: a4 :: a5 :: some (.int x) :: l) st) : wp g μ R E Q n σ I pc (a0 :: a1 :: a2 :: a3 :: a4 :: a5 :: a6 :: l) (.int x :: st) := w_istore hd hcat (by simp only [List.length_cons]; first | omega | (show 6 < _; omega)) kk
theorem w_istore_7 {a0 a1 a2 a3 a4 a5 a6 a7 : Option Value} {l : List (Option Value)} {x : Int32} (hd : decode μ.2.1 pc = .ok (.istore 7, 2)) (hcat : (a0 :: a1 :: a2 :: a3 :: a4 :: a5 :: a6 :: a7 :: l).all kcat = true) (kk : wp g μ R E Q n σ I (pc + 2) (a0 :: a1 :: a2 :: a3 :: a4 :: a5 :: a6 :: some (.int x) :: l) st) : wp g μ R E Q n σ I pc (a0 :: a1 :: a2 :: a3 :: a4 :: a5 :: a6 :: a7 :: l) (.int x :: st) := w_istore hd hcat (by simp only [List.length_cons]; first | omega | (show 7 < _; omega)) kk
theorem w_astore_n {k : Fin 4} {x : Nat} (hd : decode μ.2.1 pc = .ok (.astore_n k, 1)) (hcat : loc.all kcat = true) (hk : (k : Nat) < loc.length) (kk : wp g μ R E Q n σ I (pc + 1) (loc.set (k : Nat) (some (.ref x))) st) : wp g μ R E Q n σ I pc loc (.ref x :: st) := by
  intro p e s m args below meth c H locs ls h
  have hL := h.2.2.2.2
  have hk' : (k : Nat) < μ.2.2.1 := by rw [← hL.2.2.1]; exact hk
  exact lv_astore_n h.1.1 h.1.2.1 hd rfl (kLh_has hL) hk' rfl (fun ls' h' => kk p e s m args below meth c H locs ls' ⟨h.1, h.2.1, h.2.2.1, h.2.2.2.1, kLh_set hL.2.2.1 hk' hcat h'⟩)
theorem w_astore {k : Nat} {x : Nat} (hd : decode μ.2.1 pc = .ok (.astore k, 2)) (hcat : loc.all kcat = true) (hk : k < loc.length) (kk : wp g μ R E Q n σ I (pc + 2) (loc.set k (some (.ref x))) st) : wp g μ R E Q n σ I pc loc (.ref x :: st) := by
  intro p e s m args below meth c H locs ls h
  have hL := h.2.2.2.2
  have hk' : k < μ.2.2.1 := by rw [← hL.2.2.1]; exact hk
  exact lv_astore h.1.1 h.1.2.1 hd (kLh_has hL) hk' rfl (fun ls' h' => kk p e s m args below meth c H locs ls' ⟨h.1, h.2.1, h.2.2.1, h.2.2.2.1, kLh_set hL.2.2.1 hk' hcat h'⟩)
theorem w_astore_0 {a0 : Option Value} {l : List (Option Value)} {x : Nat} (hd : decode μ.2.1 pc = .ok (.astore_n 0, 1)) (hcat : (a0 :: l).all kcat = true) (kk : wp g μ R E Q n σ I (pc + 1) (some (.ref x) :: l) st) : wp g μ R E Q n σ I pc (a0 :: l) (.ref x :: st) := w_astore_n hd hcat (by simp only [List.length_cons]; first | omega | (show 0 < _; omega)) kk
theorem w_astore_1 {a0 a1 : Option Value} {l : List (Option Value)} {x : Nat} (hd : decode μ.2.1 pc = .ok (.astore_n 1, 1)) (hcat : (a0 :: a1 :: l).all kcat = true) (kk : wp g μ R E Q n σ I (pc + 1) (a0 :: some (.ref x) :: l) st) : wp g μ R E Q n σ I pc (a0 :: a1 :: l) (.ref x :: st) := w_astore_n hd hcat (by simp only [List.length_cons]; first | omega | (show 1 < _; omega)) kk
theorem w_astore_2 {a0 a1 a2 : Option Value} {l : List (Option Value)} {x : Nat} (hd : decode μ.2.1 pc = .ok (.astore_n 2, 1)) (hcat : (a0 :: a1 :: a2 :: l).all kcat = true) (kk : wp g μ R E Q n σ I (pc + 1) (a0 :: a1 :: some (.ref x) :: l) st) : wp g μ R E Q n σ I pc (a0 :: a1 :: a2 :: l) (.ref x :: st) := w_astore_n hd hcat (by simp only [List.length_cons]; first | omega | (show 2 < _; omega)) kk
theorem w_astore_3 {a0 a1 a2 a3 : Option Value} {l : List (Option Value)} {x : Nat} (hd : decode μ.2.1 pc = .ok (.astore_n 3, 1)) (hcat : (a0 :: a1 :: a2 :: a3 :: l).all kcat = true) (kk : wp g μ R E Q n σ I (pc + 1) (a0 :: a1 :: a2 :: some (.ref x) :: l) st) : wp g μ R E Q n σ I pc (a0 :: a1 :: a2 :: a3 :: l) (.ref x :: st) := w_astore_n hd hcat (by simp only [List.length_cons]; first | omega | (show 3 < _; omega)) kk
theorem w_astore_4 {a0 a1 a2 a3 a4 : Option Value} {l : List (Option Value)} {x : Nat} (hd : decode μ.2.1 pc = .ok (.astore 4, 2)) (hcat : (a0 :: a1 :: a2 :: a3 :: a4 :: l).all kcat = true) (kk : wp g μ R E Q n σ I (pc + 2) (a0 :: a1 :: a2 :: a3 :: some (.ref x) :: l) st) : wp g μ R E Q n σ I pc (a0 :: a1 :: a2 :: a3 :: a4 :: l) (.ref x :: st) := w_astore hd hcat (by simp only [List.length_cons]; first | omega | (show 4 < _; omega)) kk
theorem w_astore_5 {a0 a1 a2 a3 a4 a5 : Option Value} {l : List (Option Value)} {x : Nat} (hd : decode μ.2.1 pc = .ok (.astore 5, 2)) (hcat : (a0 :: a1 :: a2 :: a3 :: a4 :: a5 :: l).all kcat = true) (kk : wp g μ R E Q n σ I (pc + 2) (a0 :: a1 :: a2 :: a3 :: a4 :: some (.ref x) :: l) st) : wp g μ R E Q n σ I pc (a0 :: a1 :: a2 :: a3 :: a4 :: a5 :: l) (.ref x :: st) := w_astore hd hcat (by simp only [List.length_cons]; first | omega | (show 5 < _; omega)) kk
theorem w_astore_6 {a0 a1 a2 a3 a4 a5 a6 : Option Value} {l : List (Option Value)} {x : Nat} (hd : decode μ.2.1 pc = .ok (.astore 6, 2)) (hcat : (a0 :: a1 :: a2 :: a3 :: a4 :: a5 :: a6 :: l).all kcat = true) (kk : wp g μ R E Q n σ I (pc + 2) (a0 :: a1 :: a2 :: a3 :: a4 :: a5 :: some (.ref x) :: l) st) : wp g μ R E Q n σ I pc (a0 :: a1 :: a2 :: a3 :: a4 :: a5 :: a6 :: l) (.ref x :: st) := w_astore hd hcat (by simp only [List.length_cons]; first | omega | (show 6 < _; omega)) kk
theorem w_astore_7 {a0 a1 a2 a3 a4 a5 a6 a7 : Option Value} {l : List (Option Value)} {x : Nat} (hd : decode μ.2.1 pc = .ok (.astore 7, 2)) (hcat : (a0 :: a1 :: a2 :: a3 :: a4 :: a5 :: a6 :: a7 :: l).all kcat = true) (kk : wp g μ R E Q n σ I (pc + 2) (a0 :: a1 :: a2 :: a3 :: a4 :: a5 :: a6 :: some (.ref x) :: l) st) : wp g μ R E Q n σ I pc (a0 :: a1 :: a2 :: a3 :: a4 :: a5 :: a6 :: a7 :: l) (.ref x :: st) := w_astore hd hcat (by simp only [List.length_cons]; first | omega | (show 7 < _; omega)) kk
theorem w_iinc {k : Nat} {d : Int} {x v : Int32} (hd : decode μ.2.1 pc = .ok (.iinc k d, 3)) (hv : x + Int32.ofInt d = v) (hcat : loc.all kcat = true) (hl : loc[k]? = some (some (.int x))) (kk : wp g μ R E Q n σ I (pc + 3) (loc.set k (some (.int v))) st) : wp g μ R E Q n σ I pc loc st := by
  intro p e s m args below meth c H locs ls h
  have hL := h.2.2.2.2
  have hk : k < loc.length := (List.getElem?_eq_some_iff.mp hl).1
  have hk' : k < μ.2.2.1 := by rw [← hL.2.2.1]; exact hk
  obtain ⟨q, hq⟩ := List.getElem?_of_mem (ktoA_mem.mpr hl)
  exact lv_iinc h.1.1 h.1.2.1 hd (kLh_has hL) hq hv hk' rfl (fun ls' h' => kk p e s m args below meth c H locs ls' ⟨h.1, h.2.1, h.2.2.1, h.2.2.2.1, kLh_set hL.2.2.1 hk' hcat h'⟩)
theorem w_iinc_0 {l : List (Option Value)} {d : Int} {x v : Int32} (hd : decode μ.2.1 pc = .ok (.iinc 0 d, 3)) (hv : x + Int32.ofInt d = v) (hcat : (some (.int x) :: l).all kcat = true) (kk : wp g μ R E Q n σ I (pc + 3) (some (.int v) :: l) st) : wp g μ R E Q n σ I pc (some (.int x) :: l) st := w_iinc hd hv hcat rfl kk
theorem w_iinc_1 {a0 : Option Value} {l : List (Option Value)} {d : Int} {x v : Int32} (hd : decode μ.2.1 pc = .ok (.iinc 1 d, 3)) (hv : x + Int32.ofInt d = v) (hcat : (a0 :: some (.int x) :: l).all kcat = true) (kk : wp g μ R E Q n σ I (pc + 3) (a0 :: some (.int v) :: l) st) : wp g μ R E Q n σ I pc (a0 :: some (.int x) :: l) st := w_iinc hd hv hcat rfl kk
theorem w_iinc_2 {a0 a1 : Option Value} {l : List (Option Value)} {d : Int} {x v : Int32} (hd : decode μ.2.1 pc = .ok (.iinc 2 d, 3)) (hv : x + Int32.ofInt d = v) (hcat : (a0 :: a1 :: some (.int x) :: l).all kcat = true) (kk : wp g μ R E Q n σ I (pc + 3) (a0 :: a1 :: some (.int v) :: l) st) : wp g μ R E Q n σ I pc (a0 :: a1 :: some (.int x) :: l) st := w_iinc hd hv hcat rfl kk
theorem w_iinc_3 {a0 a1 a2 : Option Value} {l : List (Option Value)} {d : Int} {x v : Int32} (hd : decode μ.2.1 pc = .ok (.iinc 3 d, 3)) (hv : x + Int32.ofInt d = v) (hcat : (a0 :: a1 :: a2 :: some (.int x) :: l).all kcat = true) (kk : wp g μ R E Q n σ I (pc + 3) (a0 :: a1 :: a2 :: some (.int v) :: l) st) : wp g μ R E Q n σ I pc (a0 :: a1 :: a2 :: some (.int x) :: l) st := w_iinc hd hv hcat rfl kk
theorem w_iinc_4 {a0 a1 a2 a3 : Option Value} {l : List (Option Value)} {d : Int} {x v : Int32} (hd : decode μ.2.1 pc = .ok (.iinc 4 d, 3)) (hv : x + Int32.ofInt d = v) (hcat : (a0 :: a1 :: a2 :: a3 :: some (.int x) :: l).all kcat = true) (kk : wp g μ R E Q n σ I (pc + 3) (a0 :: a1 :: a2 :: a3 :: some (.int v) :: l) st) : wp g μ R E Q n σ I pc (a0 :: a1 :: a2 :: a3 :: some (.int x) :: l) st := w_iinc hd hv hcat rfl kk
theorem w_iinc_5 {a0 a1 a2 a3 a4 : Option Value} {l : List (Option Value)} {d : Int} {x v : Int32} (hd : decode μ.2.1 pc = .ok (.iinc 5 d, 3)) (hv : x + Int32.ofInt d = v) (hcat : (a0 :: a1 :: a2 :: a3 :: a4 :: some (.int x) :: l).all kcat = true) (kk : wp g μ R E Q n σ I (pc + 3) (a0 :: a1 :: a2 :: a3 :: a4 :: some (.int v) :: l) st) : wp g μ R E Q n σ I pc (a0 :: a1 :: a2 :: a3 :: a4 :: some (.int x) :: l) st := w_iinc hd hv hcat rfl kk
theorem w_iinc_6 {a0 a1 a2 a3 a4 a5 : Option Value} {l : List (Option Value)} {d : Int} {x v : Int32} (hd : decode μ.2.1 pc = .ok (.iinc 6 d, 3)) (hv : x + Int32.ofInt d = v) (hcat : (a0 :: a1 :: a2 :: a3 :: a4 :: a5 :: some (.int x) :: l).all kcat = true) (kk : wp g μ R E Q n σ I (pc + 3) (a0 :: a1 :: a2 :: a3 :: a4 :: a5 :: some (.int v) :: l) st) : wp g μ R E Q n σ I pc (a0 :: a1 :: a2 :: a3 :: a4 :: a5 :: some (.int x) :: l) st := w_iinc hd hv hcat rfl kk
theorem w_iinc_7 {a0 a1 a2 a3 a4 a5 a6 : Option Value} {l : List (Option Value)} {d : Int} {x v : Int32} (hd : decode μ.2.1 pc = .ok (.iinc 7 d, 3)) (hv : x + Int32.ofInt d = v) (hcat : (a0 :: a1 :: a2 :: a3 :: a4 :: a5 :: a6 :: some (.int x) :: l).all kcat = true) (kk : wp g μ R E Q n σ I (pc + 3) (a0 :: a1 :: a2 :: a3 :: a4 :: a5 :: a6 :: some (.int v) :: l) st) : wp g μ R E Q n σ I pc (a0 :: a1 :: a2 :: a3 :: a4 :: a5 :: a6 :: some (.int x) :: l) st := w_iinc hd hv hcat rfl kk
theorem w_lstore_3 {a0 a1 a2 a3 a4 : Option Value} {x : Int64} (hd : decode μ.2.1 pc = .ok (.lstore_n 3, 1)) (hcat : [a0, a1, a2, a3, a4].all kcat = true) (kk : wp g μ R E Q n σ I (pc + 1) [a0, a1, a2, some (.long x), none] st) : wp g μ R E Q n σ I pc [a0, a1, a2, a3, a4] (.long x :: st) := by
  intro p e s m args below meth c H locs ls h
  have hL := h.2.2.2.2
  have hk' : 3 + 1 < μ.2.2.1 := by rw [← hL.2.2.1]; exact Nat.le_of_ble_eq_true rfl
  refine lv_lstore_n h.1.1 h.1.2.1 hd rfl (kLh_has hL) hk' rfl (fun ls' h' => kk p e s m args below meth c H locs ls' ⟨h.1, h.2.1, h.2.2.1, h.2.2.2.1, h'.1, h'.2.1, by rw [← hL.2.2.1]; rfl, fun j w hj => ?_⟩)
  have hj5 : j < 5 := (List.getElem?_eq_some_iff.mp hj).1
  by_cases h3 : j = 3
  · subst h3
    cases hj
    exact h'.2.2 (3, .long x) List.mem_cons_self
  · by_cases h4 : j = 4
    · subst h4; simp at hj
    · have hj' : [a0, a1, a2, a3, a4][j]? = some (some w) := by
        rcases (show j = 0 ∨ j = 1 ∨ j = 2 by omega) with rfl | rfl | rfl <;> simpa using hj
      have hc : kcat (some w) = true := List.all_eq_true.mp hcat _ (List.mem_of_getElem? hj')
      have hc1 := kcat1 hc
      refine h'.2.2 (j, w) (List.mem_cons_of_mem _ (List.mem_filter.mpr ⟨ktoA_mem.mpr hj', ?_⟩))
      have e3 : ((3 : Fin 4) : Nat) = 3 := rfl
      simp [e3, h3, h4, hc1]
theorem w_getI {ci i a : Nat} {C : String} {T : u_T} {ty : Nat → FieldType} {N : Nat} (hci : kCI ci C T ty N) (k : Nat) (ha : kB g ≤ a ∧ a < σ.1) (hs : σ.2.1 a = (ci, 0)) (hk : (kft ci)[k]? = some false) (hw : Cond.fieldLink μ.1.cls i (T k).1 (T k).2.1 (T k).2.2.1 ∈ tblG) (hd : decode μ.2.1 pc = .ok (.getfield i, 3)) (kk : wp g μ R E Q n σ I (pc + 3) loc (.int (I a k) :: st)) : wp g μ R E Q n σ I pc loc (.ref a :: st) := by
  intro p e s m args below meth c H locs ls h
  obtain ⟨q, hq⟩ := kIn (I := I) ha
  have he : kF g σ I a = .inr (ci, kfv (σ.2.2 a) (I a) (kft ci) 0) := by simp only [kF, kE, hs, if_neg hci.2.2.2.2.2.1, if_neg hci.2.2.2.2.2.2]
  rw [he] at hq
  have hv := kfv_get (f := σ.2.2 a) (i := I a) (kft ci) 0 k false hk
  rw [Nat.zero_add] at hv
  have hk2 : k < N := by rw [← hci.2.2.2.2.1]; exact (List.getElem?_eq_some_iff.mp hk).1
  exact va_get (D := g.2.1) (ci := ci) (v := .int (I a k)) (C := C) (T := T) (N := N) h.1.1 h.1.2.1 h.1.2.2.2.2.1 hci.2.1 h.1.2.2.2.1 h.2.2.1.2.2.2 h.2.2.1.2.2.1 q hq hci.1 k hk2 (h.1.2.2.2.2.1 _ hw) (fun _ h9 => h9) hv hd (kk p e s m args below meth c H locs ls h)
theorem w_getR {ci i a b : Nat} {C : String} {T : u_T} {ty : Nat → FieldType} {N : Nat} (hci : kCI ci C T ty N) (k : Nat) (ha : kB g ≤ a ∧ a < σ.1) (hs : σ.2.1 a = (ci, 0)) (hk : (kft ci)[k]? = some true) (hb : σ.2.2 a k = some b) (hw : Cond.fieldLink μ.1.cls i (T k).1 (T k).2.1 (T k).2.2.1 ∈ tblG) (hd : decode μ.2.1 pc = .ok (.getfield i, 3)) (kk : wp g μ R E Q n σ I (pc + 3) loc (.ref b :: st)) : wp g μ R E Q n σ I pc loc (.ref a :: st) := by
  intro p e s m args below meth c H locs ls h
  obtain ⟨q, hq⟩ := kIn (I := I) ha
  have he : kF g σ I a = .inr (ci, kfv (σ.2.2 a) (I a) (kft ci) 0) := by simp only [kF, kE, hs, if_neg hci.2.2.2.2.2.1, if_neg hci.2.2.2.2.2.2]
  rw [he] at hq
  have hv := kfv_get (f := σ.2.2 a) (i := I a) (kft ci) 0 k true hk
  rw [Nat.zero_add, hb] at hv
  have hk2 : k < N := by rw [← hci.2.2.2.2.1]; exact (List.getElem?_eq_some_iff.mp hk).1
  exact va_get (D := g.2.1) (ci := ci) (v := .ref b) (C := C) (T := T) (N := N) h.1.1 h.1.2.1 h.1.2.2.2.2.1 hci.2.1 h.1.2.2.2.1 h.2.2.1.2.2.2 h.2.2.1.2.2.1 q hq hci.1 k hk2 (h.1.2.2.2.2.1 _ hw) (fun _ h9 => h9) hv hd (kk p e s m args below meth c H locs ls h)

theorem w_putI {ci i a : Nat} {x : Int32} {C : String} {T : u_T} {ty : Nat → FieldType} {N : Nat} (hci : kCI ci C T ty N) (k : Nat) (ha : kB g ≤ a ∧ a < σ.1) (hs : σ.2.1 a = (ci, 0)) (hk : (kft ci)[k]? = some false) (hw : Cond.fieldLink μ.1.cls i (T k).1 (T k).2.1 (T k).2.2.1 ∈ tblG) (hfin : (T k).2.2.2 = false) {fty : FieldType} (hp : parseFieldDescriptor (T k).2.2.1 = some fty) (hn : narrow fty (.int x) = .int x) (hf : fits fty (.int x) = true) (hd : decode μ.2.1 pc = .ok (.putfield i, 3)) (kk : wp g μ R E Q n σ (kst I a k x) (pc + 3) loc st) : wp g μ R E Q n σ I pc loc (.int x :: .ref a :: st) := by
  intro p e s m args below meth c H locs ls h
  obtain ⟨q, hq⟩ := kIn (I := I) ha
  have hq0 := hq
  have he0 : kF g σ I a = .inr (ci, kfv (σ.2.2 a) (I a) (kft ci) 0) := by simp only [kF, kE, hs, if_neg hci.2.2.2.2.2.1, if_neg hci.2.2.2.2.2.2]
  rw [he0] at hq
  have hk1 := (List.getElem?_eq_some_iff.mp hk).1
  have hk2 : k < N := by rw [← hci.2.2.2.2.1]; exact hk1
  have hK := h.2.2.1.2.2.2
  have hP := h.2.2.1.2.2.1
  have hts := h.1.2.2.2.2.1
  have hown := h.1.2.2.2.1
  have hc := hci.1
  have hap := va_apart (own := C) hts hci.2.1 ty hci.2.2.1 hci.2.2.2.1 hK hc
  obtain ⟨r, h1, cell, q1, q2, q3, q4⟩ := hP q _ hq
  have hr : r = (C, T, N) := Option.some.inj (h1.symm.trans hc)
  subst hr
  obtain ⟨hS, hfc, kC, hkC, hkind⟩ := hK.1 ci _ hc
  obtain ⟨cf, kf, fi, f, hi, hsl⟩ := hS k hk2
  have hlay := hts _ (hci.2.1 _ (u_in_lay hk2))
  unfold u_lay at hlay
  rw [if_neg (by rw [hfin]; decide)] at hlay
  have hst := (u_facts hfc hkC (u_lays hts hci.2.1 hk2) hi).1
  have h6 := u_store hfc hkC hkind hlay hi hp hn hf
  refine W.putK h.1.1 h.1.2.1 (f := f) ⟨hown, h.1.2.2.2.2.1 _ hw, ⟨_, _, _, hi⟩, hst⟩ (by rw [q2]; exact h6) q1 q3 (by rw [hsl]; exact k2_hasslot (q4 k hk2)) rfl rfl hd fun H' e1 e2 e3 => ?_
  rw [hsl] at e1 ⊢
  have hl : k < (kfv (σ.2.2 a) (I a) (kft ci) 0).length := by rw [kfv_len]; exact hk1
  have hP1 : va_P g.2.1 vwCl ((kW g σ I).set q (a, .inr (ci, (kfv (σ.2.2 a) (I a) (kft ci) 0).set k (.int x)))) H' := hP.set kD hq ⟨_, hc, t_OB.to (V := updV (vp_V (kfv (σ.2.2 a) (I a) (kft ci) 0)) k (.int x)) ⟨_, e1, q2, q3, t_set q4 hap hk2 _⟩ (fun j _ => vp_updV_set hl _ j)⟩ e3
  have e5 : (kfv (σ.2.2 a) (I a) (kft ci) 0).set k (.int x) = kfv (σ.2.2 a) (upd (I a) k x) (kft ci) 0 := by
    rw [kfv_setI (kft ci) 0 k hk, Nat.zero_add]
  have e4 : kE g.2.2.1 g.2.2.2.1 (σ.2.1 a) (σ.2.2 a) (upd (I a) k x) = .inr (ci, kfv (σ.2.2 a) (upd (I a) k x) (kft ci) 0) := by simp only [kE, hs, if_neg hci.2.2.2.2.2.1, if_neg hci.2.2.2.2.2.2]
  rw [e5, ← e4, kSet ha hq0] at hP1
  exact kk p e s m args below meth c H' _ ls ⟨h.1, h.2.1, ⟨e2.trans h.2.2.1.1, h.2.2.1.2.1, hP1, hK⟩, h.2.2.2.1.put e2 e3 (show kA g a from ha.1), h.2.2.2.2⟩
theorem w_putR {ci i a : Nat} {x : Option Nat} {C : String} {T : u_T} {ty : Nat → FieldType} {N : Nat} (hci : kCI ci C T ty N) (k : Nat) (ha : kB g ≤ a ∧ a < σ.1) (hs : σ.2.1 a = (ci, 0)) (hk : (kft ci)[k]? = some true) (hw : Cond.fieldLink μ.1.cls i (T k).1 (T k).2.1 (T k).2.2.1 ∈ tblG) (hfin : (T k).2.2.2 = false) {fty : FieldType} (hp : parseFieldDescriptor (T k).2.2.1 = some fty) (hn : narrow fty (va_rf x) = va_rf x) (hf : fits fty (va_rf x) = true) (hd : decode μ.2.1 pc = .ok (.putfield i, 3)) (kk : wp g μ R E Q n (σ.1, σ.2.1, kgst σ.2.2 a k x) I (pc + 3) loc st) : wp g μ R E Q n σ I pc loc (va_rf x :: .ref a :: st) := by
  intro p e s m args below meth c H locs ls h
  obtain ⟨q, hq⟩ := kIn (I := I) ha
  have hq0 := hq
  have he0 : kF g σ I a = .inr (ci, kfv (σ.2.2 a) (I a) (kft ci) 0) := by simp only [kF, kE, hs, if_neg hci.2.2.2.2.2.1, if_neg hci.2.2.2.2.2.2]
  rw [he0] at hq
  have hk1 := (List.getElem?_eq_some_iff.mp hk).1
  have hk2 : k < N := by rw [← hci.2.2.2.2.1]; exact hk1
  have hK := h.2.2.1.2.2.2
  have hP := h.2.2.1.2.2.1
  have hts := h.1.2.2.2.2.1
  have hown := h.1.2.2.2.1
  have hc := hci.1
  have hap := va_apart (own := C) hts hci.2.1 ty hci.2.2.1 hci.2.2.2.1 hK hc
  obtain ⟨r, h1, cell, q1, q2, q3, q4⟩ := hP q _ hq
  have hr : r = (C, T, N) := Option.some.inj (h1.symm.trans hc)
  subst hr
  obtain ⟨hS, hfc, kC, hkC, hkind⟩ := hK.1 ci _ hc
  obtain ⟨cf, kf, fi, f, hi, hsl⟩ := hS k hk2
  have hlay := hts _ (hci.2.1 _ (u_in_lay hk2))
  unfold u_lay at hlay
  rw [if_neg (by rw [hfin]; decide)] at hlay
  have hst := (u_facts hfc hkC (u_lays hts hci.2.1 hk2) hi).1
  have h6 := u_store hfc hkC hkind hlay hi hp hn hf
  refine W.putK h.1.1 h.1.2.1 (f := f) ⟨hown, h.1.2.2.2.2.1 _ hw, ⟨_, _, _, hi⟩, hst⟩ (by rw [q2]; exact h6) q1 q3 (by rw [hsl]; exact k2_hasslot (q4 k hk2)) rfl rfl hd fun H' e1 e2 e3 => ?_
  rw [hsl] at e1 ⊢
  have hl : k < (kfv (σ.2.2 a) (I a) (kft ci) 0).length := by rw [kfv_len]; exact hk1
  have hP1 : va_P g.2.1 vwCl ((kW g σ I).set q (a, .inr (ci, (kfv (σ.2.2 a) (I a) (kft ci) 0).set k (va_rf x)))) H' := hP.set kD hq ⟨_, hc, t_OB.to (V := updV (vp_V (kfv (σ.2.2 a) (I a) (kft ci) 0)) k (va_rf x)) ⟨_, e1, q2, q3, t_set q4 hap hk2 _⟩ (fun j _ => vp_updV_set hl _ j)⟩ e3
  have e5 : (kfv (σ.2.2 a) (I a) (kft ci) 0).set k (va_rf x) = kfv (va_up (σ.2.2 a) k x) (I a) (kft ci) 0 := by
    rw [kfv_setR (kft ci) 0 k hk, Nat.zero_add]
  have e4 : kE g.2.2.1 g.2.2.2.1 (σ.2.1 a) (va_up (σ.2.2 a) k x) (I a) = .inr (ci, kfv (va_up (σ.2.2 a) k x) (I a) (kft ci) 0) := by simp only [kE, hs, if_neg hci.2.2.2.2.2.1, if_neg hci.2.2.2.2.2.2]
  rw [e5, ← e4, kSetR ha hq0] at hP1
  exact kk p e s m args below meth c H' _ ls ⟨h.1, h.2.1, ⟨e2.trans h.2.2.1.1, h.2.2.1.2.1, hP1, hK⟩, h.2.2.2.1.put e2 e3 (show kA g a from ha.1), h.2.2.2.2⟩
theorem w_putFR {ci i a : Nat} {x : Option Nat} {C : String} {T : u_T} {ty : Nat → FieldType} {N : Nat} (hci : kCI ci C T ty N) (k : Nat) (ha : kB g ≤ a ∧ a < σ.1) (hs : σ.2.1 a = (ci, 0)) (hk : (kft ci)[k]? = some true) (hw : Cond.fieldLink μ.1.cls i (T k).1 (T k).2.1 (T k).2.2.1 ∈ tblG) (hfin : (T k).2.2.2 = true) (hnm9 : μ.1.name = "<init>") (hdecl : (T k).1 = μ.1.cls) {fty : FieldType} (hp : parseFieldDescriptor (T k).2.2.1 = some fty) (hn : narrow fty (va_rf x) = va_rf x) (hf : fits fty (va_rf x) = true) (hd : decode μ.2.1 pc = .ok (.putfield i, 3)) (kk : wp g μ R E Q n (σ.1, σ.2.1, kgst σ.2.2 a k x) I (pc + 3) loc st) : wp g μ R E Q n σ I pc loc (va_rf x :: .ref a :: st) := by
  intro p e s m args below meth c H locs ls h
  obtain ⟨q, hq⟩ := kIn (I := I) ha
  have hq0 := hq
  have he0 : kF g σ I a = .inr (ci, kfv (σ.2.2 a) (I a) (kft ci) 0) := by simp only [kF, kE, hs, if_neg hci.2.2.2.2.2.1, if_neg hci.2.2.2.2.2.2]
  rw [he0] at hq
  have hk1 := (List.getElem?_eq_some_iff.mp hk).1
  have hk2 : k < N := by rw [← hci.2.2.2.2.1]; exact hk1
  have hK := h.2.2.1.2.2.2
  have hP := h.2.2.1.2.2.1
  have hts := h.1.2.2.2.2.1
  have hown := h.1.2.2.2.1
  have hc := hci.1
  have hap := va_apart (own := C) hts hci.2.1 ty hci.2.2.1 hci.2.2.2.1 hK hc
  obtain ⟨r, h1, cell, q1, q2, q3, q4⟩ := hP q _ hq
  have hr : r = (C, T, N) := Option.some.inj (h1.symm.trans hc)
  subst hr
  obtain ⟨hS, hfc, kC, hkC, hkind⟩ := hK.1 ci _ hc
  obtain ⟨cf, kf, fi, f, hi, hsl⟩ := hS k hk2
  have hlay := hts _ (hci.2.1 _ (u_in_lay hk2))
  unfold u_lay at hlay
  rw [if_pos hfin] at hlay
  have hst := (u_facts hfc hkC (u_lays hts hci.2.1 hk2) hi).1
  have hcf : m.cls = cf := by
    obtain ⟨_, _, c', _, _, _, -, -, hf', -, -, -, hown2, -⟩ := Cond.laysFinal_spec hlay
    have e1 : c' = cf := by have := hi.symm.trans hf'; simp at this; exact this.1.symm
    rw [hdecl] at hown2
    rw [← e1]; exact Option.some.inj (hown.symm.trans hown2)
  have h6 := u_fits hfc hkC hkind (Or.inr hlay) hi hp hn hf
  refine W.putFinK h.1.1 h.1.2.1 hown (h.1.2.2.2.2.1 _ hw) hi hst hcf (h.1.2.2.2.2.2.2.2.1 hnm9) (by rw [q2]; exact h6) q1 q3 (by rw [hsl]; exact k2_hasslot (q4 k hk2)) rfl rfl hd fun H' e1 e2 e3 => ?_
  rw [hsl] at e1 ⊢
  have hl : k < (kfv (σ.2.2 a) (I a) (kft ci) 0).length := by rw [kfv_len]; exact hk1
  have hP1 : va_P g.2.1 vwCl ((kW g σ I).set q (a, .inr (ci, (kfv (σ.2.2 a) (I a) (kft ci) 0).set k (va_rf x)))) H' := hP.set kD hq ⟨_, hc, t_OB.to (V := updV (vp_V (kfv (σ.2.2 a) (I a) (kft ci) 0)) k (va_rf x)) ⟨_, e1, q2, q3, t_set q4 hap hk2 _⟩ (fun j _ => vp_updV_set hl _ j)⟩ e3
  have e5 : (kfv (σ.2.2 a) (I a) (kft ci) 0).set k (va_rf x) = kfv (va_up (σ.2.2 a) k x) (I a) (kft ci) 0 := by
    rw [kfv_setR (kft ci) 0 k hk, Nat.zero_add]
  have e4 : kE g.2.2.1 g.2.2.2.1 (σ.2.1 a) (va_up (σ.2.2 a) k x) (I a) = .inr (ci, kfv (va_up (σ.2.2 a) k x) (I a) (kft ci) 0) := by simp only [kE, hs, if_neg hci.2.2.2.2.2.1, if_neg hci.2.2.2.2.2.2]
  rw [e5, ← e4, kSetR ha hq0] at hP1
  exact kk p e s m args below meth c H' _ ls ⟨h.1, h.2.1, ⟨e2.trans h.2.2.1.1, h.2.2.1.2.1, hP1, hK⟩, h.2.2.2.1.put e2 e3 (show kA g a from ha.1), h.2.2.2.2⟩
theorem kEi {g : kG} {σ : kS} {I : kI} {a N : Nat} (hs : σ.2.1 a = (100, N)) : kF g σ I a = .inl (g.2.2.1, N, .inl (I a)) := by simp only [kF, kE, hs, if_true]
theorem kEc {g : kG} {σ : kS} {I : kI} {a N : Nat} (hs : σ.2.1 a = (101, N)) : kF g σ I a = .inl (g.2.2.2.1, N, .inl (I a)) := by simp only [kF, kE, hs]; rfl
theorem w_iald {a N j : Nat} {x : Int32} (ha : kB g ≤ a ∧ a < σ.1) (hs : σ.2.1 a = (100, N)) (hx : x = nI j) (hj : j < N) (hN : N < 2 ^ 31) (hd : decode μ.2.1 pc = .ok (.iaload, 1)) (kk : wp g μ R E Q n σ I (pc + 1) loc (.int (I a j) :: st)) : wp g μ R E Q n σ I pc loc (.int x :: .ref a :: st) := by
  intro p e s m args below meth c H locs ls h
  obtain ⟨q, hq⟩ := kIn (I := I) ha
  rw [kEi hs] at hq
  subst hx
  have k2 := kk p e s m args below meth c H locs ls h
  rw [show I a j = I a (nI j).toNatClampNeg by rw [nI_clamp (by omega)]] at k2
  exact va_iald h.1.1 h.1.2.1 h.2.2.1.2.2.2 h.2.2.1.2.2.1 q 0 hq rfl (vp_in_nI hj hN) hd k2
theorem w_cald {a N j : Nat} {x : Int32} (ha : kB g ≤ a ∧ a < σ.1) (hs : σ.2.1 a = (101, N)) (hx : x = nI j) (hj : j < N) (hN : N < 2 ^ 31) (hd : decode μ.2.1 pc = .ok (.caload, 1)) (kk : wp g μ R E Q n σ I (pc + 1) loc (.int (I a j) :: st)) : wp g μ R E Q n σ I pc loc (.int x :: .ref a :: st) := by
  intro p e s m args below meth c H locs ls h
  obtain ⟨q, hq⟩ := kIn (I := I) ha
  rw [kEc hs] at hq
  subst hx
  have k2 := kk p e s m args below meth c H locs ls h
  rw [show I a j = I a (nI j).toNatClampNeg by rw [nI_clamp (by omega)]] at k2
  exact va_cald h.1.1 h.1.2.1 h.2.2.1.2.2.2 h.2.2.1.2.2.1 q 1 hq rfl (vp_in_nI hj hN) hd k2
theorem w_alen {a N : Nat} {v : Int32} (ha : kB g ≤ a ∧ a < σ.1) (hs : σ.2.1 a = (100, N)) (hv : Int32.ofNat N = v) (hd : decode μ.2.1 pc = .ok (.arraylength, 1)) (kk : wp g μ R E Q n σ I (pc + 1) loc (.int v :: st)) : wp g μ R E Q n σ I pc loc (.ref a :: st) := by
  intro p e s m args below meth c H locs ls h
  obtain ⟨q, hq⟩ := kIn (I := I) ha
  rw [kEi hs] at hq
  exact va_alen h.1.1 h.1.2.1 h.2.2.1.2.2.2 h.2.2.1.2.2.1 q 0 hq rfl hv hd (kk p e s m args below meth c H locs ls h)
theorem w_iast {a N j : Nat} {x y : Int32} (ha : kB g ≤ a ∧ a < σ.1) (hs : σ.2.1 a = (100, N)) (hy : y = nI j) (hj : j < N) (hN : N < 2 ^ 31) (hd : decode μ.2.1 pc = .ok (.iastore, 1)) (kk : wp g μ R E Q n σ (kst I a j (x)) (pc + 1) loc st) : wp g μ R E Q n σ I pc loc (.int x :: .int y :: .ref a :: st) := by
  intro p e s m args below meth c H locs ls h
  obtain ⟨q, hq⟩ := kIn (I := I) ha
  have hq0 := hq
  rw [kEi hs] at hq
  subst hy
  have hP := h.2.2.1.2.2.1
  have hK := h.2.2.1.2.2.2
  have hcl : (nI j).toNatClampNeg = j := nI_clamp (by omega)
  refine W.iast h.1.1 h.1.2.1 (hP q _ hq) ((hK.2 0 _ rfl).1 N (fun j => .int (I a j))) (fun q => by cases q) (by show ¬ (_ < 0 ∨ (arrV _ _ _).slots.size ≤ _); rw [arrV_size]; exact vp_in_nI hj hN) rfl rfl hd fun H1 e1 z oq => ?_
  have hP1 : va_P g.2.1 vwCl ((kW g σ I).set q (a, kE g.2.2.1 g.2.2.2.1 (σ.2.1 a) (σ.2.2 a) (upd (I a) j (x)))) H1 := by
    have e4 : kE g.2.2.1 g.2.2.2.1 (σ.2.1 a) (σ.2.2 a) (upd (I a) j (x)) = .inl (g.2.2.1, N, .inl (upd (I a) j (x))) := by
      simp only [kE, hs]; rfl
    rw [e4]
    refine hP.set kD hq ?_ oq
    show H1[a]? = some (vp_cell _ _)
    rw [e1]
    rw [vp_cell_i, vp_cell_i, arrV_store]
    congr 2
    funext q
    by_cases hq : q = j
    · subst hq
      simp [updV, upd, hcl]
      try rfl
    · simp [updV, upd, hq, hcl]
  rw [kSet ha hq0] at hP1
  exact kk p e s m args below meth c H1 _ ls ⟨h.1, h.2.1, ⟨z.trans h.2.2.1.1, h.2.2.1.2.1, hP1, hK⟩, h.2.2.2.1.put z oq (show kA g a from ha.1), h.2.2.2.2⟩
theorem w_cast {a N j : Nat} {x y : Int32} (ha : kB g ≤ a ∧ a < σ.1) (hs : σ.2.1 a = (101, N)) (hy : y = nI j) (hj : j < N) (hN : N < 2 ^ 31) (hd : decode μ.2.1 pc = .ok (.castore, 1)) (kk : wp g μ R E Q n σ (kst I a j (vp_nar .char x)) (pc + 1) loc st) : wp g μ R E Q n σ I pc loc (.int x :: .int y :: .ref a :: st) := by
  intro p e s m args below meth c H locs ls h
  obtain ⟨q, hq⟩ := kIn (I := I) ha
  have hq0 := hq
  rw [kEc hs] at hq
  subst hy
  have hP := h.2.2.1.2.2.1
  have hK := h.2.2.1.2.2.2
  have hcl : (nI j).toNatClampNeg = j := nI_clamp (by omega)
  refine W.cast h.1.1 h.1.2.1 (hP q _ hq) ((hK.2 1 _ rfl).1 N (fun j => .int (I a j))) (fun q => by cases q) (by show ¬ (_ < 0 ∨ (arrV _ _ _).slots.size ≤ _); rw [arrV_size]; exact vp_in_nI hj hN) rfl rfl hd fun H1 e1 z oq => ?_
  have hP1 : va_P g.2.1 vwCl ((kW g σ I).set q (a, kE g.2.2.1 g.2.2.2.1 (σ.2.1 a) (σ.2.2 a) (upd (I a) j (vp_nar .char x)))) H1 := by
    have e4 : kE g.2.2.1 g.2.2.2.1 (σ.2.1 a) (σ.2.2 a) (upd (I a) j (vp_nar .char x)) = .inl (g.2.2.2.1, N, .inl (upd (I a) j (vp_nar .char x))) := by
      simp only [kE, hs]; rfl
    rw [e4]
    refine hP.set kD hq ?_ oq
    show H1[a]? = some (vp_cell _ _)
    rw [e1]
    rw [vp_cell_i, vp_cell_i, arrV_store]
    congr 2
    funext q
    by_cases hq : q = j
    · subst hq
      simp [updV, upd, hcl]
      try rfl
    · simp [updV, upd, hq, hcl]
  rw [kSet ha hq0] at hP1
  exact kk p e s m args below meth c H1 _ ls ⟨h.1, h.2.1, ⟨z.trans h.2.2.1.1, h.2.2.1.2.1, hP1, hK⟩, h.2.2.2.1.put z oq (show kA g a from ha.1), h.2.2.2.2⟩
theorem w_iret {x : Int32} (hr : μ.2.2.2 = some .int) (hn1 : n.1 ≤ R.cells ∧ n.2 ≤ R.slots) (hd : decode μ.2.1 pc = .ok (.ireturn, 1)) (hq : Q (some (.int x)) σ I) : wp g μ R E Q n σ I pc loc [.int x] := by
  intro p e s m args below meth c H locs ls h
  refine W.widen hn1.1 hn1.2 ?_
  refine W.iret h.1.1 h.1.2.1 (h.1.2.2.2.2.2.2.1.trans hr) (fun t ht hW => ⟨_, σ, I, rfl, hq, ⟨by rw [ht]; exact h.2.2.1.1, h.2.2.1.2.1, by rw [ht]; exact h.2.2.1.2.2.1, va_K.moved hW.alike h.2.2.1.2.2.2⟩, h.2.2.2.1.F ht⟩) (fun q hq => h.2.2.2.1.2.2 q hq) hd h.1.2.2.2.2.2.1
theorem w_zret {x : Int32} (hr : μ.2.2.2 = some .boolean) (hn : narrow .boolean (.int x) = .int x) (hn1 : n.1 ≤ R.cells ∧ n.2 ≤ R.slots) (hd : decode μ.2.1 pc = .ok (.ireturn, 1)) (hq : Q (some (.int x)) σ I) : wp g μ R E Q n σ I pc loc [.int x] := by
  intro p e s m args below meth c H locs ls h
  refine W.widen hn1.1 hn1.2 ?_
  refine W.zret h.1.1 h.1.2.1 (h.1.2.2.2.2.2.2.1.trans hr) hn (fun t ht hW => ⟨_, σ, I, rfl, hq, ⟨by rw [ht]; exact h.2.2.1.1, h.2.2.1.2.1, by rw [ht]; exact h.2.2.1.2.2.1, va_K.moved hW.alike h.2.2.1.2.2.2⟩, h.2.2.2.1.F ht⟩) (fun q hq => h.2.2.2.1.2.2 q hq) hd h.1.2.2.2.2.2.1
theorem w_vret (hr : μ.2.2.2 = none) (hn1 : n.1 ≤ R.cells ∧ n.2 ≤ R.slots) (hd : decode μ.2.1 pc = .ok (.return_, 1)) (hq : Q (none) σ I) : wp g μ R E Q n σ I pc loc [] := by
  intro p e s m args below meth c H locs ls h
  refine W.widen hn1.1 hn1.2 ?_
  refine W.vret h.1.1 h.1.2.1 (h.1.2.2.2.2.2.2.1.trans hr) (fun t ht hW => ⟨_, σ, I, rfl, hq, ⟨by rw [ht]; exact h.2.2.1.1, h.2.2.1.2.1, by rw [ht]; exact h.2.2.1.2.2.1, va_K.moved hW.alike h.2.2.1.2.2.2⟩, h.2.2.2.1.F ht⟩) (fun q hq => h.2.2.2.1.2.2 q hq) hd h.1.2.2.2.2.2.1
theorem kLh_entry {as : List Value} {nL : Nat} (hcat : ∀ v ∈ as, v.category = 1) (hle : as.length ≤ nL) : kLh ((lg_sl as ++ List.replicate (nL - (lg_sl as).length) Slot.unset).toArray) nL (as.map some ++ List.replicate (nL - as.length) none) := by
  have hsl : (lg_sl as).length = as.length := by
    clear hle
    induction as with
    | nil => rfl
    | cons v r ih =>
      have h1 : v.category = 1 := hcat v List.mem_cons_self
      have h2 := ih (fun w hw => hcat w (List.mem_cons_of_mem _ hw))
      simp only [lg_sl, List.flatMap_cons, List.length_append, List.length_cons] at h2 ⊢
      rw [h2, if_neg (by omega)]
      simp; omega
  have h0 := lv_entry as (n := nL) (by omega)
  refine ⟨h0.1, h0.2.1, by simp; omega, fun i v hi => ?_⟩
  have hlt : i < as.length := by
    rcases Nat.lt_or_ge i as.length with h | h
    · exact h
    · rw [List.getElem?_append_right (by simpa using h)] at hi
      simp [List.getElem?_replicate] at hi
  rw [List.getElem?_append_left (by simpa using hlt), List.getElem?_map] at hi
  have hv : as[i]? = some v := by
    cases hz : as[i]? with
    | none => rw [hz] at hi; cases hi
    | some w => rw [hz] at hi; simp at hi; rw [hi]
  have key : ∀ (vs : List Value) (k j : Nat), (∀ v ∈ vs, v.category = 1) → vs[j]? = some v → (k + j, v) ∈ lv_args k vs := by
    intro vs
    induction vs with
    | nil => intro k j _ h; simp at h
    | cons w r ih =>
      intro k j hc h
      have hw : w.category = 1 := hc w List.mem_cons_self
      simp only [lv_args, if_neg (show ¬ w.category = 2 by omega)]
      cases j with
      | zero => simp at h; subst h; exact List.mem_cons_self
      | succ j =>
        have h' : r[j]? = some v := by simpa using h
        have := ih (k + 1) j (fun z hz => hc z (List.mem_cons_of_mem _ hz)) h'
        rw [show k + (j + 1) = k + 1 + j by omega]
        exact List.mem_cons_of_mem _ this
  have := key as 0 i hcat hv
  rw [Nat.zero_add] at this
  exact h0.2.2 _ this
theorem ct_of {as : List Value} (hy : plainName μ.1.cls = true) (hcat : as.all (fun v => kcat (some v)) = true) (hle : as.length ≤ μ.2.2.1) (hcode : Cond.code μ.1 μ.2.1 μ.2.2.1 μ.2.2.2 ∈ tblG) (hB : True)
    (kk : wp g μ R (fun _ => True) Q (0, 0) σ I 0 (as.map some ++ List.replicate (μ.2.2.1 - as.length) none) []) : ct g μ R as σ I Q := by
  refine Met.ofW (cc := μ.2.1) (maxL := μ.2.2.1) (ret := μ.2.2.2) hy rfl ?_
  intro p e s m args below meth c s₁ B hml hv
  obtain ⟨rfl, hH, hST⟩ := hv
  have hts := atoms_spec (ws := Cond.code μ.1 μ.2.1 μ.2.2.1 μ.2.2.2 :: tblG) B.pre
  have hcat' : ∀ v ∈ as, v.category = 1 := fun v hv => kcat1 (List.all_eq_true.mp hcat v hv)
  rw [lg_entry_eq]
  exact kk p e s m _ below meth c s.heap [] _ ⟨⟨B.exec, B.bytes, hml, findClass_of_methodNamed B.named, fun w hw => hts w (List.mem_cons_of_mem _ hw), B.notSynchronized, B.returns, fun h => (name_of_methodNamed B.named B.method).1.trans h, hST⟩, trivial, hH, va_S.rf, kLh_entry hcat' hle⟩
theorem kST_moved {s U : State} {H : Heap} {locs : List Loc} (hS : va_S (kA g) s.heap H locs) (h : kST g s) (hU : U.heap = H) (hW : s.WarmedH U.vm) : kST g U := by
  refine ⟨fun i hi => ?_, fun w hw => ?_⟩
  · obtain ⟨h1, h2⟩ := h.1 i hi
    refine ⟨va_Z.moved hW.alike (by rw [hU]; exact h1.kept hS.2.1), va_T.moved hW.alike (by rw [hU]; exact h2.kept hS.2.1)⟩
  · have hz := h.2 w hw
    revert hz
    simp only [nestWs, List.mem_cons, List.not_mem_nil, or_false] at hw
    rcases hw with rfl | rfl | rfl | rfl | rfl | rfl | rfl | rfl | rfl | rfl | rfl | rfl | rfl | rfl | rfl | rfl | rfl | rfl | rfl | rfl <;> intro hz <;> first | exact va_Nw.warmM hW hz | exact va_Nw.warmF hW hz
theorem kST_blind {s : State} {f : JFrame} {mk : MethodId} {a : Array Value} (h : kST g s) : kST g (s.calling f mk a) := by
  refine ⟨fun i hi => ?_, fun w hw => ?_⟩
  · obtain ⟨h1, h2⟩ := h.1 i hi
    exact ⟨va_Z.moved (u := s) (U := s.calling f mk a) (Vm.Alike.refl s.vm) h1, va_T.moved (u := s) (U := s.calling f mk a) (Vm.Alike.refl s.vm) h2⟩
  · have hz := h.2 w hw
    revert hz
    simp only [nestWs, List.mem_cons, List.not_mem_nil, or_false] at hw
    rcases hw with rfl | rfl | rfl | rfl | rfl | rfl | rfl | rfl | rfl | rfl | rfl | rfl | rfl | rfl | rfl | rfl | rfl | rfl | rfl | rfl <;> intro hz <;> exact va_Nw.same (u := s) (U := s.calling f mk a) rfl rfl hz
theorem kBlind {as : List Value} {σ : kS} {I : kI} : FrameBlind (va_Pc as (fun U => kHold g σ I U U.heap ∧ kST g U)) := by
  intro a U f mk hh
  obtain ⟨h1, ⟨h2, h3, h4, h5⟩, h6⟩ := hh
  exact ⟨h1, ⟨h2, h3, h4, va_K.moved (u := U) (U := U.calling f mk a) (Vm.Alike.refl U.vm) h5⟩, kST_blind h6⟩
-- behind a call
theorem kCall {σ' : kS} {I' : kI} {μ' : kM} {R' : Room} {as st0 : List Value} {a : Array Value} {Q' : kP} {p : Program} {e : Env} {s : State} {m : MethodId} {args : Array Value} {below : List Frame} {meth : Method} {c : Code} {H : Heap} {locs : List Loc} {ls : Array Slot} {mc ms : Nat} {W' : State → Prop} (h : kAll g μ E σ I loc p s m args meth c H locs ls)
    (hr : va_Run p g.1 e R s m args below meth c H locs n.1 n.2 mc ms (F0 m pc ls st0) st (kQ g Q' a) (kA g))
    (kk : ∀ v σ' I', Q' v σ' I' → wp g μ R E Q (n.1 + mc, n.2 + ms) σ' I' (pc + 3) loc (v.toList ++ st)) : W p g.1 e R s m args below meth c H locs n.1 n.2 (MQ below (kQ g Q) args s R.cells R.slots (kA g)) (F0 m pc ls st0) := by
  intro T hT X
  obtain ⟨v, st₀, t, T', L, h0, X', hL, e1, e2, ⟨v', σ', I', hv, hq, hH, hz, hf⟩, stp⟩ := hr T hT X
  cases hv
  rw [h0] at hz hf
  have hS := h.2.2.2.1
  have hal : t.vm = T'.vm := e2.symm
  obtain ⟨t2, a1, b1⟩ := kk v σ' I' hq p e s m args below meth c t.heap (locs ++ L) ls ⟨h.1, h.2.1, ⟨hH.1, hH.2.1, hH.2.2.1, by
      have := X'.warmed
      rw [e2] at this
      exact ⟨h.2.2.1.2.2.2.1, h.2.2.1.2.2.2.2⟩⟩, ⟨Nat.le_trans hS.1 hz, fun q h1 h2 => by rw [hf q (Nat.lt_of_lt_of_le h1 hS.1) h2]; exact hS.2.1 q h1 h2, fun q hq => by
      rcases List.mem_append.mp hq with h3 | h3
      · exact hS.2.2 q h3
      · exact hL q h3⟩, h.2.2.2.2⟩ T' e1 X'
  exact ⟨t2, stp t2 a1, b1⟩
-- what is known of a method, once: its code row, its class initialised, its count of arguments
def kOK (μ : kM) (k : Nat) : Prop := Cond.code μ.1 μ.2.1 μ.2.2.1 μ.2.2.2 ∈ tblG ∧ Cond.initialized μ.1.cls ∈ tblG ∧ (μ.1.cls ≠ "java/lang/invoke/MethodHandle" ∧ μ.1.cls ≠ "java/lang/invoke/VarHandle") ∧ (parseMethodDescriptor μ.1.desc).map (fun d => d.parameters.length) = some k
theorem kGood {y : Cond} (h : y ∈ tblG) : GoodIn tblG (y :: tblG) := fun w hw => by
  have hm : w ∈ tblG := by
    rcases List.mem_cons.mp hw with rfl | h2
    · exact h
    · exact h2
  exact ⟨hm, good_of_word (List.mem_filter.mp hm).2⟩
theorem kCB {μ' : kM} {R' : Room} {i k : Nat} {p : Program} {s : State} {m : MethodId} {args : Array Value} {meth : Method} {c : Code} (h : kCx g μ p s m args meth c) (hok : kOK μ' k) (hl : Cond.methodLink μ.1.cls i μ'.1 ∈ tblG) (hR : R'.frames + 1 ≤ R.frames ∧ 8 + (μ'.2.2.1 + 11) + R'.locals ≤ R.locals) :
    CallB R s args μ.1.cls i μ'.1 μ'.2.1 μ'.2.2.1 μ'.2.2.2 (Cond.code μ'.1 μ'.2.1 μ'.2.2.1 μ'.2.2.2 :: tblG) R' R'.cells R'.slots k :=
  callB_of k h.2.2.2.2.1 (kGood hok.1) rfl rfl rfl (h.2.2.2.2.1 _ hok.2.1) (h.2.2.2.2.1 _ hl) ⟨hok.2.2.1.1, hok.2.2.1.2, hok.2.2.2⟩ hR
theorem kCBN {μ' : kM} {R' : Room} {i k : Nat} {host : String} {p : Program} {s : State} {m : MethodId} {args : Array Value} {meth : Method} {c : Code} (h : kCx g μ p s m args meth c) (hok : kOK μ' k) (hl : Cond.methodLinkNest μ.1.cls i μ'.1 host ∈ nestWs) (hR : R'.frames + 1 ≤ R.frames ∧ 8 + (μ'.2.2.1 + 11) + R'.locals ≤ R.locals) :
    va_CN R s args μ.1.cls i μ'.1 host μ'.2.1 μ'.2.2.1 μ'.2.2.2 (Cond.code μ'.1 μ'.2.1 μ'.2.2.1 μ'.2.2.2 :: tblG) R' R'.cells R'.slots k :=
  va_cnB k h.2.2.2.2.1 (kGood hok.1) rfl rfl rfl (h.2.2.2.2.2.2.2.2.2 _ hl) (h.2.2.2.2.1 _ hok.2.1) ⟨hok.2.2.1.1, hok.2.2.1.2, hok.2.2.2⟩ hR
theorem kPre {μ' : kM} {as : List Value} {p : Program} {s : State} {m : MethodId} {args : Array Value} {meth : Method} {c : Code} {H : Heap} {locs : List Loc} {ls : Array Slot} (h : kAll g μ E σ I loc p s m args meth c H locs ls) : PreS s H (va_Pc as (fun U => kHold g σ I U U.heap ∧ kST g U)) as :=
  ⟨kBlind, fun U hU hW => ⟨rfl, ⟨by rw [hU]; exact h.2.2.1.1, h.2.2.1.2.1, by rw [hU]; exact h.2.2.1.2.2.1, va_K.moved hW.alike h.2.2.1.2.2.2⟩, kST_moved h.2.2.2.1 h.1.2.2.2.2.2.2.2.2 hU hW⟩⟩
theorem kRecv {b ci : Nat} {C : String} {T : u_T} {ty : Nat → FieldType} {N : Nat} {s : State} {H : Heap} (hci : kCI ci C T ty N) (hb : kB g ≤ b ∧ b < σ.1) (hs : σ.2.1 b = (ci, 0)) (h : kHold g σ I s H) : ∃ cell : Cell, H[b]? = some cell ∧ cell.vm.isStatics = false ∧ s.vm.findClass C = some cell.cls := by
  obtain ⟨q, hq⟩ := kIn (I := I) hb
  have he : kF g σ I b = .inr (ci, kfv (σ.2.2 b) (I b) (kft ci) 0) := by simp only [kF, kE, hs, if_neg hci.2.2.2.2.2.1, if_neg hci.2.2.2.2.2.2]
  rw [he] at hq
  exact va_recv h.2.2.2 h.2.2.1 hci.1 hq
theorem w_callV {μ' : kM} {R' : Room} {as stk : List Value} {b i ci : Nat} {T : u_T} {ty : Nat → FieldType} {N : Nat} {Q' : kP} (hct : ct g μ' R' (.ref b :: as) σ I Q') (hok : kOK μ' as.length) (hin : Cond.instanceMethod μ'.1 ∈ tblG) (hse : Cond.selects μ'.1.cls μ'.1 μ'.1 ∈ tblG) (hci : kCI ci μ'.1.cls T ty N) (hb : kB g ≤ b ∧ b < σ.1) (hs : σ.2.1 b = (ci, 0)) (hl : Cond.methodLink μ.1.cls i μ'.1 ∈ tblG) (hR : (R'.frames + 1 ≤ R.frames ∧ 8 + (μ'.2.2.1 + 11) + R'.locals ≤ R.locals) ∧ n.1 + R'.cells ≤ R.cells ∧ n.2 + R'.slots ≤ R.slots) (hstk : stk = as.reverse ++ .ref b :: st) (hW : (st.map fun v => v.category).sum ≤ 8) (hd : decode μ.2.1 pc = .ok (.invokevirtual i, 3))
    (kk : ∀ v σ' I', Q' v σ' I' → wp g μ R E Q (n.1 + R'.cells, n.2 + R'.slots) σ' I' (pc + 3) loc (v.toList ++ st)) : wp g μ R E Q n σ I pc loc stk := by
  intro p e s m args below meth c H locs ls h
  have S : CallFix p m c μ.2.1 μ.2.2.1 s args tblG μ.1.cls := ⟨h.1.1, h.1.2.1, h.1.2.2.1, h.1.2.2.2.1, h.1.2.2.2.2.1⟩
  have hp := kPre (μ' := μ') (as := .ref b :: as) h
  exact kCall (Q' := Q') (σ' := σ) (I' := I) (μ' := μ') (R' := R') (as := as) (W' := fun _ => True) h (va_runV S hct ⟨kCB h.1 hok hl hR.1, h.1.2.2.2.2.1 _ hin, h.1.2.2.2.2.1 _ hse⟩ ⟨hp.1, kRecv hci hb hs h.2.2.1, hp.2⟩ rfl rfl h.2.2.2.2.1 hstk (by show 2 * 0 + _ ≤ 8; omega) hd hR.2) kk
theorem w_callS {μ' : kM} {R' : Room} {as stk : List Value} {i : Nat} {Q' : kP} (hct : ct g μ' R' as σ I Q') (hok : kOK μ' as.length) (hin : Cond.static μ'.1 ∈ tblG) (hl : Cond.methodLink μ.1.cls i μ'.1 ∈ tblG) (hR : (R'.frames + 1 ≤ R.frames ∧ 8 + (μ'.2.2.1 + 11) + R'.locals ≤ R.locals) ∧ n.1 + R'.cells ≤ R.cells ∧ n.2 + R'.slots ≤ R.slots) (hstk : stk = as.reverse ++ st) (hW : (st.map fun v => v.category).sum ≤ 8) (hd : decode μ.2.1 pc = .ok (.invokestatic i, 3))
    (kk : ∀ v σ' I', Q' v σ' I' → wp g μ R E Q (n.1 + R'.cells, n.2 + R'.slots) σ' I' (pc + 3) loc (v.toList ++ st)) : wp g μ R E Q n σ I pc loc stk := by
  intro p e s m args below meth c H locs ls h
  have S : CallFix p m c μ.2.1 μ.2.2.1 s args tblG μ.1.cls := ⟨h.1.1, h.1.2.1, h.1.2.2.1, h.1.2.2.2.1, h.1.2.2.2.2.1⟩
  exact kCall (Q' := Q') (σ' := σ) (I' := I) (μ' := μ') (R' := R') (as := as) (W' := fun _ => True) h (va_runS S hct ⟨kCB h.1 hok hl hR.1, h.1.2.2.2.2.1 _ hin⟩ (kPre (μ' := μ') h) rfl rfl h.2.2.2.2.1 hstk (by show 2 * 0 + _ ≤ 8; omega) hd hR.2) kk
theorem w_callSN {μ' : kM} {R' : Room} {as stk : List Value} {i : Nat} {host : String} {Q' : kP} (hct : ct g μ' R' as σ I Q') (hok : kOK μ' as.length) (hin : Cond.static μ'.1 ∈ tblG) (hl : Cond.methodLinkNest μ.1.cls i μ'.1 host ∈ nestWs) (hR : (R'.frames + 1 ≤ R.frames ∧ 8 + (μ'.2.2.1 + 11) + R'.locals ≤ R.locals) ∧ n.1 + R'.cells ≤ R.cells ∧ n.2 + R'.slots ≤ R.slots) (hstk : stk = as.reverse ++ st) (hW : (st.map fun v => v.category).sum ≤ 8) (hd : decode μ.2.1 pc = .ok (.invokestatic i, 3))
    (kk : ∀ v σ' I', Q' v σ' I' → wp g μ R E Q (n.1 + R'.cells, n.2 + R'.slots) σ' I' (pc + 3) loc (v.toList ++ st)) : wp g μ R E Q n σ I pc loc stk := by
  intro p e s m args below meth c H locs ls h
  have S : CallFix p m c μ.2.1 μ.2.2.1 s args tblG μ.1.cls := ⟨h.1.1, h.1.2.1, h.1.2.2.1, h.1.2.2.2.1, h.1.2.2.2.2.1⟩
  exact kCall (Q' := Q') (σ' := σ) (I' := I) (μ' := μ') (R' := R') (as := as) (W' := fun _ => True) h (va_runSN S hct ⟨kCBN h.1 hok hl hR.1, h.1.2.2.2.2.1 _ hin, trivial⟩ (kPre (μ' := μ') h) rfl rfl h.2.2.2.2.1 hstk (by show 2 * 0 + _ ≤ 8; omega) hd hR.2) kk
theorem w_callI {μ' : kM} {R' : Room} {as stk : List Value} {b i : Nat} {Q' : kP} (hct : ct g μ' R' (.ref b :: as) σ I Q') (hr : μ'.2.2.2 = none) (hok : kOK μ' as.length) (hnm : μ'.1.name = "<init>") (hin : Cond.instanceMethod μ'.1 ∈ tblG) (hl : Cond.methodLink μ.1.cls i μ'.1 ∈ tblG) (hR : (R'.frames + 1 ≤ R.frames ∧ 8 + (μ'.2.2.1 + 11) + R'.locals ≤ R.locals) ∧ n.1 + R'.cells ≤ R.cells ∧ n.2 + R'.slots ≤ R.slots) (hstk : stk = as.reverse ++ .ref b :: st) (hW : (st.map fun v => v.category).sum ≤ 8) (hd : decode μ.2.1 pc = .ok (.invokespecial i, 3))
    (kk : ∀ v σ' I', Q' v σ' I' → wp g μ R E Q (n.1 + R'.cells, n.2 + R'.slots) σ' I' (pc + 3) loc (v.toList ++ st)) : wp g μ R E Q n σ I pc loc stk := by
  intro p e s m args below meth c H locs ls h
  have S : CallFix p m c μ.2.1 μ.2.2.1 s args tblG μ.1.cls := ⟨h.1.1, h.1.2.1, h.1.2.2.1, h.1.2.2.2.1, h.1.2.2.2.2.1⟩
  have cb := kCB h.1 hok hl hR.1
  rw [hr] at cb
  have hct' := hct
  exact kCall (Q' := Q') (σ' := σ) (I' := I) (μ' := μ') (R' := R') (as := as) (W' := fun _ => True) h (va_runI (ws := Cond.code μ'.1 μ'.2.1 μ'.2.2.1 μ'.2.2.2 :: tblG) S hct ⟨by rw [hr]; exact cb, hnm, h.1.2.2.2.2.1 _ hin⟩ (kPre (μ' := μ') h) rfl rfl h.2.2.2.2.1 hstk (by show 2 * 0 + _ ≤ 8; omega) hd hR.2) kk
theorem w_callIN {μ' : kM} {R' : Room} {as stk : List Value} {b i : Nat} {host : String} {Q' : kP} (hct : ct g μ' R' (.ref b :: as) σ I Q') (hr : μ'.2.2.2 = none) (hok : kOK μ' as.length) (hnm : μ'.1.name = "<init>") (hin : Cond.instanceMethod μ'.1 ∈ tblG) (hl : Cond.methodLinkNest μ.1.cls i μ'.1 host ∈ nestWs) (hR : (R'.frames + 1 ≤ R.frames ∧ 8 + (μ'.2.2.1 + 11) + R'.locals ≤ R.locals) ∧ n.1 + R'.cells ≤ R.cells ∧ n.2 + R'.slots ≤ R.slots) (hstk : stk = as.reverse ++ .ref b :: st) (hW : (st.map fun v => v.category).sum ≤ 8) (hd : decode μ.2.1 pc = .ok (.invokespecial i, 3))
    (kk : ∀ v σ' I', Q' v σ' I' → wp g μ R E Q (n.1 + R'.cells, n.2 + R'.slots) σ' I' (pc + 3) loc (v.toList ++ st)) : wp g μ R E Q n σ I pc loc stk := by
  intro p e s m args below meth c H locs ls h
  have S : CallFix p m c μ.2.1 μ.2.2.1 s args tblG μ.1.cls := ⟨h.1.1, h.1.2.1, h.1.2.2.1, h.1.2.2.2.1, h.1.2.2.2.2.1⟩
  have cb := kCBN h.1 hok hl hR.1
  rw [hr] at cb
  exact kCall (Q' := Q') (σ' := σ) (I' := I) (μ' := μ') (R' := R') (as := as) (W' := fun _ => True) h (va_runIN (ws := Cond.code μ'.1 μ'.2.1 μ'.2.2.1 μ'.2.2.2 :: tblG) S hct ⟨by rw [hr]; exact cb, hnm, h.1.2.2.2.2.1 _ hin⟩ (kPre (μ' := μ') h) rfl rfl h.2.2.2.2.1 hstk (by show 2 * 0 + _ ≤ 8; omega) hd hR.2) kk
end KWP
end
section
section KWQ
variable {g : kG} {μ : kM} {R : Room} {E : State → Prop} {Q : kP} {n : Nat × Nat} {σ : kS} {I : kI} {pc : Nat} {loc : List (Option Value)} {st : List Value}
theorem w_mmin {i : Nat} {x y : Int32} (hl : Cond.methodLink μ.1.cls i Lib.Math.min.name ∈ tblG) (hs : Cond.static Lib.Math.min.name ∈ tblG) (hi : Cond.initialized "java/lang/Math" ∈ tblG) (hc : Cond.code Lib.Math.min.name Lib.Math.min.code 2 (some .int) ∈ tblG) (hR : (1 ≤ R.frames ∧ (st.map fun v => v.category).sum + 13 ≤ R.locals) ∧ n.1 ≤ R.cells ∧ n.2 ≤ R.slots) (hd : decode μ.2.1 pc = .ok (.invokestatic i, 3)) (kk : wp g μ R E Q n σ I (pc + 3) loc (.int (if y < x then y else x) :: st)) : wp g μ R E Q n σ I pc loc (.int y :: .int x :: st) := fun p e s m args below meth c H locs ls h => va_mmin h.1.1 h.1.2.1 (h.1.2.2.1.trans h.2.2.2.2.1.symm) h.1.2.2.2.1 (h.1.2.2.2.2.1 _ hl) (h.1.2.2.2.2.1 _ hs) (h.1.2.2.2.2.1 _ hi) (h.1.2.2.2.2.1 _ hc) hR.1.1 hR.1.2 hR.2.1 hR.2.2 hd (kk p e s m args below meth c H locs ls h)
theorem w_mmax {i : Nat} {x y : Int32} (hl : Cond.methodLink μ.1.cls i Lib.Math.max.name ∈ tblG) (hs : Cond.static Lib.Math.max.name ∈ tblG) (hi : Cond.initialized "java/lang/Math" ∈ tblG) (hc : Cond.code Lib.Math.max.name Lib.Math.max.code 2 (some .int) ∈ tblG) (hR : (1 ≤ R.frames ∧ (st.map fun v => v.category).sum + 13 ≤ R.locals) ∧ n.1 ≤ R.cells ∧ n.2 ≤ R.slots) (hd : decode μ.2.1 pc = .ok (.invokestatic i, 3)) (kk : wp g μ R E Q n σ I (pc + 3) loc (.int (if x < y then y else x) :: st)) : wp g μ R E Q n σ I pc loc (.int y :: .int x :: st) := fun p e s m args below meth c H locs ls h => va_mmax h.1.1 h.1.2.1 (h.1.2.2.1.trans h.2.2.2.2.1.symm) h.1.2.2.2.1 (h.1.2.2.2.2.1 _ hl) (h.1.2.2.2.2.1 _ hs) (h.1.2.2.2.2.1 _ hi) (h.1.2.2.2.2.1 _ hc) hR.1.1 hR.1.2 hR.2.1 hR.2.2 hd (kk p e s m args below meth c H locs ls h)
theorem w_objInit {i a : Nat} (hl : Cond.methodLink μ.1.cls i Lib.objectInit ∈ tblG) (hin : Cond.instanceMethod Lib.objectInit ∈ tblG) (hc : Cond.code Lib.objectInit ⟨#[0xb1]⟩ 1 none ∈ tblG) (hR : 1 ≤ R.frames ∧ (st.map fun v => v.category).sum + 12 ≤ R.locals) (hd : decode μ.2.1 pc = .ok (.invokespecial i, 3)) (kk : wp g μ R E Q n σ I (pc + 3) loc st) : wp g μ R E Q n σ I pc loc (.ref a :: st) := by
  intro p e s m args below meth c H locs ls h
  exact W.objInit h.1.1 h.1.2.1 h.1.2.2.2.1 (h.1.2.2.2.2.1 _ hl) (h.1.2.2.2.2.1 _ hin) (h.1.2.2.2.2.1 _ hc) rfl (by rw [h.1.2.2.1]; exact h.2.2.2.2.1) rfl hd hR.1 (by show 2 * 0 + _ + 12 ≤ _; omega) (kk p e s m args below meth c H locs ls h)
theorem w_getstatic {i j : Nat} (hj : j < 3) (hl : Cond.fieldLinkNest μ.1.cls i "BeltSums" (kSa j) "[I" "BeltSums" ∈ nestWs) (hd : decode μ.2.1 pc = .ok (.getstatic i, 3)) (kk : wp g μ R E Q n σ I (pc + 3) loc (.ref (g.2.2.2.2.2 j) :: st)) : wp g μ R E Q n σ I pc loc st := by
  intro p e s m args below meth c H locs ls h
  have hst := h.1.2.2.2.2.2.2.2.2
  exact va_getsN h.1.1 h.1.2.1 (hst.1 j hj).1 h.2.2.2.1 h.1.2.2.2.1 (va_Nw.use rfl (hst.2 _ hl)) (fun _ h9 => h9) hd (kk p e s m args below meth c H locs ls h)
theorem w_siald {j k : Nat} {x : Int32} (hj : j < 3) (hx : x = nI k) (hk : k < 3) (hd : decode μ.2.1 pc = .ok (.iaload, 1)) (kk : wp g μ R E Q n σ I (pc + 1) loc (.int (kSv j k) :: st)) : wp g μ R E Q n σ I pc loc (.int x :: .ref (g.2.2.2.2.2 j) :: st) := by
  intro p e s m args below meth c H locs ls h
  have hst := h.1.2.2.2.2.2.2.2.2
  subst hx
  exact va_ti h.1.1 h.1.2.1 (hst.1 j hj).2 h.2.2.2.1 (vp_in_nI hk (by decide)) (by rw [nI_clamp (by omega)]) hd (kk p e s m args below meth c H locs ls h)
theorem w_salen {j : Nat} {v : Int32} (hj : j < 3) (hv : Int32.ofNat 3 = v) (hd : decode μ.2.1 pc = .ok (.arraylength, 1)) (kk : wp g μ R E Q n σ I (pc + 1) loc (.int v :: st)) : wp g μ R E Q n σ I pc loc (.ref (g.2.2.2.2.2 j) :: st) := by
  intro p e s m args below meth c H locs ls h
  have hst := h.1.2.2.2.2.2.2.2.2
  exact va_tlen h.1.1 h.1.2.1 (hst.1 j hj).2 h.2.2.2.1 hv hd (kk p e s m args below meth c H locs ls h)
theorem kArrCopyHeap {g : kG} {σ : kS} {I : kI} {a : Nat} {f : Nat → Int32} {q : Nat} (h : kB g ≤ a ∧ a < σ.1) (hq : (kW g σ I)[q]? = some (a, kF g σ I a)) : (kW g σ I).set q (a, kE g.2.2.1 g.2.2.2.1 (σ.2.1 a) (σ.2.2 a) f) = kW g σ (va_up I a f) := by
  have hD : va_D (kA g) ([] ++ va_pl (kL g σ) (kF g σ I)) := kD
  have := va_pl_set (X := []) (a := a) (k := q) (e := kE g.2.2.1 g.2.2.2.1 (σ.2.1 a) (σ.2.2 a) f) hD (by simp only [kL, List.mem_range'_1]; omega) hq
  simp only [List.nil_append] at this
  rw [show kW g σ I = va_pl (kL g σ) (kF g σ I) from rfl, this]
  show va_pl _ _ = va_pl _ _
  congr 1
  funext b
  by_cases h : b = a
  · subst h; simp [va_up, kF]
  · simp [va_up, kF, h]
theorem w_copy {i : Nat} {x : Int32} {a a0 N0 N1 : Nat} {k : Nat} (ha0 : kB g ≤ a0 ∧ a0 < σ.1) (hs0 : σ.2.1 a0 = (100, N0)) (hk0 : k ≤ N0) (hN0 : N0 < 2 ^ 31) (ha : kB g ≤ a ∧ a < σ.1) (hs : σ.2.1 a = (100, N1)) (hk1 : k ≤ N1) (hN1 : N1 < 2 ^ 31) (hx : x = nI k) (hl : Cond.methodLink μ.1.cls i arraycopyName ∈ tblG) (hnat : Cond.native arraycopyName ∈ tblG) (hstat : Cond.static arraycopyName ∈ tblG) (hini : Cond.initialized "java/lang/System" ∈ tblG) (hR : 1 ≤ R.frames ∧ (st.map fun v => v.category).sum + (nativeFrameWords "java/lang/System" "arraycopy" 5 + 11) ≤ R.locals) (hd : decode μ.2.1 pc = .ok (.invokestatic i, 3)) (kk : wp g μ R E Q n σ (va_up I a (va_cpy (I a0) (I a) 0 0 k)) (pc + 3) loc st) : wp g μ R E Q n σ I pc loc (.int x :: .int 0 :: .ref a :: .int 0 :: .ref a0 :: st) := by
  intro p e s m args below meth c H locs ls h
  obtain ⟨q1, hq1⟩ := kIn (I := I) ha
  have hq0 := hq1
  rw [kEi hs] at hq1
  subst hx
  have hP := h.2.2.1.2.2.1
  have hK := h.2.2.1.2.2.2
  have hS := h.2.2.2.1
  have hcl : (nI k).toNatClampNeg = k := nI_clamp (by omega)
  have hcl0 : (0 : Int32).toNatClampNeg = 0 := rfl
  have hti : (nI k).toInt = (k : Int) := nI_toInt (by omega)
  have nk : ¬ nI k < 0 := nI_pos (by omega)
  have z0 : (0 : Int32).toInt = 0 := rfl
  obtain ⟨q2, hq2⟩ := kIn (I := I) ha0
  rw [kEi hs0] at hq2
  have hc0 : H[a0]? = some (vp_cell g.2.2.1 (N0, .inl (I a0))) := hP q2 _ hq2
  have hc1 : H[a]? = some (vp_cell g.2.2.1 (N1, .inl (I a))) := hP q1 _ hq1
  obtain ⟨-, kc0, hkc0, cm0, hkk0⟩ := (hK.2 0 _ rfl).1 N0 (fun j => .int (I a0 j))
  obtain ⟨-, kc1, hkc1, cm1, hkk1⟩ := (hK.2 0 _ rfl).1 N1 (fun j => .int (I a j))
  intro T hT X
  have hb := h.1.2.1
  obtain ⟨vm', X', step⟩ := X.arraycopy h.1.1 h.1.2.2.2.1 (h.1.2.2.2.2.1 _ hl) (h.1.2.2.2.2.1 _ hnat) (h.1.2.2.2.2.1 _ hstat) (h.1.2.2.2.2.1 _ hini) (src := a0) (dst := a) (cs := vp_cell g.2.2.1 (N0, .inl (I a0))) (cd := vp_cell g.2.2.1 (N1, .inl (I a))) (srcPos := 0) (destPos := 0) (n := nI k) (by rw [hT]; exact hc0) (by rw [hT]; exact hc1)
    (fun _ h => by cases h) (fun _ h => by cases h) (fun h => by cases h) (fun h => by cases h) hkc0 hkc1 hkk0 hkk1 (by simp [refKind]) (by decide) (by decide) nk
    (by rw [hti, z0]; show ¬ _ > ((arrV g.2.2.1 N0 (fun j => .int (I a0 j))).slots.size : Int); rw [arrV_size]; omega)
    (by rw [hti, z0]; show ¬ _ > ((arrV g.2.2.1 N1 (fun j => .int (I a j))).slots.size : Int); rw [arrV_size]; omega)
    (fun vm₁ _ i hi => by
      rw [hcl] at hi
      have e : (vp_cell g.2.2.1 (N0, .inl (I a0))).slots.getD ((0 : Int32).toNatClampNeg + i) .null = .int (I a0 i) := by
        show (arrV g.2.2.1 N0 (fun j => .int (I a0 j))).slots.getD _ _ = _
        rw [hcl0, Nat.zero_add, Array.getD_eq_getD_getElem?, arrV_read _ _ (by omega)]
        rfl
      refine ⟨?_, ?_⟩
      · rw [e]; rfl
      · rw [e]; exact trivial)
    (g := F0 m pc ls (.int (nI k) :: .int 0 :: .ref a :: .int 0 :: .ref a0 :: st)) rfl (h.2.2.2.2.1.trans h.1.2.2.1.symm) (rest := st) rfl (by rw [hb]; exact hd) hR.1 (by show 2 * 0 + _ + _ ≤ _; omega)
  have e1 : copied (vp_cell g.2.2.1 (N0, .inl (I a0))) (vp_cell g.2.2.1 (N1, .inl (I a))) 0 0 (nI k) = vp_cell g.2.2.1 (N1, .inl (va_cpy (I a0) (I a) 0 0 k)) := by
    have := va_copied (fun z => .int z) g.2.2.1 g.2.2.1 (I a0) (I a) (n0 := N0) (n1 := N1) (sp := 0) (dp := 0) (n := k) (by omega)
    show (vp_cell g.2.2.1 (N1, .inl (I a))).storeRun (0 : Int32).toNatClampNeg ((vp_cell g.2.2.1 (N0, .inl (I a0))).stretch (0 : Int32).toNatClampNeg (nI k).toNatClampNeg) = _
    rw [hcl0, hcl]
    exact this
  rw [e1] at X' step
  have hlt : a < H.size := (Array.getElem?_eq_some_iff.mp hc1).1
  have hheap : ((T.setVm vm').setCell a (vp_cell g.2.2.1 (N1, .inl (va_cpy (I a0) (I a) 0 0 k)))).heap = H.setIfInBounds a (vp_cell g.2.2.1 (N1, .inl (va_cpy (I a0) (I a) 0 0 k))) := by rw [← hT]; rfl
  have oq : ∀ q : Nat, q ≠ a → (H.setIfInBounds a (vp_cell g.2.2.1 (N1, .inl (va_cpy (I a0) (I a) 0 0 k))))[q]? = H[q]? := fun q hq => by simp [Array.getElem?_setIfInBounds, Ne.symm hq]
  have hP1 : va_P g.2.1 vwCl ((kW g σ I).set q1 (a, kE g.2.2.1 g.2.2.2.1 (σ.2.1 a) (σ.2.2 a) (va_cpy (I a0) (I a) 0 0 k))) (H.setIfInBounds a (vp_cell g.2.2.1 (N1, .inl (va_cpy (I a0) (I a) 0 0 k)))) := by
    have e4 : kE g.2.2.1 g.2.2.2.1 (σ.2.1 a) (σ.2.2 a) (va_cpy (I a0) (I a) 0 0 k) = .inl (g.2.2.1, N1, .inl (va_cpy (I a0) (I a) 0 0 k)) := by simp only [kE, hs]; rfl
    rw [e4]
    exact hP.set kD hq1 (show (H.setIfInBounds a _)[a]? = some _ by simp [Array.getElem?_setIfInBounds, hlt]) oq
  rw [kArrCopyHeap ha hq0] at hP1
  obtain ⟨t, a1, b1⟩ := kk p e s m args below meth c _ _ ls ⟨h.1, h.2.1, ⟨by simpa using h.2.2.1.1, h.2.2.1.2.1, hP1, hK⟩, ⟨by simp; exact hS.1, fun q g1 g2 => by
      rw [oq q (fun e => g2 (by rw [e]; exact ha.1))]
      exact hS.2.1 q g1 g2, fun q hq => by
      rcases List.mem_append.mp hq with h3 | h3
      · exact hS.2.2 q h3
      · obtain ⟨z, -, hz⟩ := List.mem_map.mp h3
        rw [← hz]
        exact ha.1⟩, h.2.2.2.2⟩ _ hheap X'
  exact ⟨t, step t a1, b1⟩
theorem w_copyS {i : Nat} {x : Int32} {a j N1 : Nat} {k : Nat} (hj : j < 3) (hk0 : k ≤ 3) (ha : kB g ≤ a ∧ a < σ.1) (hs : σ.2.1 a = (100, N1)) (hk1 : k ≤ N1) (hN1 : N1 < 2 ^ 31) (hx : x = nI k) (hl : Cond.methodLink μ.1.cls i arraycopyName ∈ tblG) (hnat : Cond.native arraycopyName ∈ tblG) (hstat : Cond.static arraycopyName ∈ tblG) (hini : Cond.initialized "java/lang/System" ∈ tblG) (hR : 1 ≤ R.frames ∧ (st.map fun v => v.category).sum + (nativeFrameWords "java/lang/System" "arraycopy" 5 + 11) ≤ R.locals) (hd : decode μ.2.1 pc = .ok (.invokestatic i, 3)) (kk : wp g μ R E Q n σ (va_up I a (va_cpy (fun z => kSv j z) (I a) 0 0 k)) (pc + 3) loc st) : wp g μ R E Q n σ I pc loc (.int x :: .int 0 :: .ref a :: .int 0 :: .ref (g.2.2.2.2.2 j) :: st) := by
  intro p e s m args below meth c H locs ls h
  obtain ⟨q1, hq1⟩ := kIn (I := I) ha
  have hq0 := hq1
  rw [kEi hs] at hq1
  subst hx
  have hP := h.2.2.1.2.2.1
  have hK := h.2.2.1.2.2.2
  have hS := h.2.2.2.1
  have hcl : (nI k).toNatClampNeg = k := nI_clamp (by omega)
  have hcl0 : (0 : Int32).toNatClampNeg = 0 := rfl
  have hti : (nI k).toInt = (k : Int) := nI_toInt (by omega)
  have nk : ¬ nI k < 0 := nI_pos (by omega)
  have z0 : (0 : Int32).toInt = 0 := rfl
  obtain ⟨cell, t1, t2, t3, t4, t5, t6, t7⟩ := (h.1.2.2.2.2.2.2.2.2.1 j hj).2
  have hc0 : H[g.2.2.2.2.2 j]? = some cell := by rw [hS.2.1 _ (Array.getElem?_eq_some_iff.mp t1).1 t7]; exact t1
  obtain ⟨hk0', kc0, hkc0, cm0, hkk0⟩ := t2
  have hc1 : H[a]? = some (vp_cell g.2.2.1 (N1, .inl (I a))) := hP q1 _ hq1
  obtain ⟨-, kc1, hkc1, cm1, hkk1⟩ := (hK.2 0 _ rfl).1 N1 (fun j => .int (I a j))
  intro T hT X
  have hb := h.1.2.1
  obtain ⟨vm', X', step⟩ := X.arraycopy h.1.1 h.1.2.2.2.1 (h.1.2.2.2.2.1 _ hl) (h.1.2.2.2.2.1 _ hnat) (h.1.2.2.2.2.1 _ hstat) (h.1.2.2.2.2.1 _ hini) (src := g.2.2.2.2.2 j) (dst := a) (cs := cell) (cd := vp_cell g.2.2.1 (N1, .inl (I a))) (srcPos := 0) (destPos := 0) (n := nI k) (by rw [hT]; exact hc0) (by rw [hT]; exact hc1)
    hk0' (fun _ h => by cases h) t3 (fun h => by cases h) hkc0 hkc1 hkk0 hkk1 (by simp [refKind]) (by decide) (by decide) nk
    (by rw [hti, z0]; omega)
    (by rw [hti, z0]; show ¬ _ > ((arrV g.2.2.1 N1 (fun j => .int (I a j))).slots.size : Int); rw [arrV_size]; omega)
    (fun vm₁ _ i hi => by
      rw [hcl] at hi
      have e : cell.slots.getD ((0 : Int32).toNatClampNeg + i) .null = .int (kSv j i) := by
        rw [hcl0, Nat.zero_add, Array.getD_eq_getD_getElem?, t6 i (by omega)]
        rfl
      refine ⟨?_, ?_⟩
      · rw [e]; rfl
      · rw [e]; exact trivial)
    (g := F0 m pc ls (.int (nI k) :: .int 0 :: .ref a :: .int 0 :: .ref (g.2.2.2.2.2 j) :: st)) rfl (h.2.2.2.2.1.trans h.1.2.2.1.symm) (rest := st) rfl (by rw [hb]; exact hd) hR.1 (by show 2 * 0 + _ + _ ≤ _; omega)
  have e1 : copied cell (vp_cell g.2.2.1 (N1, .inl (I a))) 0 0 (nI k) = vp_cell g.2.2.1 (N1, .inl (va_cpy (fun z => kSv j z) (I a) 0 0 k)) := by
    have e0 : copied cell (vp_cell g.2.2.1 (N1, .inl (I a))) 0 0 (nI k) = copied (vp_cell g.2.2.1 (3, .inl (fun z => kSv j z))) (vp_cell g.2.2.1 (N1, .inl (I a))) 0 0 (nI k) := by
      show (vp_cell g.2.2.1 (N1, .inl (I a))).storeRun (0 : Int32).toNatClampNeg (cell.stretch (0 : Int32).toNatClampNeg (nI k).toNatClampNeg) = (vp_cell g.2.2.1 (N1, .inl (I a))).storeRun (0 : Int32).toNatClampNeg ((vp_cell g.2.2.1 (3, .inl (fun z => kSv j z))).stretch (0 : Int32).toNatClampNeg (nI k).toNatClampNeg)
      congr 1
      rw [hcl0, hcl]
      unfold Cell.stretch
      apply List.map_congr_left
      intro i hi
      have hi' : i < k := List.mem_range.mp hi
      rw [Nat.zero_add, Array.getD_eq_getD_getElem?, t6 i (by omega), Array.getD_eq_getD_getElem?]
      show _ = ((arrV g.2.2.1 3 (fun z => .int (kSv j z))).slots[i]?).getD .null
      rw [arrV_read _ _ (by omega)]
    rw [e0]
    have := va_copied (fun z => .int z) g.2.2.1 g.2.2.1 (fun z => kSv j z) (I a) (n0 := 3) (n1 := N1) (sp := 0) (dp := 0) (n := k) (by omega)
    show (vp_cell g.2.2.1 (N1, .inl (I a))).storeRun (0 : Int32).toNatClampNeg ((vp_cell g.2.2.1 (3, .inl (fun z => kSv j z))).stretch (0 : Int32).toNatClampNeg (nI k).toNatClampNeg) = _
    rw [hcl0, hcl]
    exact this
  rw [e1] at X' step
  have hlt : a < H.size := (Array.getElem?_eq_some_iff.mp hc1).1
  have hheap : ((T.setVm vm').setCell a (vp_cell g.2.2.1 (N1, .inl (va_cpy (fun z => kSv j z) (I a) 0 0 k)))).heap = H.setIfInBounds a (vp_cell g.2.2.1 (N1, .inl (va_cpy (fun z => kSv j z) (I a) 0 0 k))) := by rw [← hT]; rfl
  have oq : ∀ q : Nat, q ≠ a → (H.setIfInBounds a (vp_cell g.2.2.1 (N1, .inl (va_cpy (fun z => kSv j z) (I a) 0 0 k))))[q]? = H[q]? := fun q hq => by simp [Array.getElem?_setIfInBounds, Ne.symm hq]
  have hP1 : va_P g.2.1 vwCl ((kW g σ I).set q1 (a, kE g.2.2.1 g.2.2.2.1 (σ.2.1 a) (σ.2.2 a) (va_cpy (fun z => kSv j z) (I a) 0 0 k))) (H.setIfInBounds a (vp_cell g.2.2.1 (N1, .inl (va_cpy (fun z => kSv j z) (I a) 0 0 k)))) := by
    have e4 : kE g.2.2.1 g.2.2.2.1 (σ.2.1 a) (σ.2.2 a) (va_cpy (fun z => kSv j z) (I a) 0 0 k) = .inl (g.2.2.1, N1, .inl (va_cpy (fun z => kSv j z) (I a) 0 0 k)) := by simp only [kE, hs]; rfl
    rw [e4]
    exact hP.set kD hq1 (show (H.setIfInBounds a _)[a]? = some _ by simp [Array.getElem?_setIfInBounds, hlt]) oq
  rw [kArrCopyHeap ha hq0] at hP1
  obtain ⟨t, a1, b1⟩ := kk p e s m args below meth c _ _ ls ⟨h.1, h.2.1, ⟨by simpa using h.2.2.1.1, h.2.2.1.2.1, hP1, hK⟩, ⟨by simp; exact hS.1, fun q g1 g2 => by
      rw [oq q (fun e => g2 (by rw [e]; exact ha.1))]
      exact hS.2.1 q g1 g2, fun q hq => by
      rcases List.mem_append.mp hq with h3 | h3
      · exact hS.2.2 q h3
      · obtain ⟨z, -, hz⟩ := List.mem_map.mp h3
        rw [← hz]
        exact ha.1⟩, h.2.2.2.2⟩ _ hheap X'
  exact ⟨t, step t a1, b1⟩
theorem kW_push {g : kG} {N : Nat} {sh : Nat → Nat × Nat} {G : Nat → Nat → Option Nat} {I : kI} {h9 : Nat × Nat} {r : Nat → Option Nat} {i : Nat → Int32} (hN : kB g ≤ N) : kW g (N, sh, G) I ++ [(N, kE g.2.2.1 g.2.2.2.1 h9 r i)] = kW g (N + 1, va_up sh N h9, va_up G N r) (va_up I N i) := by
  have hno : N ∉ kL g (N, sh, G) := by simp only [kL, List.mem_range'_1]; omega
  simp only [kW]
  rw [va_pl_push hno]
  have hL : kL g (N, sh, G) ++ [N] = kL g (N + 1, va_up sh N h9, va_up G N r) := by
    simp only [kL]
    rw [show N + 1 - kB g = (N - kB g) + 1 by omega, List.range'_1_concat, show kB g + (N - kB g) = N by omega]
  rw [hL]
  congr 1
  funext b
  by_cases h : b = N
  · subst h; simp [va_up, kF]
  · simp [va_up, kF, h]
theorem w_new {ci i k : Nat} {sh : Nat → Nat × Nat} {G : Nat → Nat → Option Nat} {N : Nat} {C : String} {T : u_T} {ty : Nat → FieldType} (hci : kCI ci C T ty k) (hz : kfv (fun _ => none) (fun _ => 0) (kft ci) 0 = (List.range k).map (fun j => defaultValue (ty j))) (hcl : Cond.classLink μ.1.cls i C ∈ tblG) (hins : Cond.instantiable C k ∈ tblG) (hini : Cond.initialized C ∈ tblG) (hn : n.1 + 1 ≤ R.cells ∧ n.2 + k ≤ R.slots) (hd : decode μ.2.1 pc = .ok (.new i, 3)) (kk : wp g μ R E Q (n.1 + 1, n.2 + k) (N + 1, va_up sh N (ci, 0), va_up G N (fun _ => none)) (va_up I N (fun _ => 0)) (pc + 3) loc (.ref N :: st)) : wp g μ R E Q n (N, sh, G) I pc loc st := by
  intro p e s m args below meth c H locs ls h
  have hK := h.2.2.1.2.2.2
  have hP := h.2.2.1.2.2.1
  have hts := h.1.2.2.2.2.1
  have hS := h.2.2.2.1
  have hKn := hK.1 ci _ hci.1
  have hsz : H.size = N := h.2.2.1.1
  have hBN : kB g ≤ N := h.2.2.1.2.1
  refine W.newcK h.1.1 h.1.2.1 h.1.2.2.2.1 (hts _ hcl) (hts _ hins) (hts _ hini) rfl hd hn.1 hn.2 hKn.2.1 rfl fun H1 kC hkC e1 z1 o1 => ?_
  rw [hsz] at e1 z1 o1 ⊢
  have hk : ∀ (k : Nat) (x : Nat × va_E), (kW g (N, sh, G) I)[k]? = some x → H1[x.1]? = H[x.1]? := fun k x hx => o1 x.1 (hsz ▸ (hP k x hx).lt)
  have hP1 : va_P g.2.1 vwCl (kW g (N, sh, G) I ++ [(N, kE g.2.2.1 g.2.2.2.1 (ci, 0) (fun _ => none) (fun _ => 0))]) H1 := (hP.kept hk).app (fun k' x hx => by
    have hz2 : k' < 1 := (List.getElem?_eq_some_iff.mp hx).1
    rw [show k' = 0 by omega] at hx
    cases hx
    have e4 : kE g.2.2.1 g.2.2.2.1 (ci, 0) (fun _ => none) (fun _ => 0) = .inr (ci, kfv (fun _ => none) (fun _ => 0) (kft ci) 0) := by simp only [kE, if_neg hci.2.2.2.2.2.1, if_neg hci.2.2.2.2.2.2]
    rw [e4]
    refine ⟨_, hci.1, (u_born ty hts hci.2.1 hKn hkC e1 hci.2.2.1).to (fun j hj => ?_)⟩
    show defaultValue (ty j) = vp_V _ j
    unfold vp_V
    rw [hz]
    have hj' : j < k := hj
    simp [hj'])
  rw [kW_push hBN] at hP1
  exact kk p e s m args below meth c H1 locs ls ⟨h.1, h.2.1, ⟨z1, Nat.le_succ_of_le hBN, hP1, hK⟩, ⟨Nat.le_trans hS.1 (by omega), fun x h1 h2 => (o1 x (by have := hS.1; omega)).trans (hS.2.1 x h1 h2), hS.2.2⟩, h.2.2.2.2⟩
theorem w_newai {k : Nat} {x : Int32} {sh : Nat → Nat × Nat} {G : Nat → Nat → Option Nat} {N : Nat} (hx : x = nI k) (hk : k < 2 ^ 20) (ha : Cond.arrayClass .int ∈ tblG) (hn : n.1 + 1 ≤ R.cells ∧ n.2 + k ≤ R.slots) (hd : decode μ.2.1 pc = .ok (.newarray .int, 2)) (kk : wp g μ R E Q (n.1 + 1, n.2 + k) (N + 1, va_up sh N (100, k), va_up G N (fun _ => none)) (va_up I N (fun _ => 0)) (pc + 2) loc (.ref N :: st)) : wp g μ R E Q n (N, sh, G) I pc loc (.int x :: st) := by
  intro p e s m args below meth c H locs ls h
  have hK := h.2.2.1.2.2.2
  have hP := h.2.2.1.2.2.1
  have hts := h.1.2.2.2.2.1
  have hS := h.2.2.2.1
  have hsz : H.size = N := h.2.2.1.1
  have hBN : kB g ≤ N := h.2.2.1.2.1
  subst hx
  have hcl : (nI k).toNatClampNeg = k := nI_clamp (by omega)
  have hbt : k * componentBytes (newarray.typeOf .int) ≤ 536870912 := by
    have h4 : componentBytes (newarray.typeOf .int) ≤ 4 := by decide
    have := Nat.mul_le_mul_left k h4
    omega
  refine va_newaK (atype := .int) h.1.1 h.1.2.1 (hts _ ha) rfl hd rfl (nI_pos (by omega)) hcl hbt hn.1 hn.2 rfl fun H1 cA e1 z1 o1 hAr hNm => ?_
  rw [hsz] at e1 z1 o1 ⊢
  have hcA : cA = g.2.2.1 := by
    have h2 := (hK.2 0 _ rfl).2
    have h3 : s.vm.findClass ("[" ++ (newarray.typeOf .int).toString) = some g.2.2.1 := h2
    exact Option.some.inj (hNm.symm.trans h3)
  subst hcA
  have hk : ∀ (k : Nat) (x : Nat × va_E), (kW g (N, sh, G) I)[k]? = some x → H1[x.1]? = H[x.1]? := fun k x hx => o1 x.1 (hsz ▸ (hP k x hx).lt)
  have hP1 : va_P g.2.1 vwCl (kW g (N, sh, G) I ++ [(N, kE g.2.2.1 g.2.2.2.1 (100, k) (fun _ => none) (fun _ => 0))]) H1 := (hP.kept hk).app (fun k' x hx => by
    have hz : k' < 1 := (List.getElem?_eq_some_iff.mp hx).1
    rw [show k' = 0 by omega] at hx
    cases hx
    show H1[N]? = some (vp_cell _ _)
    exact e1)
  rw [kW_push hBN] at hP1
  exact kk p e s m args below meth c H1 locs ls ⟨h.1, h.2.1, ⟨z1, Nat.le_succ_of_le hBN, hP1, hK⟩, ⟨Nat.le_trans hS.1 (by omega), fun x h1 h2 => (o1 x (by have := hS.1; omega)).trans (hS.2.1 x h1 h2), hS.2.2⟩, h.2.2.2.2⟩
theorem w_newac {k : Nat} {x : Int32} {sh : Nat → Nat × Nat} {G : Nat → Nat → Option Nat} {N : Nat} (hx : x = nI k) (hk : k < 2 ^ 20) (ha : Cond.arrayClass .char ∈ tblG) (hn : n.1 + 1 ≤ R.cells ∧ n.2 + k ≤ R.slots) (hd : decode μ.2.1 pc = .ok (.newarray .char, 2)) (kk : wp g μ R E Q (n.1 + 1, n.2 + k) (N + 1, va_up sh N (101, k), va_up G N (fun _ => none)) (va_up I N (fun _ => 0)) (pc + 2) loc (.ref N :: st)) : wp g μ R E Q n (N, sh, G) I pc loc (.int x :: st) := by
  intro p e s m args below meth c H locs ls h
  have hK := h.2.2.1.2.2.2
  have hP := h.2.2.1.2.2.1
  have hts := h.1.2.2.2.2.1
  have hS := h.2.2.2.1
  have hsz : H.size = N := h.2.2.1.1
  have hBN : kB g ≤ N := h.2.2.1.2.1
  subst hx
  have hcl : (nI k).toNatClampNeg = k := nI_clamp (by omega)
  have hbt : k * componentBytes (newarray.typeOf .char) ≤ 536870912 := by
    have h4 : componentBytes (newarray.typeOf .char) ≤ 4 := by decide
    have := Nat.mul_le_mul_left k h4
    omega
  refine va_newaK (atype := .char) h.1.1 h.1.2.1 (hts _ ha) rfl hd rfl (nI_pos (by omega)) hcl hbt hn.1 hn.2 rfl fun H1 cA e1 z1 o1 hAr hNm => ?_
  rw [hsz] at e1 z1 o1 ⊢
  have hcA : cA = g.2.2.2.1 := by
    have h2 := (hK.2 1 _ rfl).2
    have h3 : s.vm.findClass ("[" ++ (newarray.typeOf .char).toString) = some g.2.2.2.1 := h2
    exact Option.some.inj (hNm.symm.trans h3)
  subst hcA
  have hk : ∀ (k : Nat) (x : Nat × va_E), (kW g (N, sh, G) I)[k]? = some x → H1[x.1]? = H[x.1]? := fun k x hx => o1 x.1 (hsz ▸ (hP k x hx).lt)
  have hP1 : va_P g.2.1 vwCl (kW g (N, sh, G) I ++ [(N, kE g.2.2.1 g.2.2.2.1 (101, k) (fun _ => none) (fun _ => 0))]) H1 := (hP.kept hk).app (fun k' x hx => by
    have hz : k' < 1 := (List.getElem?_eq_some_iff.mp hx).1
    rw [show k' = 0 by omega] at hx
    cases hx
    show H1[N]? = some (vp_cell _ _)
    exact e1)
  rw [kW_push hBN] at hP1
  exact kk p e s m args below meth c H1 locs ls ⟨h.1, h.2.1, ⟨z1, Nat.le_succ_of_le hBN, hP1, hK⟩, ⟨Nat.le_trans hS.1 (by omega), fun x h1 h2 => (o1 x (by have := hS.1; omega)).trans (hS.2.1 x h1 h2), hS.2.2⟩, h.2.2.2.2⟩
def kX (b L : Nat) (xs : Nat → Int32) (B : Nat) (s : State) : Prop := va_X b L xs s s.heap ∧ b < s.heap.size ∧ b < B
theorem w_sld {b L j : Nat} {xs : Nat → Int32} {x : Int32} (hE : ∀ s, E s → kX b L xs (kB g) s) (hx : x = nI j) (hj : j < L) (hL : L < 2 ^ 31) (hd : decode μ.2.1 pc = .ok (.iaload, 1)) (kk : wp g μ R E Q n σ I (pc + 1) loc (.int (xs j) :: st)) : wp g μ R E Q n σ I pc loc (.int x :: .ref b :: st) := by
  intro p e s m args below meth c H locs ls h
  obtain ⟨h1, h2, h3⟩ := hE s h.2.1
  subst hx
  have k2 := kk p e s m args below meth c H locs ls h
  rw [show xs j = xs (nI j).toNatClampNeg by rw [nI_clamp (by omega)]] at k2
  exact va_sld h.1.1 h.1.2.1 h1 h2 (by simp [kA]; exact h3) h.2.2.2.1 (vp_in_nI hj hL) hd k2
theorem w_slen {b L : Nat} {xs : Nat → Int32} (hE : ∀ s, E s → kX b L xs (kB g) s) (hd : decode μ.2.1 pc = .ok (.arraylength, 1)) (kk : wp g μ R E Q n σ I (pc + 1) loc (.int (nI L) :: st)) : wp g μ R E Q n σ I pc loc (.ref b :: st) := by
  intro p e s m args below meth c H locs ls h
  obtain ⟨h1, h2, h3⟩ := hE s h.2.1
  exact va_slen h.1.1 h.1.2.1 h1 h2 (by simp [kA]; exact h3) h.2.2.2.1 hd (kk p e s m args below meth c H locs ls h)
end KWQ
end
section
section KWR
variable {g : kG} {μ : kM} {R : Room} {E : State → Prop} {Q : kP} {n : Nat × Nat} {σ : kS} {I : kI} {pc : Nat} {loc : List (Option Value)} {st : List Value}
def qI (r : Int32) (σ0 : kS) (I0 : kI) : kP := fun v σ I => v = some (.int r) ∧ σ = σ0 ∧ I = I0
def qV (σ0 : kS) (I0 : kI) : kP := fun v σ I => v = none ∧ σ = σ0 ∧ I = I0
def qEI (σ0 : kS) (P : Int32 → kI → Prop) : kP := fun v σ I => ∃ r, v = some (.int r) ∧ σ = σ0 ∧ P r I
def qEV (σ0 : kS) (P : kI → Prop) : kP := fun v σ I => v = none ∧ σ = σ0 ∧ P I
def qRI (σ0 : kS) (P : Int32 → (Nat → Nat → Option Nat) → kI → Prop) : kP := fun v σ I => ∃ r, v = some (.int r) ∧ σ.1 = σ0.1 ∧ σ.2.1 = σ0.2.1 ∧ P r σ.2.2 I
def qRV (σ0 : kS) (P : (Nat → Nat → Option Nat) → kI → Prop) : kP := fun v σ I => v = none ∧ σ.1 = σ0.1 ∧ σ.2.1 = σ0.2.1 ∧ P σ.2.2 I
theorem ctMono {as : List Value} {Q' : kP} (h : ∀ v σ I, Q v σ I → Q' v σ I) (c : ct g μ R as σ I Q) : ct g μ R as σ I Q' := by
  intro p e h1 h2 h3 s m args below hf happ hP hK
  obtain ⟨k, o, r1, r2, r3, ⟨⟨v, σ', I', c1, c2, c3⟩, r4⟩⟩ := c p e h1 h2 h3 s m args below hf happ hP hK
  exact ⟨k, o, r1, r2, r3, ⟨⟨v, σ', I', c1, h _ _ _ c2, c3⟩, r4⟩⟩
theorem w_callV_I {μ' : kM} {R' : Room} {as stk : List Value} {i : Nat} {b ci : Nat} {T : u_T} {ty : Nat → FieldType} {N : Nat} {r : Int32} {I0 : kI} (hct : ct g μ' R' (.ref b :: as) σ I (qI r σ I0)) (hok : kOK μ' as.length) (hin : Cond.instanceMethod μ'.1 ∈ tblG) (hse : Cond.selects μ'.1.cls μ'.1 μ'.1 ∈ tblG) (hci : kCI ci μ'.1.cls T ty N) (hb : kB g ≤ b ∧ b < σ.1) (hs : σ.2.1 b = (ci, 0)) (hl : Cond.methodLink μ.1.cls i μ'.1 ∈ tblG) (hR : R'.frames + 1 ≤ R.frames ∧ 8 + (μ'.2.2.1 + 11) + R'.locals ≤ R.locals) (hz : R'.cells = 0 ∧ R'.slots = 0) (hnn : n.1 ≤ R.cells ∧ n.2 ≤ R.slots) (hstk : stk = as.reverse ++ .ref b :: st) (hW : (st.map fun v => v.category).sum ≤ 8) (hd : decode μ.2.1 pc = .ok (.invokevirtual i, 3)) (kk : wp g μ R E Q n σ I0 (pc + 3) loc (.int r :: st)) : wp g μ R E Q n σ I pc loc stk := by
  refine w_callV hct hok hin hse hci hb hs hl ⟨hR, by rw [hz.1]; exact hnn.1, by rw [hz.2]; exact hnn.2⟩ hstk hW hd (fun v σ' I' hq => ?_)
  obtain ⟨rfl, rfl, rfl⟩ := hq
  rw [hz.1, hz.2, Nat.add_zero, Nat.add_zero]
  exact kk
theorem w_callV_V {μ' : kM} {R' : Room} {as stk : List Value} {i : Nat} {b ci : Nat} {T : u_T} {ty : Nat → FieldType} {N : Nat} {I0 : kI} (hct : ct g μ' R' (.ref b :: as) σ I (qV σ I0)) (hok : kOK μ' as.length) (hin : Cond.instanceMethod μ'.1 ∈ tblG) (hse : Cond.selects μ'.1.cls μ'.1 μ'.1 ∈ tblG) (hci : kCI ci μ'.1.cls T ty N) (hb : kB g ≤ b ∧ b < σ.1) (hs : σ.2.1 b = (ci, 0)) (hl : Cond.methodLink μ.1.cls i μ'.1 ∈ tblG) (hR : R'.frames + 1 ≤ R.frames ∧ 8 + (μ'.2.2.1 + 11) + R'.locals ≤ R.locals) (hz : R'.cells = 0 ∧ R'.slots = 0) (hnn : n.1 ≤ R.cells ∧ n.2 ≤ R.slots) (hstk : stk = as.reverse ++ .ref b :: st) (hW : (st.map fun v => v.category).sum ≤ 8) (hd : decode μ.2.1 pc = .ok (.invokevirtual i, 3)) (kk : wp g μ R E Q n σ I0 (pc + 3) loc st) : wp g μ R E Q n σ I pc loc stk := by
  refine w_callV hct hok hin hse hci hb hs hl ⟨hR, by rw [hz.1]; exact hnn.1, by rw [hz.2]; exact hnn.2⟩ hstk hW hd (fun v σ' I' hq => ?_)
  obtain ⟨rfl, rfl, rfl⟩ := hq
  rw [hz.1, hz.2, Nat.add_zero, Nat.add_zero]
  exact kk
theorem w_callV_EI {μ' : kM} {R' : Room} {as stk : List Value} {i : Nat} {b ci : Nat} {T : u_T} {ty : Nat → FieldType} {N : Nat} {P : Int32 → kI → Prop} (hct : ct g μ' R' (.ref b :: as) σ I (qEI σ P)) (hok : kOK μ' as.length) (hin : Cond.instanceMethod μ'.1 ∈ tblG) (hse : Cond.selects μ'.1.cls μ'.1 μ'.1 ∈ tblG) (hci : kCI ci μ'.1.cls T ty N) (hb : kB g ≤ b ∧ b < σ.1) (hs : σ.2.1 b = (ci, 0)) (hl : Cond.methodLink μ.1.cls i μ'.1 ∈ tblG) (hR : R'.frames + 1 ≤ R.frames ∧ 8 + (μ'.2.2.1 + 11) + R'.locals ≤ R.locals) (hz : R'.cells = 0 ∧ R'.slots = 0) (hnn : n.1 ≤ R.cells ∧ n.2 ≤ R.slots) (hstk : stk = as.reverse ++ .ref b :: st) (hW : (st.map fun v => v.category).sum ≤ 8) (hd : decode μ.2.1 pc = .ok (.invokevirtual i, 3)) (kk : ∀ r I0, P r I0 → wp g μ R E Q n σ I0 (pc + 3) loc (.int r :: st)) : wp g μ R E Q n σ I pc loc stk := by
  refine w_callV hct hok hin hse hci hb hs hl ⟨hR, by rw [hz.1]; exact hnn.1, by rw [hz.2]; exact hnn.2⟩ hstk hW hd (fun v σ' I' hq => ?_)
  obtain ⟨r, rfl, rfl, hp⟩ := hq
  rw [hz.1, hz.2, Nat.add_zero, Nat.add_zero]
  exact kk r _ hp
theorem w_callV_EV {μ' : kM} {R' : Room} {as stk : List Value} {i : Nat} {b ci : Nat} {T : u_T} {ty : Nat → FieldType} {N : Nat} {P : kI → Prop} (hct : ct g μ' R' (.ref b :: as) σ I (qEV σ P)) (hok : kOK μ' as.length) (hin : Cond.instanceMethod μ'.1 ∈ tblG) (hse : Cond.selects μ'.1.cls μ'.1 μ'.1 ∈ tblG) (hci : kCI ci μ'.1.cls T ty N) (hb : kB g ≤ b ∧ b < σ.1) (hs : σ.2.1 b = (ci, 0)) (hl : Cond.methodLink μ.1.cls i μ'.1 ∈ tblG) (hR : R'.frames + 1 ≤ R.frames ∧ 8 + (μ'.2.2.1 + 11) + R'.locals ≤ R.locals) (hz : R'.cells = 0 ∧ R'.slots = 0) (hnn : n.1 ≤ R.cells ∧ n.2 ≤ R.slots) (hstk : stk = as.reverse ++ .ref b :: st) (hW : (st.map fun v => v.category).sum ≤ 8) (hd : decode μ.2.1 pc = .ok (.invokevirtual i, 3)) (kk : ∀ I0, P I0 → wp g μ R E Q n σ I0 (pc + 3) loc st) : wp g μ R E Q n σ I pc loc stk := by
  refine w_callV hct hok hin hse hci hb hs hl ⟨hR, by rw [hz.1]; exact hnn.1, by rw [hz.2]; exact hnn.2⟩ hstk hW hd (fun v σ' I' hq => ?_)
  obtain ⟨rfl, rfl, hp⟩ := hq
  rw [hz.1, hz.2, Nat.add_zero, Nat.add_zero]
  exact kk _ hp
theorem w_callV_RI {μ' : kM} {R' : Room} {as stk : List Value} {i : Nat} {b ci : Nat} {T : u_T} {ty : Nat → FieldType} {N : Nat} {P : Int32 → (Nat → Nat → Option Nat) → kI → Prop} (hct : ct g μ' R' (.ref b :: as) σ I (qRI σ P)) (hok : kOK μ' as.length) (hin : Cond.instanceMethod μ'.1 ∈ tblG) (hse : Cond.selects μ'.1.cls μ'.1 μ'.1 ∈ tblG) (hci : kCI ci μ'.1.cls T ty N) (hb : kB g ≤ b ∧ b < σ.1) (hs : σ.2.1 b = (ci, 0)) (hl : Cond.methodLink μ.1.cls i μ'.1 ∈ tblG) (hR : R'.frames + 1 ≤ R.frames ∧ 8 + (μ'.2.2.1 + 11) + R'.locals ≤ R.locals) (hz : R'.cells = 0 ∧ R'.slots = 0) (hnn : n.1 ≤ R.cells ∧ n.2 ≤ R.slots) (hstk : stk = as.reverse ++ .ref b :: st) (hW : (st.map fun v => v.category).sum ≤ 8) (hd : decode μ.2.1 pc = .ok (.invokevirtual i, 3)) (kk : ∀ r G0 I0, P r G0 I0 → wp g μ R E Q n (σ.1, σ.2.1, G0) I0 (pc + 3) loc (.int r :: st)) : wp g μ R E Q n σ I pc loc stk := by
  refine w_callV hct hok hin hse hci hb hs hl ⟨hR, by rw [hz.1]; exact hnn.1, by rw [hz.2]; exact hnn.2⟩ hstk hW hd (fun v σ' I' hq => ?_)
  obtain ⟨r, rfl, h1, h2, hp⟩ := hq
  rw [hz.1, hz.2, Nat.add_zero, Nat.add_zero]
  have := kk r _ _ hp
  rw [← h1, ← h2] at this
  exact this
theorem w_callV_RV {μ' : kM} {R' : Room} {as stk : List Value} {i : Nat} {b ci : Nat} {T : u_T} {ty : Nat → FieldType} {N : Nat} {P : (Nat → Nat → Option Nat) → kI → Prop} (hct : ct g μ' R' (.ref b :: as) σ I (qRV σ P)) (hok : kOK μ' as.length) (hin : Cond.instanceMethod μ'.1 ∈ tblG) (hse : Cond.selects μ'.1.cls μ'.1 μ'.1 ∈ tblG) (hci : kCI ci μ'.1.cls T ty N) (hb : kB g ≤ b ∧ b < σ.1) (hs : σ.2.1 b = (ci, 0)) (hl : Cond.methodLink μ.1.cls i μ'.1 ∈ tblG) (hR : R'.frames + 1 ≤ R.frames ∧ 8 + (μ'.2.2.1 + 11) + R'.locals ≤ R.locals) (hz : R'.cells = 0 ∧ R'.slots = 0) (hnn : n.1 ≤ R.cells ∧ n.2 ≤ R.slots) (hstk : stk = as.reverse ++ .ref b :: st) (hW : (st.map fun v => v.category).sum ≤ 8) (hd : decode μ.2.1 pc = .ok (.invokevirtual i, 3)) (kk : ∀ G0 I0, P G0 I0 → wp g μ R E Q n (σ.1, σ.2.1, G0) I0 (pc + 3) loc st) : wp g μ R E Q n σ I pc loc stk := by
  refine w_callV hct hok hin hse hci hb hs hl ⟨hR, by rw [hz.1]; exact hnn.1, by rw [hz.2]; exact hnn.2⟩ hstk hW hd (fun v σ' I' hq => ?_)
  obtain ⟨rfl, h1, h2, hp⟩ := hq
  rw [hz.1, hz.2, Nat.add_zero, Nat.add_zero]
  have := kk _ _ hp
  rw [← h1, ← h2] at this
  exact this
theorem w_callS_I {μ' : kM} {R' : Room} {as stk : List Value} {i : Nat} {r : Int32} {I0 : kI} (hct : ct g μ' R' as σ I (qI r σ I0)) (hok : kOK μ' as.length) (hin : Cond.static μ'.1 ∈ tblG) (hl : Cond.methodLink μ.1.cls i μ'.1 ∈ tblG) (hR : R'.frames + 1 ≤ R.frames ∧ 8 + (μ'.2.2.1 + 11) + R'.locals ≤ R.locals) (hz : R'.cells = 0 ∧ R'.slots = 0) (hnn : n.1 ≤ R.cells ∧ n.2 ≤ R.slots) (hstk : stk = as.reverse ++ st) (hW : (st.map fun v => v.category).sum ≤ 8) (hd : decode μ.2.1 pc = .ok (.invokestatic i, 3)) (kk : wp g μ R E Q n σ I0 (pc + 3) loc (.int r :: st)) : wp g μ R E Q n σ I pc loc stk := by
  refine w_callS hct hok hin hl ⟨hR, by rw [hz.1]; exact hnn.1, by rw [hz.2]; exact hnn.2⟩ hstk hW hd (fun v σ' I' hq => ?_)
  obtain ⟨rfl, rfl, rfl⟩ := hq
  rw [hz.1, hz.2, Nat.add_zero, Nat.add_zero]
  exact kk
theorem w_callS_V {μ' : kM} {R' : Room} {as stk : List Value} {i : Nat} {I0 : kI} (hct : ct g μ' R' as σ I (qV σ I0)) (hok : kOK μ' as.length) (hin : Cond.static μ'.1 ∈ tblG) (hl : Cond.methodLink μ.1.cls i μ'.1 ∈ tblG) (hR : R'.frames + 1 ≤ R.frames ∧ 8 + (μ'.2.2.1 + 11) + R'.locals ≤ R.locals) (hz : R'.cells = 0 ∧ R'.slots = 0) (hnn : n.1 ≤ R.cells ∧ n.2 ≤ R.slots) (hstk : stk = as.reverse ++ st) (hW : (st.map fun v => v.category).sum ≤ 8) (hd : decode μ.2.1 pc = .ok (.invokestatic i, 3)) (kk : wp g μ R E Q n σ I0 (pc + 3) loc st) : wp g μ R E Q n σ I pc loc stk := by
  refine w_callS hct hok hin hl ⟨hR, by rw [hz.1]; exact hnn.1, by rw [hz.2]; exact hnn.2⟩ hstk hW hd (fun v σ' I' hq => ?_)
  obtain ⟨rfl, rfl, rfl⟩ := hq
  rw [hz.1, hz.2, Nat.add_zero, Nat.add_zero]
  exact kk
theorem w_callS_EI {μ' : kM} {R' : Room} {as stk : List Value} {i : Nat} {P : Int32 → kI → Prop} (hct : ct g μ' R' as σ I (qEI σ P)) (hok : kOK μ' as.length) (hin : Cond.static μ'.1 ∈ tblG) (hl : Cond.methodLink μ.1.cls i μ'.1 ∈ tblG) (hR : R'.frames + 1 ≤ R.frames ∧ 8 + (μ'.2.2.1 + 11) + R'.locals ≤ R.locals) (hz : R'.cells = 0 ∧ R'.slots = 0) (hnn : n.1 ≤ R.cells ∧ n.2 ≤ R.slots) (hstk : stk = as.reverse ++ st) (hW : (st.map fun v => v.category).sum ≤ 8) (hd : decode μ.2.1 pc = .ok (.invokestatic i, 3)) (kk : ∀ r I0, P r I0 → wp g μ R E Q n σ I0 (pc + 3) loc (.int r :: st)) : wp g μ R E Q n σ I pc loc stk := by
  refine w_callS hct hok hin hl ⟨hR, by rw [hz.1]; exact hnn.1, by rw [hz.2]; exact hnn.2⟩ hstk hW hd (fun v σ' I' hq => ?_)
  obtain ⟨r, rfl, rfl, hp⟩ := hq
  rw [hz.1, hz.2, Nat.add_zero, Nat.add_zero]
  exact kk r _ hp
theorem w_callS_EV {μ' : kM} {R' : Room} {as stk : List Value} {i : Nat} {P : kI → Prop} (hct : ct g μ' R' as σ I (qEV σ P)) (hok : kOK μ' as.length) (hin : Cond.static μ'.1 ∈ tblG) (hl : Cond.methodLink μ.1.cls i μ'.1 ∈ tblG) (hR : R'.frames + 1 ≤ R.frames ∧ 8 + (μ'.2.2.1 + 11) + R'.locals ≤ R.locals) (hz : R'.cells = 0 ∧ R'.slots = 0) (hnn : n.1 ≤ R.cells ∧ n.2 ≤ R.slots) (hstk : stk = as.reverse ++ st) (hW : (st.map fun v => v.category).sum ≤ 8) (hd : decode μ.2.1 pc = .ok (.invokestatic i, 3)) (kk : ∀ I0, P I0 → wp g μ R E Q n σ I0 (pc + 3) loc st) : wp g μ R E Q n σ I pc loc stk := by
  refine w_callS hct hok hin hl ⟨hR, by rw [hz.1]; exact hnn.1, by rw [hz.2]; exact hnn.2⟩ hstk hW hd (fun v σ' I' hq => ?_)
  obtain ⟨rfl, rfl, hp⟩ := hq
  rw [hz.1, hz.2, Nat.add_zero, Nat.add_zero]
  exact kk _ hp
theorem w_callS_RI {μ' : kM} {R' : Room} {as stk : List Value} {i : Nat} {P : Int32 → (Nat → Nat → Option Nat) → kI → Prop} (hct : ct g μ' R' as σ I (qRI σ P)) (hok : kOK μ' as.length) (hin : Cond.static μ'.1 ∈ tblG) (hl : Cond.methodLink μ.1.cls i μ'.1 ∈ tblG) (hR : R'.frames + 1 ≤ R.frames ∧ 8 + (μ'.2.2.1 + 11) + R'.locals ≤ R.locals) (hz : R'.cells = 0 ∧ R'.slots = 0) (hnn : n.1 ≤ R.cells ∧ n.2 ≤ R.slots) (hstk : stk = as.reverse ++ st) (hW : (st.map fun v => v.category).sum ≤ 8) (hd : decode μ.2.1 pc = .ok (.invokestatic i, 3)) (kk : ∀ r G0 I0, P r G0 I0 → wp g μ R E Q n (σ.1, σ.2.1, G0) I0 (pc + 3) loc (.int r :: st)) : wp g μ R E Q n σ I pc loc stk := by
  refine w_callS hct hok hin hl ⟨hR, by rw [hz.1]; exact hnn.1, by rw [hz.2]; exact hnn.2⟩ hstk hW hd (fun v σ' I' hq => ?_)
  obtain ⟨r, rfl, h1, h2, hp⟩ := hq
  rw [hz.1, hz.2, Nat.add_zero, Nat.add_zero]
  have := kk r _ _ hp
  rw [← h1, ← h2] at this
  exact this
theorem w_callS_RV {μ' : kM} {R' : Room} {as stk : List Value} {i : Nat} {P : (Nat → Nat → Option Nat) → kI → Prop} (hct : ct g μ' R' as σ I (qRV σ P)) (hok : kOK μ' as.length) (hin : Cond.static μ'.1 ∈ tblG) (hl : Cond.methodLink μ.1.cls i μ'.1 ∈ tblG) (hR : R'.frames + 1 ≤ R.frames ∧ 8 + (μ'.2.2.1 + 11) + R'.locals ≤ R.locals) (hz : R'.cells = 0 ∧ R'.slots = 0) (hnn : n.1 ≤ R.cells ∧ n.2 ≤ R.slots) (hstk : stk = as.reverse ++ st) (hW : (st.map fun v => v.category).sum ≤ 8) (hd : decode μ.2.1 pc = .ok (.invokestatic i, 3)) (kk : ∀ G0 I0, P G0 I0 → wp g μ R E Q n (σ.1, σ.2.1, G0) I0 (pc + 3) loc st) : wp g μ R E Q n σ I pc loc stk := by
  refine w_callS hct hok hin hl ⟨hR, by rw [hz.1]; exact hnn.1, by rw [hz.2]; exact hnn.2⟩ hstk hW hd (fun v σ' I' hq => ?_)
  obtain ⟨rfl, h1, h2, hp⟩ := hq
  rw [hz.1, hz.2, Nat.add_zero, Nat.add_zero]
  have := kk _ _ hp
  rw [← h1, ← h2] at this
  exact this
theorem w_callN_I {μ' : kM} {R' : Room} {as stk : List Value} {i : Nat} {host : String} {r : Int32} {I0 : kI} (hct : ct g μ' R' as σ I (qI r σ I0)) (hok : kOK μ' as.length) (hin : Cond.static μ'.1 ∈ tblG) (hl : Cond.methodLinkNest μ.1.cls i μ'.1 host ∈ nestWs) (hR : R'.frames + 1 ≤ R.frames ∧ 8 + (μ'.2.2.1 + 11) + R'.locals ≤ R.locals) (hz : R'.cells = 0 ∧ R'.slots = 0) (hnn : n.1 ≤ R.cells ∧ n.2 ≤ R.slots) (hstk : stk = as.reverse ++ st) (hW : (st.map fun v => v.category).sum ≤ 8) (hd : decode μ.2.1 pc = .ok (.invokestatic i, 3)) (kk : wp g μ R E Q n σ I0 (pc + 3) loc (.int r :: st)) : wp g μ R E Q n σ I pc loc stk := by
  refine w_callSN hct hok hin hl ⟨hR, by rw [hz.1]; exact hnn.1, by rw [hz.2]; exact hnn.2⟩ hstk hW hd (fun v σ' I' hq => ?_)
  obtain ⟨rfl, rfl, rfl⟩ := hq
  rw [hz.1, hz.2, Nat.add_zero, Nat.add_zero]
  exact kk
theorem w_callN_V {μ' : kM} {R' : Room} {as stk : List Value} {i : Nat} {host : String} {I0 : kI} (hct : ct g μ' R' as σ I (qV σ I0)) (hok : kOK μ' as.length) (hin : Cond.static μ'.1 ∈ tblG) (hl : Cond.methodLinkNest μ.1.cls i μ'.1 host ∈ nestWs) (hR : R'.frames + 1 ≤ R.frames ∧ 8 + (μ'.2.2.1 + 11) + R'.locals ≤ R.locals) (hz : R'.cells = 0 ∧ R'.slots = 0) (hnn : n.1 ≤ R.cells ∧ n.2 ≤ R.slots) (hstk : stk = as.reverse ++ st) (hW : (st.map fun v => v.category).sum ≤ 8) (hd : decode μ.2.1 pc = .ok (.invokestatic i, 3)) (kk : wp g μ R E Q n σ I0 (pc + 3) loc st) : wp g μ R E Q n σ I pc loc stk := by
  refine w_callSN hct hok hin hl ⟨hR, by rw [hz.1]; exact hnn.1, by rw [hz.2]; exact hnn.2⟩ hstk hW hd (fun v σ' I' hq => ?_)
  obtain ⟨rfl, rfl, rfl⟩ := hq
  rw [hz.1, hz.2, Nat.add_zero, Nat.add_zero]
  exact kk
theorem w_callN_EI {μ' : kM} {R' : Room} {as stk : List Value} {i : Nat} {host : String} {P : Int32 → kI → Prop} (hct : ct g μ' R' as σ I (qEI σ P)) (hok : kOK μ' as.length) (hin : Cond.static μ'.1 ∈ tblG) (hl : Cond.methodLinkNest μ.1.cls i μ'.1 host ∈ nestWs) (hR : R'.frames + 1 ≤ R.frames ∧ 8 + (μ'.2.2.1 + 11) + R'.locals ≤ R.locals) (hz : R'.cells = 0 ∧ R'.slots = 0) (hnn : n.1 ≤ R.cells ∧ n.2 ≤ R.slots) (hstk : stk = as.reverse ++ st) (hW : (st.map fun v => v.category).sum ≤ 8) (hd : decode μ.2.1 pc = .ok (.invokestatic i, 3)) (kk : ∀ r I0, P r I0 → wp g μ R E Q n σ I0 (pc + 3) loc (.int r :: st)) : wp g μ R E Q n σ I pc loc stk := by
  refine w_callSN hct hok hin hl ⟨hR, by rw [hz.1]; exact hnn.1, by rw [hz.2]; exact hnn.2⟩ hstk hW hd (fun v σ' I' hq => ?_)
  obtain ⟨r, rfl, rfl, hp⟩ := hq
  rw [hz.1, hz.2, Nat.add_zero, Nat.add_zero]
  exact kk r _ hp
theorem w_callN_EV {μ' : kM} {R' : Room} {as stk : List Value} {i : Nat} {host : String} {P : kI → Prop} (hct : ct g μ' R' as σ I (qEV σ P)) (hok : kOK μ' as.length) (hin : Cond.static μ'.1 ∈ tblG) (hl : Cond.methodLinkNest μ.1.cls i μ'.1 host ∈ nestWs) (hR : R'.frames + 1 ≤ R.frames ∧ 8 + (μ'.2.2.1 + 11) + R'.locals ≤ R.locals) (hz : R'.cells = 0 ∧ R'.slots = 0) (hnn : n.1 ≤ R.cells ∧ n.2 ≤ R.slots) (hstk : stk = as.reverse ++ st) (hW : (st.map fun v => v.category).sum ≤ 8) (hd : decode μ.2.1 pc = .ok (.invokestatic i, 3)) (kk : ∀ I0, P I0 → wp g μ R E Q n σ I0 (pc + 3) loc st) : wp g μ R E Q n σ I pc loc stk := by
  refine w_callSN hct hok hin hl ⟨hR, by rw [hz.1]; exact hnn.1, by rw [hz.2]; exact hnn.2⟩ hstk hW hd (fun v σ' I' hq => ?_)
  obtain ⟨rfl, rfl, hp⟩ := hq
  rw [hz.1, hz.2, Nat.add_zero, Nat.add_zero]
  exact kk _ hp
theorem w_callN_RI {μ' : kM} {R' : Room} {as stk : List Value} {i : Nat} {host : String} {P : Int32 → (Nat → Nat → Option Nat) → kI → Prop} (hct : ct g μ' R' as σ I (qRI σ P)) (hok : kOK μ' as.length) (hin : Cond.static μ'.1 ∈ tblG) (hl : Cond.methodLinkNest μ.1.cls i μ'.1 host ∈ nestWs) (hR : R'.frames + 1 ≤ R.frames ∧ 8 + (μ'.2.2.1 + 11) + R'.locals ≤ R.locals) (hz : R'.cells = 0 ∧ R'.slots = 0) (hnn : n.1 ≤ R.cells ∧ n.2 ≤ R.slots) (hstk : stk = as.reverse ++ st) (hW : (st.map fun v => v.category).sum ≤ 8) (hd : decode μ.2.1 pc = .ok (.invokestatic i, 3)) (kk : ∀ r G0 I0, P r G0 I0 → wp g μ R E Q n (σ.1, σ.2.1, G0) I0 (pc + 3) loc (.int r :: st)) : wp g μ R E Q n σ I pc loc stk := by
  refine w_callSN hct hok hin hl ⟨hR, by rw [hz.1]; exact hnn.1, by rw [hz.2]; exact hnn.2⟩ hstk hW hd (fun v σ' I' hq => ?_)
  obtain ⟨r, rfl, h1, h2, hp⟩ := hq
  rw [hz.1, hz.2, Nat.add_zero, Nat.add_zero]
  have := kk r _ _ hp
  rw [← h1, ← h2] at this
  exact this
theorem w_callN_RV {μ' : kM} {R' : Room} {as stk : List Value} {i : Nat} {host : String} {P : (Nat → Nat → Option Nat) → kI → Prop} (hct : ct g μ' R' as σ I (qRV σ P)) (hok : kOK μ' as.length) (hin : Cond.static μ'.1 ∈ tblG) (hl : Cond.methodLinkNest μ.1.cls i μ'.1 host ∈ nestWs) (hR : R'.frames + 1 ≤ R.frames ∧ 8 + (μ'.2.2.1 + 11) + R'.locals ≤ R.locals) (hz : R'.cells = 0 ∧ R'.slots = 0) (hnn : n.1 ≤ R.cells ∧ n.2 ≤ R.slots) (hstk : stk = as.reverse ++ st) (hW : (st.map fun v => v.category).sum ≤ 8) (hd : decode μ.2.1 pc = .ok (.invokestatic i, 3)) (kk : ∀ G0 I0, P G0 I0 → wp g μ R E Q n (σ.1, σ.2.1, G0) I0 (pc + 3) loc st) : wp g μ R E Q n σ I pc loc stk := by
  refine w_callSN hct hok hin hl ⟨hR, by rw [hz.1]; exact hnn.1, by rw [hz.2]; exact hnn.2⟩ hstk hW hd (fun v σ' I' hq => ?_)
  obtain ⟨rfl, h1, h2, hp⟩ := hq
  rw [hz.1, hz.2, Nat.add_zero, Nat.add_zero]
  have := kk _ _ hp
  rw [← h1, ← h2] at this
  exact this
end KWR
abbrev mX0_init : kM := (yX0_init, cX0_init, 1, none)
theorem ok_X0_init : kOK mX0_init 0 := ⟨t166, t41, ⟨by decide, by decide⟩, by decide +kernel⟩
abbrev mX0_copyFrom : kM := (yX0_copyFrom, cX0_copyFrom, 2, none)
theorem ok_X0_copyFrom : kOK mX0_copyFrom 1 := ⟨t389, t41, ⟨by decide, by decide⟩, by decide +kernel⟩
abbrev mX0_has : kM := (yX0_has, cX0_has, 2, (some .boolean))
theorem ok_X0_has : kOK mX0_has 1 := ⟨t590, t41, ⟨by decide, by decide⟩, by decide +kernel⟩
abbrev mX0_add : kM := (yX0_add, cX0_add, 2, (some .int))
theorem ok_X0_add : kOK mX0_add 1 := ⟨t586, t41, ⟨by decide, by decide⟩, by decide +kernel⟩
abbrev mX0_assign : kM := (yX0_assign, cX0_assign, 4, (some .int))
theorem ok_X0_assign : kOK mX0_assign 2 := ⟨t600, t41, ⟨by decide, by decide⟩, by decide +kernel⟩
abbrev mX0_enter : kM := (yX0_enter, cX0_enter, 3, none)
theorem ok_X0_enter : kOK mX0_enter 2 := ⟨t491, t41, ⟨by decide, by decide⟩, by decide +kernel⟩
abbrev mX0_isUnder : kM := (yX0_isUnder, cX0_isUnder, 5, (some .boolean))
theorem ok_X0_isUnder : kOK mX0_isUnder 2 := ⟨t614, t41, ⟨by decide, by decide⟩, by decide +kernel⟩
abbrev mX0_massWithAllUnder : kM := (yX0_massWithAllUnder, cX0_massWithAllUnder, 4, (some .int))
theorem ok_X0_massWithAllUnder : kOK mX0_massWithAllUnder 1 := ⟨t610, t41, ⟨by decide, by decide⟩, by decide +kernel⟩
abbrev mX0_countUnder : kM := (yX0_countUnder, cX0_countUnder, 4, (some .int))
theorem ok_X0_countUnder : kOK mX0_countUnder 1 := ⟨t618, t41, ⟨by decide, by decide⟩, by decide +kernel⟩
abbrev mX0_depth : kM := (yX0_depth, cX0_depth, 5, (some .int))
theorem ok_X0_depth : kOK mX0_depth 1 := ⟨t622, t41, ⟨by decide, by decide⟩, by decide +kernel⟩
abbrev mX1_init : kM := (yX1_init, cX1_init, 1, none)
theorem ok_X1_init : kOK mX1_init 0 := ⟨t94, t38, ⟨by decide, by decide⟩, by decide +kernel⟩
abbrev mX1_copyFrom : kM := (yX1_copyFrom, cX1_copyFrom, 2, none)
theorem ok_X1_copyFrom : kOK mX1_copyFrom 1 := ⟨t375, t38, ⟨by decide, by decide⟩, by decide +kernel⟩
abbrev mX1_mass : kM := (yX1_mass, cX1_mass, 3, (some .int))
theorem ok_X1_mass : kOK mX1_mass 2 := ⟨t479, t38, ⟨by decide, by decide⟩, by decide +kernel⟩
abbrev mX1_take : kM := (yX1_take, cX1_take, 4, none)
theorem ok_X1_take : kOK mX1_take 3 := ⟨t483, t38, ⟨by decide, by decide⟩, by decide +kernel⟩
abbrev mX1_putAtStart : kM := (yX1_putAtStart, cX1_putAtStart, 3, none)
theorem ok_X1_putAtStart : kOK mX1_putAtStart 2 := ⟨t508, t38, ⟨by decide, by decide⟩, by decide +kernel⟩
abbrev mX1_goOn : kM := (yX1_goOn, cX1_goOn, 1, none)
theorem ok_X1_goOn : kOK mX1_goOn 0 := ⟨t499, t38, ⟨by decide, by decide⟩, by decide +kernel⟩
abbrev mX1_massOfPlace : kM := (yX1_massOfPlace, cX1_massOfPlace, 5, (some .int))
theorem ok_X1_massOfPlace : kOK mX1_massOfPlace 1 := ⟨t520, t38, ⟨by decide, by decide⟩, by decide +kernel⟩
abbrev mX1_massSeen : kM := (yX1_massSeen, cX1_massSeen, 3, (some .int))
theorem ok_X1_massSeen : kOK mX1_massSeen 0 := ⟨t524, t38, ⟨by decide, by decide⟩, by decide +kernel⟩
abbrev mX2_init : kM := (yX2_init, cX2_init, 1, none)
theorem ok_X2_init : kOK mX2_init 0 := ⟨t112, t39, ⟨by decide, by decide⟩, by decide +kernel⟩
abbrev mX2_copyFrom : kM := (yX2_copyFrom, cX2_copyFrom, 2, none)
theorem ok_X2_copyFrom : kOK mX2_copyFrom 1 := ⟨t380, t39, ⟨by decide, by decide⟩, by decide +kernel⟩
abbrev mX2_has : kM := (yX2_has, cX2_has, 2, (some .boolean))
theorem ok_X2_has : kOK mX2_has 1 := ⟨t562, t39, ⟨by decide, by decide⟩, by decide +kernel⟩
abbrev mX2_addToPresent : kM := (yX2_addToPresent, cX2_addToPresent, 3, none)
theorem ok_X2_addToPresent : kOK mX2_addToPresent 2 := ⟨t487, t39, ⟨by decide, by decide⟩, by decide +kernel⟩
abbrev mX2_growPresent : kM := (yX2_growPresent, cX2_growPresent, 2, none)
theorem ok_X2_growPresent : kOK mX2_growPresent 1 := ⟨t537, t39, ⟨by decide, by decide⟩, by decide +kernel⟩
abbrev mX2_countFilledTick : kM := (yX2_countFilledTick, cX2_countFilledTick, 1, none)
theorem ok_X2_countFilledTick : kOK mX2_countFilledTick 0 := ⟨t495, t39, ⟨by decide, by decide⟩, by decide +kernel⟩
abbrev mX2_massOf : kM := (yX2_massOf, cX2_massOf, 4, (some .int))
theorem ok_X2_massOf : kOK mX2_massOf 1 := ⟨t566, t39, ⟨by decide, by decide⟩, by decide +kernel⟩
abbrev mX2_massOfPresent : kM := (yX2_massOfPresent, cX2_massOfPresent, 1, (some .int))
theorem ok_X2_massOfPresent : kOK mX2_massOfPresent 0 := ⟨t683, t39, ⟨by decide, by decide⟩, by decide +kernel⟩
abbrev mX2_massOfAll : kM := (yX2_massOfAll, cX2_massOfAll, 3, (some .int))
theorem ok_X2_massOfAll : kOK mX2_massOfAll 0 := ⟨t665, t39, ⟨by decide, by decide⟩, by decide +kernel⟩
abbrev mX3_init : kM := (yX3_init, cX3_init, 1, none)
theorem ok_X3_init : kOK mX3_init 0 := ⟨t307, t47, ⟨by decide, by decide⟩, by decide +kernel⟩
abbrev mX3_read : kM := (yX3_read, cX3_read, 3, (some .boolean))
theorem ok_X3_read : kOK mX3_read 2 := ⟨t722, t47, ⟨by decide, by decide⟩, by decide +kernel⟩
abbrev mX3_passes : kM := (yX3_passes, cX3_passes, 3, (some .boolean))
theorem ok_X3_passes : kOK mX3_passes 2 := ⟨t730, t47, ⟨by decide, by decide⟩, by decide +kernel⟩
abbrev mX3_readNumber : kM := (yX3_readNumber, cX3_readNumber, 5, (some .int))
theorem ok_X3_readNumber : kOK mX3_readNumber 1 := ⟨t734, t47, ⟨by decide, by decide⟩, by decide +kernel⟩
abbrev mX3_carryOut : kM := (yX3_carryOut, cX3_carryOut, 2, (some .int))
theorem ok_X3_carryOut : kOK mX3_carryOut 1 := ⟨t741, t47, ⟨by decide, by decide⟩, by decide +kernel⟩
abbrev mX4_init : kM := (yX4_init, cX4_init, 1, none)
theorem ok_X4_init : kOK mX4_init 0 := ⟨t260, t44, ⟨by decide, by decide⟩, by decide +kernel⟩
abbrev mX4_push : kM := (yX4_push, cX4_push, 3, none)
theorem ok_X4_push : kOK mX4_push 1 := ⟨t416, t44, ⟨by decide, by decide⟩, by decide +kernel⟩
abbrev mX4_pullInto : kM := (yX4_pullInto, cX4_pullInto, 3, none)
theorem ok_X4_pullInto : kOK mX4_pullInto 1 := ⟨t696, t44, ⟨by decide, by decide⟩, by decide +kernel⟩
abbrev mX5_init : kM := (yX5_init, cX5_init, 1, none)
theorem ok_X5_init : kOK mX5_init 0 := ⟨t67, t37, ⟨by decide, by decide⟩, by decide +kernel⟩
abbrev mX5_copyFrom : kM := (yX5_copyFrom, cX5_copyFrom, 2, none)
theorem ok_X5_copyFrom : kOK mX5_copyFrom 1 := ⟨t370, t37, ⟨by decide, by decide⟩, by decide +kernel⟩
abbrev mX5_append : kM := (yX5_append, cX5_append, 3, none)
theorem ok_X5_append : kOK mX5_append 2 := ⟨t403, t37, ⟨by decide, by decide⟩, by decide +kernel⟩
abbrev mX5_takeFromFirst : kM := (yX5_takeFromFirst, cX5_takeFromFirst, 3, none)
theorem ok_X5_takeFromFirst : kOK mX5_takeFromFirst 1 := ⟨t512, t37, ⟨by decide, by decide⟩, by decide +kernel⟩
abbrev mX5_massInside : kM := (yX5_massInside, cX5_massInside, 3, (some .int))
theorem ok_X5_massInside : kOK mX5_massInside 0 := ⟨t661, t37, ⟨by decide, by decide⟩, by decide +kernel⟩
abbrev mX6_init : kM := (yX6_init, cX6_init, 1, none)
theorem ok_X6_init : kOK mX6_init 0 := ⟨t61, t36, ⟨by decide, by decide⟩, by decide +kernel⟩
abbrev mX6_copyFrom : kM := (yX6_copyFrom, cX6_copyFrom, 2, none)
theorem ok_X6_copyFrom : kOK mX6_copyFrom 1 := ⟨t366, t36, ⟨by decide, by decide⟩, by decide +kernel⟩
abbrev mX6_hasBatch : kM := (yX6_hasBatch, cX6_hasBatch, 1, (some .boolean))
theorem ok_X6_hasBatch : kOK mX6_hasBatch 0 := ⟨t438, t36, ⟨by decide, by decide⟩, by decide +kernel⟩
abbrev mX6_putLot : kM := (yX6_putLot, cX6_putLot, 3, (some .int))
theorem ok_X6_putLot : kOK mX6_putLot 2 := ⟨t394, t36, ⟨by decide, by decide⟩, by decide +kernel⟩
abbrev mX6_setGate : kM := (yX6_setGate, cX6_setGate, 3, (some .int))
theorem ok_X6_setGate : kOK mX6_setGate 1 := ⟨t426, t36, ⟨by decide, by decide⟩, by decide +kernel⟩
abbrev mX6_switchBelt : kM := (yX6_switchBelt, cX6_switchBelt, 3, (some .int))
theorem ok_X6_switchBelt : kOK mX6_switchBelt 1 := ⟨t434, t36, ⟨by decide, by decide⟩, by decide +kernel⟩
abbrev mX6_putBin : kM := (yX6_putBin, cX6_putBin, 1, (some .int))
theorem ok_X6_putBin : kOK mX6_putBin 0 := ⟨t447, t36, ⟨by decide, by decide⟩, by decide +kernel⟩
abbrev mX6_beginBatch : kM := (yX6_beginBatch, cX6_beginBatch, 2, (some .int))
theorem ok_X6_beginBatch : kOK mX6_beginBatch 1 := ⟨t455, t36, ⟨by decide, by decide⟩, by decide +kernel⟩
abbrev mX6_passTicks : kM := (yX6_passTicks, cX6_passTicks, 4, (some .int))
theorem ok_X6_passTicks : kOK mX6_passTicks 1 := ⟨t463, t36, ⟨by decide, by decide⟩, by decide +kernel⟩
abbrev mX6_passTick : kM := (yX6_passTick, cX6_passTick, 3, (some .int))
theorem ok_X6_passTick : kOK mX6_passTick 0 := ⟨t467, t36, ⟨by decide, by decide⟩, by decide +kernel⟩
abbrev mX6_wantsMore : kM := (yX6_wantsMore, cX6_wantsMore, 1, (some .boolean))
theorem ok_X6_wantsMore : kOK mX6_wantsMore 0 := ⟨t471, t36, ⟨by decide, by decide⟩, by decide +kernel⟩
abbrev mX6_dropAtEnd : kM := (yX6_dropAtEnd, cX6_dropAtEnd, 4, (some .int))
theorem ok_X6_dropAtEnd : kOK mX6_dropAtEnd 0 := ⟨t475, t36, ⟨by decide, by decide⟩, by decide +kernel⟩
abbrev mX6_feed : kM := (yX6_feed, cX6_feed, 4, none)
theorem ok_X6_feed : kOK mX6_feed 0 := ⟨t503, t36, ⟨by decide, by decide⟩, by decide +kernel⟩
abbrev mX6_spillTooMuch : kM := (yX6_spillTooMuch, cX6_spillTooMuch, 4, none)
theorem ok_X6_spillTooMuch : kOK mX6_spillTooMuch 0 := ⟨t516, t36, ⟨by decide, by decide⟩, by decide +kernel⟩
abbrev mX6_endBatch : kM := (yX6_endBatch, cX6_endBatch, 1, none)
theorem ok_X6_endBatch : kOK mX6_endBatch 0 := ⟨t541, t36, ⟨by decide, by decide⟩, by decide +kernel⟩
abbrev mX6_setZero : kM := (yX6_setZero, cX6_setZero, 3, (some .int))
theorem ok_X6_setZero : kOK mX6_setZero 0 := ⟨t549, t36, ⟨by decide, by decide⟩, by decide +kernel⟩
abbrev mX6_correctBy : kM := (yX6_correctBy, cX6_correctBy, 4, (some .int))
theorem ok_X6_correctBy : kOK mX6_correctBy 1 := ⟨t558, t36, ⟨by decide, by decide⟩, by decide +kernel⟩
abbrev mX6_changeSetting : kM := (yX6_changeSetting, cX6_changeSetting, 4, (some .int))
theorem ok_X6_changeSetting : kOK mX6_changeSetting 2 := ⟨t574, t36, ⟨by decide, by decide⟩, by decide +kernel⟩
abbrev mX7_init : kM := (yX7_init, cX7_init, 1, none)
theorem ok_X7_init : kOK mX7_init 0 := ⟨t301, t46, ⟨by decide, by decide⟩, by decide +kernel⟩
abbrev mX7_perform : kM := (yX7_perform, cX7_perform, 6, none)
theorem ok_X7_perform : kOK mX7_perform 3 := ⟨t717, t46, ⟨by decide, by decide⟩, by decide +kernel⟩
abbrev mX8_init : kM := (yX8_init, cX8_init, 1, none)
theorem ok_X8_init : kOK mX8_init 0 := ⟨t137, t40, ⟨by decide, by decide⟩, by decide +kernel⟩
abbrev mX8_copyFrom : kM := (yX8_copyFrom, cX8_copyFrom, 2, none)
theorem ok_X8_copyFrom : kOK mX8_copyFrom 1 := ⟨t385, t40, ⟨by decide, by decide⟩, by decide +kernel⟩
abbrev mX8_reading : kM := (yX8_reading, cX8_reading, 2, (some .int))
theorem ok_X8_reading : kOK mX8_reading 1 := ⟨t533, t40, ⟨by decide, by decide⟩, by decide +kernel⟩
abbrev mX8_weigh : kM := (yX8_weigh, cX8_weigh, 4, (some .int))
theorem ok_X8_weigh : kOK mX8_weigh 1 := ⟨t529, t40, ⟨by decide, by decide⟩, by decide +kernel⟩
abbrev mX8_toldTotal : kM := (yX8_toldTotal, cX8_toldTotal, 1, (some .int))
theorem ok_X8_toldTotal : kOK mX8_toldTotal 0 := ⟨t651, t40, ⟨by decide, by decide⟩, by decide +kernel⟩
abbrev mX9_init : kM := (yX9_init, cX9_init, 1, none)
theorem ok_X9_init : kOK mX9_init 0 := ⟨t285, t45, ⟨by decide, by decide⟩, by decide +kernel⟩
abbrev mX9_append : kM := (yX9_append, cX9_append, 2, none)
theorem ok_X9_append : kOK mX9_append 1 := ⟨t705, t45, ⟨by decide, by decide⟩, by decide +kernel⟩
abbrev mX9_at : kM := (yX9_at, cX9_at, 2, (some .int))
theorem ok_X9_at : kOK mX9_at 1 := ⟨t726, t45, ⟨by decide, by decide⟩, by decide +kernel⟩
abbrev mX10_init : kM := (yX10_init, cX10_init, 1, none)
theorem ok_X10_init : kOK mX10_init 0 := ⟨t53, t35, ⟨by decide, by decide⟩, by decide +kernel⟩
abbrev mX10_lot : kM := (yX10_lot, cX10_lot, 3, (some .int))
theorem ok_X10_lot : kOK mX10_lot 2 := ⟨t362, t35, ⟨by decide, by decide⟩, by decide +kernel⟩
abbrev mX10_gate : kM := (yX10_gate, cX10_gate, 2, (some .int))
theorem ok_X10_gate : kOK mX10_gate 1 := ⟨t422, t35, ⟨by decide, by decide⟩, by decide +kernel⟩
abbrev mX10_run : kM := (yX10_run, cX10_run, 2, (some .int))
theorem ok_X10_run : kOK mX10_run 1 := ⟨t430, t35, ⟨by decide, by decide⟩, by decide +kernel⟩
abbrev mX10_bin : kM := (yX10_bin, cX10_bin, 1, (some .int))
theorem ok_X10_bin : kOK mX10_bin 0 := ⟨t443, t35, ⟨by decide, by decide⟩, by decide +kernel⟩
abbrev mX10_batch : kM := (yX10_batch, cX10_batch, 2, (some .int))
theorem ok_X10_batch : kOK mX10_batch 1 := ⟨t451, t35, ⟨by decide, by decide⟩, by decide +kernel⟩
abbrev mX10_tick : kM := (yX10_tick, cX10_tick, 2, (some .int))
theorem ok_X10_tick : kOK mX10_tick 1 := ⟨t459, t35, ⟨by decide, by decide⟩, by decide +kernel⟩
abbrev mX10_zero : kM := (yX10_zero, cX10_zero, 1, (some .int))
theorem ok_X10_zero : kOK mX10_zero 0 := ⟨t545, t35, ⟨by decide, by decide⟩, by decide +kernel⟩
abbrev mX10_correct : kM := (yX10_correct, cX10_correct, 2, (some .int))
theorem ok_X10_correct : kOK mX10_correct 1 := ⟨t554, t35, ⟨by decide, by decide⟩, by decide +kernel⟩
abbrev mX10_set : kM := (yX10_set, cX10_set, 3, (some .int))
theorem ok_X10_set : kOK mX10_set 2 := ⟨t570, t35, ⟨by decide, by decide⟩, by decide +kernel⟩
abbrev mX10_account : kM := (yX10_account, cX10_account, 2, (some .int))
theorem ok_X10_account : kOK mX10_account 1 := ⟨t582, t35, ⟨by decide, by decide⟩, by decide +kernel⟩
abbrev mX10_book : kM := (yX10_book, cX10_book, 3, (some .int))
theorem ok_X10_book : kOK mX10_book 2 := ⟨t596, t35, ⟨by decide, by decide⟩, by decide +kernel⟩
abbrev mX10_accountOf : kM := (yX10_accountOf, cX10_accountOf, 4, (some .int))
theorem ok_X10_accountOf : kOK mX10_accountOf 2 := ⟨t605, t35, ⟨by decide, by decide⟩, by decide +kernel⟩
abbrev mX10_massAt : kM := (yX10_massAt, cX10_massAt, 3, (some .int))
theorem ok_X10_massAt : kOK mX10_massAt 2 := ⟨t626, t35, ⟨by decide, by decide⟩, by decide +kernel⟩
abbrev mX10_lotOf : kM := (yX10_lotOf, cX10_lotOf, 3, (some .int))
theorem ok_X10_lotOf : kOK mX10_lotOf 2 := ⟨t632, t35, ⟨by decide, by decide⟩, by decide +kernel⟩
abbrev mX10_binOf : kM := (yX10_binOf, cX10_binOf, 4, (some .int))
theorem ok_X10_binOf : kOK mX10_binOf 2 := ⟨t636, t35, ⟨by decide, by decide⟩, by decide +kernel⟩
abbrev mX10_scale : kM := (yX10_scale, cX10_scale, 3, (some .int))
theorem ok_X10_scale : kOK mX10_scale 1 := ⟨t644, t35, ⟨by decide, by decide⟩, by decide +kernel⟩
abbrev mX10_count : kM := (yX10_count, cX10_count, 3, (some .int))
theorem ok_X10_count : kOK mX10_count 1 := ⟨t656, t35, ⟨by decide, by decide⟩, by decide +kernel⟩
abbrev mX10_batchIn : kM := (yX10_batchIn, cX10_batchIn, 1, (some .int))
theorem ok_X10_batchIn : kOK mX10_batchIn 0 := ⟨t669, t35, ⟨by decide, by decide⟩, by decide +kernel⟩
abbrev mX10_batchOut : kM := (yX10_batchOut, cX10_batchOut, 1, (some .int))
theorem ok_X10_batchOut : kOK mX10_batchOut 0 := ⟨t679, t35, ⟨by decide, by decide⟩, by decide +kernel⟩
abbrev mX10_error : kM := (yX10_error, cX10_error, 1, (some .int))
theorem ok_X10_error : kOK mX10_error 0 := ⟨t688, t35, ⟨by decide, by decide⟩, by decide +kernel⟩
abbrev mX10_undo : kM := (yX10_undo, cX10_undo, 1, (some .int))
theorem ok_X10_undo : kOK mX10_undo 0 := ⟨t692, t35, ⟨by decide, by decide⟩, by decide +kernel⟩
abbrev mX10_type : kM := (yX10_type, cX10_type, 2, (some .int))
theorem ok_X10_type : kOK mX10_type 1 := ⟨t700, t35, ⟨by decide, by decide⟩, by decide +kernel⟩
abbrev mX10_clearText : kM := (yX10_clearText, cX10_clearText, 2, (some .int))
theorem ok_X10_clearText : kOK mX10_clearText 0 := ⟨t709, t35, ⟨by decide, by decide⟩, by decide +kernel⟩
abbrev mX10_fault : kM := (yX10_fault, cX10_fault, 2, (some .int))
theorem ok_X10_fault : kOK mX10_fault 1 := ⟨t713, t35, ⟨by decide, by decide⟩, by decide +kernel⟩
abbrev mX10_play : kM := (yX10_play, cX10_play, 1, (some .int))
theorem ok_X10_play : kOK mX10_play 0 := ⟨t755, t35, ⟨by decide, by decide⟩, by decide +kernel⟩
abbrev mX10_recorded : kM := (yX10_recorded, cX10_recorded, 2, (some .int))
theorem ok_X10_recorded : kOK mX10_recorded 1 := ⟨t407, t35, ⟨by decide, by decide⟩, by decide +kernel⟩
abbrev mX10_foretell : kM := (yX10_foretell, cX10_foretell, 2, (some .int))
theorem ok_X10_foretell : kOK mX10_foretell 0 := ⟨t673, t35, ⟨by decide, by decide⟩, by decide +kernel⟩
abbrev mX10_isError : kM := (yX10_isError, cX10_isError, 1, (some .boolean))
theorem ok_X10_isError : kOK mX10_isError 1 := ⟨t410, t35, ⟨by decide, by decide⟩, by decide +kernel⟩
abbrev mX10_isKind : kM := (yX10_isKind, cX10_isKind, 1, (some .boolean))
theorem ok_X10_isKind : kOK mX10_isKind 1 := ⟨t397, t35, ⟨by decide, by decide⟩, by decide +kernel⟩
abbrev mX10_copyInto : kM := (yX10_copyInto, cX10_copyInto, 2, none)
theorem ok_X10_copyInto : kOK mX10_copyInto 2 := ⟨t189, t35, ⟨by decide, by decide⟩, by decide +kernel⟩
abbrev mX11_init : kM := (yX11_init, cX11_init, 1, none)
theorem ok_X11_init : kOK mX11_init 0 := ⟨t760, t48, ⟨by decide, by decide⟩, by decide +kernel⟩
abbrev mX11_in : kM := (yX11_in, cX11_in, 3, (some .boolean))
theorem ok_X11_in : kOK mX11_in 3 := ⟨t812, t48, ⟨by decide, by decide⟩, by decide +kernel⟩
abbrev mX11_copies : kM := (yX11_copies, cX11_copies, 3, none)
theorem ok_X11_copies : kOK mX11_copies 2 := ⟨t967, t48, ⟨by decide, by decide⟩, by decide +kernel⟩
abbrev mX11_changes : kM := (yX11_changes, cX11_changes, 2, none)
theorem ok_X11_changes : kOK mX11_changes 0 := ⟨t818, t48, ⟨by decide, by decide⟩, by decide +kernel⟩
abbrev mX11_hasBatch : kM := (yX11_hasBatch, cX11_hasBatch, 1, (some .boolean))
theorem ok_X11_hasBatch : kOK mX11_hasBatch 0 := ⟨t830, t48, ⟨by decide, by decide⟩, by decide +kernel⟩
abbrev mX11_lot : kM := (yX11_lot, cX11_lot, 3, (some .int))
theorem ok_X11_lot : kOK mX11_lot 2 := ⟨t809, t48, ⟨by decide, by decide⟩, by decide +kernel⟩
abbrev mX11_gate : kM := (yX11_gate, cX11_gate, 3, (some .int))
theorem ok_X11_gate : kOK mX11_gate 1 := ⟨t822, t48, ⟨by decide, by decide⟩, by decide +kernel⟩
abbrev mX11_run : kM := (yX11_run, cX11_run, 3, (some .int))
theorem ok_X11_run : kOK mX11_run 1 := ⟨t826, t48, ⟨by decide, by decide⟩, by decide +kernel⟩
abbrev mX11_bin : kM := (yX11_bin, cX11_bin, 3, (some .int))
theorem ok_X11_bin : kOK mX11_bin 0 := ⟨t835, t48, ⟨by decide, by decide⟩, by decide +kernel⟩
abbrev mX11_mass : kM := (yX11_mass, cX11_mass, 5, (some .int))
theorem ok_X11_mass : kOK mX11_mass 2 := ⟨t843, t48, ⟨by decide, by decide⟩, by decide +kernel⟩
abbrev mX11_batch : kM := (yX11_batch, cX11_batch, 2, (some .int))
theorem ok_X11_batch : kOK mX11_batch 1 := ⟨t839, t48, ⟨by decide, by decide⟩, by decide +kernel⟩
abbrev mX11_falls : kM := (yX11_falls, cX11_falls, 5, none)
theorem ok_X11_falls : kOK mX11_falls 0 := ⟨t859, t48, ⟨by decide, by decide⟩, by decide +kernel⟩
abbrev mX11_feeds : kM := (yX11_feeds, cX11_feeds, 5, none)
theorem ok_X11_feeds : kOK mX11_feeds 0 := ⟨t863, t48, ⟨by decide, by decide⟩, by decide +kernel⟩
abbrev mX11_reading : kM := (yX11_reading, cX11_reading, 1, (some .int))
theorem ok_X11_reading : kOK mX11_reading 0 := ⟨t871, t48, ⟨by decide, by decide⟩, by decide +kernel⟩
abbrev mX11_reads : kM := (yX11_reads, cX11_reads, 2, none)
theorem ok_X11_reads : kOK mX11_reads 0 := ⟨t867, t48, ⟨by decide, by decide⟩, by decide +kernel⟩
abbrev mX11_goes : kM := (yX11_goes, cX11_goes, 2, none)
theorem ok_X11_goes : kOK mX11_goes 0 := ⟨t855, t48, ⟨by decide, by decide⟩, by decide +kernel⟩
abbrev mX11_ticks : kM := (yX11_ticks, cX11_ticks, 1, none)
theorem ok_X11_ticks : kOK mX11_ticks 0 := ⟨t851, t48, ⟨by decide, by decide⟩, by decide +kernel⟩
abbrev mX11_tick : kM := (yX11_tick, cX11_tick, 4, (some .int))
theorem ok_X11_tick : kOK mX11_tick 1 := ⟨t847, t48, ⟨by decide, by decide⟩, by decide +kernel⟩
abbrev mX11_zero : kM := (yX11_zero, cX11_zero, 2, (some .int))
theorem ok_X11_zero : kOK mX11_zero 0 := ⟨t875, t48, ⟨by decide, by decide⟩, by decide +kernel⟩
abbrev mX11_isBin : kM := (yX11_isBin, cX11_isBin, 2, (some .boolean))
theorem ok_X11_isBin : kOK mX11_isBin 1 := ⟨t884, t48, ⟨by decide, by decide⟩, by decide +kernel⟩
abbrev mX11_binMass : kM := (yX11_binMass, cX11_binMass, 3, (some .int))
theorem ok_X11_binMass : kOK mX11_binMass 1 := ⟨t889, t48, ⟨by decide, by decide⟩, by decide +kernel⟩
abbrev mX11_correct : kM := (yX11_correct, cX11_correct, 5, (some .int))
theorem ok_X11_correct : kOK mX11_correct 1 := ⟨t880, t48, ⟨by decide, by decide⟩, by decide +kernel⟩
abbrev mX11_set : kM := (yX11_set, cX11_set, 4, (some .int))
theorem ok_X11_set : kOK mX11_set 2 := ⟨t895, t48, ⟨by decide, by decide⟩, by decide +kernel⟩
abbrev mX11_isAccount : kM := (yX11_isAccount, cX11_isAccount, 2, (some .boolean))
theorem ok_X11_isAccount : kOK mX11_isAccount 1 := ⟨t903, t48, ⟨by decide, by decide⟩, by decide +kernel⟩
abbrev mX11_account : kM := (yX11_account, cX11_account, 3, (some .int))
theorem ok_X11_account : kOK mX11_account 1 := ⟨t899, t48, ⟨by decide, by decide⟩, by decide +kernel⟩
abbrev mX11_book : kM := (yX11_book, cX11_book, 4, (some .int))
theorem ok_X11_book : kOK mX11_book 2 := ⟨t907, t48, ⟨by decide, by decide⟩, by decide +kernel⟩
abbrev mX11_isUnder : kM := (yX11_isUnder, cX11_isUnder, 4, (some .boolean))
theorem ok_X11_isUnder : kOK mX11_isUnder 2 := ⟨t915, t48, ⟨by decide, by decide⟩, by decide +kernel⟩
abbrev mX11_depth : kM := (yX11_depth, cX11_depth, 4, (some .int))
theorem ok_X11_depth : kOK mX11_depth 1 := ⟨t919, t48, ⟨by decide, by decide⟩, by decide +kernel⟩
abbrev mX11_accountOf : kM := (yX11_accountOf, cX11_accountOf, 7, (some .int))
theorem ok_X11_accountOf : kOK mX11_accountOf 2 := ⟨t911, t48, ⟨by decide, by decide⟩, by decide +kernel⟩
abbrev mX11_massAt : kM := (yX11_massAt, cX11_massAt, 3, (some .int))
theorem ok_X11_massAt : kOK mX11_massAt 2 := ⟨t923, t48, ⟨by decide, by decide⟩, by decide +kernel⟩
abbrev mX11_lotOf : kM := (yX11_lotOf, cX11_lotOf, 3, (some .int))
theorem ok_X11_lotOf : kOK mX11_lotOf 2 := ⟨t927, t48, ⟨by decide, by decide⟩, by decide +kernel⟩
abbrev mX11_binOf : kM := (yX11_binOf, cX11_binOf, 3, (some .int))
theorem ok_X11_binOf : kOK mX11_binOf 2 := ⟨t931, t48, ⟨by decide, by decide⟩, by decide +kernel⟩
abbrev mX11_total : kM := (yX11_total, cX11_total, 1, (some .int))
theorem ok_X11_total : kOK mX11_total 0 := ⟨t940, t48, ⟨by decide, by decide⟩, by decide +kernel⟩
abbrev mX11_scale : kM := (yX11_scale, cX11_scale, 2, (some .int))
theorem ok_X11_scale : kOK mX11_scale 1 := ⟨t936, t48, ⟨by decide, by decide⟩, by decide +kernel⟩
abbrev mX11_hopper : kM := (yX11_hopper, cX11_hopper, 3, (some .int))
theorem ok_X11_hopper : kOK mX11_hopper 0 := ⟨t952, t48, ⟨by decide, by decide⟩, by decide +kernel⟩
abbrev mX11_inBins : kM := (yX11_inBins, cX11_inBins, 3, (some .int))
theorem ok_X11_inBins : kOK mX11_inBins 0 := ⟨t956, t48, ⟨by decide, by decide⟩, by decide +kernel⟩
abbrev mX11_batchTold : kM := (yX11_batchTold, cX11_batchTold, 2, (some .int))
theorem ok_X11_batchTold : kOK mX11_batchTold 1 := ⟨t948, t48, ⟨by decide, by decide⟩, by decide +kernel⟩
abbrev mX11_count : kM := (yX11_count, cX11_count, 2, (some .int))
theorem ok_X11_count : kOK mX11_count 1 := ⟨t944, t48, ⟨by decide, by decide⟩, by decide +kernel⟩
abbrev mX11_lasts : kM := (yX11_lasts, cX11_lasts, 3, (some .int))
theorem ok_X11_lasts : kOK mX11_lasts 0 := ⟨t964, t48, ⟨by decide, by decide⟩, by decide +kernel⟩
abbrev mX11_batchIn : kM := (yX11_batchIn, cX11_batchIn, 1, (some .int))
theorem ok_X11_batchIn : kOK mX11_batchIn 0 := ⟨t960, t48, ⟨by decide, by decide⟩, by decide +kernel⟩
abbrev mX11_batchOut : kM := (yX11_batchOut, cX11_batchOut, 1, (some .int))
theorem ok_X11_batchOut : kOK mX11_batchOut 0 := ⟨t971, t48, ⟨by decide, by decide⟩, by decide +kernel⟩
abbrev mX11_error : kM := (yX11_error, cX11_error, 1, (some .int))
theorem ok_X11_error : kOK mX11_error 0 := ⟨t975, t48, ⟨by decide, by decide⟩, by decide +kernel⟩
abbrev mX11_undo : kM := (yX11_undo, cX11_undo, 2, (some .int))
theorem ok_X11_undo : kOK mX11_undo 0 := ⟨t979, t48, ⟨by decide, by decide⟩, by decide +kernel⟩
abbrev mX11_type : kM := (yX11_type, cX11_type, 2, (some .int))
theorem ok_X11_type : kOK mX11_type 1 := ⟨t983, t48, ⟨by decide, by decide⟩, by decide +kernel⟩
abbrev mX11_clearText : kM := (yX11_clearText, cX11_clearText, 2, (some .int))
theorem ok_X11_clearText : kOK mX11_clearText 0 := ⟨t987, t48, ⟨by decide, by decide⟩, by decide +kernel⟩
abbrev mX11_isAt : kM := (yX11_isAt, cX11_isAt, 3, (some .boolean))
theorem ok_X11_isAt : kOK mX11_isAt 2 := ⟨t1007, t48, ⟨by decide, by decide⟩, by decide +kernel⟩
abbrev mX11_passes : kM := (yX11_passes, cX11_passes, 3, (some .boolean))
theorem ok_X11_passes : kOK mX11_passes 1 := ⟨t1003, t48, ⟨by decide, by decide⟩, by decide +kernel⟩
abbrev mX11_number : kM := (yX11_number, cX11_number, 3, (some .boolean))
theorem ok_X11_number : kOK mX11_number 1 := ⟨t1011, t48, ⟨by decide, by decide⟩, by decide +kernel⟩
abbrev mX11_parses : kM := (yX11_parses, cX11_parses, 1, (some .boolean))
theorem ok_X11_parses : kOK mX11_parses 0 := ⟨t999, t48, ⟨by decide, by decide⟩, by decide +kernel⟩
abbrev mX11_calls : kM := (yX11_calls, cX11_calls, 1, (some .int))
theorem ok_X11_calls : kOK mX11_calls 0 := ⟨t1015, t48, ⟨by decide, by decide⟩, by decide +kernel⟩
abbrev mX11_plays : kM := (yX11_plays, cX11_plays, 4, (some .int))
theorem ok_X11_plays : kOK mX11_plays 0 := ⟨t995, t48, ⟨by decide, by decide⟩, by decide +kernel⟩
abbrev mX11_fault : kM := (yX11_fault, cX11_fault, 3, (some .int))
theorem ok_X11_fault : kOK mX11_fault 1 := ⟨t991, t48, ⟨by decide, by decide⟩, by decide +kernel⟩
abbrev mX11_play : kM := (yX11_play, cX11_play, 2, (some .int))
theorem ok_X11_play : kOK mX11_play 0 := ⟨t1027, t48, ⟨by decide, by decide⟩, by decide +kernel⟩
theorem pn0 : plainName RX0 = true := by decide +kernel
theorem pn1 : plainName RX1 = true := by decide +kernel
theorem pn2 : plainName RX2 = true := by decide +kernel
theorem pn3 : plainName RX3 = true := by decide +kernel
theorem pn4 : plainName RX4 = true := by decide +kernel
theorem pn5 : plainName RX5 = true := by decide +kernel
theorem pn6 : plainName RX6 = true := by decide +kernel
theorem pn7 : plainName RX7 = true := by decide +kernel
theorem pn8 : plainName RX8 = true := by decide +kernel
theorem pn9 : plainName RX9 = true := by decide +kernel
theorem pn10 : plainName RX10 = true := by decide +kernel
theorem pn11 : plainName RX11 = true := by decide +kernel
theorem pnL : plainName "BeltSumsLaw" = true := by decide +kernel
def sAcc (g : kG) (σ : kS) (a w o s : Nat) : Prop := (kB g ≤ a ∧ a < σ.1) ∧ σ.2.1 a = (0, 0) ∧ (kB g ≤ w ∧ w < σ.1) ∧ σ.2.1 w = (100, 8) ∧ (kB g ≤ o ∧ o < σ.1) ∧ σ.2.1 o = (100, 8) ∧ (kB g ≤ s ∧ s < σ.1) ∧ σ.2.1 s = (100, 4) ∧ σ.2.2 a 0 = some w ∧ σ.2.2 a 1 = some o ∧ σ.2.2 a 2 = some s ∧ a < w ∧ w < o ∧ o < s
def sBelt (g : kG) (σ : kS) (b m : Nat) : Prop := (kB g ≤ b ∧ b < σ.1) ∧ σ.2.1 b = (1, 0) ∧ (kB g ≤ m ∧ m < σ.1) ∧ σ.2.1 m = (100, 48) ∧ σ.2.2 b 0 = some m ∧ b < m
def sBins (g : kG) (σ : kS) (b m w t : Nat) : Prop := (kB g ≤ b ∧ b < σ.1) ∧ σ.2.1 b = (2, 0) ∧ (kB g ≤ m ∧ m < σ.1) ∧ σ.2.1 m = (100, 32) ∧ (kB g ≤ w ∧ w < σ.1) ∧ σ.2.1 w = (100, 8) ∧ (kB g ≤ t ∧ t < σ.1) ∧ σ.2.1 t = (100, 8) ∧ σ.2.2 b 0 = some m ∧ σ.2.2 b 1 = some w ∧ σ.2.2 b 2 = some t ∧ b < m ∧ m < w ∧ w < t
def sCmd (g : kG) (σ : kS) (c : Nat) : Prop := (kB g ≤ c ∧ c < σ.1) ∧ σ.2.1 c = (3, 0)
def sHop (g : kG) (σ : kS) (h k m : Nat) : Prop := (kB g ≤ h ∧ h < σ.1) ∧ σ.2.1 h = (5, 0) ∧ (kB g ≤ k ∧ k < σ.1) ∧ σ.2.1 k = (100, 6) ∧ (kB g ≤ m ∧ m < σ.1) ∧ σ.2.1 m = (100, 6) ∧ σ.2.2 h 0 = some k ∧ σ.2.2 h 1 = some m ∧ h < k ∧ k < m
def sScale (g : kG) (σ : kS) (s : Nat) : Prop := (kB g ≤ s ∧ s < σ.1) ∧ σ.2.1 s = (8, 0)
def sText (g : kG) (σ : kS) (t c : Nat) : Prop := (kB g ≤ t ∧ t < σ.1) ∧ σ.2.1 t = (9, 0) ∧ (kB g ≤ c ∧ c < σ.1) ∧ σ.2.1 c = (101, 60) ∧ σ.2.2 t 0 = some c ∧ t < c
def sReh (g : kG) (σ : kS) (r c : Nat) : Prop := (kB g ≤ r ∧ r < σ.1) ∧ σ.2.1 r = (7, 0) ∧ (kB g ≤ c ∧ c < σ.1) ∧ σ.2.1 c = (3, 0) ∧ σ.2.2 r 0 = some c ∧ r < c
def sMod (g : kG) (σ : kS) (q a b c d e f : Nat) : Prop := (kB g ≤ q ∧ q < σ.1) ∧ σ.2.1 q = (11, 0) ∧ (kB g ≤ a ∧ a < σ.1) ∧ σ.2.1 a = (100, 149) ∧ (kB g ≤ b ∧ b < σ.1) ∧ σ.2.1 b = (100, 596) ∧ (kB g ≤ c ∧ c < σ.1) ∧ σ.2.1 c = (100, 149) ∧ (kB g ≤ d ∧ d < σ.1) ∧ σ.2.1 d = (100, 149) ∧ (kB g ≤ e ∧ e < σ.1) ∧ σ.2.1 e = (100, 60) ∧ (kB g ≤ f ∧ f < σ.1) ∧ σ.2.1 f = (100, 2) ∧ σ.2.2 q 0 = some a ∧ σ.2.2 q 1 = some b ∧ σ.2.2 q 2 = some c ∧ σ.2.2 q 3 = some d ∧ σ.2.2 q 6 = some e ∧ σ.2.2 q 13 = some f ∧ q < a ∧ a < b ∧ b < c ∧ c < d ∧ d < e ∧ e < f
def sPlant (g : kG) (σ : kS) (p : Nat) : Prop := (kB g ≤ p ∧ p + 16 ≤ σ.1) ∧ σ.2.1 p = (6, 0) ∧ σ.2.1 (p + 1) = (5, 0) ∧ σ.2.1 (p + 2) = (100, 6) ∧ σ.2.1 (p + 3) = (100, 6) ∧ σ.2.1 (p + 4) = (1, 0) ∧ σ.2.1 (p + 5) = (100, 48) ∧ σ.2.1 (p + 6) = (2, 0) ∧ σ.2.1 (p + 7) = (100, 32) ∧ σ.2.1 (p + 8) = (100, 8) ∧ σ.2.1 (p + 9) = (100, 8) ∧ σ.2.1 (p + 10) = (8, 0) ∧ σ.2.1 (p + 11) = (0, 0) ∧ σ.2.1 (p + 12) = (100, 8) ∧ σ.2.1 (p + 13) = (100, 8) ∧ σ.2.1 (p + 14) = (100, 4) ∧ σ.2.1 (p + 15) = (100, 3) ∧ σ.2.2 p 0 = some (p + 1) ∧ σ.2.2 p 1 = some (p + 4) ∧ σ.2.2 p 2 = some (p + 6) ∧ σ.2.2 p 3 = some (p + 10) ∧ σ.2.2 p 4 = some (p + 11) ∧ σ.2.2 p 5 = some (p + 15) ∧ σ.2.2 (p + 1) 0 = some (p + 2) ∧ σ.2.2 (p + 1) 1 = some (p + 3) ∧ σ.2.2 (p + 4) 0 = some (p + 5) ∧ σ.2.2 (p + 6) 0 = some (p + 7) ∧ σ.2.2 (p + 6) 1 = some (p + 8) ∧ σ.2.2 (p + 6) 2 = some (p + 9) ∧ σ.2.2 (p + 11) 0 = some (p + 12) ∧ σ.2.2 (p + 11) 1 = some (p + 13) ∧ σ.2.2 (p + 11) 2 = some (p + 14)
theorem sP_in {g : kG} {σ : kS} {p k : Nat} (h : sPlant g σ p) (hk : k < 16) : kB g ≤ p + k ∧ p + k < σ.1 := by have := h.1; omega
theorem sP_in0 {g : kG} {σ : kS} {p : Nat} (h : sPlant g σ p) : kB g ≤ p ∧ p < σ.1 := by have := h.1; omega
theorem sP_s0 {g : kG} {σ : kS} {p : Nat} (h : sPlant g σ p) : σ.2.1 p = (6, 0) := h.2.1
theorem sP_s1 {g : kG} {σ : kS} {p : Nat} (h : sPlant g σ p) : σ.2.1 (p + 1) = (5, 0) := h.2.2.1
theorem sP_s2 {g : kG} {σ : kS} {p : Nat} (h : sPlant g σ p) : σ.2.1 (p + 2) = (100, 6) := h.2.2.2.1
theorem sP_s3 {g : kG} {σ : kS} {p : Nat} (h : sPlant g σ p) : σ.2.1 (p + 3) = (100, 6) := h.2.2.2.2.1
theorem sP_s4 {g : kG} {σ : kS} {p : Nat} (h : sPlant g σ p) : σ.2.1 (p + 4) = (1, 0) := h.2.2.2.2.2.1
theorem sP_s5 {g : kG} {σ : kS} {p : Nat} (h : sPlant g σ p) : σ.2.1 (p + 5) = (100, 48) := h.2.2.2.2.2.2.1
theorem sP_s6 {g : kG} {σ : kS} {p : Nat} (h : sPlant g σ p) : σ.2.1 (p + 6) = (2, 0) := h.2.2.2.2.2.2.2.1
theorem sP_s7 {g : kG} {σ : kS} {p : Nat} (h : sPlant g σ p) : σ.2.1 (p + 7) = (100, 32) := h.2.2.2.2.2.2.2.2.1
theorem sP_s8 {g : kG} {σ : kS} {p : Nat} (h : sPlant g σ p) : σ.2.1 (p + 8) = (100, 8) := h.2.2.2.2.2.2.2.2.2.1
theorem sP_s9 {g : kG} {σ : kS} {p : Nat} (h : sPlant g σ p) : σ.2.1 (p + 9) = (100, 8) := h.2.2.2.2.2.2.2.2.2.2.1
theorem sP_s10 {g : kG} {σ : kS} {p : Nat} (h : sPlant g σ p) : σ.2.1 (p + 10) = (8, 0) := h.2.2.2.2.2.2.2.2.2.2.2.1
theorem sP_s11 {g : kG} {σ : kS} {p : Nat} (h : sPlant g σ p) : σ.2.1 (p + 11) = (0, 0) := h.2.2.2.2.2.2.2.2.2.2.2.2.1
theorem sP_s12 {g : kG} {σ : kS} {p : Nat} (h : sPlant g σ p) : σ.2.1 (p + 12) = (100, 8) := h.2.2.2.2.2.2.2.2.2.2.2.2.2.1
theorem sP_s13 {g : kG} {σ : kS} {p : Nat} (h : sPlant g σ p) : σ.2.1 (p + 13) = (100, 8) := h.2.2.2.2.2.2.2.2.2.2.2.2.2.2.1
theorem sP_s14 {g : kG} {σ : kS} {p : Nat} (h : sPlant g σ p) : σ.2.1 (p + 14) = (100, 4) := h.2.2.2.2.2.2.2.2.2.2.2.2.2.2.2.1
theorem sP_s15 {g : kG} {σ : kS} {p : Nat} (h : sPlant g σ p) : σ.2.1 (p + 15) = (100, 3) := h.2.2.2.2.2.2.2.2.2.2.2.2.2.2.2.2.1
theorem sP_r0_0 {g : kG} {σ : kS} {p : Nat} (h : sPlant g σ p) : σ.2.2 p 0 = some (p + 1) := h.2.2.2.2.2.2.2.2.2.2.2.2.2.2.2.2.2.1
theorem sP_r0_1 {g : kG} {σ : kS} {p : Nat} (h : sPlant g σ p) : σ.2.2 p 1 = some (p + 4) := h.2.2.2.2.2.2.2.2.2.2.2.2.2.2.2.2.2.2.1
theorem sP_r0_2 {g : kG} {σ : kS} {p : Nat} (h : sPlant g σ p) : σ.2.2 p 2 = some (p + 6) := h.2.2.2.2.2.2.2.2.2.2.2.2.2.2.2.2.2.2.2.1
theorem sP_r0_3 {g : kG} {σ : kS} {p : Nat} (h : sPlant g σ p) : σ.2.2 p 3 = some (p + 10) := h.2.2.2.2.2.2.2.2.2.2.2.2.2.2.2.2.2.2.2.2.1
theorem sP_r0_4 {g : kG} {σ : kS} {p : Nat} (h : sPlant g σ p) : σ.2.2 p 4 = some (p + 11) := h.2.2.2.2.2.2.2.2.2.2.2.2.2.2.2.2.2.2.2.2.2.1
theorem sP_r0_5 {g : kG} {σ : kS} {p : Nat} (h : sPlant g σ p) : σ.2.2 p 5 = some (p + 15) := h.2.2.2.2.2.2.2.2.2.2.2.2.2.2.2.2.2.2.2.2.2.2.1
theorem sP_r1_0 {g : kG} {σ : kS} {p : Nat} (h : sPlant g σ p) : σ.2.2 (p + 1) 0 = some (p + 2) := h.2.2.2.2.2.2.2.2.2.2.2.2.2.2.2.2.2.2.2.2.2.2.2.1
theorem sP_r1_1 {g : kG} {σ : kS} {p : Nat} (h : sPlant g σ p) : σ.2.2 (p + 1) 1 = some (p + 3) := h.2.2.2.2.2.2.2.2.2.2.2.2.2.2.2.2.2.2.2.2.2.2.2.2.1
theorem sP_r4_0 {g : kG} {σ : kS} {p : Nat} (h : sPlant g σ p) : σ.2.2 (p + 4) 0 = some (p + 5) := h.2.2.2.2.2.2.2.2.2.2.2.2.2.2.2.2.2.2.2.2.2.2.2.2.2.1
theorem sP_r6_0 {g : kG} {σ : kS} {p : Nat} (h : sPlant g σ p) : σ.2.2 (p + 6) 0 = some (p + 7) := h.2.2.2.2.2.2.2.2.2.2.2.2.2.2.2.2.2.2.2.2.2.2.2.2.2.2.1
theorem sP_r6_1 {g : kG} {σ : kS} {p : Nat} (h : sPlant g σ p) : σ.2.2 (p + 6) 1 = some (p + 8) := h.2.2.2.2.2.2.2.2.2.2.2.2.2.2.2.2.2.2.2.2.2.2.2.2.2.2.2.1
theorem sP_r6_2 {g : kG} {σ : kS} {p : Nat} (h : sPlant g σ p) : σ.2.2 (p + 6) 2 = some (p + 9) := h.2.2.2.2.2.2.2.2.2.2.2.2.2.2.2.2.2.2.2.2.2.2.2.2.2.2.2.2.1
theorem sP_r11_0 {g : kG} {σ : kS} {p : Nat} (h : sPlant g σ p) : σ.2.2 (p + 11) 0 = some (p + 12) := h.2.2.2.2.2.2.2.2.2.2.2.2.2.2.2.2.2.2.2.2.2.2.2.2.2.2.2.2.2.1
theorem sP_r11_1 {g : kG} {σ : kS} {p : Nat} (h : sPlant g σ p) : σ.2.2 (p + 11) 1 = some (p + 13) := h.2.2.2.2.2.2.2.2.2.2.2.2.2.2.2.2.2.2.2.2.2.2.2.2.2.2.2.2.2.2.1
theorem sP_r11_2 {g : kG} {σ : kS} {p : Nat} (h : sPlant g σ p) : σ.2.2 (p + 11) 2 = some (p + 14) := h.2.2.2.2.2.2.2.2.2.2.2.2.2.2.2.2.2.2.2.2.2.2.2.2.2.2.2.2.2.2.2
theorem sP_Hop {g : kG} {σ : kS} {p : Nat} (h : sPlant g σ p) : sHop g σ (p + 1) (p + 2) (p + 3) := ⟨sP_in h (by decide), sP_s1 h, sP_in h (by decide), sP_s2 h, sP_in h (by decide), sP_s3 h, sP_r1_0 h, sP_r1_1 h, (by omega), (by omega)⟩
theorem sP_Belt {g : kG} {σ : kS} {p : Nat} (h : sPlant g σ p) : sBelt g σ (p + 4) (p + 5) := ⟨sP_in h (by decide), sP_s4 h, sP_in h (by decide), sP_s5 h, sP_r4_0 h, (by omega)⟩
theorem sP_Bins {g : kG} {σ : kS} {p : Nat} (h : sPlant g σ p) : sBins g σ (p + 6) (p + 7) (p + 8) (p + 9) := ⟨sP_in h (by decide), sP_s6 h, sP_in h (by decide), sP_s7 h, sP_in h (by decide), sP_s8 h, sP_in h (by decide), sP_s9 h, sP_r6_0 h, sP_r6_1 h, sP_r6_2 h, (by omega), (by omega), (by omega)⟩
theorem sP_Scale {g : kG} {σ : kS} {p : Nat} (h : sPlant g σ p) : sScale g σ (p + 10) := ⟨sP_in h (by decide), sP_s10 h⟩
theorem sP_Acc {g : kG} {σ : kS} {p : Nat} (h : sPlant g σ p) : sAcc g σ (p + 11) (p + 12) (p + 13) (p + 14) := ⟨sP_in h (by decide), sP_s11 h, sP_in h (by decide), sP_s12 h, sP_in h (by decide), sP_s13 h, sP_in h (by decide), sP_s14 h, sP_r11_0 h, sP_r11_1 h, sP_r11_2 h, (by omega), (by omega), (by omega)⟩
end
section
theorem nx_row {x y : Int32} {a b : Nat} (hx : x = nI a) (ha : a < 12) (hy : y = nI b) (hb : b < 12) : (x + y - (x + y) / 12 * 12) * 4 = nI ((a + b) % 12 * 4) := by
  subst hx; subst hy
  rw [show (12 : Int32) = nI 12 from rfl, show (4 : Int32) = nI 4 from rfl, nI_add, pk_rem (by omega) (by omega) (by omega), pk_mul]
theorem nx_rowk {x y z : Int32} {a b c : Nat} (hx : x = nI a) (ha : a < 12) (hy : y = nI b) (hb : b < 12) (hz : z = nI c) : (x + y - (x + y) / 12 * 12) * 4 + z = nI ((a + b) % 12 * 4 + c) := by
  rw [nx_row hx ha hy hb, hz, nI_add]
theorem nx_lt {a b c : Nat} (hc : c < 4) : (a + b) % 12 * 4 + c < 48 := by omega
theorem nx_m1 {x : Int32} {a : Nat} (hx : x = nI (a + 1)) : x - 1 = nI a := by rw [hx]; exact nI_pred a
theorem nx_4 {x z : Int32} {a c : Nat} (hx : x = nI a) (hz : z = nI c) : x * 4 + z = nI (a * 4 + c) := by
  rw [hx, hz, show (4 : Int32) = nI 4 from rfl, pk_mul, nI_add]
theorem nx_add {x z : Int32} {a c : Nat} (hx : x = nI a) (hz : z = nI c) : x + z = nI (a + c) := by rw [hx, hz, nI_add]
theorem nx_pos {x : Int32} (h : ¬ x ≤ 0) {a : Nat} (hx : x = nI a) (ha : a < 2 ^ 31) : ∃ b, a = b + 1 := by
  cases a with
  | zero => subst hx; exact absurd (by decide) h
  | succ b => exact ⟨b, rfl⟩
def sm (f : Nat → Int32) (a : Nat) : Nat → Int32
  | 0 => 0
  | n + 1 => sm f a n + f (a + n)
theorem sm_succ (f : Nat → Int32) (a n : Nat) : sm f a (n + 1) = sm f a n + f (a + n) := rfl
theorem sm_cong {f g : Nat → Int32} {a b : Nat} : ∀ {n : Nat}, (∀ k, k < n → f (a + k) = g (b + k)) → sm f a n = sm g b n
  | 0, _ => rfl
  | n + 1, h => by rw [sm_succ, sm_succ, sm_cong (fun k hk => h k (by omega)), h n (by omega)]
def kUp (w : Nat → Int32) (o : Nat) : Nat → Nat → Nat
  | 0, t => t
  | n + 1, t => if t ≤ o then t else kUp w o n (w t).toNatClampNeg
def kDp (w : Nat → Int32) : Nat → Nat → Nat
  | 0, _ => 0
  | n + 1, t => if t = 0 then 0 else kDp w n (w t).toNatClampNeg + 1
-- the tree of accounts: each within a lower one
def kTree (w : Nat → Int32) (m : Nat) : Prop := ∀ a, 1 ≤ a → a < m → ∃ v, v < a ∧ w a = nI v
theorem kUp_le {w : Nat → Int32} {o : Nat} : ∀ (n t : Nat), t ≤ o → kUp w o n t = t
  | 0, _, _ => rfl
  | n + 1, t, h => by simp [kUp, h]
theorem kUp_step {w : Nat → Int32} {o n t v : Nat} (h : ¬ t ≤ o) (hv : w t = nI v) (hv2 : v < 2 ^ 31) : kUp w o (n + 1) t = kUp w o n v := by
  simp only [kUp, if_neg h, hv]
  rw [nI_clamp hv2]
theorem kDp_step {w : Nat → Int32} {n t v : Nat} (h : ¬ t = 0) (hv : w t = nI v) (hv2 : v < 2 ^ 31) : kDp w (n + 1) t = kDp w n v + 1 := by
  simp only [kDp, if_neg h, hv]
  rw [nI_clamp hv2]
theorem kUp_cong {w w' : Nat → Int32} {o m : Nat} (hm : m ≤ 8) (ht : kTree w m) (h : ∀ a, 1 ≤ a → a < m → w a = w' a) : ∀ (n t : Nat), t < m → kUp w o n t = kUp w' o n t
  | 0, t, _ => rfl
  | n + 1, t, hlt => by
    by_cases hto : t ≤ o
    · rw [kUp_le _ _ hto, kUp_le _ _ hto]
    · obtain ⟨v, hv, hw⟩ := ht t (by omega) hlt
      rw [kUp_step hto hw (by omega), kUp_step hto ((h t (by omega) hlt).symm.trans hw) (by omega)]
      exact kUp_cong hm ht h n v (by omega)
theorem kDp_cong {w w' : Nat → Int32} {m : Nat} (hm : m ≤ 8) (ht : kTree w m) (h : ∀ a, 1 ≤ a → a < m → w a = w' a) : ∀ (n t : Nat), t < m → kDp w n t = kDp w' n t
  | 0, t, _ => rfl
  | n + 1, t, hlt => by
    by_cases hto : t = 0
    · simp [kDp, hto]
    · obtain ⟨v, hv, hw⟩ := ht t (by omega) hlt
      rw [kDp_step hto hw (by omega), kDp_step hto ((h t (by omega) hlt).symm.trans hw) (by omega), kDp_cong hm ht h n v (by omega)]
def aS (w f : Nat → Int32) (o : Nat) : Nat → Int32
  | 0 => 0
  | n + 1 => aS w f o n + (if kUp w o 8 (o + n) = o then f (o + n) else 0)
theorem aS_succ (w f : Nat → Int32) (o n : Nat) : aS w f o (n + 1) = aS w f o n + (if kUp w o 8 (o + n) = o then f (o + n) else 0) := rfl
theorem aS_one (w f : Nat → Int32) (o : Nat) : aS w f o 1 = f o := by
  rw [aS_succ]
  simp [aS, kUp]
theorem aS_cong {w w' f f' : Nat → Int32} {o m : Nat} (hm : m ≤ 8) (ht : kTree w m) (h : ∀ a, 1 ≤ a → a < m → w a = w' a) (hf : ∀ a, a < m → f a = f' a) : ∀ n, o + n ≤ m → aS w f o n = aS w' f' o n
  | 0, _ => rfl
  | n + 1, hn => by
    rw [aS_succ, aS_succ, aS_cong hm ht h hf n (by omega), kUp_cong hm ht h 8 (o + n) (by omega), hf (o + n) (by omega)]
theorem nx_le {x : Int32} {a b : Nat} (hx : x = nI a) (ha : a < 2 ^ 31) (hb : b < 2 ^ 31) : nI b ≤ x ↔ b ≤ a := by rw [hx]; exact nI_leI hb ha
theorem nx_cmp {x y : Int32} {a b : Nat} (hx : x = nI a) (ha : a < 2 ^ 31) (hy : y = nI b) (hb : b < 2 ^ 31) : (x ≤ y ↔ a ≤ b) ∧ (x < y ↔ a < b) ∧ (x = y ↔ a = b) := by
  subst hx; subst hy
  exact ⟨nI_leI ha hb, nI_ltI ha hb, nI_eq ha hb⟩
theorem nx_nle {x y : Int32} {a b : Nat} (h : ¬ x ≤ y) (hx : x = nI a) (ha : a < 2 ^ 31) (hy : y = nI b) (hb : b < 2 ^ 31) : b < a := Nat.lt_of_not_le (fun q => h ((nx_cmp hx ha hy hb).1.mpr q))
theorem nx_nlt {x y : Int32} {a b : Nat} (h : ¬ x < y) (hx : x = nI a) (ha : a < 2 ^ 31) (hy : y = nI b) (hb : b < 2 ^ 31) : b ≤ a := Nat.le_of_not_lt (fun q => h ((nx_cmp hx ha hy hb).2.1.mpr q))
theorem nx_ne {x y : Int32} {a b : Nat} (h : ¬ x = y) (hx : x = nI a) (ha : a < 2 ^ 31) (hy : y = nI b) (hb : b < 2 ^ 31) : a ≠ b := fun q => h ((nx_cmp hx ha hy hb).2.2.mpr q)
theorem kDp_z (w : Nat → Int32) : ∀ n, kDp w n 0 = 0
  | 0 => rfl
  | n + 1 => by simp [kDp]
theorem nx_ge0 {x : Int32} (h : 0 ≤ x) : ∃ a, a < 2 ^ 31 ∧ x = nI a := nI_of (Int32.not_lt.mpr h)
theorem nx_addc (x y z : Int32) : x + y + z = x + z + y := by rw [Int32.add_assoc, Int32.add_comm y z, ← Int32.add_assoc]
end
section
set_option maxHeartbeats 4000000 in
set_option maxRecDepth 100000 in
theorem c_Belt_mass {g : kG} {σ : kS} {I : kI} {b m : Nat} (hO : sBelt g σ b m) {s0 : Nat} (hs : I b 1 = nI s0) (hs2 : s0 < 12) {x y : Int32} {π κ : Nat} (hx : x = nI π) (hx2 : π < 12) (hy : y = nI κ) (hy2 : κ < 4) : ct g mX1_mass ⟨0, 0, 0, 0⟩ [.ref b, .int x, .int y] σ I (qI (I m ((s0 + π) % 12 * 4 + κ)) σ I) := by
  refine ct_of pn1 rfl (Nat.le_of_ble_eq_true rfl) ok_X1_mass.1 trivial ?_
  show wp _ _ _ _ _ _ _ _ 0 [some (.ref b), some (.int x), some (.int y)] []
  refine w_aload_0 (pc := 0) dX1_mass_0 ?_
  refine w_getR (pc := 1) kc1 0 hO.1 hO.2.1 rfl hO.2.2.2.2.1 t96 dX1_mass_1 ?_
  refine w_aload_0 (pc := 4) dX1_mass_4 ?_
  refine w_getI (pc := 5) kc1 1 hO.1 hO.2.1 rfl t97 dX1_mass_5 ?_
  refine w_iload_1 (pc := 8) dX1_mass_8 ?_
  refine w_iadd (pc := 9) dX1_mass_9 ?_
  refine w_bipush (pc := 10) (v := 12) dX1_mass_10 (by decide) ?_
  refine w_irem (pc := 12) dX1_mass_12 (by decide) ?_
  refine w_iconst (pc := 13) (v := 4) dX1_mass_13 (by decide) ?_
  refine w_imul (pc := 14) dX1_mass_14 ?_
  refine w_iload_2 (pc := 15) dX1_mass_15 ?_
  refine w_iadd (pc := 16) dX1_mass_16 ?_
  refine w_iald (pc := 17) (j := (s0 + π) % 12 * 4 + κ) hO.2.2.1 hO.2.2.2.1 (nx_rowk hs hs2 hx hx2 hy) (nx_lt hy2) (by decide) dX1_mass_17 ?_
  refine w_iret (pc := 18) rfl ⟨Nat.le_refl _, Nat.le_refl _⟩ dX1_mass_18 ?_
  exact ⟨rfl, rfl, rfl⟩
set_option maxHeartbeats 4000000 in
set_option maxRecDepth 100000 in
theorem c_Belt_take {g : kG} {σ : kS} {I : kI} {b m : Nat} (hO : sBelt g σ b m) {s0 : Nat} (hs : I b 1 = nI s0) (hs2 : s0 < 12) {x y z : Int32} {π κ : Nat} (hx : x = nI π) (hx2 : π < 12) (hy : y = nI κ) (hy2 : κ < 4) : ct g mX1_take ⟨0, 0, 0, 0⟩ [.ref b, .int x, .int y, .int z] σ I (qV σ (kst (kst I m ((s0 + π) % 12 * 4 + κ) (I m ((s0 + π) % 12 * 4 + κ) - z)) b 2 (I b 2 - z))) := by
  refine ct_of pn1 rfl (Nat.le_of_ble_eq_true rfl) ok_X1_take.1 trivial ?_
  show wp _ _ _ _ _ _ _ _ 0 [some (.ref b), some (.int x), some (.int y), some (.int z)] []
  refine w_aload_0 (pc := 0) dX1_take_0 ?_
  refine w_getR (pc := 1) kc1 0 hO.1 hO.2.1 rfl hO.2.2.2.2.1 t96 dX1_take_1 ?_
  refine w_aload_0 (pc := 4) dX1_take_4 ?_
  refine w_getI (pc := 5) kc1 1 hO.1 hO.2.1 rfl t97 dX1_take_5 ?_
  refine w_iload_1 (pc := 8) dX1_take_8 ?_
  refine w_iadd (pc := 9) dX1_take_9 ?_
  refine w_bipush (pc := 10) (v := 12) dX1_take_10 (by decide) ?_
  refine w_irem (pc := 12) dX1_take_12 (by decide) ?_
  refine w_iconst (pc := 13) (v := 4) dX1_take_13 (by decide) ?_
  refine w_imul (pc := 14) dX1_take_14 ?_
  refine w_iload_2 (pc := 15) dX1_take_15 ?_
  refine w_iadd (pc := 16) dX1_take_16 ?_
  refine w_dup2 (pc := 17) dX1_take_17 ?_
  refine w_iald (pc := 18) (j := (s0 + π) % 12 * 4 + κ) hO.2.2.1 hO.2.2.2.1 (nx_rowk hs hs2 hx hx2 hy) (nx_lt hy2) (by decide) dX1_take_18 ?_
  refine w_iload_3 (pc := 19) dX1_take_19 ?_
  refine w_isub (pc := 20) dX1_take_20 ?_
  refine w_iast (pc := 21) (j := (s0 + π) % 12 * 4 + κ) hO.2.2.1 hO.2.2.2.1 (nx_rowk hs hs2 hx hx2 hy) (nx_lt hy2) (by decide) dX1_take_21 ?_
  refine w_aload_0 (pc := 22) dX1_take_22 ?_
  refine w_dup_a (pc := 23) dX1_take_23 ?_
  refine w_getI (pc := 24) kc1 2 hO.1 hO.2.1 rfl t98 dX1_take_24 ?_
  refine w_iload_3 (pc := 27) dX1_take_27 ?_
  refine w_isub (pc := 28) dX1_take_28 ?_
  refine w_putI (pc := 29) kc1 2 hO.1 hO.2.1 rfl t98 rfl (tyX1_ok 2 (by decide)) rfl rfl dX1_take_29 ?_
  refine w_vret (pc := 32) rfl ⟨Nat.le_refl _, Nat.le_refl _⟩ dX1_take_32 ?_
  refine ⟨rfl, rfl, ?_⟩
  rw [kst_n (I := I) (a := m) (b := b) (by have := hO.2.2.2.2.2; omega)]
set_option maxHeartbeats 4000000 in
set_option maxRecDepth 100000 in
theorem c_Belt_putAtStart {g : kG} {σ : kS} {I : kI} {b m : Nat} (hO : sBelt g σ b m) {s0 : Nat} (hs : I b 1 = nI s0) (hs2 : s0 < 12) {y z : Int32} {κ : Nat} (hy : y = nI κ) (hy2 : κ < 4) : ct g mX1_putAtStart ⟨0, 0, 0, 0⟩ [.ref b, .int y, .int z] σ I (qV σ (kst (kst I m (s0 * 4 + κ) (I m (s0 * 4 + κ) + z)) b 2 (I b 2 + z))) := by
  refine ct_of pn1 rfl (Nat.le_of_ble_eq_true rfl) ok_X1_putAtStart.1 trivial ?_
  show wp _ _ _ _ _ _ _ _ 0 [some (.ref b), some (.int y), some (.int z)] []
  refine w_aload_0 (pc := 0) dX1_putAtStart_0 ?_
  refine w_getR (pc := 1) kc1 0 hO.1 hO.2.1 rfl hO.2.2.2.2.1 t96 dX1_putAtStart_1 ?_
  refine w_aload_0 (pc := 4) dX1_putAtStart_4 ?_
  refine w_getI (pc := 5) kc1 1 hO.1 hO.2.1 rfl t97 dX1_putAtStart_5 ?_
  refine w_iconst (pc := 8) (v := 4) dX1_putAtStart_8 (by decide) ?_
  refine w_imul (pc := 9) dX1_putAtStart_9 ?_
  refine w_iload_1 (pc := 10) dX1_putAtStart_10 ?_
  refine w_iadd (pc := 11) dX1_putAtStart_11 ?_
  refine w_dup2 (pc := 12) dX1_putAtStart_12 ?_
  refine w_iald (pc := 13) (j := s0 * 4 + κ) hO.2.2.1 hO.2.2.2.1 (nx_4 hs hy) (by omega) (by decide) dX1_putAtStart_13 ?_
  refine w_iload_2 (pc := 14) dX1_putAtStart_14 ?_
  refine w_iadd (pc := 15) dX1_putAtStart_15 ?_
  refine w_iast (pc := 16) (j := s0 * 4 + κ) hO.2.2.1 hO.2.2.2.1 (nx_4 hs hy) (by omega) (by decide) dX1_putAtStart_16 ?_
  refine w_aload_0 (pc := 17) dX1_putAtStart_17 ?_
  refine w_dup_a (pc := 18) dX1_putAtStart_18 ?_
  refine w_getI (pc := 19) kc1 2 hO.1 hO.2.1 rfl t98 dX1_putAtStart_19 ?_
  refine w_iload_2 (pc := 22) dX1_putAtStart_22 ?_
  refine w_iadd (pc := 23) dX1_putAtStart_23 ?_
  refine w_putI (pc := 24) kc1 2 hO.1 hO.2.1 rfl t98 rfl (tyX1_ok 2 (by decide)) rfl rfl dX1_putAtStart_24 ?_
  refine w_vret (pc := 27) rfl ⟨Nat.le_refl _, Nat.le_refl _⟩ dX1_putAtStart_27 ?_
  refine ⟨rfl, rfl, ?_⟩
  rw [kst_n (I := I) (a := m) (b := b) (by have := hO.2.2.2.2.2; omega)]
set_option maxHeartbeats 4000000 in
set_option maxRecDepth 100000 in
theorem c_Belt_goOn {g : kG} {σ : kS} {I : kI} {b m : Nat} (hO : sBelt g σ b m) {s0 : Nat} (hs : I b 1 = nI s0) (hs2 : s0 < 12)  : ct g mX1_goOn ⟨0, 0, 0, 0⟩ [.ref b] σ I (qV σ (kst I b 1 (nI ((s0 + 11) % 12)))) := by
  refine ct_of pn1 rfl (Nat.le_of_ble_eq_true rfl) ok_X1_goOn.1 trivial ?_
  show wp _ _ _ _ _ _ _ _ 0 [some (.ref b)] []
  refine w_aload_0 (pc := 0) dX1_goOn_0 ?_
  refine w_aload_0 (pc := 1) dX1_goOn_1 ?_
  refine w_getI (pc := 2) kc1 1 hO.1 hO.2.1 rfl t97 dX1_goOn_2 ?_
  refine w_bipush (pc := 5) (v := 12) dX1_goOn_5 (by decide) ?_
  refine w_iadd (pc := 7) dX1_goOn_7 ?_
  refine w_iconst (pc := 8) (v := 1) dX1_goOn_8 (by decide) ?_
  refine w_isub (pc := 9) dX1_goOn_9 ?_
  refine w_bipush (pc := 10) (v := 12) dX1_goOn_10 (by decide) ?_
  refine w_irem (pc := 12) dX1_goOn_12 (by decide) ?_
  refine w_putI (pc := 13) kc1 1 hO.1 hO.2.1 rfl t97 rfl (tyX1_ok 1 (by decide)) rfl rfl dX1_goOn_13 ?_
  refine w_vret (pc := 16) rfl ⟨Nat.le_refl _, Nat.le_refl _⟩ dX1_goOn_16 ?_
  refine ⟨rfl, rfl, ?_⟩
  rw [hs, show nI s0 + 12 - 1 = nI (s0 + 11) from by rw [show (12 : Int32) = nI 12 from rfl, nI_add]; exact nI_pred _, show (12 : Int32) = nI 12 from rfl, pk_rem (by omega) (by omega) (by omega)]
set_option maxHeartbeats 4000000 in
set_option maxRecDepth 100000 in
theorem c_Belt_massOfPlace {g : kG} {σ : kS} {I : kI} {b m : Nat} (hO : sBelt g σ b m) {s0 : Nat} (hs : I b 1 = nI s0) (hs2 : s0 < 12) {x : Int32} {π : Nat} (hx : x = nI π) (hx2 : π < 12) : ct g mX1_massOfPlace ⟨0, 0, 0, 0⟩ [.ref b, .int x] σ I (qI (sm (I m) ((s0 + π) % 12 * 4) 4) σ I) := by
  refine ct_of pn1 rfl (Nat.le_of_ble_eq_true rfl) ok_X1_massOfPlace.1 trivial ?_
  show wp _ _ _ _ _ _ _ _ 0 [some (.ref b), some (.int x), none, none, none] []
  refine w_aload_0 (pc := 0) dX1_massOfPlace_0 ?_
  refine w_getI (pc := 1) kc1 1 hO.1 hO.2.1 rfl t97 dX1_massOfPlace_1 ?_
  refine w_iload_1 (pc := 4) dX1_massOfPlace_4 ?_
  refine w_iadd (pc := 5) dX1_massOfPlace_5 ?_
  refine w_bipush (pc := 6) (v := 12) dX1_massOfPlace_6 (by decide) ?_
  refine w_irem (pc := 8) dX1_massOfPlace_8 (by decide) ?_
  refine w_iconst (pc := 9) (v := 4) dX1_massOfPlace_9 (by decide) ?_
  refine w_imul (pc := 10) dX1_massOfPlace_10 ?_
  refine w_istore_2 (pc := 11) dX1_massOfPlace_11 rfl ?_
  refine w_iconst (pc := 12) (v := 0) dX1_massOfPlace_12 (by decide) ?_
  refine w_istore_3 (pc := 13) dX1_massOfPlace_13 rfl ?_
  refine w_iconst (pc := 14) (v := 0) dX1_massOfPlace_14 (by decide) ?_
  refine w_istore_4 (pc := 15) dX1_massOfPlace_15 rfl ?_
  refine w_iload_4 (pc := 17) dX1_massOfPlace_17 ?_
  refine w_iconst (pc := 19) (v := 4) dX1_massOfPlace_19 (by decide) ?_
  refine w_icmp_ge (pc := 20) (tgt := 41) dX1_massOfPlace_20 (by decide) (fun c9 => absurd c9 (by decide)) (fun _ => ?_)
  refine w_iload_3 (pc := 23) dX1_massOfPlace_23 ?_
  refine w_aload_0 (pc := 24) dX1_massOfPlace_24 ?_
  refine w_getR (pc := 25) kc1 0 hO.1 hO.2.1 rfl hO.2.2.2.2.1 t96 dX1_massOfPlace_25 ?_
  refine w_iload_2 (pc := 28) dX1_massOfPlace_28 ?_
  refine w_iload_4 (pc := 29) dX1_massOfPlace_29 ?_
  refine w_iadd (pc := 31) dX1_massOfPlace_31 ?_
  refine w_iald (pc := 32) (j := (s0 + π) % 12 * 4 + 0) hO.2.2.1 hO.2.2.2.1 (nx_add (nx_row hs hs2 hx hx2) rfl) (nx_lt (by decide)) (by decide) dX1_massOfPlace_32 ?_
  refine w_iadd (pc := 33) dX1_massOfPlace_33 ?_
  refine w_istore_3 (pc := 34) dX1_massOfPlace_34 rfl ?_
  refine w_iinc_4 (pc := 35) (v := 1) dX1_massOfPlace_35 (by decide) rfl ?_
  refine w_goto (pc := 38) (tgt := 17) dX1_massOfPlace_38 (by decide) ?_
  refine w_iload_4 (pc := 17) dX1_massOfPlace_17 ?_
  refine w_iconst (pc := 19) (v := 4) dX1_massOfPlace_19 (by decide) ?_
  refine w_icmp_ge (pc := 20) (tgt := 41) dX1_massOfPlace_20 (by decide) (fun c9 => absurd c9 (by decide)) (fun _ => ?_)
  refine w_iload_3 (pc := 23) dX1_massOfPlace_23 ?_
  refine w_aload_0 (pc := 24) dX1_massOfPlace_24 ?_
  refine w_getR (pc := 25) kc1 0 hO.1 hO.2.1 rfl hO.2.2.2.2.1 t96 dX1_massOfPlace_25 ?_
  refine w_iload_2 (pc := 28) dX1_massOfPlace_28 ?_
  refine w_iload_4 (pc := 29) dX1_massOfPlace_29 ?_
  refine w_iadd (pc := 31) dX1_massOfPlace_31 ?_
  refine w_iald (pc := 32) (j := (s0 + π) % 12 * 4 + 1) hO.2.2.1 hO.2.2.2.1 (nx_add (nx_row hs hs2 hx hx2) rfl) (nx_lt (by decide)) (by decide) dX1_massOfPlace_32 ?_
  refine w_iadd (pc := 33) dX1_massOfPlace_33 ?_
  refine w_istore_3 (pc := 34) dX1_massOfPlace_34 rfl ?_
  refine w_iinc_4 (pc := 35) (v := 2) dX1_massOfPlace_35 (by decide) rfl ?_
  refine w_goto (pc := 38) (tgt := 17) dX1_massOfPlace_38 (by decide) ?_
  refine w_iload_4 (pc := 17) dX1_massOfPlace_17 ?_
  refine w_iconst (pc := 19) (v := 4) dX1_massOfPlace_19 (by decide) ?_
  refine w_icmp_ge (pc := 20) (tgt := 41) dX1_massOfPlace_20 (by decide) (fun c9 => absurd c9 (by decide)) (fun _ => ?_)
  refine w_iload_3 (pc := 23) dX1_massOfPlace_23 ?_
  refine w_aload_0 (pc := 24) dX1_massOfPlace_24 ?_
  refine w_getR (pc := 25) kc1 0 hO.1 hO.2.1 rfl hO.2.2.2.2.1 t96 dX1_massOfPlace_25 ?_
  refine w_iload_2 (pc := 28) dX1_massOfPlace_28 ?_
  refine w_iload_4 (pc := 29) dX1_massOfPlace_29 ?_
  refine w_iadd (pc := 31) dX1_massOfPlace_31 ?_
  refine w_iald (pc := 32) (j := (s0 + π) % 12 * 4 + 2) hO.2.2.1 hO.2.2.2.1 (nx_add (nx_row hs hs2 hx hx2) rfl) (nx_lt (by decide)) (by decide) dX1_massOfPlace_32 ?_
  refine w_iadd (pc := 33) dX1_massOfPlace_33 ?_
  refine w_istore_3 (pc := 34) dX1_massOfPlace_34 rfl ?_
  refine w_iinc_4 (pc := 35) (v := 3) dX1_massOfPlace_35 (by decide) rfl ?_
  refine w_goto (pc := 38) (tgt := 17) dX1_massOfPlace_38 (by decide) ?_
  refine w_iload_4 (pc := 17) dX1_massOfPlace_17 ?_
  refine w_iconst (pc := 19) (v := 4) dX1_massOfPlace_19 (by decide) ?_
  refine w_icmp_ge (pc := 20) (tgt := 41) dX1_massOfPlace_20 (by decide) (fun c9 => absurd c9 (by decide)) (fun _ => ?_)
  refine w_iload_3 (pc := 23) dX1_massOfPlace_23 ?_
  refine w_aload_0 (pc := 24) dX1_massOfPlace_24 ?_
  refine w_getR (pc := 25) kc1 0 hO.1 hO.2.1 rfl hO.2.2.2.2.1 t96 dX1_massOfPlace_25 ?_
  refine w_iload_2 (pc := 28) dX1_massOfPlace_28 ?_
  refine w_iload_4 (pc := 29) dX1_massOfPlace_29 ?_
  refine w_iadd (pc := 31) dX1_massOfPlace_31 ?_
  refine w_iald (pc := 32) (j := (s0 + π) % 12 * 4 + 3) hO.2.2.1 hO.2.2.2.1 (nx_add (nx_row hs hs2 hx hx2) rfl) (nx_lt (by decide)) (by decide) dX1_massOfPlace_32 ?_
  refine w_iadd (pc := 33) dX1_massOfPlace_33 ?_
  refine w_istore_3 (pc := 34) dX1_massOfPlace_34 rfl ?_
  refine w_iinc_4 (pc := 35) (v := 4) dX1_massOfPlace_35 (by decide) rfl ?_
  refine w_goto (pc := 38) (tgt := 17) dX1_massOfPlace_38 (by decide) ?_
  refine w_iload_4 (pc := 17) dX1_massOfPlace_17 ?_
  refine w_iconst (pc := 19) (v := 4) dX1_massOfPlace_19 (by decide) ?_
  refine w_icmp_ge (pc := 20) (tgt := 41) dX1_massOfPlace_20 (by decide) (fun _ => ?_) (fun c9 => absurd (by decide) c9)
  refine w_iload_3 (pc := 41) dX1_massOfPlace_41 ?_
  refine w_iret (pc := 42) rfl ⟨Nat.le_refl _, Nat.le_refl _⟩ dX1_massOfPlace_42 ?_
  refine ⟨?_, rfl, rfl⟩
  simp only [sm, Nat.add_zero]
set_option maxHeartbeats 4000000 in
set_option maxRecDepth 100000 in
theorem c_Belt_massSeen {g : kG} {σ : kS} {I : kI} {b m : Nat} (hO : sBelt g σ b m) {s0 : Nat} (hs : I b 1 = nI s0) (hs2 : s0 < 12)  : ct g mX1_massSeen ⟨1, 0, 0, 24⟩ [.ref b] σ I (qI (0 + sm (I m) ((s0 + 4) % 12 * 4) 4 + sm (I m) ((s0 + 5) % 12 * 4) 4 + sm (I m) ((s0 + 6) % 12 * 4) 4 + sm (I m) ((s0 + 7) % 12 * 4) 4) σ I) := by
  refine ct_of pn1 rfl (Nat.le_of_ble_eq_true rfl) ok_X1_massSeen.1 trivial ?_
  show wp _ _ _ _ _ _ _ _ 0 [some (.ref b), none, none] []
  refine w_iconst (pc := 0) (v := 0) dX1_massSeen_0 (by decide) ?_
  refine w_istore_1 (pc := 1) dX1_massSeen_1 rfl ?_
  refine w_iconst (pc := 2) (v := 0) dX1_massSeen_2 (by decide) ?_
  refine w_istore_2 (pc := 3) dX1_massSeen_3 rfl ?_
  refine w_iload_2 (pc := 4) dX1_massSeen_4 ?_
  refine w_iconst (pc := 5) (v := 4) dX1_massSeen_5 (by decide) ?_
  refine w_icmp_ge (pc := 6) (tgt := 25) dX1_massSeen_6 (by decide) (fun c9 => absurd c9 (by decide)) (fun _ => ?_)
  refine w_iload_1 (pc := 9) dX1_massSeen_9 ?_
  refine w_aload_0 (pc := 10) dX1_massSeen_10 ?_
  refine w_iconst (pc := 11) (v := 4) dX1_massSeen_11 (by decide) ?_
  refine w_iload_2 (pc := 12) dX1_massSeen_12 ?_
  refine w_iadd (pc := 13) dX1_massSeen_13 ?_
  refine w_callV_I (pc := 14) (c_Belt_massOfPlace hO hs hs2 (π := 4) (x := 4 + 0) rfl (by decide)) ok_X1_massOfPlace t518 t519 kc1 hO.1 hO.2.1 t525 ⟨Nat.le_of_ble_eq_true rfl, Nat.le_of_ble_eq_true rfl⟩ ⟨rfl, rfl⟩ ⟨Nat.le_refl _, Nat.le_refl _⟩ rfl (Nat.le_of_ble_eq_true rfl) dX1_massSeen_14 ?_
  refine w_iadd (pc := 17) dX1_massSeen_17 ?_
  refine w_istore_1 (pc := 18) dX1_massSeen_18 rfl ?_
  refine w_iinc_2 (pc := 19) (v := 1) dX1_massSeen_19 (by decide) rfl ?_
  refine w_goto (pc := 22) (tgt := 4) dX1_massSeen_22 (by decide) ?_
  refine w_iload_2 (pc := 4) dX1_massSeen_4 ?_
  refine w_iconst (pc := 5) (v := 4) dX1_massSeen_5 (by decide) ?_
  refine w_icmp_ge (pc := 6) (tgt := 25) dX1_massSeen_6 (by decide) (fun c9 => absurd c9 (by decide)) (fun _ => ?_)
  refine w_iload_1 (pc := 9) dX1_massSeen_9 ?_
  refine w_aload_0 (pc := 10) dX1_massSeen_10 ?_
  refine w_iconst (pc := 11) (v := 4) dX1_massSeen_11 (by decide) ?_
  refine w_iload_2 (pc := 12) dX1_massSeen_12 ?_
  refine w_iadd (pc := 13) dX1_massSeen_13 ?_
  refine w_callV_I (pc := 14) (c_Belt_massOfPlace hO hs hs2 (π := 5) (x := 4 + 1) rfl (by decide)) ok_X1_massOfPlace t518 t519 kc1 hO.1 hO.2.1 t525 ⟨Nat.le_of_ble_eq_true rfl, Nat.le_of_ble_eq_true rfl⟩ ⟨rfl, rfl⟩ ⟨Nat.le_refl _, Nat.le_refl _⟩ rfl (Nat.le_of_ble_eq_true rfl) dX1_massSeen_14 ?_
  refine w_iadd (pc := 17) dX1_massSeen_17 ?_
  refine w_istore_1 (pc := 18) dX1_massSeen_18 rfl ?_
  refine w_iinc_2 (pc := 19) (v := 2) dX1_massSeen_19 (by decide) rfl ?_
  refine w_goto (pc := 22) (tgt := 4) dX1_massSeen_22 (by decide) ?_
  refine w_iload_2 (pc := 4) dX1_massSeen_4 ?_
  refine w_iconst (pc := 5) (v := 4) dX1_massSeen_5 (by decide) ?_
  refine w_icmp_ge (pc := 6) (tgt := 25) dX1_massSeen_6 (by decide) (fun c9 => absurd c9 (by decide)) (fun _ => ?_)
  refine w_iload_1 (pc := 9) dX1_massSeen_9 ?_
  refine w_aload_0 (pc := 10) dX1_massSeen_10 ?_
  refine w_iconst (pc := 11) (v := 4) dX1_massSeen_11 (by decide) ?_
  refine w_iload_2 (pc := 12) dX1_massSeen_12 ?_
  refine w_iadd (pc := 13) dX1_massSeen_13 ?_
  refine w_callV_I (pc := 14) (c_Belt_massOfPlace hO hs hs2 (π := 6) (x := 4 + 2) rfl (by decide)) ok_X1_massOfPlace t518 t519 kc1 hO.1 hO.2.1 t525 ⟨Nat.le_of_ble_eq_true rfl, Nat.le_of_ble_eq_true rfl⟩ ⟨rfl, rfl⟩ ⟨Nat.le_refl _, Nat.le_refl _⟩ rfl (Nat.le_of_ble_eq_true rfl) dX1_massSeen_14 ?_
  refine w_iadd (pc := 17) dX1_massSeen_17 ?_
  refine w_istore_1 (pc := 18) dX1_massSeen_18 rfl ?_
  refine w_iinc_2 (pc := 19) (v := 3) dX1_massSeen_19 (by decide) rfl ?_
  refine w_goto (pc := 22) (tgt := 4) dX1_massSeen_22 (by decide) ?_
  refine w_iload_2 (pc := 4) dX1_massSeen_4 ?_
  refine w_iconst (pc := 5) (v := 4) dX1_massSeen_5 (by decide) ?_
  refine w_icmp_ge (pc := 6) (tgt := 25) dX1_massSeen_6 (by decide) (fun c9 => absurd c9 (by decide)) (fun _ => ?_)
  refine w_iload_1 (pc := 9) dX1_massSeen_9 ?_
  refine w_aload_0 (pc := 10) dX1_massSeen_10 ?_
  refine w_iconst (pc := 11) (v := 4) dX1_massSeen_11 (by decide) ?_
  refine w_iload_2 (pc := 12) dX1_massSeen_12 ?_
  refine w_iadd (pc := 13) dX1_massSeen_13 ?_
  refine w_callV_I (pc := 14) (c_Belt_massOfPlace hO hs hs2 (π := 7) (x := 4 + 3) rfl (by decide)) ok_X1_massOfPlace t518 t519 kc1 hO.1 hO.2.1 t525 ⟨Nat.le_of_ble_eq_true rfl, Nat.le_of_ble_eq_true rfl⟩ ⟨rfl, rfl⟩ ⟨Nat.le_refl _, Nat.le_refl _⟩ rfl (Nat.le_of_ble_eq_true rfl) dX1_massSeen_14 ?_
  refine w_iadd (pc := 17) dX1_massSeen_17 ?_
  refine w_istore_1 (pc := 18) dX1_massSeen_18 rfl ?_
  refine w_iinc_2 (pc := 19) (v := 4) dX1_massSeen_19 (by decide) rfl ?_
  refine w_goto (pc := 22) (tgt := 4) dX1_massSeen_22 (by decide) ?_
  refine w_iload_2 (pc := 4) dX1_massSeen_4 ?_
  refine w_iconst (pc := 5) (v := 4) dX1_massSeen_5 (by decide) ?_
  refine w_icmp_ge (pc := 6) (tgt := 25) dX1_massSeen_6 (by decide) (fun _ => ?_) (fun c9 => absurd (by decide) c9)
  refine w_iload_1 (pc := 25) dX1_massSeen_25 ?_
  refine w_iret (pc := 26) rfl ⟨Nat.le_refl _, Nat.le_refl _⟩ dX1_massSeen_26 ?_
  exact ⟨rfl, rfl, rfl⟩
set_option maxHeartbeats 4000000 in
set_option maxRecDepth 100000 in
theorem c_Bins_has {g : kG} {σ : kS} {I : kI} {b m w t : Nat} (hO : sBins g σ b m w t) {x : Int32} : ct g mX2_has ⟨0, 0, 0, 0⟩ [.ref b, .int x] σ I (qI (if 0 ≤ x ∧ x < I b 3 then 1 else 0) σ I) := by
  refine ct_of pn2 rfl (Nat.le_of_ble_eq_true rfl) ok_X2_has.1 trivial ?_
  show wp _ _ _ _ _ _ _ _ 0 [some (.ref b), some (.int x)] []
  refine w_iload_1 (pc := 0) dX2_has_0 ?_
  refine w_if_lt (pc := 1) (tgt := 16) dX2_has_1 (by decide) (fun c1 => ?_) (fun c1 => ?_)
  · refine w_iconst (pc := 16) (v := 0) dX2_has_16 (by decide) ?_
    refine w_zret (pc := 17) rfl (by decide) ⟨Nat.le_refl _, Nat.le_refl _⟩ dX2_has_17 ?_
    refine ⟨?_, rfl, rfl⟩
    rw [if_neg (fun h => absurd h.1 (Int32.not_le.mpr c1))]
  · refine w_iload_1 (pc := 4) dX2_has_4 ?_
    refine w_aload_0 (pc := 5) dX2_has_5 ?_
    refine w_getI (pc := 6) kc2 3 hO.1 hO.2.1 rfl t121 dX2_has_6 ?_
    refine w_icmp_ge (pc := 9) (tgt := 16) dX2_has_9 (by decide) (fun c9 => ?_) (fun c9 => ?_)
    · refine w_iconst (pc := 16) (v := 0) dX2_has_16 (by decide) ?_
      refine w_zret (pc := 17) rfl (by decide) ⟨Nat.le_refl _, Nat.le_refl _⟩ dX2_has_17 ?_
      refine ⟨?_, rfl, rfl⟩
      rw [if_neg (fun h => absurd c9 (Int32.not_le.mpr h.2))]
    · refine w_iconst (pc := 12) (v := 1) dX2_has_12 (by decide) ?_
      refine w_goto (pc := 13) (tgt := 17) dX2_has_13 (by decide) ?_
      refine w_zret (pc := 17) rfl (by decide) ⟨Nat.le_refl _, Nat.le_refl _⟩ dX2_has_17 ?_
      refine ⟨?_, rfl, rfl⟩
      rw [if_pos ⟨Int32.not_lt.mp c1, Int32.not_le.mp c9⟩]
set_option maxHeartbeats 4000000 in
set_option maxRecDepth 100000 in
theorem c_Bins_addToPresent {g : kG} {σ : kS} {I : kI} {b m w t : Nat} (hO : sBins g σ b m w t) {n0 : Nat} (hm : I b 3 = nI n0) (hm2 : n0 ≤ 8) {y z : Int32} {κ : Nat} (hy : y = nI κ) (hy2 : κ < 4) : ct g mX2_addToPresent ⟨0, 0, 0, 0⟩ [.ref b, .int y, .int z] σ I (qV σ (if n0 = 0 then I else kst I m ((n0 - 1) * 4 + κ) (I m ((n0 - 1) * 4 + κ) + z))) := by
  refine ct_of pn2 rfl (Nat.le_of_ble_eq_true rfl) ok_X2_addToPresent.1 trivial ?_
  show wp _ _ _ _ _ _ _ _ 0 [some (.ref b), some (.int y), some (.int z)] []
  refine w_aload_0 (pc := 0) dX2_addToPresent_0 ?_
  refine w_getI (pc := 1) kc2 3 hO.1 hO.2.1 rfl t121 dX2_addToPresent_1 ?_
  refine w_if_le (pc := 4) (tgt := 26) dX2_addToPresent_4 (by decide) (fun c4 => ?_) (fun c4 => ?_)
  · refine w_vret (pc := 26) rfl ⟨Nat.le_refl _, Nat.le_refl _⟩ dX2_addToPresent_26 ?_
    refine ⟨rfl, rfl, ?_⟩
    rw [if_pos]
    rw [hm] at c4
    exact Nat.le_zero.mp ((nI_leI (by omega) (by omega)).mp c4)
  · obtain ⟨k0, rfl⟩ := nx_pos c4 hm (by omega)
    refine w_aload_0 (pc := 7) dX2_addToPresent_7 ?_
    refine w_getR (pc := 8) kc2 0 hO.1 hO.2.1 rfl hO.2.2.2.2.2.2.2.2.1 t114 dX2_addToPresent_8 ?_
    refine w_aload_0 (pc := 11) dX2_addToPresent_11 ?_
    refine w_getI (pc := 12) kc2 3 hO.1 hO.2.1 rfl t121 dX2_addToPresent_12 ?_
    refine w_iconst (pc := 15) (v := 1) dX2_addToPresent_15 (by decide) ?_
    refine w_isub (pc := 16) dX2_addToPresent_16 ?_
    refine w_iconst (pc := 17) (v := 4) dX2_addToPresent_17 (by decide) ?_
    refine w_imul (pc := 18) dX2_addToPresent_18 ?_
    refine w_iload_1 (pc := 19) dX2_addToPresent_19 ?_
    refine w_iadd (pc := 20) dX2_addToPresent_20 ?_
    refine w_dup2 (pc := 21) dX2_addToPresent_21 ?_
    refine w_iald (pc := 22) (j := k0 * 4 + κ) hO.2.2.1 hO.2.2.2.1 (nx_4 (nx_m1 hm) hy) (by omega) (by decide) dX2_addToPresent_22 ?_
    refine w_iload_2 (pc := 23) dX2_addToPresent_23 ?_
    refine w_iadd (pc := 24) dX2_addToPresent_24 ?_
    refine w_iast (pc := 25) (j := k0 * 4 + κ) hO.2.2.1 hO.2.2.2.1 (nx_4 (nx_m1 hm) hy) (by omega) (by decide) dX2_addToPresent_25 ?_
    refine w_vret (pc := 26) rfl ⟨Nat.le_refl _, Nat.le_refl _⟩ dX2_addToPresent_26 ?_
    exact ⟨rfl, rfl, rfl⟩
set_option maxHeartbeats 4000000 in
set_option maxRecDepth 100000 in
theorem c_Bins_growPresent {g : kG} {σ : kS} {I : kI} {b m w t : Nat} (hO : sBins g σ b m w t) {n0 : Nat} (hm : I b 3 = nI n0) (hm2 : n0 ≤ 8) {z : Int32} : ct g mX2_growPresent ⟨0, 0, 0, 0⟩ [.ref b, .int z] σ I (qV σ (if n0 = 0 then I else kst I w (n0 - 1) (I w (n0 - 1) + z))) := by
  refine ct_of pn2 rfl (Nat.le_of_ble_eq_true rfl) ok_X2_growPresent.1 trivial ?_
  show wp _ _ _ _ _ _ _ _ 0 [some (.ref b), some (.int z)] []
  refine w_aload_0 (pc := 0) dX2_growPresent_0 ?_
  refine w_getI (pc := 1) kc2 3 hO.1 hO.2.1 rfl t121 dX2_growPresent_1 ?_
  refine w_if_le (pc := 4) (tgt := 22) dX2_growPresent_4 (by decide) (fun c4 => ?_) (fun c4 => ?_)
  · refine w_vret (pc := 22) rfl ⟨Nat.le_refl _, Nat.le_refl _⟩ dX2_growPresent_22 ?_
    refine ⟨rfl, rfl, ?_⟩
    rw [if_pos]
    rw [hm] at c4
    exact Nat.le_zero.mp ((nI_leI (by omega) (by omega)).mp c4)
  · obtain ⟨k0, rfl⟩ := nx_pos c4 hm (by omega)
    refine w_aload_0 (pc := 7) dX2_growPresent_7 ?_
    refine w_getR (pc := 8) kc2 1 hO.1 hO.2.1 rfl hO.2.2.2.2.2.2.2.2.2.1 t116 dX2_growPresent_8 ?_
    refine w_aload_0 (pc := 11) dX2_growPresent_11 ?_
    refine w_getI (pc := 12) kc2 3 hO.1 hO.2.1 rfl t121 dX2_growPresent_12 ?_
    refine w_iconst (pc := 15) (v := 1) dX2_growPresent_15 (by decide) ?_
    refine w_isub (pc := 16) dX2_growPresent_16 ?_
    refine w_dup2 (pc := 17) dX2_growPresent_17 ?_
    refine w_iald (pc := 18) (j := k0) hO.2.2.2.2.1 hO.2.2.2.2.2.1 (nx_m1 hm) (by omega) (by decide) dX2_growPresent_18 ?_
    refine w_iload_1 (pc := 19) dX2_growPresent_19 ?_
    refine w_iadd (pc := 20) dX2_growPresent_20 ?_
    refine w_iast (pc := 21) (j := k0) hO.2.2.2.2.1 hO.2.2.2.2.2.1 (nx_m1 hm) (by omega) (by decide) dX2_growPresent_21 ?_
    refine w_vret (pc := 22) rfl ⟨Nat.le_refl _, Nat.le_refl _⟩ dX2_growPresent_22 ?_
    exact ⟨rfl, rfl, rfl⟩
set_option maxHeartbeats 4000000 in
set_option maxRecDepth 100000 in
theorem c_Bins_countFilledTick {g : kG} {σ : kS} {I : kI} {b m w t : Nat} (hO : sBins g σ b m w t) {n0 : Nat} (hm : I b 3 = nI n0) (hm2 : n0 ≤ 8)  : ct g mX2_countFilledTick ⟨0, 0, 0, 0⟩ [.ref b] σ I (qV σ (if n0 = 0 then I else kst I t (n0 - 1) (I t (n0 - 1) + 1))) := by
  refine ct_of pn2 rfl (Nat.le_of_ble_eq_true rfl) ok_X2_countFilledTick.1 trivial ?_
  show wp _ _ _ _ _ _ _ _ 0 [some (.ref b)] []
  refine w_aload_0 (pc := 0) dX2_countFilledTick_0 ?_
  refine w_getI (pc := 1) kc2 3 hO.1 hO.2.1 rfl t121 dX2_countFilledTick_1 ?_
  refine w_if_le (pc := 4) (tgt := 22) dX2_countFilledTick_4 (by decide) (fun c4 => ?_) (fun c4 => ?_)
  · refine w_vret (pc := 22) rfl ⟨Nat.le_refl _, Nat.le_refl _⟩ dX2_countFilledTick_22 ?_
    refine ⟨rfl, rfl, ?_⟩
    rw [if_pos]
    rw [hm] at c4
    exact Nat.le_zero.mp ((nI_leI (by omega) (by omega)).mp c4)
  · obtain ⟨k0, rfl⟩ := nx_pos c4 hm (by omega)
    refine w_aload_0 (pc := 7) dX2_countFilledTick_7 ?_
    refine w_getR (pc := 8) kc2 2 hO.1 hO.2.1 rfl hO.2.2.2.2.2.2.2.2.2.2.1 t119 dX2_countFilledTick_8 ?_
    refine w_aload_0 (pc := 11) dX2_countFilledTick_11 ?_
    refine w_getI (pc := 12) kc2 3 hO.1 hO.2.1 rfl t121 dX2_countFilledTick_12 ?_
    refine w_iconst (pc := 15) (v := 1) dX2_countFilledTick_15 (by decide) ?_
    refine w_isub (pc := 16) dX2_countFilledTick_16 ?_
    refine w_dup2 (pc := 17) dX2_countFilledTick_17 ?_
    refine w_iald (pc := 18) (j := k0) hO.2.2.2.2.2.2.1 hO.2.2.2.2.2.2.2.1 (nx_m1 hm) (by omega) (by decide) dX2_countFilledTick_18 ?_
    refine w_iconst (pc := 19) (v := 1) dX2_countFilledTick_19 (by decide) ?_
    refine w_iadd (pc := 20) dX2_countFilledTick_20 ?_
    refine w_iast (pc := 21) (j := k0) hO.2.2.2.2.2.2.1 hO.2.2.2.2.2.2.2.1 (nx_m1 hm) (by omega) (by decide) dX2_countFilledTick_21 ?_
    refine w_vret (pc := 22) rfl ⟨Nat.le_refl _, Nat.le_refl _⟩ dX2_countFilledTick_22 ?_
    exact ⟨rfl, rfl, rfl⟩
set_option maxHeartbeats 4000000 in
set_option maxRecDepth 100000 in
theorem c_Bins_massOf {g : kG} {σ : kS} {I : kI} {b m w t : Nat} (hO : sBins g σ b m w t) {x : Int32} {k0 : Nat} (hx : x = nI k0) (hx2 : k0 < 8) : ct g mX2_massOf ⟨0, 0, 0, 0⟩ [.ref b, .int x] σ I (qI (sm (I m) (k0 * 4) 4) σ I) := by
  refine ct_of pn2 rfl (Nat.le_of_ble_eq_true rfl) ok_X2_massOf.1 trivial ?_
  show wp _ _ _ _ _ _ _ _ 0 [some (.ref b), some (.int x), none, none] []
  refine w_iconst (pc := 0) (v := 0) dX2_massOf_0 (by decide) ?_
  refine w_istore_2 (pc := 1) dX2_massOf_1 rfl ?_
  refine w_iconst (pc := 2) (v := 0) dX2_massOf_2 (by decide) ?_
  refine w_istore_3 (pc := 3) dX2_massOf_3 rfl ?_
  refine w_iload_3 (pc := 4) dX2_massOf_4 ?_
  refine w_iconst (pc := 5) (v := 4) dX2_massOf_5 (by decide) ?_
  refine w_icmp_ge (pc := 6) (tgt := 28) dX2_massOf_6 (by decide) (fun c9 => absurd c9 (by decide)) (fun _ => ?_)
  refine w_iload_2 (pc := 9) dX2_massOf_9 ?_
  refine w_aload_0 (pc := 10) dX2_massOf_10 ?_
  refine w_getR (pc := 11) kc2 0 hO.1 hO.2.1 rfl hO.2.2.2.2.2.2.2.2.1 t114 dX2_massOf_11 ?_
  refine w_iload_1 (pc := 14) dX2_massOf_14 ?_
  refine w_iconst (pc := 15) (v := 4) dX2_massOf_15 (by decide) ?_
  refine w_imul (pc := 16) dX2_massOf_16 ?_
  refine w_iload_3 (pc := 17) dX2_massOf_17 ?_
  refine w_iadd (pc := 18) dX2_massOf_18 ?_
  refine w_iald (pc := 19) (j := k0 * 4 + 0) hO.2.2.1 hO.2.2.2.1 (nx_4 hx rfl) (by omega) (by decide) dX2_massOf_19 ?_
  refine w_iadd (pc := 20) dX2_massOf_20 ?_
  refine w_istore_2 (pc := 21) dX2_massOf_21 rfl ?_
  refine w_iinc_3 (pc := 22) (v := 1) dX2_massOf_22 (by decide) rfl ?_
  refine w_goto (pc := 25) (tgt := 4) dX2_massOf_25 (by decide) ?_
  refine w_iload_3 (pc := 4) dX2_massOf_4 ?_
  refine w_iconst (pc := 5) (v := 4) dX2_massOf_5 (by decide) ?_
  refine w_icmp_ge (pc := 6) (tgt := 28) dX2_massOf_6 (by decide) (fun c9 => absurd c9 (by decide)) (fun _ => ?_)
  refine w_iload_2 (pc := 9) dX2_massOf_9 ?_
  refine w_aload_0 (pc := 10) dX2_massOf_10 ?_
  refine w_getR (pc := 11) kc2 0 hO.1 hO.2.1 rfl hO.2.2.2.2.2.2.2.2.1 t114 dX2_massOf_11 ?_
  refine w_iload_1 (pc := 14) dX2_massOf_14 ?_
  refine w_iconst (pc := 15) (v := 4) dX2_massOf_15 (by decide) ?_
  refine w_imul (pc := 16) dX2_massOf_16 ?_
  refine w_iload_3 (pc := 17) dX2_massOf_17 ?_
  refine w_iadd (pc := 18) dX2_massOf_18 ?_
  refine w_iald (pc := 19) (j := k0 * 4 + 1) hO.2.2.1 hO.2.2.2.1 (nx_4 hx rfl) (by omega) (by decide) dX2_massOf_19 ?_
  refine w_iadd (pc := 20) dX2_massOf_20 ?_
  refine w_istore_2 (pc := 21) dX2_massOf_21 rfl ?_
  refine w_iinc_3 (pc := 22) (v := 2) dX2_massOf_22 (by decide) rfl ?_
  refine w_goto (pc := 25) (tgt := 4) dX2_massOf_25 (by decide) ?_
  refine w_iload_3 (pc := 4) dX2_massOf_4 ?_
  refine w_iconst (pc := 5) (v := 4) dX2_massOf_5 (by decide) ?_
  refine w_icmp_ge (pc := 6) (tgt := 28) dX2_massOf_6 (by decide) (fun c9 => absurd c9 (by decide)) (fun _ => ?_)
  refine w_iload_2 (pc := 9) dX2_massOf_9 ?_
  refine w_aload_0 (pc := 10) dX2_massOf_10 ?_
  refine w_getR (pc := 11) kc2 0 hO.1 hO.2.1 rfl hO.2.2.2.2.2.2.2.2.1 t114 dX2_massOf_11 ?_
  refine w_iload_1 (pc := 14) dX2_massOf_14 ?_
  refine w_iconst (pc := 15) (v := 4) dX2_massOf_15 (by decide) ?_
  refine w_imul (pc := 16) dX2_massOf_16 ?_
  refine w_iload_3 (pc := 17) dX2_massOf_17 ?_
  refine w_iadd (pc := 18) dX2_massOf_18 ?_
  refine w_iald (pc := 19) (j := k0 * 4 + 2) hO.2.2.1 hO.2.2.2.1 (nx_4 hx rfl) (by omega) (by decide) dX2_massOf_19 ?_
  refine w_iadd (pc := 20) dX2_massOf_20 ?_
  refine w_istore_2 (pc := 21) dX2_massOf_21 rfl ?_
  refine w_iinc_3 (pc := 22) (v := 3) dX2_massOf_22 (by decide) rfl ?_
  refine w_goto (pc := 25) (tgt := 4) dX2_massOf_25 (by decide) ?_
  refine w_iload_3 (pc := 4) dX2_massOf_4 ?_
  refine w_iconst (pc := 5) (v := 4) dX2_massOf_5 (by decide) ?_
  refine w_icmp_ge (pc := 6) (tgt := 28) dX2_massOf_6 (by decide) (fun c9 => absurd c9 (by decide)) (fun _ => ?_)
  refine w_iload_2 (pc := 9) dX2_massOf_9 ?_
  refine w_aload_0 (pc := 10) dX2_massOf_10 ?_
  refine w_getR (pc := 11) kc2 0 hO.1 hO.2.1 rfl hO.2.2.2.2.2.2.2.2.1 t114 dX2_massOf_11 ?_
  refine w_iload_1 (pc := 14) dX2_massOf_14 ?_
  refine w_iconst (pc := 15) (v := 4) dX2_massOf_15 (by decide) ?_
  refine w_imul (pc := 16) dX2_massOf_16 ?_
  refine w_iload_3 (pc := 17) dX2_massOf_17 ?_
  refine w_iadd (pc := 18) dX2_massOf_18 ?_
  refine w_iald (pc := 19) (j := k0 * 4 + 3) hO.2.2.1 hO.2.2.2.1 (nx_4 hx rfl) (by omega) (by decide) dX2_massOf_19 ?_
  refine w_iadd (pc := 20) dX2_massOf_20 ?_
  refine w_istore_2 (pc := 21) dX2_massOf_21 rfl ?_
  refine w_iinc_3 (pc := 22) (v := 4) dX2_massOf_22 (by decide) rfl ?_
  refine w_goto (pc := 25) (tgt := 4) dX2_massOf_25 (by decide) ?_
  refine w_iload_3 (pc := 4) dX2_massOf_4 ?_
  refine w_iconst (pc := 5) (v := 4) dX2_massOf_5 (by decide) ?_
  refine w_icmp_ge (pc := 6) (tgt := 28) dX2_massOf_6 (by decide) (fun _ => ?_) (fun c9 => absurd (by decide) c9)
  refine w_iload_2 (pc := 28) dX2_massOf_28 ?_
  refine w_iret (pc := 29) rfl ⟨Nat.le_refl _, Nat.le_refl _⟩ dX2_massOf_29 ?_
  refine ⟨?_, rfl, rfl⟩
  simp only [sm, Nat.add_zero]
set_option maxHeartbeats 4000000 in
set_option maxRecDepth 100000 in
theorem c_Bins_massOfPresent {g : kG} {σ : kS} {I : kI} {b m w t : Nat} (hO : sBins g σ b m w t) {n0 : Nat} (hm : I b 3 = nI n0) (hm2 : n0 ≤ 8)  : ct g mX2_massOfPresent ⟨1, 0, 0, 23⟩ [.ref b] σ I (qI (if n0 = 0 then 0 else sm (I m) ((n0 - 1) * 4) 4) σ I) := by
  refine ct_of pn2 rfl (Nat.le_of_ble_eq_true rfl) ok_X2_massOfPresent.1 trivial ?_
  show wp _ _ _ _ _ _ _ _ 0 [some (.ref b)] []
  refine w_aload_0 (pc := 0) dX2_massOfPresent_0 ?_
  refine w_getI (pc := 1) kc2 3 hO.1 hO.2.1 rfl t121 dX2_massOfPresent_1 ?_
  refine w_if_le (pc := 4) (tgt := 20) dX2_massOfPresent_4 (by decide) (fun c4 => ?_) (fun c4 => ?_)
  · refine w_iconst (pc := 20) (v := 0) dX2_massOfPresent_20 (by decide) ?_
    refine w_iret (pc := 21) rfl ⟨Nat.le_refl _, Nat.le_refl _⟩ dX2_massOfPresent_21 ?_
    refine ⟨?_, rfl, rfl⟩
    rw [if_pos]
    rw [hm] at c4
    exact Nat.le_zero.mp ((nI_leI (by omega) (by omega)).mp c4)
  · obtain ⟨k0, rfl⟩ := nx_pos c4 hm (by omega)
    refine w_aload_0 (pc := 7) dX2_massOfPresent_7 ?_
    refine w_aload_0 (pc := 8) dX2_massOfPresent_8 ?_
    refine w_getI (pc := 9) kc2 3 hO.1 hO.2.1 rfl t121 dX2_massOfPresent_9 ?_
    refine w_iconst (pc := 12) (v := 1) dX2_massOfPresent_12 (by decide) ?_
    refine w_isub (pc := 13) dX2_massOfPresent_13 ?_
    refine w_callV_I (pc := 14) (c_Bins_massOf hO (nx_m1 hm) (by omega)) ok_X2_massOf t564 t565 kc2 hO.1 hO.2.1 t684 ⟨Nat.le_of_ble_eq_true rfl, Nat.le_of_ble_eq_true rfl⟩ ⟨rfl, rfl⟩ ⟨Nat.le_refl _, Nat.le_refl _⟩ rfl (Nat.le_of_ble_eq_true rfl) dX2_massOfPresent_14 ?_
    refine w_goto (pc := 17) (tgt := 21) dX2_massOfPresent_17 (by decide) ?_
    refine w_iret (pc := 21) rfl ⟨Nat.le_refl _, Nat.le_refl _⟩ dX2_massOfPresent_21 ?_
    exact ⟨rfl, rfl, rfl⟩
end
section
set_option maxHeartbeats 4000000 in
set_option maxRecDepth 100000 in
theorem c_isKind {g : kG} {σ : kS} {I : kI} {x : Int32} : ct g mX10_isKind ⟨0, 0, 0, 0⟩ [.int x] σ I (qI (if 0 ≤ x ∧ x < 4 then 1 else 0) σ I) := by
  refine ct_of pn10 rfl (Nat.le_of_ble_eq_true rfl) ok_X10_isKind.1 trivial ?_
  show wp _ _ _ _ _ _ _ _ 0 [some (.int x)] []
  refine w_iload_0 (pc := 0) dX10_isKind_0 ?_
  refine w_if_lt (pc := 1) (tgt := 13) dX10_isKind_1 (by decide) (fun c1 => ?_) (fun c1 => ?_)
  · refine w_iconst (pc := 13) (v := 0) dX10_isKind_13 (by decide) ?_
    refine w_zret (pc := 14) rfl (by decide) ⟨Nat.le_refl _, Nat.le_refl _⟩ dX10_isKind_14 ?_
    refine ⟨?_, rfl, rfl⟩
    rw [if_neg (fun h => absurd h.1 (Int32.not_le.mpr c1))]
  · refine w_iload_0 (pc := 4) dX10_isKind_4 ?_
    refine w_iconst (pc := 5) (v := 4) dX10_isKind_5 (by decide) ?_
    refine w_icmp_ge (pc := 6) (tgt := 13) dX10_isKind_6 (by decide) (fun c6 => ?_) (fun c6 => ?_)
    · refine w_iconst (pc := 13) (v := 0) dX10_isKind_13 (by decide) ?_
      refine w_zret (pc := 14) rfl (by decide) ⟨Nat.le_refl _, Nat.le_refl _⟩ dX10_isKind_14 ?_
      refine ⟨?_, rfl, rfl⟩
      rw [if_neg (fun h => absurd c6 (Int32.not_le.mpr h.2))]
    · refine w_iconst (pc := 9) (v := 1) dX10_isKind_9 (by decide) ?_
      refine w_goto (pc := 10) (tgt := 14) dX10_isKind_10 (by decide) ?_
      refine w_zret (pc := 14) rfl (by decide) ⟨Nat.le_refl _, Nat.le_refl _⟩ dX10_isKind_14 ?_
      refine ⟨?_, rfl, rfl⟩
      rw [if_pos ⟨Int32.not_lt.mp c1, Int32.not_le.mp c6⟩]
set_option maxHeartbeats 4000000 in
set_option maxRecDepth 100000 in
theorem c_isError {g : kG} {σ : kS} {I : kI} {x : Int32} : ct g mX10_isError ⟨0, 0, 0, 0⟩ [.int x] σ I (qI (if -1000004 ≤ x ∧ x ≤ -1000001 then 1 else 0) σ I) := by
  refine ct_of pn10 rfl (Nat.le_of_ble_eq_true rfl) ok_X10_isError.1 trivial ?_
  show wp _ _ _ _ _ _ _ _ 0 [some (.int x)] []
  refine w_iload_0 (pc := 0) dX10_isError_0 ?_
  refine w_ldc (pc := 1) (v := -1000004) t411 dX10_isError_1 ?_
  refine w_icmp_lt (pc := 3) (tgt := 16) dX10_isError_3 (by decide) (fun c3 => ?_) (fun c3 => ?_)
  · refine w_iconst (pc := 16) (v := 0) dX10_isError_16 (by decide) ?_
    refine w_zret (pc := 17) rfl (by decide) ⟨Nat.le_refl _, Nat.le_refl _⟩ dX10_isError_17 ?_
    refine ⟨?_, rfl, rfl⟩
    rw [if_neg (fun h => absurd h.1 (Int32.not_le.mpr c3))]
  · refine w_iload_0 (pc := 6) dX10_isError_6 ?_
    refine w_ldc (pc := 7) (v := -1000001) t412 dX10_isError_7 ?_
    refine w_icmp_gt (pc := 9) (tgt := 16) dX10_isError_9 (by decide) (fun c9 => ?_) (fun c9 => ?_)
    · refine w_iconst (pc := 16) (v := 0) dX10_isError_16 (by decide) ?_
      refine w_zret (pc := 17) rfl (by decide) ⟨Nat.le_refl _, Nat.le_refl _⟩ dX10_isError_17 ?_
      refine ⟨?_, rfl, rfl⟩
      rw [if_neg (fun h => absurd h.2 (Int32.not_le.mpr c9))]
    · refine w_iconst (pc := 12) (v := 1) dX10_isError_12 (by decide) ?_
      refine w_goto (pc := 13) (tgt := 17) dX10_isError_13 (by decide) ?_
      refine w_zret (pc := 17) rfl (by decide) ⟨Nat.le_refl _, Nat.le_refl _⟩ dX10_isError_17 ?_
      refine ⟨?_, rfl, rfl⟩
      rw [if_pos ⟨Int32.not_lt.mp c3, Int32.not_lt.mp c9⟩]
set_option maxHeartbeats 4000000 in
set_option maxRecDepth 100000 in
theorem c_copyInto {g : kG} {σ : kS} {I : kI} {a b N : Nat} (ha : kB g ≤ a ∧ a < σ.1) (hs : σ.2.1 a = (100, N)) (hb : kB g ≤ b ∧ b < σ.1) (hs2 : σ.2.1 b = (100, N)) (hN : N < 2 ^ 31) : ct g mX10_copyInto ⟨1, 0, 0, 26⟩ [.ref a, .ref b] σ I (qV σ (va_up I a (va_cpy (I b) (I a) 0 0 N))) := by
  refine ct_of pn10 rfl (Nat.le_of_ble_eq_true rfl) ok_X10_copyInto.1 trivial ?_
  show wp _ _ _ _ _ _ _ _ 0 [some (.ref a), some (.ref b)] []
  refine w_aload_1 (pc := 0) dX10_copyInto_0 ?_
  refine w_iconst (pc := 1) (v := 0) dX10_copyInto_1 (by decide) ?_
  refine w_aload_0 (pc := 2) dX10_copyInto_2 ?_
  refine w_iconst (pc := 3) (v := 0) dX10_copyInto_3 (by decide) ?_
  refine w_aload_1 (pc := 4) dX10_copyInto_4 ?_
  refine w_alen (pc := 5) (v := nI N) hb hs2 rfl dX10_copyInto_5 ?_
  refine w_aload_0 (pc := 6) dX10_copyInto_6 ?_
  refine w_alen (pc := 7) (v := nI N) ha hs rfl dX10_copyInto_7 ?_
  refine w_mmin (pc := 8) t190 t191 t42 t192 ⟨⟨Nat.le_of_ble_eq_true rfl, Nat.le_of_ble_eq_true rfl⟩, Nat.le_refl _, Nat.le_refl _⟩ dX10_copyInto_8 ?_
  refine w_copy (pc := 11) (k := N) hb hs2 (Nat.le_refl N) hN ha hs (Nat.le_refl N) hN (by simp) t193 t195 t194 t43 ⟨Nat.le_of_ble_eq_true rfl, Nat.le_of_ble_eq_true rfl⟩ dX10_copyInto_11 ?_
  refine w_vret (pc := 14) rfl ⟨Nat.le_refl _, Nat.le_refl _⟩ dX10_copyInto_14 ?_
  exact ⟨rfl, rfl, rfl⟩
set_option maxHeartbeats 4000000 in
set_option maxRecDepth 100000 in
theorem c_copyIntoS {g : kG} {σ : kS} {I : kI} {a j : Nat} (hj : j < 3) (ha : kB g ≤ a ∧ a < σ.1) (hs : σ.2.1 a = (100, 3)) : ct g mX10_copyInto ⟨1, 0, 0, 26⟩ [.ref a, .ref (g.2.2.2.2.2 j)] σ I (qV σ (va_up I a (va_cpy (fun z => kSv j z) (I a) 0 0 3))) := by
  refine ct_of pn10 rfl (Nat.le_of_ble_eq_true rfl) ok_X10_copyInto.1 trivial ?_
  show wp _ _ _ _ _ _ _ _ 0 [some (.ref a), some (.ref (g.2.2.2.2.2 j))] []
  refine w_aload_1 (pc := 0) dX10_copyInto_0 ?_
  refine w_iconst (pc := 1) (v := 0) dX10_copyInto_1 (by decide) ?_
  refine w_aload_0 (pc := 2) dX10_copyInto_2 ?_
  refine w_iconst (pc := 3) (v := 0) dX10_copyInto_3 (by decide) ?_
  refine w_aload_1 (pc := 4) dX10_copyInto_4 ?_
  refine w_salen (pc := 5) (j := j) (v := 3) hj rfl dX10_copyInto_5 ?_
  refine w_aload_0 (pc := 6) dX10_copyInto_6 ?_
  refine w_alen (pc := 7) (v := nI 3) ha hs rfl dX10_copyInto_7 ?_
  refine w_mmin (pc := 8) t190 t191 t42 t192 ⟨⟨Nat.le_of_ble_eq_true rfl, Nat.le_of_ble_eq_true rfl⟩, Nat.le_refl _, Nat.le_refl _⟩ dX10_copyInto_8 ?_
  refine w_copyS (pc := 11) (k := 3) hj (Nat.le_refl 3) ha hs (Nat.le_refl 3) (by decide) (by decide) t193 t195 t194 t43 ⟨Nat.le_of_ble_eq_true rfl, Nat.le_of_ble_eq_true rfl⟩ dX10_copyInto_11 ?_
  refine w_vret (pc := 14) rfl ⟨Nat.le_refl _, Nat.le_refl _⟩ dX10_copyInto_14 ?_
  exact ⟨rfl, rfl, rfl⟩
set_option maxHeartbeats 4000000 in
set_option maxRecDepth 100000 in
theorem c_Hop_append {g : kG} {σ : kS} {I : kI} {h k m : Nat} (hO : sHop g σ h k m) {L : Nat} (hL : I h 2 = nI L) (hL2 : L < 6) {x y : Int32} : ct g mX5_append ⟨0, 0, 0, 0⟩ [.ref h, .int x, .int y] σ I (qV σ (kst (kst (kst (kst I k L x) m L y) h 2 (nI (L + 1))) h 3 (I h 3 + y))) := by
  refine ct_of pn5 rfl (Nat.le_of_ble_eq_true rfl) ok_X5_append.1 trivial ?_
  show wp _ _ _ _ _ _ _ _ 0 [some (.ref h), some (.int x), some (.int y)] []
  refine w_aload_0 (pc := 0) dX5_append_0 ?_
  refine w_getI (pc := 1) kc5 2 hO.1 hO.2.1 rfl t75 dX5_append_1 ?_
  refine w_bipush (pc := 4) (v := 6) dX5_append_4 (by decide) ?_
  refine w_icmp_ge (pc := 6) (tgt := 49) dX5_append_6 (by decide) (fun c6 => ?_) (fun c6 => ?_)
  · exact absurd ((nx_cmp (a := 6) (b := L) rfl (by decide) hL (by omega)).1.mp c6) (by omega)
  · have o1 := hO.2.2.2.2.2.2.2.2.1
    have o2 := hO.2.2.2.2.2.2.2.2.2
    refine w_aload_0 (pc := 9) dX5_append_9 ?_
    refine w_getR (pc := 10) kc5 0 hO.1 hO.2.1 rfl hO.2.2.2.2.2.2.1 t69 dX5_append_10 ?_
    refine w_aload_0 (pc := 13) dX5_append_13 ?_
    refine w_getI (pc := 14) kc5 2 hO.1 hO.2.1 rfl t75 dX5_append_14 ?_
    refine w_iload_1 (pc := 17) dX5_append_17 ?_
    refine w_iast (pc := 18) (j := L) hO.2.2.1 hO.2.2.2.1 hL hL2 (by decide) dX5_append_18 ?_
    refine w_aload_0 (pc := 19) dX5_append_19 ?_
    refine w_getR (pc := 20) kc5 1 hO.1 hO.2.1 rfl hO.2.2.2.2.2.2.2.1 t72 dX5_append_20 ?_
    refine w_aload_0 (pc := 23) dX5_append_23 ?_
    refine w_getI (pc := 24) kc5 2 hO.1 hO.2.1 rfl t75 dX5_append_24 ?_
    refine w_iload_2 (pc := 27) dX5_append_27 ?_
    refine w_iast (pc := 28) (j := L) hO.2.2.2.2.1 hO.2.2.2.2.2.1 (by rw [kst_n (by omega)]; exact hL) hL2 (by decide) dX5_append_28 ?_
    refine w_aload_0 (pc := 29) dX5_append_29 ?_
    refine w_dup_a (pc := 30) dX5_append_30 ?_
    refine w_getI (pc := 31) kc5 2 hO.1 hO.2.1 rfl t75 dX5_append_31 ?_
    refine w_iconst (pc := 34) (v := 1) dX5_append_34 (by decide) ?_
    refine w_iadd (pc := 35) dX5_append_35 ?_
    refine w_putI (pc := 36) kc5 2 hO.1 hO.2.1 rfl t75 rfl (tyX5_ok 2 (by decide)) rfl rfl dX5_append_36 ?_
    refine w_aload_0 (pc := 39) dX5_append_39 ?_
    refine w_dup_a (pc := 40) dX5_append_40 ?_
    refine w_getI (pc := 41) kc5 3 hO.1 hO.2.1 rfl t78 dX5_append_41 ?_
    refine w_iload_2 (pc := 44) dX5_append_44 ?_
    refine w_iadd (pc := 45) dX5_append_45 ?_
    refine w_putI (pc := 46) kc5 3 hO.1 hO.2.1 rfl t78 rfl (tyX5_ok 3 (by decide)) rfl rfl dX5_append_46 ?_
    refine w_vret (pc := 49) rfl ⟨Nat.le_refl _, Nat.le_refl _⟩ dX5_append_49 ?_
    refine ⟨rfl, rfl, ?_⟩
    rw [kst_n (I := kst I k L x) (a := m) (b := h) (by omega), kst_n (I := I) (a := k) (b := h) (by omega), hL, nI_1]
    congr 1
    rw [kst_s, kst_n (I := kst I k L x) (a := m) (b := h) (by omega), kst_n (I := I) (a := k) (b := h) (by omega)]
    rfl
set_option maxHeartbeats 4000000 in
set_option maxRecDepth 100000 in
theorem c_Hop_takeFromFirst {g : kG} {σ : kS} {I : kI} {h k m : Nat} (hO : sHop g σ h k m) {x : Int32} : ct g mX5_takeFromFirst ⟨0, 0, 0, 0⟩ [.ref h, .int x] σ I (qEV σ (fun I1 => (∀ b, b ≠ h → b ≠ k → b ≠ m → I1 b = I b) ∧ (¬ I m 0 - x = 0 → I1 = kst I m 0 (I m 0 - x)) ∧ (I m 0 - x = 0 → I1 h = upd (I h) 2 (I h 2 - 1) ∧ (∀ j, j < 5 → I1 k j = I k (j + 1)) ∧ (∀ j, j < 5 → I1 m j = I m (j + 1))))) := by
  refine ct_of pn5 rfl (Nat.le_of_ble_eq_true rfl) ok_X5_takeFromFirst.1 trivial ?_
  show wp _ _ _ _ _ _ _ _ 0 [some (.ref h), some (.int x), none] []
  refine w_aload_0 (pc := 0) dX5_takeFromFirst_0 ?_
  refine w_getR (pc := 1) kc5 1 hO.1 hO.2.1 rfl hO.2.2.2.2.2.2.2.1 t72 dX5_takeFromFirst_1 ?_
  have o1 := hO.2.2.2.2.2.2.2.2.1
  have o2 := hO.2.2.2.2.2.2.2.2.2
  refine w_iconst (pc := 4) (v := 0) dX5_takeFromFirst_4 (by decide) ?_
  refine w_dup2 (pc := 5) dX5_takeFromFirst_5 ?_
  refine w_iald (pc := 6) (j := 0) hO.2.2.2.2.1 hO.2.2.2.2.2.1 rfl (by decide) (by decide) dX5_takeFromFirst_6 ?_
  refine w_iload_1 (pc := 7) dX5_takeFromFirst_7 ?_
  refine w_isub (pc := 8) dX5_takeFromFirst_8 ?_
  refine w_iast (pc := 9) (j := 0) hO.2.2.2.2.1 hO.2.2.2.2.2.1 rfl (by decide) (by decide) dX5_takeFromFirst_9 ?_
  refine w_aload_0 (pc := 10) dX5_takeFromFirst_10 ?_
  refine w_getR (pc := 11) kc5 1 hO.1 hO.2.1 rfl hO.2.2.2.2.2.2.2.1 t72 dX5_takeFromFirst_11 ?_
  refine w_iconst (pc := 14) (v := 0) dX5_takeFromFirst_14 (by decide) ?_
  refine w_iald (pc := 15) (j := 0) hO.2.2.2.2.1 hO.2.2.2.2.2.1 rfl (by decide) (by decide) dX5_takeFromFirst_15 ?_
  refine w_if_ne (pc := 16) (tgt := 71) dX5_takeFromFirst_16 (by decide) (fun c16 => ?_) (fun c16 => ?_)
  · refine w_vret (pc := 71) rfl ⟨Nat.le_refl _, Nat.le_refl _⟩ dX5_takeFromFirst_71 ?_
    have c16 : ¬ I m 0 - x = 0 := by simpa [kst_s, upd] using c16
    exact ⟨rfl, rfl, fun b _ _ h3 => kst_n h3, fun _ => rfl, fun h => absurd h c16⟩
  · refine w_iconst (pc := 19) (v := 1) dX5_takeFromFirst_19 (by decide) ?_
    refine w_istore_2 (pc := 20) dX5_takeFromFirst_20 rfl ?_
    refine w_iload_2 (pc := 21) dX5_takeFromFirst_21 ?_
    refine w_bipush (pc := 22) (v := 6) dX5_takeFromFirst_22 (by decide) ?_
    refine w_icmp_ge (pc := 24) (tgt := 61) dX5_takeFromFirst_24 (by decide) (fun c9 => absurd c9 (by decide)) (fun _ => ?_)
    refine w_aload_0 (pc := 27) dX5_takeFromFirst_27 ?_
    refine w_getR (pc := 28) kc5 0 hO.1 hO.2.1 rfl hO.2.2.2.2.2.2.1 t69 dX5_takeFromFirst_28 ?_
    refine w_iload_2 (pc := 31) dX5_takeFromFirst_31 ?_
    refine w_iconst (pc := 32) (v := 1) dX5_takeFromFirst_32 (by decide) ?_
    refine w_isub (pc := 33) dX5_takeFromFirst_33 ?_
    refine w_aload_0 (pc := 34) dX5_takeFromFirst_34 ?_
    refine w_getR (pc := 35) kc5 0 hO.1 hO.2.1 rfl hO.2.2.2.2.2.2.1 t69 dX5_takeFromFirst_35 ?_
    refine w_iload_2 (pc := 38) dX5_takeFromFirst_38 ?_
    refine w_iald (pc := 39) (j := 1) hO.2.2.1 hO.2.2.2.1 rfl (by decide) (by decide) dX5_takeFromFirst_39 ?_
    refine w_iast (pc := 40) (j := 0) hO.2.2.1 hO.2.2.2.1 (by decide) (by decide) (by decide) dX5_takeFromFirst_40 ?_
    refine w_aload_0 (pc := 41) dX5_takeFromFirst_41 ?_
    refine w_getR (pc := 42) kc5 1 hO.1 hO.2.1 rfl hO.2.2.2.2.2.2.2.1 t72 dX5_takeFromFirst_42 ?_
    refine w_iload_2 (pc := 45) dX5_takeFromFirst_45 ?_
    refine w_iconst (pc := 46) (v := 1) dX5_takeFromFirst_46 (by decide) ?_
    refine w_isub (pc := 47) dX5_takeFromFirst_47 ?_
    refine w_aload_0 (pc := 48) dX5_takeFromFirst_48 ?_
    refine w_getR (pc := 49) kc5 1 hO.1 hO.2.1 rfl hO.2.2.2.2.2.2.2.1 t72 dX5_takeFromFirst_49 ?_
    refine w_iload_2 (pc := 52) dX5_takeFromFirst_52 ?_
    refine w_iald (pc := 53) (j := 1) hO.2.2.2.2.1 hO.2.2.2.2.2.1 rfl (by decide) (by decide) dX5_takeFromFirst_53 ?_
    refine w_iast (pc := 54) (j := 0) hO.2.2.2.2.1 hO.2.2.2.2.2.1 (by decide) (by decide) (by decide) dX5_takeFromFirst_54 ?_
    refine w_iinc_2 (pc := 55) (v := 2) dX5_takeFromFirst_55 (by decide) rfl ?_
    refine w_goto (pc := 58) (tgt := 21) dX5_takeFromFirst_58 (by decide) ?_
    refine w_iload_2 (pc := 21) dX5_takeFromFirst_21 ?_
    refine w_bipush (pc := 22) (v := 6) dX5_takeFromFirst_22 (by decide) ?_
    refine w_icmp_ge (pc := 24) (tgt := 61) dX5_takeFromFirst_24 (by decide) (fun c9 => absurd c9 (by decide)) (fun _ => ?_)
    refine w_aload_0 (pc := 27) dX5_takeFromFirst_27 ?_
    refine w_getR (pc := 28) kc5 0 hO.1 hO.2.1 rfl hO.2.2.2.2.2.2.1 t69 dX5_takeFromFirst_28 ?_
    refine w_iload_2 (pc := 31) dX5_takeFromFirst_31 ?_
    refine w_iconst (pc := 32) (v := 1) dX5_takeFromFirst_32 (by decide) ?_
    refine w_isub (pc := 33) dX5_takeFromFirst_33 ?_
    refine w_aload_0 (pc := 34) dX5_takeFromFirst_34 ?_
    refine w_getR (pc := 35) kc5 0 hO.1 hO.2.1 rfl hO.2.2.2.2.2.2.1 t69 dX5_takeFromFirst_35 ?_
    refine w_iload_2 (pc := 38) dX5_takeFromFirst_38 ?_
    refine w_iald (pc := 39) (j := 2) hO.2.2.1 hO.2.2.2.1 rfl (by decide) (by decide) dX5_takeFromFirst_39 ?_
    refine w_iast (pc := 40) (j := 1) hO.2.2.1 hO.2.2.2.1 (by decide) (by decide) (by decide) dX5_takeFromFirst_40 ?_
    refine w_aload_0 (pc := 41) dX5_takeFromFirst_41 ?_
    refine w_getR (pc := 42) kc5 1 hO.1 hO.2.1 rfl hO.2.2.2.2.2.2.2.1 t72 dX5_takeFromFirst_42 ?_
    refine w_iload_2 (pc := 45) dX5_takeFromFirst_45 ?_
    refine w_iconst (pc := 46) (v := 1) dX5_takeFromFirst_46 (by decide) ?_
    refine w_isub (pc := 47) dX5_takeFromFirst_47 ?_
    refine w_aload_0 (pc := 48) dX5_takeFromFirst_48 ?_
    refine w_getR (pc := 49) kc5 1 hO.1 hO.2.1 rfl hO.2.2.2.2.2.2.2.1 t72 dX5_takeFromFirst_49 ?_
    refine w_iload_2 (pc := 52) dX5_takeFromFirst_52 ?_
    refine w_iald (pc := 53) (j := 2) hO.2.2.2.2.1 hO.2.2.2.2.2.1 rfl (by decide) (by decide) dX5_takeFromFirst_53 ?_
    refine w_iast (pc := 54) (j := 1) hO.2.2.2.2.1 hO.2.2.2.2.2.1 (by decide) (by decide) (by decide) dX5_takeFromFirst_54 ?_
    refine w_iinc_2 (pc := 55) (v := 3) dX5_takeFromFirst_55 (by decide) rfl ?_
    refine w_goto (pc := 58) (tgt := 21) dX5_takeFromFirst_58 (by decide) ?_
    refine w_iload_2 (pc := 21) dX5_takeFromFirst_21 ?_
    refine w_bipush (pc := 22) (v := 6) dX5_takeFromFirst_22 (by decide) ?_
    refine w_icmp_ge (pc := 24) (tgt := 61) dX5_takeFromFirst_24 (by decide) (fun c9 => absurd c9 (by decide)) (fun _ => ?_)
    refine w_aload_0 (pc := 27) dX5_takeFromFirst_27 ?_
    refine w_getR (pc := 28) kc5 0 hO.1 hO.2.1 rfl hO.2.2.2.2.2.2.1 t69 dX5_takeFromFirst_28 ?_
    refine w_iload_2 (pc := 31) dX5_takeFromFirst_31 ?_
    refine w_iconst (pc := 32) (v := 1) dX5_takeFromFirst_32 (by decide) ?_
    refine w_isub (pc := 33) dX5_takeFromFirst_33 ?_
    refine w_aload_0 (pc := 34) dX5_takeFromFirst_34 ?_
    refine w_getR (pc := 35) kc5 0 hO.1 hO.2.1 rfl hO.2.2.2.2.2.2.1 t69 dX5_takeFromFirst_35 ?_
    refine w_iload_2 (pc := 38) dX5_takeFromFirst_38 ?_
    refine w_iald (pc := 39) (j := 3) hO.2.2.1 hO.2.2.2.1 rfl (by decide) (by decide) dX5_takeFromFirst_39 ?_
    refine w_iast (pc := 40) (j := 2) hO.2.2.1 hO.2.2.2.1 (by decide) (by decide) (by decide) dX5_takeFromFirst_40 ?_
    refine w_aload_0 (pc := 41) dX5_takeFromFirst_41 ?_
    refine w_getR (pc := 42) kc5 1 hO.1 hO.2.1 rfl hO.2.2.2.2.2.2.2.1 t72 dX5_takeFromFirst_42 ?_
    refine w_iload_2 (pc := 45) dX5_takeFromFirst_45 ?_
    refine w_iconst (pc := 46) (v := 1) dX5_takeFromFirst_46 (by decide) ?_
    refine w_isub (pc := 47) dX5_takeFromFirst_47 ?_
    refine w_aload_0 (pc := 48) dX5_takeFromFirst_48 ?_
    refine w_getR (pc := 49) kc5 1 hO.1 hO.2.1 rfl hO.2.2.2.2.2.2.2.1 t72 dX5_takeFromFirst_49 ?_
    refine w_iload_2 (pc := 52) dX5_takeFromFirst_52 ?_
    refine w_iald (pc := 53) (j := 3) hO.2.2.2.2.1 hO.2.2.2.2.2.1 rfl (by decide) (by decide) dX5_takeFromFirst_53 ?_
    refine w_iast (pc := 54) (j := 2) hO.2.2.2.2.1 hO.2.2.2.2.2.1 (by decide) (by decide) (by decide) dX5_takeFromFirst_54 ?_
    refine w_iinc_2 (pc := 55) (v := 4) dX5_takeFromFirst_55 (by decide) rfl ?_
    refine w_goto (pc := 58) (tgt := 21) dX5_takeFromFirst_58 (by decide) ?_
    refine w_iload_2 (pc := 21) dX5_takeFromFirst_21 ?_
    refine w_bipush (pc := 22) (v := 6) dX5_takeFromFirst_22 (by decide) ?_
    refine w_icmp_ge (pc := 24) (tgt := 61) dX5_takeFromFirst_24 (by decide) (fun c9 => absurd c9 (by decide)) (fun _ => ?_)
    refine w_aload_0 (pc := 27) dX5_takeFromFirst_27 ?_
    refine w_getR (pc := 28) kc5 0 hO.1 hO.2.1 rfl hO.2.2.2.2.2.2.1 t69 dX5_takeFromFirst_28 ?_
    refine w_iload_2 (pc := 31) dX5_takeFromFirst_31 ?_
    refine w_iconst (pc := 32) (v := 1) dX5_takeFromFirst_32 (by decide) ?_
    refine w_isub (pc := 33) dX5_takeFromFirst_33 ?_
    refine w_aload_0 (pc := 34) dX5_takeFromFirst_34 ?_
    refine w_getR (pc := 35) kc5 0 hO.1 hO.2.1 rfl hO.2.2.2.2.2.2.1 t69 dX5_takeFromFirst_35 ?_
    refine w_iload_2 (pc := 38) dX5_takeFromFirst_38 ?_
    refine w_iald (pc := 39) (j := 4) hO.2.2.1 hO.2.2.2.1 rfl (by decide) (by decide) dX5_takeFromFirst_39 ?_
    refine w_iast (pc := 40) (j := 3) hO.2.2.1 hO.2.2.2.1 (by decide) (by decide) (by decide) dX5_takeFromFirst_40 ?_
    refine w_aload_0 (pc := 41) dX5_takeFromFirst_41 ?_
    refine w_getR (pc := 42) kc5 1 hO.1 hO.2.1 rfl hO.2.2.2.2.2.2.2.1 t72 dX5_takeFromFirst_42 ?_
    refine w_iload_2 (pc := 45) dX5_takeFromFirst_45 ?_
    refine w_iconst (pc := 46) (v := 1) dX5_takeFromFirst_46 (by decide) ?_
    refine w_isub (pc := 47) dX5_takeFromFirst_47 ?_
    refine w_aload_0 (pc := 48) dX5_takeFromFirst_48 ?_
    refine w_getR (pc := 49) kc5 1 hO.1 hO.2.1 rfl hO.2.2.2.2.2.2.2.1 t72 dX5_takeFromFirst_49 ?_
    refine w_iload_2 (pc := 52) dX5_takeFromFirst_52 ?_
    refine w_iald (pc := 53) (j := 4) hO.2.2.2.2.1 hO.2.2.2.2.2.1 rfl (by decide) (by decide) dX5_takeFromFirst_53 ?_
    refine w_iast (pc := 54) (j := 3) hO.2.2.2.2.1 hO.2.2.2.2.2.1 (by decide) (by decide) (by decide) dX5_takeFromFirst_54 ?_
    refine w_iinc_2 (pc := 55) (v := 5) dX5_takeFromFirst_55 (by decide) rfl ?_
    refine w_goto (pc := 58) (tgt := 21) dX5_takeFromFirst_58 (by decide) ?_
    refine w_iload_2 (pc := 21) dX5_takeFromFirst_21 ?_
    refine w_bipush (pc := 22) (v := 6) dX5_takeFromFirst_22 (by decide) ?_
    refine w_icmp_ge (pc := 24) (tgt := 61) dX5_takeFromFirst_24 (by decide) (fun c9 => absurd c9 (by decide)) (fun _ => ?_)
    refine w_aload_0 (pc := 27) dX5_takeFromFirst_27 ?_
    refine w_getR (pc := 28) kc5 0 hO.1 hO.2.1 rfl hO.2.2.2.2.2.2.1 t69 dX5_takeFromFirst_28 ?_
    refine w_iload_2 (pc := 31) dX5_takeFromFirst_31 ?_
    refine w_iconst (pc := 32) (v := 1) dX5_takeFromFirst_32 (by decide) ?_
    refine w_isub (pc := 33) dX5_takeFromFirst_33 ?_
    refine w_aload_0 (pc := 34) dX5_takeFromFirst_34 ?_
    refine w_getR (pc := 35) kc5 0 hO.1 hO.2.1 rfl hO.2.2.2.2.2.2.1 t69 dX5_takeFromFirst_35 ?_
    refine w_iload_2 (pc := 38) dX5_takeFromFirst_38 ?_
    refine w_iald (pc := 39) (j := 5) hO.2.2.1 hO.2.2.2.1 rfl (by decide) (by decide) dX5_takeFromFirst_39 ?_
    refine w_iast (pc := 40) (j := 4) hO.2.2.1 hO.2.2.2.1 (by decide) (by decide) (by decide) dX5_takeFromFirst_40 ?_
    refine w_aload_0 (pc := 41) dX5_takeFromFirst_41 ?_
    refine w_getR (pc := 42) kc5 1 hO.1 hO.2.1 rfl hO.2.2.2.2.2.2.2.1 t72 dX5_takeFromFirst_42 ?_
    refine w_iload_2 (pc := 45) dX5_takeFromFirst_45 ?_
    refine w_iconst (pc := 46) (v := 1) dX5_takeFromFirst_46 (by decide) ?_
    refine w_isub (pc := 47) dX5_takeFromFirst_47 ?_
    refine w_aload_0 (pc := 48) dX5_takeFromFirst_48 ?_
    refine w_getR (pc := 49) kc5 1 hO.1 hO.2.1 rfl hO.2.2.2.2.2.2.2.1 t72 dX5_takeFromFirst_49 ?_
    refine w_iload_2 (pc := 52) dX5_takeFromFirst_52 ?_
    refine w_iald (pc := 53) (j := 5) hO.2.2.2.2.1 hO.2.2.2.2.2.1 rfl (by decide) (by decide) dX5_takeFromFirst_53 ?_
    refine w_iast (pc := 54) (j := 4) hO.2.2.2.2.1 hO.2.2.2.2.2.1 (by decide) (by decide) (by decide) dX5_takeFromFirst_54 ?_
    refine w_iinc_2 (pc := 55) (v := 6) dX5_takeFromFirst_55 (by decide) rfl ?_
    refine w_goto (pc := 58) (tgt := 21) dX5_takeFromFirst_58 (by decide) ?_
    refine w_iload_2 (pc := 21) dX5_takeFromFirst_21 ?_
    refine w_bipush (pc := 22) (v := 6) dX5_takeFromFirst_22 (by decide) ?_
    refine w_icmp_ge (pc := 24) (tgt := 61) dX5_takeFromFirst_24 (by decide) (fun _ => ?_) (fun c9 => absurd (by decide) c9)
    refine w_aload_0 (pc := 61) dX5_takeFromFirst_61 ?_
    refine w_dup_a (pc := 62) dX5_takeFromFirst_62 ?_
    refine w_getI (pc := 63) kc5 2 hO.1 hO.2.1 rfl t75 dX5_takeFromFirst_63 ?_
    refine w_iconst (pc := 66) (v := 1) dX5_takeFromFirst_66 (by decide) ?_
    refine w_isub (pc := 67) dX5_takeFromFirst_67 ?_
    refine w_putI (pc := 68) kc5 2 hO.1 hO.2.1 rfl t75 rfl (tyX5_ok 2 (by decide)) rfl rfl dX5_takeFromFirst_68 ?_
    refine w_vret (pc := 71) rfl ⟨Nat.le_refl _, Nat.le_refl _⟩ dX5_takeFromFirst_71 ?_
    have c16 : I m 0 - x = 0 := by simpa [kst_s, upd] using c16
    have e1 : h ≠ k := by omega
    have e2 : h ≠ m := by omega
    have e3 : k ≠ m := by omega
    refine ⟨rfl, rfl, fun b h1 h2 h3 => ?_, fun h => absurd c16 h, fun _ => ⟨?_, fun j hj => ?_, fun j hj => ?_⟩⟩
    · simp [kst, va_up, h1, h2, h3]
    · simp [kst, va_up, e1, e2, upd]
    · rcases (show j = 0 ∨ j = 1 ∨ j = 2 ∨ j = 3 ∨ j = 4 by omega) with rfl | rfl | rfl | rfl | rfl <;> simp [kst, va_up, e1.symm, e3, e3.symm, upd]
    · rcases (show j = 0 ∨ j = 1 ∨ j = 2 ∨ j = 3 ∨ j = 4 by omega) with rfl | rfl | rfl | rfl | rfl <;> simp [kst, va_up, e2.symm, e3.symm, e3, upd]
set_option maxHeartbeats 4000000 in
set_option maxRecDepth 100000 in
theorem c_Hop_massInside {g : kG} {σ : kS} {I : kI} {h k m : Nat} (hO : sHop g σ h k m) {L : Nat} (hL : I h 2 = nI L) (hL2 : L ≤ 6) : ct g mX5_massInside ⟨0, 0, 0, 0⟩ [.ref h] σ I (qI (sm (I m) 0 L) σ I) := by
  refine ct_of pn5 rfl (Nat.le_of_ble_eq_true rfl) ok_X5_massInside.1 trivial ?_
  show wp _ _ _ _ _ _ _ _ 0 [some (.ref h), none, none] []
  refine w_iconst (pc := 0) (v := 0) dX5_massInside_0 (by decide) ?_
  refine w_istore_1 (pc := 1) dX5_massInside_1 rfl ?_
  refine w_iconst (pc := 2) (v := 0) dX5_massInside_2 (by decide) ?_
  refine w_istore_2 (pc := 3) dX5_massInside_3 rfl ?_
  have L0 : ∀ (n i : Nat) (x y : Int32), i ≤ L → L + 1 ≤ i + n → x = sm (I m) 0 i → y = nI i → wp g mX5_massInside ⟨0, 0, 0, 0⟩ (fun _ => True) (qI (sm (I m) 0 L) σ I) (0, 0) σ I 4 [some (.ref h), some (.int x), some (.int y)] [] := by
    intro n
    induction n with
    | zero => intro i x y h1 h2; exact absurd h2 (by omega)
    | succ n ih =>
      intro i x y h1 h2 hx hy
      refine w_iload_2 (pc := 4) dX5_massInside_4 ?_
      refine w_aload_0 (pc := 5) dX5_massInside_5 ?_
      refine w_getI (pc := 6) kc5 2 hO.1 hO.2.1 rfl t75 dX5_massInside_6 ?_
      refine w_icmp_ge (pc := 9) (tgt := 33) dX5_massInside_9 (by decide) (fun c9 => ?_) (fun c9 => ?_)
      · refine w_iload_1 (pc := 33) dX5_massInside_33 ?_
        refine w_iret (pc := 34) rfl ⟨Nat.le_refl _, Nat.le_refl _⟩ dX5_massInside_34 ?_
        have : L ≤ i := (nx_cmp hL (by omega) hy (by omega)).1.mp c9
        rw [show i = L by omega] at hx
        exact ⟨by rw [hx], rfl, rfl⟩
      · have hi : i < L := nx_nle c9 hL (by omega) hy (by omega)
        refine w_iload_2 (pc := 12) dX5_massInside_12 ?_
        refine w_bipush (pc := 13) (v := 6) dX5_massInside_13 (by decide) ?_
        refine w_icmp_ge (pc := 15) (tgt := 33) dX5_massInside_15 (by decide) (fun c15 => ?_) (fun c15 => ?_)
        · exact absurd ((nx_cmp (a := 6) rfl (by decide) hy (by omega)).1.mp c15) (by omega)
        · refine w_iload_1 (pc := 18) dX5_massInside_18 ?_
          refine w_aload_0 (pc := 19) dX5_massInside_19 ?_
          refine w_getR (pc := 20) kc5 1 hO.1 hO.2.1 rfl hO.2.2.2.2.2.2.2.1 t72 dX5_massInside_20 ?_
          refine w_iload_2 (pc := 23) dX5_massInside_23 ?_
          refine w_iald (pc := 24) (j := i) hO.2.2.2.2.1 hO.2.2.2.2.2.1 hy (by omega) (by decide) dX5_massInside_24 ?_
          refine w_iadd (pc := 25) dX5_massInside_25 ?_
          refine w_istore_1 (pc := 26) dX5_massInside_26 rfl ?_
          refine w_iinc_2 (pc := 27) dX5_massInside_27 rfl rfl ?_
          refine w_goto (pc := 30) (tgt := 4) dX5_massInside_30 (by decide) ?_
          exact ih (i + 1) _ _ (by omega) (by omega) (by rw [sm_succ, Nat.zero_add, hx]) (by rw [hy]; exact nI_1 i)
  exact L0 (L + 1) 0 _ _ (Nat.zero_le _) (by omega) rfl rfl
set_option maxHeartbeats 4000000 in
set_option maxRecDepth 100000 in
theorem c_Scale_reading {g : kG} {σ : kS} {I : kI} {s : Nat} (hO : sScale g σ s) {x : Int32} : ct g mX8_reading ⟨0, 0, 0, 0⟩ [.ref s, .int x] σ I (qI (x + I s 0 - I s 1) σ I) := by
  refine ct_of pn8 rfl (Nat.le_of_ble_eq_true rfl) ok_X8_reading.1 trivial ?_
  show wp _ _ _ _ _ _ _ _ 0 [some (.ref s), some (.int x)] []
  refine w_iload_1 (pc := 0) dX8_reading_0 ?_
  refine w_aload_0 (pc := 1) dX8_reading_1 ?_
  refine w_getI (pc := 2) kc8 0 hO.1 hO.2 rfl t139 dX8_reading_2 ?_
  refine w_iadd (pc := 5) dX8_reading_5 ?_
  refine w_aload_0 (pc := 6) dX8_reading_6 ?_
  refine w_getI (pc := 7) kc8 1 hO.1 hO.2 rfl t142 dX8_reading_7 ?_
  refine w_isub (pc := 10) dX8_reading_10 ?_
  refine w_iret (pc := 11) rfl ⟨Nat.le_refl _, Nat.le_refl _⟩ dX8_reading_11 ?_
  exact ⟨rfl, rfl, rfl⟩
set_option maxHeartbeats 4000000 in
set_option maxRecDepth 100000 in
theorem c_Scale_weigh {g : kG} {σ : kS} {I : kI} {s : Nat} (hO : sScale g σ s) {x : Int32} : ct g mX8_weigh ⟨1, 0, 0, 21⟩ [.ref s, .int x] σ I (qI ((x + I s 0 - I s 1 + I s 3) / 4) σ (kst (kst I s 3 (x + I s 0 - I s 1 + I s 3 - (x + I s 0 - I s 1 + I s 3) / 4 * 4)) s 2 (I s 2 + (x + I s 0 - I s 1 + I s 3) / 4))) := by
  refine ct_of pn8 rfl (Nat.le_of_ble_eq_true rfl) ok_X8_weigh.1 trivial ?_
  show wp _ _ _ _ _ _ _ _ 0 [some (.ref s), some (.int x), none, none] []
  refine w_aload_0 (pc := 0) dX8_weigh_0 ?_
  refine w_iload_1 (pc := 1) dX8_weigh_1 ?_
  refine w_callV_I (pc := 2) (c_Scale_reading hO) ok_X8_reading t531 t532 kc8 hO.1 hO.2 t530 ⟨Nat.le_of_ble_eq_true rfl, Nat.le_of_ble_eq_true rfl⟩ ⟨rfl, rfl⟩ ⟨Nat.le_refl _, Nat.le_refl _⟩ rfl (Nat.le_of_ble_eq_true rfl) dX8_weigh_2 ?_
  refine w_aload_0 (pc := 5) dX8_weigh_5 ?_
  refine w_getI (pc := 6) kc8 3 hO.1 hO.2 rfl t147 dX8_weigh_6 ?_
  refine w_iadd (pc := 9) dX8_weigh_9 ?_
  refine w_istore_2 (pc := 10) dX8_weigh_10 rfl ?_
  refine w_iload_2 (pc := 11) dX8_weigh_11 ?_
  refine w_iconst (pc := 12) (v := 4) dX8_weigh_12 (by decide) ?_
  refine w_idiv (pc := 13) dX8_weigh_13 (by decide) ?_
  refine w_istore_3 (pc := 14) dX8_weigh_14 rfl ?_
  refine w_aload_0 (pc := 15) dX8_weigh_15 ?_
  refine w_iload_2 (pc := 16) dX8_weigh_16 ?_
  refine w_iconst (pc := 17) (v := 4) dX8_weigh_17 (by decide) ?_
  refine w_irem (pc := 18) dX8_weigh_18 (by decide) ?_
  refine w_putI (pc := 19) kc8 3 hO.1 hO.2 rfl t147 rfl (tyX8_ok 3 (by decide)) rfl rfl dX8_weigh_19 ?_
  refine w_aload_0 (pc := 22) dX8_weigh_22 ?_
  refine w_dup_a (pc := 23) dX8_weigh_23 ?_
  refine w_getI (pc := 24) kc8 2 hO.1 hO.2 rfl t145 dX8_weigh_24 ?_
  refine w_iload_3 (pc := 27) dX8_weigh_27 ?_
  refine w_iadd (pc := 28) dX8_weigh_28 ?_
  refine w_putI (pc := 29) kc8 2 hO.1 hO.2 rfl t145 rfl (tyX8_ok 2 (by decide)) rfl rfl dX8_weigh_29 ?_
  refine w_iload_3 (pc := 32) dX8_weigh_32 ?_
  refine w_iret (pc := 33) rfl ⟨Nat.le_refl _, Nat.le_refl _⟩ dX8_weigh_33 ?_
  exact ⟨rfl, rfl, by simp only [kst_s, upd]; rfl⟩
set_option maxHeartbeats 4000000 in
set_option maxRecDepth 100000 in
theorem c_Scale_toldTotal {g : kG} {σ : kS} {I : kI} {s : Nat} (hO : sScale g σ s)  : ct g mX8_toldTotal ⟨0, 0, 0, 0⟩ [.ref s] σ I (qI ((((I s 2).toInt64 * (I s 4).toInt64) / 1000).toInt32) σ I) := by
  refine ct_of pn8 rfl (Nat.le_of_ble_eq_true rfl) ok_X8_toldTotal.1 trivial ?_
  show wp _ _ _ _ _ _ _ _ 0 [some (.ref s)] []
  refine w_aload_0 (pc := 0) dX8_toldTotal_0 ?_
  refine w_getI (pc := 1) kc8 2 hO.1 hO.2 rfl t145 dX8_toldTotal_1 ?_
  refine w_i2l (pc := 4) dX8_toldTotal_4 ?_
  refine w_aload_0 (pc := 5) dX8_toldTotal_5 ?_
  refine w_getI (pc := 6) kc8 4 hO.1 hO.2 rfl t148 dX8_toldTotal_6 ?_
  refine w_i2l (pc := 9) dX8_toldTotal_9 ?_
  refine w_lmul (pc := 10) dX8_toldTotal_10 ?_
  refine w_ldc2 (pc := 11) (v := 1000) t652 dX8_toldTotal_11 ?_
  refine w_ldiv (pc := 14) dX8_toldTotal_14 (by decide) ?_
  refine w_l2i (pc := 15) dX8_toldTotal_15 ?_
  refine w_iret (pc := 16) rfl ⟨Nat.le_refl _, Nat.le_refl _⟩ dX8_toldTotal_16 ?_
  exact ⟨rfl, rfl, rfl⟩
set_option maxHeartbeats 4000000 in
set_option maxRecDepth 100000 in
theorem c_Acc_has {g : kG} {σ : kS} {I : kI} {a w o s : Nat} (hO : sAcc g σ a w o s) {x : Int32} : ct g mX0_has ⟨0, 0, 0, 0⟩ [.ref a, .int x] σ I (qI (if 0 ≤ x ∧ x < I a 3 then 1 else 0) σ I) := by
  refine ct_of pn0 rfl (Nat.le_of_ble_eq_true rfl) ok_X0_has.1 trivial ?_
  show wp _ _ _ _ _ _ _ _ 0 [some (.ref a), some (.int x)] []
  refine w_iload_1 (pc := 0) dX0_has_0 ?_
  refine w_if_lt (pc := 1) (tgt := 16) dX0_has_1 (by decide) (fun c1 => ?_) (fun c1 => ?_)
  · refine w_iconst (pc := 16) (v := 0) dX0_has_16 (by decide) ?_
    refine w_zret (pc := 17) rfl (by decide) ⟨Nat.le_refl _, Nat.le_refl _⟩ dX0_has_17 ?_
    refine ⟨?_, rfl, rfl⟩
    rw [if_neg (fun h => absurd h.1 (Int32.not_le.mpr c1))]
  · refine w_iload_1 (pc := 4) dX0_has_4 ?_
    refine w_aload_0 (pc := 5) dX0_has_5 ?_
    refine w_getI (pc := 6) kc0 3 hO.1 hO.2.1 rfl t174 dX0_has_6 ?_
    refine w_icmp_ge (pc := 9) (tgt := 16) dX0_has_9 (by decide) (fun c9 => ?_) (fun c9 => ?_)
    · refine w_iconst (pc := 16) (v := 0) dX0_has_16 (by decide) ?_
      refine w_zret (pc := 17) rfl (by decide) ⟨Nat.le_refl _, Nat.le_refl _⟩ dX0_has_17 ?_
      refine ⟨?_, rfl, rfl⟩
      rw [if_neg (fun h => absurd c9 (Int32.not_le.mpr h.2))]
    · refine w_iconst (pc := 12) (v := 1) dX0_has_12 (by decide) ?_
      refine w_goto (pc := 13) (tgt := 17) dX0_has_13 (by decide) ?_
      refine w_zret (pc := 17) rfl (by decide) ⟨Nat.le_refl _, Nat.le_refl _⟩ dX0_has_17 ?_
      refine ⟨?_, rfl, rfl⟩
      rw [if_pos ⟨Int32.not_lt.mp c1, Int32.not_le.mp c9⟩]
set_option maxHeartbeats 4000000 in
set_option maxRecDepth 100000 in
theorem c_Acc_enter {g : kG} {σ : kS} {I : kI} {a w o s : Nat} (hO : sAcc g σ a w o s) {x y : Int32} {κ v : Nat} (hx : x = nI κ) (hx2 : κ < 4) (hv : I s κ = nI v) (hv2 : v < 8) : ct g mX0_enter ⟨0, 0, 0, 0⟩ [.ref a, .int x, .int y] σ I (qV σ (kst I o v (I o v + y))) := by
  refine ct_of pn0 rfl (Nat.le_of_ble_eq_true rfl) ok_X0_enter.1 trivial ?_
  show wp _ _ _ _ _ _ _ _ 0 [some (.ref a), some (.int x), some (.int y)] []
  refine w_aload_0 (pc := 0) dX0_enter_0 ?_
  refine w_getR (pc := 1) kc0 1 hO.1 hO.2.1 rfl hO.2.2.2.2.2.2.2.2.2.1 t170 dX0_enter_1 ?_
  refine w_aload_0 (pc := 4) dX0_enter_4 ?_
  refine w_getR (pc := 5) kc0 2 hO.1 hO.2.1 rfl hO.2.2.2.2.2.2.2.2.2.2.1 t172 dX0_enter_5 ?_
  refine w_iload_1 (pc := 8) dX0_enter_8 ?_
  refine w_iald (pc := 9) (j := κ) hO.2.2.2.2.2.2.1 hO.2.2.2.2.2.2.2.1 hx hx2 (by decide) dX0_enter_9 ?_
  refine w_dup2 (pc := 10) dX0_enter_10 ?_
  refine w_iald (pc := 11) (j := v) hO.2.2.2.2.1 hO.2.2.2.2.2.1 hv hv2 (by decide) dX0_enter_11 ?_
  refine w_iload_2 (pc := 12) dX0_enter_12 ?_
  refine w_iadd (pc := 13) dX0_enter_13 ?_
  refine w_iast (pc := 14) (j := v) hO.2.2.2.2.1 hO.2.2.2.2.2.1 hv hv2 (by decide) dX0_enter_14 ?_
  refine w_vret (pc := 15) rfl ⟨Nat.le_refl _, Nat.le_refl _⟩ dX0_enter_15 ?_
  exact ⟨rfl, rfl, rfl⟩
set_option maxHeartbeats 4000000 in
set_option maxRecDepth 100000 in
theorem c_Acc_isUnder {g : kG} {σ : kS} {I : kI} {a w o s : Nat} (hO : sAcc g σ a w o s) {M : Nat} (hM : I a 3 = nI M) (hM2 : M ≤ 8) (hT : kTree (I w) M) {x y : Int32} {t u : Nat} (hx : x = nI t) (ht : t < M) (hy : y = nI u) (hu : u < M) : ct g mX0_isUnder ⟨0, 0, 0, 0⟩ [.ref a, .int x, .int y] σ I (qI (if kUp (I w) u 8 t = u ∧ t ≠ u then 1 else 0) σ I) := by
  refine ct_of pn0 rfl (Nat.le_of_ble_eq_true rfl) ok_X0_isUnder.1 trivial ?_
  show wp _ _ _ _ _ _ _ _ 0 [some (.ref a), some (.int x), some (.int y), none, none] []
  refine w_iload_1 (pc := 0) dX0_isUnder_0 ?_
  refine w_istore_3 (pc := 1) dX0_isUnder_1 rfl ?_
  refine w_iconst (pc := 2) (v := 0) dX0_isUnder_2 (by decide) ?_
  refine w_istore_4 (pc := 3) dX0_isUnder_3 rfl ?_
  have L0 : ∀ (n i t' : Nat) (z i' : Int32), i + n = 9 → t' + i ≤ t → z = nI t' → i' = nI i → kUp (I w) u (8 - i) t' = kUp (I w) u 8 t → wp g mX0_isUnder ⟨0, 0, 0, 0⟩ (fun _ => True) (qI (if kUp (I w) u 8 t = u ∧ t ≠ u then 1 else 0) σ I) (0, 0) σ I 5 [some (.ref a), some (.int x), some (.int y), some (.int z), some (.int i')] [] := by
    intro n
    induction n with
    | zero => intro i t' z i' h1 h2; exact absurd h2 (by omega)
    | succ n ih =>
      intro i t' z i' h1 h2 hz hi hk
      refine w_iload_4 (pc := 5) dX0_isUnder_5 ?_
      refine w_bipush (pc := 7) (v := 8) dX0_isUnder_7 (by decide) ?_
      refine w_icmp_ge (pc := 9) (tgt := 30) dX0_isUnder_9 (by decide) (fun c9 => ?_) (fun c9 => ?_)
      · exact absurd ((nx_cmp (a := 8) rfl (by decide) hi (by omega)).1.mp c9) (by omega)
      · refine w_iload_3 (pc := 12) dX0_isUnder_12 ?_
        refine w_iload_2 (pc := 13) dX0_isUnder_13 ?_
        refine w_icmp_le (pc := 14) (tgt := 30) dX0_isUnder_14 (by decide) (fun c14 => ?_) (fun c14 => ?_)
        · have htu : t' ≤ u := (nx_cmp hz (by omega) hy (by omega)).1.mp c14
          rw [kUp_le _ _ htu] at hk
          refine w_iload_3 (pc := 30) dX0_isUnder_30 ?_
          refine w_iload_2 (pc := 31) dX0_isUnder_31 ?_
          refine w_icmp_ne (pc := 32) (tgt := 44) dX0_isUnder_32 (by decide) (fun c32 => ?_) (fun c32 => ?_)
          · refine w_iconst (pc := 44) (v := 0) dX0_isUnder_44 (by decide) ?_
            refine w_zret (pc := 45) rfl (by decide) ⟨Nat.le_refl _, Nat.le_refl _⟩ dX0_isUnder_45 ?_
            refine ⟨?_, rfl, rfl⟩
            rw [if_neg]
            rintro ⟨e1, -⟩
            exact c32 ((nx_cmp hz (by omega) hy (by omega)).2.2.mpr (hk.trans e1))
          · refine w_iload_1 (pc := 35) dX0_isUnder_35 ?_
            refine w_iload_2 (pc := 36) dX0_isUnder_36 ?_
            refine w_icmp_eq (pc := 37) (tgt := 44) dX0_isUnder_37 (by decide) (fun c37 => ?_) (fun c37 => ?_)
            · refine w_iconst (pc := 44) (v := 0) dX0_isUnder_44 (by decide) ?_
              refine w_zret (pc := 45) rfl (by decide) ⟨Nat.le_refl _, Nat.le_refl _⟩ dX0_isUnder_45 ?_
              refine ⟨?_, rfl, rfl⟩
              rw [if_neg]
              rintro ⟨-, e1⟩
              exact e1 ((nx_cmp hx (by omega) hy (by omega)).2.2.mp c37)
            · refine w_iconst (pc := 40) (v := 1) dX0_isUnder_40 (by decide) ?_
              refine w_goto (pc := 41) (tgt := 45) dX0_isUnder_41 (by decide) ?_
              refine w_zret (pc := 45) rfl (by decide) ⟨Nat.le_refl _, Nat.le_refl _⟩ dX0_isUnder_45 ?_
              refine ⟨?_, rfl, rfl⟩
              rw [if_pos]
              exact ⟨hk.symm.trans ((nx_cmp hz (by omega) hy (by omega)).2.2.mp c32), fun e => c37 ((nx_cmp hx (by omega) hy (by omega)).2.2.mpr e)⟩
        · have htu : ¬ t' ≤ u := fun h => c14 ((nx_cmp hz (by omega) hy (by omega)).1.mpr h)
          obtain ⟨v, hv, hv1⟩ := hT t' (by omega) (by omega)
          refine w_aload_0 (pc := 17) dX0_isUnder_17 ?_
          refine w_getR (pc := 18) kc0 0 hO.1 hO.2.1 rfl hO.2.2.2.2.2.2.2.2.1 t168 dX0_isUnder_18 ?_
          refine w_iload_3 (pc := 21) dX0_isUnder_21 ?_
          refine w_iald (pc := 22) (j := t') hO.2.2.1 hO.2.2.2.1 hz (by omega) (by decide) dX0_isUnder_22 ?_
          refine w_istore_3 (pc := 23) dX0_isUnder_23 rfl ?_
          refine w_iinc_4 (pc := 24) dX0_isUnder_24 rfl rfl ?_
          refine w_goto (pc := 27) (tgt := 5) dX0_isUnder_27 (by decide) ?_
          exact ih (i + 1) v _ _ (by omega) (by omega) hv1 (by rw [hi]; exact nI_1 i) (by rw [← hk, show 8 - i = (8 - (i + 1)) + 1 by omega, kUp_step htu hv1 (by omega)])
  exact L0 9 0 t _ _ rfl (Nat.le_refl _) hx rfl rfl
set_option maxHeartbeats 4000000 in
set_option maxRecDepth 100000 in
theorem c_Acc_massWithAllUnder {g : kG} {σ : kS} {I : kI} {a w o s : Nat} (hO : sAcc g σ a w o s) {M : Nat} (hM : I a 3 = nI M) (hM2 : M ≤ 8) (hT : kTree (I w) M) {x : Int32} {u : Nat} (hx : x = nI u) (hu : u < M) : ct g mX0_massWithAllUnder ⟨1, 0, 0, 24⟩ [.ref a, .int x] σ I (qI (aS (I w) (I o) u (M - u)) σ I) := by
  refine ct_of pn0 rfl (Nat.le_of_ble_eq_true rfl) ok_X0_massWithAllUnder.1 trivial ?_
  show wp _ _ _ _ _ _ _ _ 0 [some (.ref a), some (.int x), none, none] []
  refine w_aload_0 (pc := 0) dX0_massWithAllUnder_0 ?_
  refine w_getR (pc := 1) kc0 1 hO.1 hO.2.1 rfl hO.2.2.2.2.2.2.2.2.2.1 t170 dX0_massWithAllUnder_1 ?_
  refine w_iload_1 (pc := 4) dX0_massWithAllUnder_4 ?_
  refine w_iald (pc := 5) (j := u) hO.2.2.2.2.1 hO.2.2.2.2.2.1 hx (by omega) (by decide) dX0_massWithAllUnder_5 ?_
  refine w_istore_2 (pc := 6) dX0_massWithAllUnder_6 rfl ?_
  refine w_iload_1 (pc := 7) dX0_massWithAllUnder_7 ?_
  refine w_iconst (pc := 8) (v := 1) dX0_massWithAllUnder_8 (by decide) ?_
  refine w_iadd (pc := 9) dX0_massWithAllUnder_9 ?_
  refine w_istore_3 (pc := 10) dX0_massWithAllUnder_10 rfl ?_
  have L0 : ∀ (n i : Nat) (y z : Int32), 1 ≤ i → u + i ≤ M → M + 1 ≤ u + i + n → y = aS (I w) (I o) u i → z = nI (u + i) → wp g mX0_massWithAllUnder ⟨1, 0, 0, 24⟩ (fun _ => True) (qI (aS (I w) (I o) u (M - u)) σ I) (0, 0) σ I 11 [some (.ref a), some (.int x), some (.int y), some (.int z)] [] := by
    intro n
    induction n with
    | zero => intro i y z h0 h1 h2; exact absurd h2 (by omega)
    | succ n ih =>
      intro i y z h0 h1 h2 hy hz
      refine w_iload_3 (pc := 11) dX0_massWithAllUnder_11 ?_
      refine w_aload_0 (pc := 12) dX0_massWithAllUnder_12 ?_
      refine w_getI (pc := 13) kc0 3 hO.1 hO.2.1 rfl t174 dX0_massWithAllUnder_13 ?_
      refine w_icmp_ge (pc := 16) (tgt := 43) dX0_massWithAllUnder_16 (by decide) (fun c16 => ?_) (fun c16 => ?_)
      · refine w_iload_2 (pc := 43) dX0_massWithAllUnder_43 ?_
        refine w_iret (pc := 44) rfl ⟨Nat.le_refl _, Nat.le_refl _⟩ dX0_massWithAllUnder_44 ?_
        have : M ≤ u + i := (nx_cmp hM (by omega) hz (by omega)).1.mp c16
        rw [show i = M - u by omega] at hy
        exact ⟨by rw [hy], rfl, rfl⟩
      · have hi : u + i < M := nx_nle c16 hM (by omega) hz (by omega)
        refine w_aload_0 (pc := 19) dX0_massWithAllUnder_19 ?_
        refine w_iload_3 (pc := 20) dX0_massWithAllUnder_20 ?_
        refine w_iload_1 (pc := 21) dX0_massWithAllUnder_21 ?_
        refine w_callV_I (pc := 22) (c_Acc_isUnder hO hM hM2 hT hz hi hx hu) ok_X0_isUnder t612 t613 kc0 hO.1 hO.2.1 t611 ⟨Nat.le_of_ble_eq_true rfl, Nat.le_of_ble_eq_true rfl⟩ ⟨rfl, rfl⟩ ⟨Nat.le_refl _, Nat.le_refl _⟩ rfl (Nat.le_of_ble_eq_true rfl) dX0_massWithAllUnder_22 ?_
        refine w_if_eq (pc := 25) (tgt := 37) dX0_massWithAllUnder_25 (by decide) (fun c25 => ?_) (fun c25 => ?_)
        · have hnu : ¬ kUp (I w) u 8 (u + i) = u := fun e => by rw [if_pos ⟨e, by omega⟩] at c25; exact absurd c25 (by decide)
          refine w_iinc_3 (pc := 37) dX0_massWithAllUnder_37 rfl rfl ?_
          refine w_goto (pc := 40) (tgt := 11) dX0_massWithAllUnder_40 (by decide) ?_
          exact ih (i + 1) _ _ (by omega) (by omega) (by omega) (by rw [aS_succ, if_neg hnu, hy]; simp) (by rw [hz]; exact nI_1 _)
        · have hyu : kUp (I w) u 8 (u + i) = u := Decidable.byContradiction (fun e => c25 (by rw [if_neg (fun q => e q.1)]))
          refine w_iload_2 (pc := 28) dX0_massWithAllUnder_28 ?_
          refine w_aload_0 (pc := 29) dX0_massWithAllUnder_29 ?_
          refine w_getR (pc := 30) kc0 1 hO.1 hO.2.1 rfl hO.2.2.2.2.2.2.2.2.2.1 t170 dX0_massWithAllUnder_30 ?_
          refine w_iload_3 (pc := 33) dX0_massWithAllUnder_33 ?_
          refine w_iald (pc := 34) (j := u + i) hO.2.2.2.2.1 hO.2.2.2.2.2.1 hz (by omega) (by decide) dX0_massWithAllUnder_34 ?_
          refine w_iadd (pc := 35) dX0_massWithAllUnder_35 ?_
          refine w_istore_2 (pc := 36) dX0_massWithAllUnder_36 rfl ?_
          refine w_iinc_3 (pc := 37) dX0_massWithAllUnder_37 rfl rfl ?_
          refine w_goto (pc := 40) (tgt := 11) dX0_massWithAllUnder_40 (by decide) ?_
          exact ih (i + 1) _ _ (by omega) (by omega) (by omega) (by rw [aS_succ, if_pos hyu, hy]) (by rw [hz]; exact nI_1 _)
  exact L0 (M + 1) 1 _ _ (Nat.le_refl _) (by omega) (by omega) (aS_one _ _ _).symm (by rw [hx]; exact nI_1 u)
set_option maxHeartbeats 4000000 in
set_option maxRecDepth 100000 in
theorem c_Acc_countUnder {g : kG} {σ : kS} {I : kI} {a w o s : Nat} (hO : sAcc g σ a w o s) {M : Nat} (hM : I a 3 = nI M) (hM2 : M ≤ 8) (hT : kTree (I w) M) {x : Int32} {u : Nat} (hx : x = nI u) (hu : u < M) : ct g mX0_countUnder ⟨1, 0, 0, 24⟩ [.ref a, .int x] σ I (qI (aS (I w) (fun _ => 1) u (M - u) - 1) σ I) := by
  refine ct_of pn0 rfl (Nat.le_of_ble_eq_true rfl) ok_X0_countUnder.1 trivial ?_
  show wp _ _ _ _ _ _ _ _ 0 [some (.ref a), some (.int x), none, none] []
  refine w_iconst (pc := 0) (v := 0) dX0_countUnder_0 (by decide) ?_
  refine w_istore_2 (pc := 1) dX0_countUnder_1 rfl ?_
  refine w_iload_1 (pc := 2) dX0_countUnder_2 ?_
  refine w_iconst (pc := 3) (v := 1) dX0_countUnder_3 (by decide) ?_
  refine w_iadd (pc := 4) dX0_countUnder_4 ?_
  refine w_istore_3 (pc := 5) dX0_countUnder_5 rfl ?_
  have L0 : ∀ (n i : Nat) (y z : Int32), 1 ≤ i → u + i ≤ M → M + 1 ≤ u + i + n → y = aS (I w) (fun _ => 1) u i - 1 → z = nI (u + i) → wp g mX0_countUnder ⟨1, 0, 0, 24⟩ (fun _ => True) (qI (aS (I w) (fun _ => 1) u (M - u) - 1) σ I) (0, 0) σ I 6 [some (.ref a), some (.int x), some (.int y), some (.int z)] [] := by
    intro n
    induction n with
    | zero => intro i y z h0 h1 h2; exact absurd h2 (by omega)
    | succ n ih =>
      intro i y z h0 h1 h2 hy hz
      refine w_iload_3 (pc := 6) dX0_countUnder_6 ?_
      refine w_aload_0 (pc := 7) dX0_countUnder_7 ?_
      refine w_getI (pc := 8) kc0 3 hO.1 hO.2.1 rfl t174 dX0_countUnder_8 ?_
      refine w_icmp_ge (pc := 11) (tgt := 32) dX0_countUnder_11 (by decide) (fun c11 => ?_) (fun c11 => ?_)
      · refine w_iload_2 (pc := 32) dX0_countUnder_32 ?_
        refine w_iret (pc := 33) rfl ⟨Nat.le_refl _, Nat.le_refl _⟩ dX0_countUnder_33 ?_
        have : M ≤ u + i := (nx_cmp hM (by omega) hz (by omega)).1.mp c11
        rw [show i = M - u by omega] at hy
        exact ⟨by rw [hy], rfl, rfl⟩
      · have hi : u + i < M := nx_nle c11 hM (by omega) hz (by omega)
        refine w_aload_0 (pc := 14) dX0_countUnder_14 ?_
        refine w_iload_3 (pc := 15) dX0_countUnder_15 ?_
        refine w_iload_1 (pc := 16) dX0_countUnder_16 ?_
        refine w_callV_I (pc := 17) (c_Acc_isUnder hO hM hM2 hT hz hi hx hu) ok_X0_isUnder t612 t613 kc0 hO.1 hO.2.1 t611 ⟨Nat.le_of_ble_eq_true rfl, Nat.le_of_ble_eq_true rfl⟩ ⟨rfl, rfl⟩ ⟨Nat.le_refl _, Nat.le_refl _⟩ rfl (Nat.le_of_ble_eq_true rfl) dX0_countUnder_17 ?_
        refine w_if_eq (pc := 20) (tgt := 26) dX0_countUnder_20 (by decide) (fun c20 => ?_) (fun c20 => ?_)
        · have hnu : ¬ kUp (I w) u 8 (u + i) = u := fun e => by rw [if_pos ⟨e, by omega⟩] at c20; exact absurd c20 (by decide)
          refine w_iinc_3 (pc := 26) dX0_countUnder_26 rfl rfl ?_
          refine w_goto (pc := 29) (tgt := 6) dX0_countUnder_29 (by decide) ?_
          exact ih (i + 1) _ _ (by omega) (by omega) (by omega) (by rw [aS_succ, if_neg hnu, hy]; simp) (by rw [hz]; exact nI_1 _)
        · have hyu : kUp (I w) u 8 (u + i) = u := Decidable.byContradiction (fun e => c20 (by rw [if_neg (fun q => e q.1)]))
          refine w_iinc_2 (pc := 23) dX0_countUnder_23 rfl rfl ?_
          refine w_iinc_3 (pc := 26) dX0_countUnder_26 rfl rfl ?_
          refine w_goto (pc := 29) (tgt := 6) dX0_countUnder_29 (by decide) ?_
          exact ih (i + 1) _ _ (by omega) (by omega) (by omega) (by rw [aS_succ, if_pos hyu, hy]; show _ - 1 + 1 = _ + 1 - 1; rw [Int32.sub_add_cancel, Int32.add_sub_cancel]) (by rw [hz]; exact nI_1 _)
  exact L0 (M + 1) 1 _ _ (Nat.le_refl _) (by omega) (by omega) (by rw [aS_one]; rfl) (by rw [hx]; exact nI_1 u)
set_option maxHeartbeats 4000000 in
set_option maxRecDepth 100000 in
theorem c_Acc_depth {g : kG} {σ : kS} {I : kI} {a w o s : Nat} (hO : sAcc g σ a w o s) {M : Nat} (hM : I a 3 = nI M) (hM2 : M ≤ 8) (hT : kTree (I w) M) {x : Int32} {t : Nat} (hx : x = nI t) (ht : t < M) : ct g mX0_depth ⟨0, 0, 0, 0⟩ [.ref a, .int x] σ I (qI (nI (kDp (I w) 8 t)) σ I) := by
  refine ct_of pn0 rfl (Nat.le_of_ble_eq_true rfl) ok_X0_depth.1 trivial ?_
  show wp _ _ _ _ _ _ _ _ 0 [some (.ref a), some (.int x), none, none, none] []
  refine w_iconst (pc := 0) (v := 0) dX0_depth_0 (by decide) ?_
  refine w_istore_2 (pc := 1) dX0_depth_1 rfl ?_
  refine w_iload_1 (pc := 2) dX0_depth_2 ?_
  refine w_istore_3 (pc := 3) dX0_depth_3 rfl ?_
  refine w_iconst (pc := 4) (v := 0) dX0_depth_4 (by decide) ?_
  refine w_istore_4 (pc := 5) dX0_depth_5 rfl ?_
  have L0 : ∀ (n i t' : Nat) (y z i' : Int32), i + n = 9 → t' + i ≤ t → z = nI t' → i' = nI i → y = nI i → kDp (I w) (8 - i) t' + i = kDp (I w) 8 t → wp g mX0_depth ⟨0, 0, 0, 0⟩ (fun _ => True) (qI (nI (kDp (I w) 8 t)) σ I) (0, 0) σ I 7 [some (.ref a), some (.int x), some (.int y), some (.int z), some (.int i')] [] := by
    intro n
    induction n with
    | zero => intro i t' y z i' h1 h2; exact absurd h2 (by omega)
    | succ n ih =>
      intro i t' y z i' h1 h2 hz hi hy hk
      refine w_iload_4 (pc := 7) dX0_depth_7 ?_
      refine w_bipush (pc := 9) (v := 8) dX0_depth_9 (by decide) ?_
      refine w_icmp_ge (pc := 11) (tgt := 34) dX0_depth_11 (by decide) (fun c11 => ?_) (fun c11 => ?_)
      · exact absurd ((nx_cmp (a := 8) rfl (by decide) hi (by omega)).1.mp c11) (by omega)
      · refine w_iload_3 (pc := 14) dX0_depth_14 ?_
        refine w_if_le (pc := 15) (tgt := 34) dX0_depth_15 (by decide) (fun c15 => ?_) (fun c15 => ?_)
        · have htu : t' = 0 := by
            have := (nx_cmp hz (by omega) (y := 0) (b := 0) rfl (by decide)).1.mp c15
            omega
          rw [htu, kDp_z, Nat.zero_add] at hk
          refine w_iload_2 (pc := 34) dX0_depth_34 ?_
          refine w_iret (pc := 35) rfl ⟨Nat.le_refl _, Nat.le_refl _⟩ dX0_depth_35 ?_
          refine ⟨?_, rfl, rfl⟩
          rw [hy, hk]
        · have htu : ¬ t' = 0 := fun h => c15 (by rw [hz, h]; decide)
          obtain ⟨v, hv, hv1⟩ := hT t' (by omega) (by omega)
          refine w_aload_0 (pc := 18) dX0_depth_18 ?_
          refine w_getR (pc := 19) kc0 0 hO.1 hO.2.1 rfl hO.2.2.2.2.2.2.2.2.1 t168 dX0_depth_19 ?_
          refine w_iload_3 (pc := 22) dX0_depth_22 ?_
          refine w_iald (pc := 23) (j := t') hO.2.2.1 hO.2.2.2.1 hz (by omega) (by decide) dX0_depth_23 ?_
          refine w_istore_3 (pc := 24) dX0_depth_24 rfl ?_
          refine w_iinc_2 (pc := 25) dX0_depth_25 rfl rfl ?_
          refine w_iinc_4 (pc := 28) dX0_depth_28 rfl rfl ?_
          refine w_goto (pc := 31) (tgt := 7) dX0_depth_31 (by decide) ?_
          exact ih (i + 1) v _ _ _ (by omega) (by omega) hv1 (by rw [hi]; exact nI_1 i) (by rw [hy]; exact nI_1 i) (by rw [← hk, show 8 - i = (8 - (i + 1)) + 1 by omega, kDp_step htu hv1 (by omega)]; omega)
  exact L0 9 0 t _ _ _ rfl (Nat.le_refl _) hx rfl rfl rfl
set_option maxHeartbeats 4000000 in
set_option maxRecDepth 100000 in
theorem c_Text_at {g : kG} {σ : kS} {I : kI} {t c : Nat} (hO : sText g σ t c) {n0 : Nat} (hn : I t 1 = nI n0) (hn2 : n0 ≤ 60) {x : Int32} {π : Nat} (hx : x = nI π) (hx2 : π < 2 ^ 31) : ct g mX9_at ⟨0, 0, 0, 0⟩ [.ref t, .int x] σ I (qI (if π < n0 then I c π else 0) σ I) := by
  refine ct_of pn9 rfl (Nat.le_of_ble_eq_true rfl) ok_X9_at.1 trivial ?_
  show wp _ _ _ _ _ _ _ _ 0 [some (.ref t), some (.int x)] []
  refine w_iload_1 (pc := 0) dX9_at_0 ?_
  refine w_if_lt (pc := 1) (tgt := 21) dX9_at_1 (by decide) (fun c1 => ?_) (fun c1 => ?_)
  · exact absurd c1 (by rw [hx]; exact nI_pos hx2)
  · refine w_iload_1 (pc := 4) dX9_at_4 ?_
    refine w_aload_0 (pc := 5) dX9_at_5 ?_
    refine w_getI (pc := 6) kc9 1 hO.1 hO.2.1 rfl t288 dX9_at_6 ?_
    refine w_icmp_ge (pc := 9) (tgt := 21) dX9_at_9 (by decide) (fun c9 => ?_) (fun c9 => ?_)
    · refine w_iconst (pc := 21) (v := 0) dX9_at_21 (by decide) ?_
      refine w_iret (pc := 22) rfl ⟨Nat.le_refl _, Nat.le_refl _⟩ dX9_at_22 ?_
      refine ⟨?_, rfl, rfl⟩
      rw [if_neg (Nat.not_lt.mpr ((nx_cmp hn (by omega) hx hx2).1.mp c9))]
    · refine w_aload_0 (pc := 12) dX9_at_12 ?_
      refine w_getR (pc := 13) kc9 0 hO.1 hO.2.1 rfl hO.2.2.2.2.1 t287 dX9_at_13 ?_
      refine w_iload_1 (pc := 16) dX9_at_16 ?_
      refine w_cald (pc := 17) (j := π) hO.2.2.1 hO.2.2.2.1 hx (Nat.lt_of_lt_of_le (nx_nle c9 hn (by omega) hx hx2) hn2) (by decide) dX9_at_17 ?_
      refine w_goto (pc := 18) (tgt := 22) dX9_at_18 (by decide) ?_
      refine w_iret (pc := 22) rfl ⟨Nat.le_refl _, Nat.le_refl _⟩ dX9_at_22 ?_
      refine ⟨?_, rfl, rfl⟩
      rw [if_pos (nx_nle c9 hn (by omega) hx hx2)]
set_option maxHeartbeats 4000000 in
set_option maxRecDepth 100000 in
theorem c_Text_append {g : kG} {σ : kS} {I : kI} {t c : Nat} (hO : sText g σ t c) {n0 : Nat} (hn : I t 1 = nI n0) (hn2 : n0 ≤ 60) (hn3 : n0 < 60) {x : Int32} : ct g mX9_append ⟨0, 0, 0, 0⟩ [.ref t, .int x] σ I (qV σ (kst (kst I c n0 (vp_nar .char x)) t 1 (nI (n0 + 1)))) := by
  refine ct_of pn9 rfl (Nat.le_of_ble_eq_true rfl) ok_X9_append.1 trivial ?_
  show wp _ _ _ _ _ _ _ _ 0 [some (.ref t), some (.int x)] []
  refine w_aload_0 (pc := 0) dX9_append_0 ?_
  refine w_getI (pc := 1) kc9 1 hO.1 hO.2.1 rfl t288 dX9_append_1 ?_
  refine w_bipush (pc := 4) (v := 60) dX9_append_4 (by decide) ?_
  refine w_icmp_ge (pc := 6) (tgt := 29) dX9_append_6 (by decide) (fun c6 => ?_) (fun c6 => ?_)
  · exact absurd ((nx_cmp (a := 60) (b := n0) rfl (by decide) hn (by omega)).1.mp c6) (by omega)
  · refine w_aload_0 (pc := 9) dX9_append_9 ?_
    refine w_getR (pc := 10) kc9 0 hO.1 hO.2.1 rfl hO.2.2.2.2.1 t287 dX9_append_10 ?_
    refine w_aload_0 (pc := 13) dX9_append_13 ?_
    refine w_getI (pc := 14) kc9 1 hO.1 hO.2.1 rfl t288 dX9_append_14 ?_
    refine w_iload_1 (pc := 17) dX9_append_17 ?_
    refine w_cast (pc := 18) (j := n0) hO.2.2.1 hO.2.2.2.1 hn hn3 (by decide) dX9_append_18 ?_
    refine w_aload_0 (pc := 19) dX9_append_19 ?_
    refine w_dup_a (pc := 20) dX9_append_20 ?_
    refine w_getI (pc := 21) kc9 1 hO.1 hO.2.1 rfl t288 dX9_append_21 ?_
    refine w_iconst (pc := 24) (v := 1) dX9_append_24 (by decide) ?_
    refine w_iadd (pc := 25) dX9_append_25 ?_
    refine w_putI (pc := 26) kc9 1 hO.1 hO.2.1 rfl t288 rfl (tyX9_ok 1 (by decide)) rfl rfl dX9_append_26 ?_
    refine w_vret (pc := 29) rfl ⟨Nat.le_refl _, Nat.le_refl _⟩ dX9_append_29 ?_
    refine ⟨rfl, rfl, ?_⟩
    rw [kst_n (I := I) (a := c) (b := t) (by have := hO.2.2.2.2.2; omega), hn, nI_1]
end
section
theorem nbool {x : Int32} (h : x = 0 ∨ x = 1) : narrow .boolean (.int x) = .int x := by rcases h with rfl | rfl <;> decide
theorem fbool {x : Int32} (h : x = 0 ∨ x = 1) : fits .boolean (.int x) = true := by rcases h with rfl | rfl <;> decide
theorem cpy_in {f h : Nat → Int32} {n j : Nat} (hj : j < n) : va_cpy f h 0 0 n j = f j := by simp [va_cpy, hj]
set_option maxHeartbeats 4000000 in
set_option maxRecDepth 100000 in
theorem c_Hop_copyFrom {g : kG} {σ : kS} {I : kI} {d0 d1 d2 e0 e1 e2 : Nat} (hD : sHop g σ d0 d1 d2) (hE : sHop g σ e0 e1 e2) (hd : d2 < e0 ∨ e2 < d0)  : ct g mX5_copyFrom ⟨2, 0, 0, 47⟩ [.ref d0, .ref e0] σ I (qEV σ (fun I1 => (∀ b, b ≠ d0 → b ≠ d1 → b ≠ d2 → I1 b = I b) ∧ I1 d0 2 = I e0 2 ∧ I1 d0 3 = I e0 3 ∧ (∀ j, j < 6 → I1 d1 j = I e1 j) ∧ (∀ j, j < 6 → I1 d2 j = I e2 j))) := by
  refine ct_of pn5 rfl (Nat.le_of_ble_eq_true rfl) ok_X5_copyFrom.1 trivial ?_
  show wp _ _ _ _ _ _ _ _ 0 [some (.ref d0), some (.ref e0)] []
  refine w_aload_0 (pc := 0) dX5_copyFrom_0 ?_
  refine w_getR (pc := 1) kc5 0 hD.1 hD.2.1 rfl hD.2.2.2.2.2.2.1 t69 dX5_copyFrom_1 ?_
  refine w_aload_1 (pc := 4) dX5_copyFrom_4 ?_
  refine w_getR (pc := 5) kc5 0 hE.1 hE.2.1 rfl hE.2.2.2.2.2.2.1 t69 dX5_copyFrom_5 ?_
  refine w_callN_V (pc := 8) (c_copyInto hD.2.2.1 hD.2.2.2.1 hE.2.2.1 hE.2.2.2.1 (by decide)) ok_X10_copyInto t188 n371 ⟨Nat.le_of_ble_eq_true rfl, Nat.le_of_ble_eq_true rfl⟩ ⟨rfl, rfl⟩ ⟨Nat.le_refl _, Nat.le_refl _⟩ rfl (Nat.le_of_ble_eq_true rfl) dX5_copyFrom_8 ?_
  refine w_aload_0 (pc := 11) dX5_copyFrom_11 ?_
  refine w_getR (pc := 12) kc5 1 hD.1 hD.2.1 rfl hD.2.2.2.2.2.2.2.1 t72 dX5_copyFrom_12 ?_
  refine w_aload_1 (pc := 15) dX5_copyFrom_15 ?_
  refine w_getR (pc := 16) kc5 1 hE.1 hE.2.1 rfl hE.2.2.2.2.2.2.2.1 t72 dX5_copyFrom_16 ?_
  refine w_callN_V (pc := 19) (c_copyInto hD.2.2.2.2.1 hD.2.2.2.2.2.1 hE.2.2.2.2.1 hE.2.2.2.2.2.1 (by decide)) ok_X10_copyInto t188 n371 ⟨Nat.le_of_ble_eq_true rfl, Nat.le_of_ble_eq_true rfl⟩ ⟨rfl, rfl⟩ ⟨Nat.le_refl _, Nat.le_refl _⟩ rfl (Nat.le_of_ble_eq_true rfl) dX5_copyFrom_19 ?_
  refine w_aload_0 (pc := 22) dX5_copyFrom_22 ?_
  refine w_aload_1 (pc := 23) dX5_copyFrom_23 ?_
  refine w_getI (pc := 24) kc5 2 hE.1 hE.2.1 rfl t75 dX5_copyFrom_24 ?_
  refine w_putI (pc := 27) kc5 2 hD.1 hD.2.1 rfl t75 rfl (tyX5_ok 2 (by decide)) rfl rfl dX5_copyFrom_27 ?_
  refine w_aload_0 (pc := 30) dX5_copyFrom_30 ?_
  refine w_aload_1 (pc := 31) dX5_copyFrom_31 ?_
  refine w_getI (pc := 32) kc5 3 hE.1 hE.2.1 rfl t78 dX5_copyFrom_32 ?_
  refine w_putI (pc := 35) kc5 3 hD.1 hD.2.1 rfl t78 rfl (tyX5_ok 3 (by decide)) rfl rfl dX5_copyFrom_35 ?_
  refine w_vret (pc := 38) rfl ⟨Nat.le_refl _, Nat.le_refl _⟩ dX5_copyFrom_38 ?_
  have ld0 := hD.2.2.2.2.2.2.2.2.1
  have le0 := hE.2.2.2.2.2.2.2.2.1
  have ld1 := hD.2.2.2.2.2.2.2.2.2
  have le1 := hE.2.2.2.2.2.2.2.2.2
  have q_d0_e0 : d0 ≠ e0 := by omega
  have q_d0_e1 : d0 ≠ e1 := by omega
  have q_d0_d1 : d0 ≠ d1 := by omega
  have q_d0_e2 : d0 ≠ e2 := by omega
  have q_d0_d2 : d0 ≠ d2 := by omega
  have q_d1_e0 : d1 ≠ e0 := by omega
  have q_d1_e1 : d1 ≠ e1 := by omega
  have q_d1_e2 : d1 ≠ e2 := by omega
  have q_d1_d2 : d1 ≠ d2 := by omega
  have q_d2_e0 : d2 ≠ e0 := by omega
  have q_d2_e1 : d2 ≠ e1 := by omega
  have q_d2_e2 : d2 ≠ e2 := by omega
  refine ⟨rfl, rfl, fun b z0 z1 z2 => ?_, ?_, ?_, fun j hj => ?_, fun j hj => ?_⟩
  · simp [kst, va_up, z0, z1, z2]
  · simp [kst, va_up, upd, q_d0_e0, q_d0_e0.symm, q_d0_e1, q_d0_e1.symm, q_d0_d1, q_d0_d1.symm, q_d0_e2, q_d0_e2.symm, q_d0_d2, q_d0_d2.symm, q_d1_e0, q_d1_e0.symm, q_d1_e1, q_d1_e1.symm, q_d1_e2, q_d1_e2.symm, q_d1_d2, q_d1_d2.symm, q_d2_e0, q_d2_e0.symm, q_d2_e1, q_d2_e1.symm, q_d2_e2, q_d2_e2.symm]
  · simp [kst, va_up, upd, q_d0_e0, q_d0_e0.symm, q_d0_e1, q_d0_e1.symm, q_d0_d1, q_d0_d1.symm, q_d0_e2, q_d0_e2.symm, q_d0_d2, q_d0_d2.symm, q_d1_e0, q_d1_e0.symm, q_d1_e1, q_d1_e1.symm, q_d1_e2, q_d1_e2.symm, q_d1_d2, q_d1_d2.symm, q_d2_e0, q_d2_e0.symm, q_d2_e1, q_d2_e1.symm, q_d2_e2, q_d2_e2.symm]
  · simp [kst, va_up, upd, q_d0_e0, q_d0_e0.symm, q_d0_e1, q_d0_e1.symm, q_d0_d1, q_d0_d1.symm, q_d0_e2, q_d0_e2.symm, q_d0_d2, q_d0_d2.symm, q_d1_e0, q_d1_e0.symm, q_d1_e1, q_d1_e1.symm, q_d1_e2, q_d1_e2.symm, q_d1_d2, q_d1_d2.symm, q_d2_e0, q_d2_e0.symm, q_d2_e1, q_d2_e1.symm, q_d2_e2, q_d2_e2.symm, va_cpy, hj]
  · simp [kst, va_up, upd, q_d0_e0, q_d0_e0.symm, q_d0_e1, q_d0_e1.symm, q_d0_d1, q_d0_d1.symm, q_d0_e2, q_d0_e2.symm, q_d0_d2, q_d0_d2.symm, q_d1_e0, q_d1_e0.symm, q_d1_e1, q_d1_e1.symm, q_d1_e2, q_d1_e2.symm, q_d1_d2, q_d1_d2.symm, q_d2_e0, q_d2_e0.symm, q_d2_e1, q_d2_e1.symm, q_d2_e2, q_d2_e2.symm, va_cpy, hj]
set_option maxHeartbeats 4000000 in
set_option maxRecDepth 100000 in
theorem c_Belt_copyFrom {g : kG} {σ : kS} {I : kI} {d0 d1 e0 e1 : Nat} (hD : sBelt g σ d0 d1) (hE : sBelt g σ e0 e1) (hd : d1 < e0 ∨ e1 < d0)  : ct g mX1_copyFrom ⟨2, 0, 0, 47⟩ [.ref d0, .ref e0] σ I (qEV σ (fun I1 => (∀ b, b ≠ d0 → b ≠ d1 → I1 b = I b) ∧ I1 d0 1 = I e0 1 ∧ I1 d0 2 = I e0 2 ∧ (∀ j, j < 48 → I1 d1 j = I e1 j))) := by
  refine ct_of pn1 rfl (Nat.le_of_ble_eq_true rfl) ok_X1_copyFrom.1 trivial ?_
  show wp _ _ _ _ _ _ _ _ 0 [some (.ref d0), some (.ref e0)] []
  refine w_aload_0 (pc := 0) dX1_copyFrom_0 ?_
  refine w_getR (pc := 1) kc1 0 hD.1 hD.2.1 rfl hD.2.2.2.2.1 t96 dX1_copyFrom_1 ?_
  refine w_aload_1 (pc := 4) dX1_copyFrom_4 ?_
  refine w_getR (pc := 5) kc1 0 hE.1 hE.2.1 rfl hE.2.2.2.2.1 t96 dX1_copyFrom_5 ?_
  refine w_callN_V (pc := 8) (c_copyInto hD.2.2.1 hD.2.2.2.1 hE.2.2.1 hE.2.2.2.1 (by decide)) ok_X10_copyInto t188 n376 ⟨Nat.le_of_ble_eq_true rfl, Nat.le_of_ble_eq_true rfl⟩ ⟨rfl, rfl⟩ ⟨Nat.le_refl _, Nat.le_refl _⟩ rfl (Nat.le_of_ble_eq_true rfl) dX1_copyFrom_8 ?_
  refine w_aload_0 (pc := 11) dX1_copyFrom_11 ?_
  refine w_aload_1 (pc := 12) dX1_copyFrom_12 ?_
  refine w_getI (pc := 13) kc1 1 hE.1 hE.2.1 rfl t97 dX1_copyFrom_13 ?_
  refine w_putI (pc := 16) kc1 1 hD.1 hD.2.1 rfl t97 rfl (tyX1_ok 1 (by decide)) rfl rfl dX1_copyFrom_16 ?_
  refine w_aload_0 (pc := 19) dX1_copyFrom_19 ?_
  refine w_aload_1 (pc := 20) dX1_copyFrom_20 ?_
  refine w_getI (pc := 21) kc1 2 hE.1 hE.2.1 rfl t98 dX1_copyFrom_21 ?_
  refine w_putI (pc := 24) kc1 2 hD.1 hD.2.1 rfl t98 rfl (tyX1_ok 2 (by decide)) rfl rfl dX1_copyFrom_24 ?_
  refine w_vret (pc := 27) rfl ⟨Nat.le_refl _, Nat.le_refl _⟩ dX1_copyFrom_27 ?_
  have ld0 := hD.2.2.2.2.2
  have le0 := hE.2.2.2.2.2
  have q_d0_e0 : d0 ≠ e0 := by omega
  have q_d0_e1 : d0 ≠ e1 := by omega
  have q_d0_d1 : d0 ≠ d1 := by omega
  have q_d1_e0 : d1 ≠ e0 := by omega
  have q_d1_e1 : d1 ≠ e1 := by omega
  refine ⟨rfl, rfl, fun b z0 z1 => ?_, ?_, ?_, fun j hj => ?_⟩
  · simp [kst, va_up, z0, z1]
  · simp [kst, va_up, upd, q_d0_e0, q_d0_e0.symm, q_d0_e1, q_d0_e1.symm, q_d0_d1, q_d0_d1.symm, q_d1_e0, q_d1_e0.symm, q_d1_e1, q_d1_e1.symm]
  · simp [kst, va_up, upd, q_d0_e0, q_d0_e0.symm, q_d0_e1, q_d0_e1.symm, q_d0_d1, q_d0_d1.symm, q_d1_e0, q_d1_e0.symm, q_d1_e1, q_d1_e1.symm]
  · simp [kst, va_up, upd, q_d0_e0, q_d0_e0.symm, q_d0_e1, q_d0_e1.symm, q_d0_d1, q_d0_d1.symm, q_d1_e0, q_d1_e0.symm, q_d1_e1, q_d1_e1.symm, va_cpy, hj]
set_option maxHeartbeats 4000000 in
set_option maxRecDepth 100000 in
theorem c_Bins_copyFrom {g : kG} {σ : kS} {I : kI} {d0 d1 d2 d3 e0 e1 e2 e3 : Nat} (hD : sBins g σ d0 d1 d2 d3) (hE : sBins g σ e0 e1 e2 e3) (hd : d3 < e0 ∨ e3 < d0)  : ct g mX2_copyFrom ⟨2, 0, 0, 47⟩ [.ref d0, .ref e0] σ I (qEV σ (fun I1 => (∀ b, b ≠ d0 → b ≠ d1 → b ≠ d2 → b ≠ d3 → I1 b = I b) ∧ I1 d0 3 = I e0 3 ∧ (∀ j, j < 32 → I1 d1 j = I e1 j) ∧ (∀ j, j < 8 → I1 d2 j = I e2 j) ∧ (∀ j, j < 8 → I1 d3 j = I e3 j))) := by
  refine ct_of pn2 rfl (Nat.le_of_ble_eq_true rfl) ok_X2_copyFrom.1 trivial ?_
  show wp _ _ _ _ _ _ _ _ 0 [some (.ref d0), some (.ref e0)] []
  refine w_aload_0 (pc := 0) dX2_copyFrom_0 ?_
  refine w_getR (pc := 1) kc2 0 hD.1 hD.2.1 rfl hD.2.2.2.2.2.2.2.2.1 t114 dX2_copyFrom_1 ?_
  refine w_aload_1 (pc := 4) dX2_copyFrom_4 ?_
  refine w_getR (pc := 5) kc2 0 hE.1 hE.2.1 rfl hE.2.2.2.2.2.2.2.2.1 t114 dX2_copyFrom_5 ?_
  refine w_callN_V (pc := 8) (c_copyInto hD.2.2.1 hD.2.2.2.1 hE.2.2.1 hE.2.2.2.1 (by decide)) ok_X10_copyInto t188 n381 ⟨Nat.le_of_ble_eq_true rfl, Nat.le_of_ble_eq_true rfl⟩ ⟨rfl, rfl⟩ ⟨Nat.le_refl _, Nat.le_refl _⟩ rfl (Nat.le_of_ble_eq_true rfl) dX2_copyFrom_8 ?_
  refine w_aload_0 (pc := 11) dX2_copyFrom_11 ?_
  refine w_getR (pc := 12) kc2 1 hD.1 hD.2.1 rfl hD.2.2.2.2.2.2.2.2.2.1 t116 dX2_copyFrom_12 ?_
  refine w_aload_1 (pc := 15) dX2_copyFrom_15 ?_
  refine w_getR (pc := 16) kc2 1 hE.1 hE.2.1 rfl hE.2.2.2.2.2.2.2.2.2.1 t116 dX2_copyFrom_16 ?_
  refine w_callN_V (pc := 19) (c_copyInto hD.2.2.2.2.1 hD.2.2.2.2.2.1 hE.2.2.2.2.1 hE.2.2.2.2.2.1 (by decide)) ok_X10_copyInto t188 n381 ⟨Nat.le_of_ble_eq_true rfl, Nat.le_of_ble_eq_true rfl⟩ ⟨rfl, rfl⟩ ⟨Nat.le_refl _, Nat.le_refl _⟩ rfl (Nat.le_of_ble_eq_true rfl) dX2_copyFrom_19 ?_
  refine w_aload_0 (pc := 22) dX2_copyFrom_22 ?_
  refine w_getR (pc := 23) kc2 2 hD.1 hD.2.1 rfl hD.2.2.2.2.2.2.2.2.2.2.1 t119 dX2_copyFrom_23 ?_
  refine w_aload_1 (pc := 26) dX2_copyFrom_26 ?_
  refine w_getR (pc := 27) kc2 2 hE.1 hE.2.1 rfl hE.2.2.2.2.2.2.2.2.2.2.1 t119 dX2_copyFrom_27 ?_
  refine w_callN_V (pc := 30) (c_copyInto hD.2.2.2.2.2.2.1 hD.2.2.2.2.2.2.2.1 hE.2.2.2.2.2.2.1 hE.2.2.2.2.2.2.2.1 (by decide)) ok_X10_copyInto t188 n381 ⟨Nat.le_of_ble_eq_true rfl, Nat.le_of_ble_eq_true rfl⟩ ⟨rfl, rfl⟩ ⟨Nat.le_refl _, Nat.le_refl _⟩ rfl (Nat.le_of_ble_eq_true rfl) dX2_copyFrom_30 ?_
  refine w_aload_0 (pc := 33) dX2_copyFrom_33 ?_
  refine w_aload_1 (pc := 34) dX2_copyFrom_34 ?_
  refine w_getI (pc := 35) kc2 3 hE.1 hE.2.1 rfl t121 dX2_copyFrom_35 ?_
  refine w_putI (pc := 38) kc2 3 hD.1 hD.2.1 rfl t121 rfl (tyX2_ok 3 (by decide)) rfl rfl dX2_copyFrom_38 ?_
  refine w_vret (pc := 41) rfl ⟨Nat.le_refl _, Nat.le_refl _⟩ dX2_copyFrom_41 ?_
  have ld0 := hD.2.2.2.2.2.2.2.2.2.2.2.1
  have le0 := hE.2.2.2.2.2.2.2.2.2.2.2.1
  have ld1 := hD.2.2.2.2.2.2.2.2.2.2.2.2.1
  have le1 := hE.2.2.2.2.2.2.2.2.2.2.2.2.1
  have ld2 := hD.2.2.2.2.2.2.2.2.2.2.2.2.2
  have le2 := hE.2.2.2.2.2.2.2.2.2.2.2.2.2
  have q_d0_e0 : d0 ≠ e0 := by omega
  have q_d0_e1 : d0 ≠ e1 := by omega
  have q_d0_d1 : d0 ≠ d1 := by omega
  have q_d0_e2 : d0 ≠ e2 := by omega
  have q_d0_d2 : d0 ≠ d2 := by omega
  have q_d0_e3 : d0 ≠ e3 := by omega
  have q_d0_d3 : d0 ≠ d3 := by omega
  have q_d1_e0 : d1 ≠ e0 := by omega
  have q_d1_e1 : d1 ≠ e1 := by omega
  have q_d1_e2 : d1 ≠ e2 := by omega
  have q_d1_d2 : d1 ≠ d2 := by omega
  have q_d1_e3 : d1 ≠ e3 := by omega
  have q_d1_d3 : d1 ≠ d3 := by omega
  have q_d2_e0 : d2 ≠ e0 := by omega
  have q_d2_e1 : d2 ≠ e1 := by omega
  have q_d2_e2 : d2 ≠ e2 := by omega
  have q_d2_e3 : d2 ≠ e3 := by omega
  have q_d2_d3 : d2 ≠ d3 := by omega
  have q_d3_e0 : d3 ≠ e0 := by omega
  have q_d3_e1 : d3 ≠ e1 := by omega
  have q_d3_e2 : d3 ≠ e2 := by omega
  have q_d3_e3 : d3 ≠ e3 := by omega
  refine ⟨rfl, rfl, fun b z0 z1 z2 z3 => ?_, ?_, fun j hj => ?_, fun j hj => ?_, fun j hj => ?_⟩
  · simp [kst, va_up, z0, z1, z2, z3]
  · simp [kst, va_up, upd, q_d0_e0, q_d0_e0.symm, q_d0_e1, q_d0_e1.symm, q_d0_d1, q_d0_d1.symm, q_d0_e2, q_d0_e2.symm, q_d0_d2, q_d0_d2.symm, q_d0_e3, q_d0_e3.symm, q_d0_d3, q_d0_d3.symm, q_d1_e0, q_d1_e0.symm, q_d1_e1, q_d1_e1.symm, q_d1_e2, q_d1_e2.symm, q_d1_d2, q_d1_d2.symm, q_d1_e3, q_d1_e3.symm, q_d1_d3, q_d1_d3.symm, q_d2_e0, q_d2_e0.symm, q_d2_e1, q_d2_e1.symm, q_d2_e2, q_d2_e2.symm, q_d2_e3, q_d2_e3.symm, q_d2_d3, q_d2_d3.symm, q_d3_e0, q_d3_e0.symm, q_d3_e1, q_d3_e1.symm, q_d3_e2, q_d3_e2.symm, q_d3_e3, q_d3_e3.symm]
  · simp [kst, va_up, upd, q_d0_e0, q_d0_e0.symm, q_d0_e1, q_d0_e1.symm, q_d0_d1, q_d0_d1.symm, q_d0_e2, q_d0_e2.symm, q_d0_d2, q_d0_d2.symm, q_d0_e3, q_d0_e3.symm, q_d0_d3, q_d0_d3.symm, q_d1_e0, q_d1_e0.symm, q_d1_e1, q_d1_e1.symm, q_d1_e2, q_d1_e2.symm, q_d1_d2, q_d1_d2.symm, q_d1_e3, q_d1_e3.symm, q_d1_d3, q_d1_d3.symm, q_d2_e0, q_d2_e0.symm, q_d2_e1, q_d2_e1.symm, q_d2_e2, q_d2_e2.symm, q_d2_e3, q_d2_e3.symm, q_d2_d3, q_d2_d3.symm, q_d3_e0, q_d3_e0.symm, q_d3_e1, q_d3_e1.symm, q_d3_e2, q_d3_e2.symm, q_d3_e3, q_d3_e3.symm, va_cpy, hj]
  · simp [kst, va_up, upd, q_d0_e0, q_d0_e0.symm, q_d0_e1, q_d0_e1.symm, q_d0_d1, q_d0_d1.symm, q_d0_e2, q_d0_e2.symm, q_d0_d2, q_d0_d2.symm, q_d0_e3, q_d0_e3.symm, q_d0_d3, q_d0_d3.symm, q_d1_e0, q_d1_e0.symm, q_d1_e1, q_d1_e1.symm, q_d1_e2, q_d1_e2.symm, q_d1_d2, q_d1_d2.symm, q_d1_e3, q_d1_e3.symm, q_d1_d3, q_d1_d3.symm, q_d2_e0, q_d2_e0.symm, q_d2_e1, q_d2_e1.symm, q_d2_e2, q_d2_e2.symm, q_d2_e3, q_d2_e3.symm, q_d2_d3, q_d2_d3.symm, q_d3_e0, q_d3_e0.symm, q_d3_e1, q_d3_e1.symm, q_d3_e2, q_d3_e2.symm, q_d3_e3, q_d3_e3.symm, va_cpy, hj]
  · simp [kst, va_up, upd, q_d0_e0, q_d0_e0.symm, q_d0_e1, q_d0_e1.symm, q_d0_d1, q_d0_d1.symm, q_d0_e2, q_d0_e2.symm, q_d0_d2, q_d0_d2.symm, q_d0_e3, q_d0_e3.symm, q_d0_d3, q_d0_d3.symm, q_d1_e0, q_d1_e0.symm, q_d1_e1, q_d1_e1.symm, q_d1_e2, q_d1_e2.symm, q_d1_d2, q_d1_d2.symm, q_d1_e3, q_d1_e3.symm, q_d1_d3, q_d1_d3.symm, q_d2_e0, q_d2_e0.symm, q_d2_e1, q_d2_e1.symm, q_d2_e2, q_d2_e2.symm, q_d2_e3, q_d2_e3.symm, q_d2_d3, q_d2_d3.symm, q_d3_e0, q_d3_e0.symm, q_d3_e1, q_d3_e1.symm, q_d3_e2, q_d3_e2.symm, q_d3_e3, q_d3_e3.symm, va_cpy, hj]
set_option maxHeartbeats 4000000 in
set_option maxRecDepth 100000 in
theorem c_Scale_copyFrom {g : kG} {σ : kS} {I : kI} {d0 e0 : Nat} (hD : sScale g σ d0) (hE : sScale g σ e0) (hd : d0 < e0 ∨ e0 < d0)  : ct g mX8_copyFrom ⟨0, 0, 0, 0⟩ [.ref d0, .ref e0] σ I (qEV σ (fun I1 => (∀ b, b ≠ d0 → I1 b = I b) ∧ I1 d0 0 = I e0 0 ∧ I1 d0 1 = I e0 1 ∧ I1 d0 2 = I e0 2 ∧ I1 d0 3 = I e0 3 ∧ I1 d0 4 = I e0 4)) := by
  refine ct_of pn8 rfl (Nat.le_of_ble_eq_true rfl) ok_X8_copyFrom.1 trivial ?_
  show wp _ _ _ _ _ _ _ _ 0 [some (.ref d0), some (.ref e0)] []
  refine w_aload_0 (pc := 0) dX8_copyFrom_0 ?_
  refine w_aload_1 (pc := 1) dX8_copyFrom_1 ?_
  refine w_getI (pc := 2) kc8 0 hE.1 hE.2 rfl t139 dX8_copyFrom_2 ?_
  refine w_putI (pc := 5) kc8 0 hD.1 hD.2 rfl t139 rfl (tyX8_ok 0 (by decide)) rfl rfl dX8_copyFrom_5 ?_
  refine w_aload_0 (pc := 8) dX8_copyFrom_8 ?_
  refine w_aload_1 (pc := 9) dX8_copyFrom_9 ?_
  refine w_getI (pc := 10) kc8 1 hE.1 hE.2 rfl t142 dX8_copyFrom_10 ?_
  refine w_putI (pc := 13) kc8 1 hD.1 hD.2 rfl t142 rfl (tyX8_ok 1 (by decide)) rfl rfl dX8_copyFrom_13 ?_
  refine w_aload_0 (pc := 16) dX8_copyFrom_16 ?_
  refine w_aload_1 (pc := 17) dX8_copyFrom_17 ?_
  refine w_getI (pc := 18) kc8 2 hE.1 hE.2 rfl t145 dX8_copyFrom_18 ?_
  refine w_putI (pc := 21) kc8 2 hD.1 hD.2 rfl t145 rfl (tyX8_ok 2 (by decide)) rfl rfl dX8_copyFrom_21 ?_
  refine w_aload_0 (pc := 24) dX8_copyFrom_24 ?_
  refine w_aload_1 (pc := 25) dX8_copyFrom_25 ?_
  refine w_getI (pc := 26) kc8 3 hE.1 hE.2 rfl t147 dX8_copyFrom_26 ?_
  refine w_putI (pc := 29) kc8 3 hD.1 hD.2 rfl t147 rfl (tyX8_ok 3 (by decide)) rfl rfl dX8_copyFrom_29 ?_
  refine w_aload_0 (pc := 32) dX8_copyFrom_32 ?_
  refine w_aload_1 (pc := 33) dX8_copyFrom_33 ?_
  refine w_getI (pc := 34) kc8 4 hE.1 hE.2 rfl t148 dX8_copyFrom_34 ?_
  refine w_putI (pc := 37) kc8 4 hD.1 hD.2 rfl t148 rfl (tyX8_ok 4 (by decide)) rfl rfl dX8_copyFrom_37 ?_
  refine w_vret (pc := 40) rfl ⟨Nat.le_refl _, Nat.le_refl _⟩ dX8_copyFrom_40 ?_
  have q_d0_e0 : d0 ≠ e0 := by omega
  refine ⟨rfl, rfl, fun b z0 => ?_, ?_, ?_, ?_, ?_, ?_⟩
  · simp [kst, va_up, z0]
  · simp [kst, va_up, upd, q_d0_e0, q_d0_e0.symm]
  · simp [kst, va_up, upd, q_d0_e0, q_d0_e0.symm]
  · simp [kst, va_up, upd, q_d0_e0, q_d0_e0.symm]
  · simp [kst, va_up, upd, q_d0_e0, q_d0_e0.symm]
  · simp [kst, va_up, upd, q_d0_e0, q_d0_e0.symm]
set_option maxHeartbeats 4000000 in
set_option maxRecDepth 100000 in
theorem c_Acc_copyFrom {g : kG} {σ : kS} {I : kI} {d0 d1 d2 d3 e0 e1 e2 e3 : Nat} (hD : sAcc g σ d0 d1 d2 d3) (hE : sAcc g σ e0 e1 e2 e3) (hd : d3 < e0 ∨ e3 < d0)  : ct g mX0_copyFrom ⟨2, 0, 0, 47⟩ [.ref d0, .ref e0] σ I (qEV σ (fun I1 => (∀ b, b ≠ d0 → b ≠ d1 → b ≠ d2 → b ≠ d3 → I1 b = I b) ∧ I1 d0 3 = I e0 3 ∧ (∀ j, j < 8 → I1 d1 j = I e1 j) ∧ (∀ j, j < 8 → I1 d2 j = I e2 j) ∧ (∀ j, j < 4 → I1 d3 j = I e3 j))) := by
  refine ct_of pn0 rfl (Nat.le_of_ble_eq_true rfl) ok_X0_copyFrom.1 trivial ?_
  show wp _ _ _ _ _ _ _ _ 0 [some (.ref d0), some (.ref e0)] []
  refine w_aload_0 (pc := 0) dX0_copyFrom_0 ?_
  refine w_getR (pc := 1) kc0 0 hD.1 hD.2.1 rfl hD.2.2.2.2.2.2.2.2.1 t168 dX0_copyFrom_1 ?_
  refine w_aload_1 (pc := 4) dX0_copyFrom_4 ?_
  refine w_getR (pc := 5) kc0 0 hE.1 hE.2.1 rfl hE.2.2.2.2.2.2.2.2.1 t168 dX0_copyFrom_5 ?_
  refine w_callN_V (pc := 8) (c_copyInto hD.2.2.1 hD.2.2.2.1 hE.2.2.1 hE.2.2.2.1 (by decide)) ok_X10_copyInto t188 n390 ⟨Nat.le_of_ble_eq_true rfl, Nat.le_of_ble_eq_true rfl⟩ ⟨rfl, rfl⟩ ⟨Nat.le_refl _, Nat.le_refl _⟩ rfl (Nat.le_of_ble_eq_true rfl) dX0_copyFrom_8 ?_
  refine w_aload_0 (pc := 11) dX0_copyFrom_11 ?_
  refine w_getR (pc := 12) kc0 1 hD.1 hD.2.1 rfl hD.2.2.2.2.2.2.2.2.2.1 t170 dX0_copyFrom_12 ?_
  refine w_aload_1 (pc := 15) dX0_copyFrom_15 ?_
  refine w_getR (pc := 16) kc0 1 hE.1 hE.2.1 rfl hE.2.2.2.2.2.2.2.2.2.1 t170 dX0_copyFrom_16 ?_
  refine w_callN_V (pc := 19) (c_copyInto hD.2.2.2.2.1 hD.2.2.2.2.2.1 hE.2.2.2.2.1 hE.2.2.2.2.2.1 (by decide)) ok_X10_copyInto t188 n390 ⟨Nat.le_of_ble_eq_true rfl, Nat.le_of_ble_eq_true rfl⟩ ⟨rfl, rfl⟩ ⟨Nat.le_refl _, Nat.le_refl _⟩ rfl (Nat.le_of_ble_eq_true rfl) dX0_copyFrom_19 ?_
  refine w_aload_0 (pc := 22) dX0_copyFrom_22 ?_
  refine w_getR (pc := 23) kc0 2 hD.1 hD.2.1 rfl hD.2.2.2.2.2.2.2.2.2.2.1 t172 dX0_copyFrom_23 ?_
  refine w_aload_1 (pc := 26) dX0_copyFrom_26 ?_
  refine w_getR (pc := 27) kc0 2 hE.1 hE.2.1 rfl hE.2.2.2.2.2.2.2.2.2.2.1 t172 dX0_copyFrom_27 ?_
  refine w_callN_V (pc := 30) (c_copyInto hD.2.2.2.2.2.2.1 hD.2.2.2.2.2.2.2.1 hE.2.2.2.2.2.2.1 hE.2.2.2.2.2.2.2.1 (by decide)) ok_X10_copyInto t188 n390 ⟨Nat.le_of_ble_eq_true rfl, Nat.le_of_ble_eq_true rfl⟩ ⟨rfl, rfl⟩ ⟨Nat.le_refl _, Nat.le_refl _⟩ rfl (Nat.le_of_ble_eq_true rfl) dX0_copyFrom_30 ?_
  refine w_aload_0 (pc := 33) dX0_copyFrom_33 ?_
  refine w_aload_1 (pc := 34) dX0_copyFrom_34 ?_
  refine w_getI (pc := 35) kc0 3 hE.1 hE.2.1 rfl t174 dX0_copyFrom_35 ?_
  refine w_putI (pc := 38) kc0 3 hD.1 hD.2.1 rfl t174 rfl (tyX0_ok 3 (by decide)) rfl rfl dX0_copyFrom_38 ?_
  refine w_vret (pc := 41) rfl ⟨Nat.le_refl _, Nat.le_refl _⟩ dX0_copyFrom_41 ?_
  have ld0 := hD.2.2.2.2.2.2.2.2.2.2.2.1
  have le0 := hE.2.2.2.2.2.2.2.2.2.2.2.1
  have ld1 := hD.2.2.2.2.2.2.2.2.2.2.2.2.1
  have le1 := hE.2.2.2.2.2.2.2.2.2.2.2.2.1
  have ld2 := hD.2.2.2.2.2.2.2.2.2.2.2.2.2
  have le2 := hE.2.2.2.2.2.2.2.2.2.2.2.2.2
  have q_d0_e0 : d0 ≠ e0 := by omega
  have q_d0_e1 : d0 ≠ e1 := by omega
  have q_d0_d1 : d0 ≠ d1 := by omega
  have q_d0_e2 : d0 ≠ e2 := by omega
  have q_d0_d2 : d0 ≠ d2 := by omega
  have q_d0_e3 : d0 ≠ e3 := by omega
  have q_d0_d3 : d0 ≠ d3 := by omega
  have q_d1_e0 : d1 ≠ e0 := by omega
  have q_d1_e1 : d1 ≠ e1 := by omega
  have q_d1_e2 : d1 ≠ e2 := by omega
  have q_d1_d2 : d1 ≠ d2 := by omega
  have q_d1_e3 : d1 ≠ e3 := by omega
  have q_d1_d3 : d1 ≠ d3 := by omega
  have q_d2_e0 : d2 ≠ e0 := by omega
  have q_d2_e1 : d2 ≠ e1 := by omega
  have q_d2_e2 : d2 ≠ e2 := by omega
  have q_d2_e3 : d2 ≠ e3 := by omega
  have q_d2_d3 : d2 ≠ d3 := by omega
  have q_d3_e0 : d3 ≠ e0 := by omega
  have q_d3_e1 : d3 ≠ e1 := by omega
  have q_d3_e2 : d3 ≠ e2 := by omega
  have q_d3_e3 : d3 ≠ e3 := by omega
  refine ⟨rfl, rfl, fun b z0 z1 z2 z3 => ?_, ?_, fun j hj => ?_, fun j hj => ?_, fun j hj => ?_⟩
  · simp [kst, va_up, z0, z1, z2, z3]
  · simp [kst, va_up, upd, q_d0_e0, q_d0_e0.symm, q_d0_e1, q_d0_e1.symm, q_d0_d1, q_d0_d1.symm, q_d0_e2, q_d0_e2.symm, q_d0_d2, q_d0_d2.symm, q_d0_e3, q_d0_e3.symm, q_d0_d3, q_d0_d3.symm, q_d1_e0, q_d1_e0.symm, q_d1_e1, q_d1_e1.symm, q_d1_e2, q_d1_e2.symm, q_d1_d2, q_d1_d2.symm, q_d1_e3, q_d1_e3.symm, q_d1_d3, q_d1_d3.symm, q_d2_e0, q_d2_e0.symm, q_d2_e1, q_d2_e1.symm, q_d2_e2, q_d2_e2.symm, q_d2_e3, q_d2_e3.symm, q_d2_d3, q_d2_d3.symm, q_d3_e0, q_d3_e0.symm, q_d3_e1, q_d3_e1.symm, q_d3_e2, q_d3_e2.symm, q_d3_e3, q_d3_e3.symm]
  · simp [kst, va_up, upd, q_d0_e0, q_d0_e0.symm, q_d0_e1, q_d0_e1.symm, q_d0_d1, q_d0_d1.symm, q_d0_e2, q_d0_e2.symm, q_d0_d2, q_d0_d2.symm, q_d0_e3, q_d0_e3.symm, q_d0_d3, q_d0_d3.symm, q_d1_e0, q_d1_e0.symm, q_d1_e1, q_d1_e1.symm, q_d1_e2, q_d1_e2.symm, q_d1_d2, q_d1_d2.symm, q_d1_e3, q_d1_e3.symm, q_d1_d3, q_d1_d3.symm, q_d2_e0, q_d2_e0.symm, q_d2_e1, q_d2_e1.symm, q_d2_e2, q_d2_e2.symm, q_d2_e3, q_d2_e3.symm, q_d2_d3, q_d2_d3.symm, q_d3_e0, q_d3_e0.symm, q_d3_e1, q_d3_e1.symm, q_d3_e2, q_d3_e2.symm, q_d3_e3, q_d3_e3.symm, va_cpy, hj]
  · simp [kst, va_up, upd, q_d0_e0, q_d0_e0.symm, q_d0_e1, q_d0_e1.symm, q_d0_d1, q_d0_d1.symm, q_d0_e2, q_d0_e2.symm, q_d0_d2, q_d0_d2.symm, q_d0_e3, q_d0_e3.symm, q_d0_d3, q_d0_d3.symm, q_d1_e0, q_d1_e0.symm, q_d1_e1, q_d1_e1.symm, q_d1_e2, q_d1_e2.symm, q_d1_d2, q_d1_d2.symm, q_d1_e3, q_d1_e3.symm, q_d1_d3, q_d1_d3.symm, q_d2_e0, q_d2_e0.symm, q_d2_e1, q_d2_e1.symm, q_d2_e2, q_d2_e2.symm, q_d2_e3, q_d2_e3.symm, q_d2_d3, q_d2_d3.symm, q_d3_e0, q_d3_e0.symm, q_d3_e1, q_d3_e1.symm, q_d3_e2, q_d3_e2.symm, q_d3_e3, q_d3_e3.symm, va_cpy, hj]
  · simp [kst, va_up, upd, q_d0_e0, q_d0_e0.symm, q_d0_e1, q_d0_e1.symm, q_d0_d1, q_d0_d1.symm, q_d0_e2, q_d0_e2.symm, q_d0_d2, q_d0_d2.symm, q_d0_e3, q_d0_e3.symm, q_d0_d3, q_d0_d3.symm, q_d1_e0, q_d1_e0.symm, q_d1_e1, q_d1_e1.symm, q_d1_e2, q_d1_e2.symm, q_d1_d2, q_d1_d2.symm, q_d1_e3, q_d1_e3.symm, q_d1_d3, q_d1_d3.symm, q_d2_e0, q_d2_e0.symm, q_d2_e1, q_d2_e1.symm, q_d2_e2, q_d2_e2.symm, q_d2_e3, q_d2_e3.symm, q_d2_d3, q_d2_d3.symm, q_d3_e0, q_d3_e0.symm, q_d3_e1, q_d3_e1.symm, q_d3_e2, q_d3_e2.symm, q_d3_e3, q_d3_e3.symm, va_cpy, hj]
-- the int slots of a plant's sixteen cells
def pSl (j k : Nat) : Prop := match j with
  | 0 => 6 ≤ k ∧ k < 15
  | 1 => k = 2 ∨ k = 3
  | 2 => k < 6
  | 3 => k < 6
  | 4 => k = 1 ∨ k = 2
  | 5 => k < 48
  | 6 => k = 3
  | 7 => k < 32
  | 8 => k < 8
  | 9 => k < 8
  | 10 => k < 5
  | 11 => k = 3
  | 12 => k < 8
  | 13 => k < 8
  | 14 => k < 4
  | 15 => k < 3
  | _ => False
def sameP (I1 : kI) (p : Nat) (I : kI) (q : Nat) : Prop := ∀ j k, pSl j k → I1 (p + j) k = I (q + j) k
set_option maxHeartbeats 4000000 in
set_option maxRecDepth 100000 in
theorem c_Plant_copyFrom {g : kG} {σ : kS} {I : kI} {p q : Nat} (hP : sPlant g σ p) (hQ : sPlant g σ q) (hd : p + 16 ≤ q ∨ q + 16 ≤ p) (hz : I q 9 = 0 ∨ I q 9 = 1) : ct g mX6_copyFrom ⟨3, 0, 0, 68⟩ [.ref p, .ref q] σ I (qEV σ (fun I1 => (∀ b, (b < p ∨ p + 16 ≤ b) → I1 b = I b) ∧ sameP I1 p I q)) := by
  refine ct_of pn6 rfl (Nat.le_of_ble_eq_true rfl) ok_X6_copyFrom.1 trivial ?_
  show wp _ _ _ _ _ _ _ _ 0 [some (.ref p), some (.ref q)] []
  have hqp : q ≠ p := by omega
  refine w_aload_0 (pc := 0) dX6_copyFrom_0 ?_
  refine w_getR (pc := 1) kc6 0 (sP_in0 hP) (sP_s0 hP) rfl (sP_r0_0 hP) t196 dX6_copyFrom_1 ?_
  refine w_aload_1 (pc := 4) dX6_copyFrom_4 ?_
  refine w_getR (pc := 5) kc6 0 (sP_in0 hQ) (sP_s0 hQ) rfl (sP_r0_0 hQ) t196 dX6_copyFrom_5 ?_
  refine w_callV_EV (pc := 8) (c_Hop_copyFrom (sP_Hop hP) (sP_Hop hQ) (by omega)) ok_X5_copyFrom t368 t369 kc5 (sP_in hP (k := 1) (by decide)) (sP_s1 hP) t367 ⟨Nat.le_of_ble_eq_true rfl, Nat.le_of_ble_eq_true rfl⟩ ⟨rfl, rfl⟩ ⟨Nat.le_refl _, Nat.le_refl _⟩ rfl (Nat.le_of_ble_eq_true rfl) dX6_copyFrom_8 (fun I8 h8 => ?_)
  refine w_aload_0 (pc := 11) dX6_copyFrom_11 ?_
  refine w_getR (pc := 12) kc6 1 (sP_in0 hP) (sP_s0 hP) rfl (sP_r0_1 hP) t198 dX6_copyFrom_12 ?_
  refine w_aload_1 (pc := 15) dX6_copyFrom_15 ?_
  refine w_getR (pc := 16) kc6 1 (sP_in0 hQ) (sP_s0 hQ) rfl (sP_r0_1 hQ) t198 dX6_copyFrom_16 ?_
  refine w_callV_EV (pc := 19) (c_Belt_copyFrom (sP_Belt hP) (sP_Belt hQ) (by omega)) ok_X1_copyFrom t373 t374 kc1 (sP_in hP (k := 4) (by decide)) (sP_s4 hP) t372 ⟨Nat.le_of_ble_eq_true rfl, Nat.le_of_ble_eq_true rfl⟩ ⟨rfl, rfl⟩ ⟨Nat.le_refl _, Nat.le_refl _⟩ rfl (Nat.le_of_ble_eq_true rfl) dX6_copyFrom_19 (fun I19 h19 => ?_)
  refine w_aload_0 (pc := 22) dX6_copyFrom_22 ?_
  refine w_getR (pc := 23) kc6 2 (sP_in0 hP) (sP_s0 hP) rfl (sP_r0_2 hP) t200 dX6_copyFrom_23 ?_
  refine w_aload_1 (pc := 26) dX6_copyFrom_26 ?_
  refine w_getR (pc := 27) kc6 2 (sP_in0 hQ) (sP_s0 hQ) rfl (sP_r0_2 hQ) t200 dX6_copyFrom_27 ?_
  refine w_callV_EV (pc := 30) (c_Bins_copyFrom (sP_Bins hP) (sP_Bins hQ) (by omega)) ok_X2_copyFrom t378 t379 kc2 (sP_in hP (k := 6) (by decide)) (sP_s6 hP) t377 ⟨Nat.le_of_ble_eq_true rfl, Nat.le_of_ble_eq_true rfl⟩ ⟨rfl, rfl⟩ ⟨Nat.le_refl _, Nat.le_refl _⟩ rfl (Nat.le_of_ble_eq_true rfl) dX6_copyFrom_30 (fun I30 h30 => ?_)
  refine w_aload_0 (pc := 33) dX6_copyFrom_33 ?_
  refine w_getR (pc := 34) kc6 3 (sP_in0 hP) (sP_s0 hP) rfl (sP_r0_3 hP) t202 dX6_copyFrom_34 ?_
  refine w_aload_1 (pc := 37) dX6_copyFrom_37 ?_
  refine w_getR (pc := 38) kc6 3 (sP_in0 hQ) (sP_s0 hQ) rfl (sP_r0_3 hQ) t202 dX6_copyFrom_38 ?_
  refine w_callV_EV (pc := 41) (c_Scale_copyFrom (sP_Scale hP) (sP_Scale hQ) (by omega)) ok_X8_copyFrom t383 t384 kc8 (sP_in hP (k := 10) (by decide)) (sP_s10 hP) t382 ⟨Nat.le_of_ble_eq_true rfl, Nat.le_of_ble_eq_true rfl⟩ ⟨rfl, rfl⟩ ⟨Nat.le_refl _, Nat.le_refl _⟩ rfl (Nat.le_of_ble_eq_true rfl) dX6_copyFrom_41 (fun I41 h41 => ?_)
  refine w_aload_0 (pc := 44) dX6_copyFrom_44 ?_
  refine w_getR (pc := 45) kc6 4 (sP_in0 hP) (sP_s0 hP) rfl (sP_r0_4 hP) t204 dX6_copyFrom_45 ?_
  refine w_aload_1 (pc := 48) dX6_copyFrom_48 ?_
  refine w_getR (pc := 49) kc6 4 (sP_in0 hQ) (sP_s0 hQ) rfl (sP_r0_4 hQ) t204 dX6_copyFrom_49 ?_
  refine w_callV_EV (pc := 52) (c_Acc_copyFrom (sP_Acc hP) (sP_Acc hQ) (by omega)) ok_X0_copyFrom t387 t388 kc0 (sP_in hP (k := 11) (by decide)) (sP_s11 hP) t386 ⟨Nat.le_of_ble_eq_true rfl, Nat.le_of_ble_eq_true rfl⟩ ⟨rfl, rfl⟩ ⟨Nat.le_refl _, Nat.le_refl _⟩ rfl (Nat.le_of_ble_eq_true rfl) dX6_copyFrom_52 (fun I52 h52 => ?_)
  refine w_aload_0 (pc := 55) dX6_copyFrom_55 ?_
  refine w_getR (pc := 56) kc6 5 (sP_in0 hP) (sP_s0 hP) rfl (sP_r0_5 hP) t206 dX6_copyFrom_56 ?_
  refine w_aload_1 (pc := 59) dX6_copyFrom_59 ?_
  refine w_getR (pc := 60) kc6 5 (sP_in0 hQ) (sP_s0 hQ) rfl (sP_r0_5 hQ) t206 dX6_copyFrom_60 ?_
  refine w_callN_V (pc := 63) (c_copyInto (sP_in hP (k := 15) (by decide)) (sP_s15 hP) (sP_in hQ (k := 15) (by decide)) (sP_s15 hQ) (by decide)) ok_X10_copyInto t188 n187 ⟨Nat.le_of_ble_eq_true rfl, Nat.le_of_ble_eq_true rfl⟩ ⟨rfl, rfl⟩ ⟨Nat.le_refl _, Nat.le_refl _⟩ rfl (Nat.le_of_ble_eq_true rfl) dX6_copyFrom_63 ?_
  refine w_aload_0 (pc := 66) dX6_copyFrom_66 ?_
  refine w_aload_1 (pc := 67) dX6_copyFrom_67 ?_
  refine w_getI (pc := 68) kc6 6 (sP_in0 hQ) (sP_s0 hQ) rfl t208 dX6_copyFrom_68 ?_
  refine w_putI (pc := 71) kc6 6 (sP_in0 hP) (sP_s0 hP) rfl t208 rfl (tyX6_ok 6 (by decide)) rfl rfl dX6_copyFrom_71 ?_
  refine w_aload_0 (pc := 74) dX6_copyFrom_74 ?_
  refine w_aload_1 (pc := 75) dX6_copyFrom_75 ?_
  refine w_getI (pc := 76) kc6 7 (sP_in0 hQ) (sP_s0 hQ) rfl t210 dX6_copyFrom_76 ?_
  refine w_putI (pc := 79) kc6 7 (sP_in0 hP) (sP_s0 hP) rfl t210 rfl (tyX6_ok 7 (by decide)) rfl rfl dX6_copyFrom_79 ?_
  refine w_aload_0 (pc := 82) dX6_copyFrom_82 ?_
  refine w_aload_1 (pc := 83) dX6_copyFrom_83 ?_
  refine w_getI (pc := 84) kc6 8 (sP_in0 hQ) (sP_s0 hQ) rfl t212 dX6_copyFrom_84 ?_
  refine w_putI (pc := 87) kc6 8 (sP_in0 hP) (sP_s0 hP) rfl t212 rfl (tyX6_ok 8 (by decide)) rfl rfl dX6_copyFrom_87 ?_
  refine w_aload_0 (pc := 90) dX6_copyFrom_90 ?_
  refine w_aload_1 (pc := 91) dX6_copyFrom_91 ?_
  refine w_getI (pc := 92) kc6 9 (sP_in0 hQ) (sP_s0 hQ) rfl t214 dX6_copyFrom_92 ?_
  refine w_putI (pc := 95) kc6 9 (sP_in0 hP) (sP_s0 hP) rfl t214 rfl (tyX6_ok 9 (by decide)) (nbool (by rw [kst_n hqp, kst_n hqp, kst_n hqp, va_up_ne _ _ (show q ≠ p + 15 by omega), h52.1 (q) (by omega) (by omega) (by omega) (by omega), h41.1 (q) (by omega), h30.1 (q) (by omega) (by omega) (by omega) (by omega), h19.1 (q) (by omega) (by omega), h8.1 (q) (by omega) (by omega) (by omega)]; exact hz)) (fbool (by rw [kst_n hqp, kst_n hqp, kst_n hqp, va_up_ne _ _ (show q ≠ p + 15 by omega), h52.1 (q) (by omega) (by omega) (by omega) (by omega), h41.1 (q) (by omega), h30.1 (q) (by omega) (by omega) (by omega) (by omega), h19.1 (q) (by omega) (by omega), h8.1 (q) (by omega) (by omega) (by omega)]; exact hz)) dX6_copyFrom_95 ?_
  refine w_aload_0 (pc := 98) dX6_copyFrom_98 ?_
  refine w_aload_1 (pc := 99) dX6_copyFrom_99 ?_
  refine w_getI (pc := 100) kc6 10 (sP_in0 hQ) (sP_s0 hQ) rfl t216 dX6_copyFrom_100 ?_
  refine w_putI (pc := 103) kc6 10 (sP_in0 hP) (sP_s0 hP) rfl t216 rfl (tyX6_ok 10 (by decide)) rfl rfl dX6_copyFrom_103 ?_
  refine w_aload_0 (pc := 106) dX6_copyFrom_106 ?_
  refine w_aload_1 (pc := 107) dX6_copyFrom_107 ?_
  refine w_getI (pc := 108) kc6 11 (sP_in0 hQ) (sP_s0 hQ) rfl t217 dX6_copyFrom_108 ?_
  refine w_putI (pc := 111) kc6 11 (sP_in0 hP) (sP_s0 hP) rfl t217 rfl (tyX6_ok 11 (by decide)) rfl rfl dX6_copyFrom_111 ?_
  refine w_aload_0 (pc := 114) dX6_copyFrom_114 ?_
  refine w_aload_1 (pc := 115) dX6_copyFrom_115 ?_
  refine w_getI (pc := 116) kc6 12 (sP_in0 hQ) (sP_s0 hQ) rfl t219 dX6_copyFrom_116 ?_
  refine w_putI (pc := 119) kc6 12 (sP_in0 hP) (sP_s0 hP) rfl t219 rfl (tyX6_ok 12 (by decide)) rfl rfl dX6_copyFrom_119 ?_
  refine w_aload_0 (pc := 122) dX6_copyFrom_122 ?_
  refine w_aload_1 (pc := 123) dX6_copyFrom_123 ?_
  refine w_getI (pc := 124) kc6 13 (sP_in0 hQ) (sP_s0 hQ) rfl t221 dX6_copyFrom_124 ?_
  refine w_putI (pc := 127) kc6 13 (sP_in0 hP) (sP_s0 hP) rfl t221 rfl (tyX6_ok 13 (by decide)) rfl rfl dX6_copyFrom_127 ?_
  refine w_aload_0 (pc := 130) dX6_copyFrom_130 ?_
  refine w_aload_1 (pc := 131) dX6_copyFrom_131 ?_
  refine w_getI (pc := 132) kc6 14 (sP_in0 hQ) (sP_s0 hQ) rfl t223 dX6_copyFrom_132 ?_
  refine w_putI (pc := 135) kc6 14 (sP_in0 hP) (sP_s0 hP) rfl t223 rfl (tyX6_ok 14 (by decide)) rfl rfl dX6_copyFrom_135 ?_
  refine w_vret (pc := 138) rfl ⟨Nat.le_refl _, Nat.le_refl _⟩ dX6_copyFrom_138 ?_
  refine ⟨rfl, rfl, fun b hb => ?_, fun j k hk => ?_⟩
  · rw [kst_n (show b ≠ p by omega), kst_n (show b ≠ p by omega), kst_n (show b ≠ p by omega), kst_n (show b ≠ p by omega), kst_n (show b ≠ p by omega), kst_n (show b ≠ p by omega), kst_n (show b ≠ p by omega), kst_n (show b ≠ p by omega), kst_n (show b ≠ p by omega), va_up_ne _ _ (show b ≠ p + 15 by omega), h52.1 (b) (by omega) (by omega) (by omega) (by omega), h41.1 (b) (by omega), h30.1 (b) (by omega) (by omega) (by omega) (by omega), h19.1 (b) (by omega) (by omega), h8.1 (b) (by omega) (by omega) (by omega)]
  · rcases (show j = 0 ∨ j = 1 ∨ j = 2 ∨ j = 3 ∨ j = 4 ∨ j = 5 ∨ j = 6 ∨ j = 7 ∨ j = 8 ∨ j = 9 ∨ j = 10 ∨ j = 11 ∨ j = 12 ∨ j = 13 ∨ j = 14 ∨ j = 15 ∨ 16 ≤ j by omega) with rfl | rfl | rfl | rfl | rfl | rfl | rfl | rfl | rfl | rfl | rfl | rfl | rfl | rfl | rfl | rfl | h16
    · have hk : 6 ≤ k ∧ k < 15 := hk
      have hq0 : ∀ k, I52 q k = I q k := fun k => by rw [h52.1 (q) (by omega) (by omega) (by omega) (by omega), h41.1 (q) (by omega), h30.1 (q) (by omega) (by omega) (by omega) (by omega), h19.1 (q) (by omega) (by omega), h8.1 (q) (by omega) (by omega) (by omega)]
      rcases (show k = 6 ∨ k = 7 ∨ k = 8 ∨ k = 9 ∨ k = 10 ∨ k = 11 ∨ k = 12 ∨ k = 13 ∨ k = 14 by omega) with rfl | rfl | rfl | rfl | rfl | rfl | rfl | rfl | rfl <;> simp [kst, va_up, upd, hqp, hqp.symm, hq0, show ¬ q = p + 15 by omega, show ¬ p = p + 15 by omega]
    · rw [kst_n (show p + 1 ≠ p by omega), kst_n (show p + 1 ≠ p by omega), kst_n (show p + 1 ≠ p by omega), kst_n (show p + 1 ≠ p by omega), kst_n (show p + 1 ≠ p by omega), kst_n (show p + 1 ≠ p by omega), kst_n (show p + 1 ≠ p by omega), kst_n (show p + 1 ≠ p by omega), kst_n (show p + 1 ≠ p by omega), va_up_ne _ _ (show p + 1 ≠ p + 15 by omega), h52.1 (p + 1) (by omega) (by omega) (by omega) (by omega), h41.1 (p + 1) (by omega), h30.1 (p + 1) (by omega) (by omega) (by omega) (by omega), h19.1 (p + 1) (by omega) (by omega)]
      rcases (show k = 2 ∨ k = 3 from hk) with rfl | rfl
      · rw [h8.2.1]
      · rw [h8.2.2.1]
    · rw [kst_n (show p + 2 ≠ p by omega), kst_n (show p + 2 ≠ p by omega), kst_n (show p + 2 ≠ p by omega), kst_n (show p + 2 ≠ p by omega), kst_n (show p + 2 ≠ p by omega), kst_n (show p + 2 ≠ p by omega), kst_n (show p + 2 ≠ p by omega), kst_n (show p + 2 ≠ p by omega), kst_n (show p + 2 ≠ p by omega), va_up_ne _ _ (show p + 2 ≠ p + 15 by omega), h52.1 (p + 2) (by omega) (by omega) (by omega) (by omega), h41.1 (p + 2) (by omega), h30.1 (p + 2) (by omega) (by omega) (by omega) (by omega), h19.1 (p + 2) (by omega) (by omega)]
      rw [h8.2.2.2.1 k hk]
    · rw [kst_n (show p + 3 ≠ p by omega), kst_n (show p + 3 ≠ p by omega), kst_n (show p + 3 ≠ p by omega), kst_n (show p + 3 ≠ p by omega), kst_n (show p + 3 ≠ p by omega), kst_n (show p + 3 ≠ p by omega), kst_n (show p + 3 ≠ p by omega), kst_n (show p + 3 ≠ p by omega), kst_n (show p + 3 ≠ p by omega), va_up_ne _ _ (show p + 3 ≠ p + 15 by omega), h52.1 (p + 3) (by omega) (by omega) (by omega) (by omega), h41.1 (p + 3) (by omega), h30.1 (p + 3) (by omega) (by omega) (by omega) (by omega), h19.1 (p + 3) (by omega) (by omega)]
      rw [h8.2.2.2.2 k hk]
    · rw [kst_n (show p + 4 ≠ p by omega), kst_n (show p + 4 ≠ p by omega), kst_n (show p + 4 ≠ p by omega), kst_n (show p + 4 ≠ p by omega), kst_n (show p + 4 ≠ p by omega), kst_n (show p + 4 ≠ p by omega), kst_n (show p + 4 ≠ p by omega), kst_n (show p + 4 ≠ p by omega), kst_n (show p + 4 ≠ p by omega), va_up_ne _ _ (show p + 4 ≠ p + 15 by omega), h52.1 (p + 4) (by omega) (by omega) (by omega) (by omega), h41.1 (p + 4) (by omega), h30.1 (p + 4) (by omega) (by omega) (by omega) (by omega)]
      rcases (show k = 1 ∨ k = 2 from hk) with rfl | rfl
      · rw [h19.2.1, h8.1 (q + 4) (by omega) (by omega) (by omega)]
      · rw [h19.2.2.1, h8.1 (q + 4) (by omega) (by omega) (by omega)]
    · rw [kst_n (show p + 5 ≠ p by omega), kst_n (show p + 5 ≠ p by omega), kst_n (show p + 5 ≠ p by omega), kst_n (show p + 5 ≠ p by omega), kst_n (show p + 5 ≠ p by omega), kst_n (show p + 5 ≠ p by omega), kst_n (show p + 5 ≠ p by omega), kst_n (show p + 5 ≠ p by omega), kst_n (show p + 5 ≠ p by omega), va_up_ne _ _ (show p + 5 ≠ p + 15 by omega), h52.1 (p + 5) (by omega) (by omega) (by omega) (by omega), h41.1 (p + 5) (by omega), h30.1 (p + 5) (by omega) (by omega) (by omega) (by omega)]
      rw [h19.2.2.2 k hk, h8.1 (q + 5) (by omega) (by omega) (by omega)]
    · rw [kst_n (show p + 6 ≠ p by omega), kst_n (show p + 6 ≠ p by omega), kst_n (show p + 6 ≠ p by omega), kst_n (show p + 6 ≠ p by omega), kst_n (show p + 6 ≠ p by omega), kst_n (show p + 6 ≠ p by omega), kst_n (show p + 6 ≠ p by omega), kst_n (show p + 6 ≠ p by omega), kst_n (show p + 6 ≠ p by omega), va_up_ne _ _ (show p + 6 ≠ p + 15 by omega), h52.1 (p + 6) (by omega) (by omega) (by omega) (by omega), h41.1 (p + 6) (by omega)]
      obtain rfl : k = 3 := hk
      rw [h30.2.1, h19.1 (q + 6) (by omega) (by omega), h8.1 (q + 6) (by omega) (by omega) (by omega)]
    · rw [kst_n (show p + 7 ≠ p by omega), kst_n (show p + 7 ≠ p by omega), kst_n (show p + 7 ≠ p by omega), kst_n (show p + 7 ≠ p by omega), kst_n (show p + 7 ≠ p by omega), kst_n (show p + 7 ≠ p by omega), kst_n (show p + 7 ≠ p by omega), kst_n (show p + 7 ≠ p by omega), kst_n (show p + 7 ≠ p by omega), va_up_ne _ _ (show p + 7 ≠ p + 15 by omega), h52.1 (p + 7) (by omega) (by omega) (by omega) (by omega), h41.1 (p + 7) (by omega)]
      rw [h30.2.2.1 k hk, h19.1 (q + 7) (by omega) (by omega), h8.1 (q + 7) (by omega) (by omega) (by omega)]
    · rw [kst_n (show p + 8 ≠ p by omega), kst_n (show p + 8 ≠ p by omega), kst_n (show p + 8 ≠ p by omega), kst_n (show p + 8 ≠ p by omega), kst_n (show p + 8 ≠ p by omega), kst_n (show p + 8 ≠ p by omega), kst_n (show p + 8 ≠ p by omega), kst_n (show p + 8 ≠ p by omega), kst_n (show p + 8 ≠ p by omega), va_up_ne _ _ (show p + 8 ≠ p + 15 by omega), h52.1 (p + 8) (by omega) (by omega) (by omega) (by omega), h41.1 (p + 8) (by omega)]
      rw [h30.2.2.2.1 k hk, h19.1 (q + 8) (by omega) (by omega), h8.1 (q + 8) (by omega) (by omega) (by omega)]
    · rw [kst_n (show p + 9 ≠ p by omega), kst_n (show p + 9 ≠ p by omega), kst_n (show p + 9 ≠ p by omega), kst_n (show p + 9 ≠ p by omega), kst_n (show p + 9 ≠ p by omega), kst_n (show p + 9 ≠ p by omega), kst_n (show p + 9 ≠ p by omega), kst_n (show p + 9 ≠ p by omega), kst_n (show p + 9 ≠ p by omega), va_up_ne _ _ (show p + 9 ≠ p + 15 by omega), h52.1 (p + 9) (by omega) (by omega) (by omega) (by omega), h41.1 (p + 9) (by omega)]
      rw [h30.2.2.2.2 k hk, h19.1 (q + 9) (by omega) (by omega), h8.1 (q + 9) (by omega) (by omega) (by omega)]
    · rw [kst_n (show p + 10 ≠ p by omega), kst_n (show p + 10 ≠ p by omega), kst_n (show p + 10 ≠ p by omega), kst_n (show p + 10 ≠ p by omega), kst_n (show p + 10 ≠ p by omega), kst_n (show p + 10 ≠ p by omega), kst_n (show p + 10 ≠ p by omega), kst_n (show p + 10 ≠ p by omega), kst_n (show p + 10 ≠ p by omega), va_up_ne _ _ (show p + 10 ≠ p + 15 by omega), h52.1 (p + 10) (by omega) (by omega) (by omega) (by omega)]
      have hk : k < 5 := hk
      rcases (show k = 0 ∨ k = 1 ∨ k = 2 ∨ k = 3 ∨ k = 4 by omega) with rfl | rfl | rfl | rfl | rfl
      · rw [h41.2.1, h30.1 (q + 10) (by omega) (by omega) (by omega) (by omega), h19.1 (q + 10) (by omega) (by omega), h8.1 (q + 10) (by omega) (by omega) (by omega)]
      · rw [h41.2.2.1, h30.1 (q + 10) (by omega) (by omega) (by omega) (by omega), h19.1 (q + 10) (by omega) (by omega), h8.1 (q + 10) (by omega) (by omega) (by omega)]
      · rw [h41.2.2.2.1, h30.1 (q + 10) (by omega) (by omega) (by omega) (by omega), h19.1 (q + 10) (by omega) (by omega), h8.1 (q + 10) (by omega) (by omega) (by omega)]
      · rw [h41.2.2.2.2.1, h30.1 (q + 10) (by omega) (by omega) (by omega) (by omega), h19.1 (q + 10) (by omega) (by omega), h8.1 (q + 10) (by omega) (by omega) (by omega)]
      · rw [h41.2.2.2.2.2, h30.1 (q + 10) (by omega) (by omega) (by omega) (by omega), h19.1 (q + 10) (by omega) (by omega), h8.1 (q + 10) (by omega) (by omega) (by omega)]
    · rw [kst_n (show p + 11 ≠ p by omega), kst_n (show p + 11 ≠ p by omega), kst_n (show p + 11 ≠ p by omega), kst_n (show p + 11 ≠ p by omega), kst_n (show p + 11 ≠ p by omega), kst_n (show p + 11 ≠ p by omega), kst_n (show p + 11 ≠ p by omega), kst_n (show p + 11 ≠ p by omega), kst_n (show p + 11 ≠ p by omega), va_up_ne _ _ (show p + 11 ≠ p + 15 by omega)]
      obtain rfl : k = 3 := hk
      rw [h52.2.1, h41.1 (q + 11) (by omega), h30.1 (q + 11) (by omega) (by omega) (by omega) (by omega), h19.1 (q + 11) (by omega) (by omega), h8.1 (q + 11) (by omega) (by omega) (by omega)]
    · rw [kst_n (show p + 12 ≠ p by omega), kst_n (show p + 12 ≠ p by omega), kst_n (show p + 12 ≠ p by omega), kst_n (show p + 12 ≠ p by omega), kst_n (show p + 12 ≠ p by omega), kst_n (show p + 12 ≠ p by omega), kst_n (show p + 12 ≠ p by omega), kst_n (show p + 12 ≠ p by omega), kst_n (show p + 12 ≠ p by omega), va_up_ne _ _ (show p + 12 ≠ p + 15 by omega)]
      rw [h52.2.2.1 k hk, h41.1 (q + 12) (by omega), h30.1 (q + 12) (by omega) (by omega) (by omega) (by omega), h19.1 (q + 12) (by omega) (by omega), h8.1 (q + 12) (by omega) (by omega) (by omega)]
    · rw [kst_n (show p + 13 ≠ p by omega), kst_n (show p + 13 ≠ p by omega), kst_n (show p + 13 ≠ p by omega), kst_n (show p + 13 ≠ p by omega), kst_n (show p + 13 ≠ p by omega), kst_n (show p + 13 ≠ p by omega), kst_n (show p + 13 ≠ p by omega), kst_n (show p + 13 ≠ p by omega), kst_n (show p + 13 ≠ p by omega), va_up_ne _ _ (show p + 13 ≠ p + 15 by omega)]
      rw [h52.2.2.2.1 k hk, h41.1 (q + 13) (by omega), h30.1 (q + 13) (by omega) (by omega) (by omega) (by omega), h19.1 (q + 13) (by omega) (by omega), h8.1 (q + 13) (by omega) (by omega) (by omega)]
    · rw [kst_n (show p + 14 ≠ p by omega), kst_n (show p + 14 ≠ p by omega), kst_n (show p + 14 ≠ p by omega), kst_n (show p + 14 ≠ p by omega), kst_n (show p + 14 ≠ p by omega), kst_n (show p + 14 ≠ p by omega), kst_n (show p + 14 ≠ p by omega), kst_n (show p + 14 ≠ p by omega), kst_n (show p + 14 ≠ p by omega), va_up_ne _ _ (show p + 14 ≠ p + 15 by omega)]
      rw [h52.2.2.2.2 k hk, h41.1 (q + 14) (by omega), h30.1 (q + 14) (by omega) (by omega) (by omega) (by omega), h19.1 (q + 14) (by omega) (by omega), h8.1 (q + 14) (by omega) (by omega) (by omega)]
    · have hk : k < 3 := hk
      have hq0 : ∀ k, I52 (q + 15) k = I (q + 15) k := fun k => by rw [h52.1 (q + 15) (by omega) (by omega) (by omega) (by omega), h41.1 (q + 15) (by omega), h30.1 (q + 15) (by omega) (by omega) (by omega) (by omega), h19.1 (q + 15) (by omega) (by omega), h8.1 (q + 15) (by omega) (by omega) (by omega)]
      rw [kst_n (show p + 15 ≠ p by omega), kst_n (show p + 15 ≠ p by omega), kst_n (show p + 15 ≠ p by omega), kst_n (show p + 15 ≠ p by omega), kst_n (show p + 15 ≠ p by omega), kst_n (show p + 15 ≠ p by omega), kst_n (show p + 15 ≠ p by omega), kst_n (show p + 15 ≠ p by omega), kst_n (show p + 15 ≠ p by omega), va_up_self, cpy_in hk, hq0]
    · exact absurd hk (by unfold pSl; split <;> first | omega | exact id)
end
