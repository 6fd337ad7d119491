section
/-- a private method of a class that the tables say can be made, by its rows of tables_1 -/
def lw_okq (q : MethodName × Nat) : Prop := (q.1.cls ≠ "java/lang/invoke/MethodHandle" ∧ q.1.cls ≠ "java/lang/invoke/VarHandle") ∧ Cond.instantiable q.1.cls q.2 ∈ tables_1 ∧ Cond.privateMethod q.1 ∈ tables_1 ∧ Cond.instanceMethod q.1 ∈ tables_1
theorem lw_p0 : lw_okq (⟨"BeltSums", "recorded", "(I)I"⟩, 5) := ⟨⟨by decide +kernel, by decide +kernel⟩, List.mem_of_getElem? (i := 16) (by decide +kernel), List.mem_of_getElem? (i := 371) (by decide +kernel), List.mem_of_getElem? (i := 372) (by decide +kernel)⟩
theorem lw_p1 : lw_okq (⟨"BeltSums$Plant", "wantsMore", "()Z"⟩, 15) := ⟨⟨by decide +kernel, by decide +kernel⟩, List.mem_of_getElem? (i := 24) (by decide +kernel), List.mem_of_getElem? (i := 435) (by decide +kernel), List.mem_of_getElem? (i := 436) (by decide +kernel)⟩
theorem lw_p2 : lw_okq (⟨"BeltSums$Plant", "dropAtEnd", "()I"⟩, 15) := ⟨⟨by decide +kernel, by decide +kernel⟩, List.mem_of_getElem? (i := 24) (by decide +kernel), List.mem_of_getElem? (i := 439) (by decide +kernel), List.mem_of_getElem? (i := 440) (by decide +kernel)⟩
theorem lw_p3 : lw_okq (⟨"BeltSums$Plant", "feed", "()V"⟩, 15) := ⟨⟨by decide +kernel, by decide +kernel⟩, List.mem_of_getElem? (i := 24) (by decide +kernel), List.mem_of_getElem? (i := 467) (by decide +kernel), List.mem_of_getElem? (i := 468) (by decide +kernel)⟩
theorem lw_p4 : lw_okq (⟨"BeltSums$Plant", "spillTooMuch", "()V"⟩, 15) := ⟨⟨by decide +kernel, by decide +kernel⟩, List.mem_of_getElem? (i := 24) (by decide +kernel), List.mem_of_getElem? (i := 480) (by decide +kernel), List.mem_of_getElem? (i := 481) (by decide +kernel)⟩
theorem lw_p5 : lw_okq (⟨"BeltSums$Plant", "endBatch", "()V"⟩, 15) := ⟨⟨by decide +kernel, by decide +kernel⟩, List.mem_of_getElem? (i := 24) (by decide +kernel), List.mem_of_getElem? (i := 505) (by decide +kernel), List.mem_of_getElem? (i := 506) (by decide +kernel)⟩
theorem lw_p6 : lw_okq (⟨"BeltSums", "foretell", "()I"⟩, 5) := ⟨⟨by decide +kernel, by decide +kernel⟩, List.mem_of_getElem? (i := 16) (by decide +kernel), List.mem_of_getElem? (i := 637) (by decide +kernel), List.mem_of_getElem? (i := 638) (by decide +kernel)⟩
theorem lw_p7 : lw_okq (⟨"BeltSums$Command", "passes", "(LBeltSums$Text;I)Z"⟩, 4) := ⟨⟨by decide +kernel, by decide +kernel⟩, List.mem_of_getElem? (i := 270) (by decide +kernel), List.mem_of_getElem? (i := 694) (by decide +kernel), List.mem_of_getElem? (i := 695) (by decide +kernel)⟩
theorem lw_p8 : lw_okq (⟨"BeltSums$Command", "readNumber", "(LBeltSums$Text;)I"⟩, 4) := ⟨⟨by decide +kernel, by decide +kernel⟩, List.mem_of_getElem? (i := 270) (by decide +kernel), List.mem_of_getElem? (i := 698) (by decide +kernel), List.mem_of_getElem? (i := 699) (by decide +kernel)⟩
theorem lw_p9 : lw_okq (⟨"BeltSumsModel", "changes", "()V"⟩, 14) := ⟨⟨by decide +kernel, by decide +kernel⟩, List.mem_of_getElem? (i := 723) (by decide +kernel), List.mem_of_getElem? (i := 782) (by decide +kernel), List.mem_of_getElem? (i := 783) (by decide +kernel)⟩
theorem lw_p10 : lw_okq (⟨"BeltSumsModel", "hasBatch", "()Z"⟩, 14) := ⟨⟨by decide +kernel, by decide +kernel⟩, List.mem_of_getElem? (i := 723) (by decide +kernel), List.mem_of_getElem? (i := 794) (by decide +kernel), List.mem_of_getElem? (i := 795) (by decide +kernel)⟩
theorem lw_p11 : lw_okq (⟨"BeltSumsModel", "mass", "(II)I"⟩, 14) := ⟨⟨by decide +kernel, by decide +kernel⟩, List.mem_of_getElem? (i := 723) (by decide +kernel), List.mem_of_getElem? (i := 807) (by decide +kernel), List.mem_of_getElem? (i := 808) (by decide +kernel)⟩
theorem lw_p12 : lw_okq (⟨"BeltSumsModel", "ticks", "()V"⟩, 14) := ⟨⟨by decide +kernel, by decide +kernel⟩, List.mem_of_getElem? (i := 723) (by decide +kernel), List.mem_of_getElem? (i := 815) (by decide +kernel), List.mem_of_getElem? (i := 816) (by decide +kernel)⟩
theorem lw_p13 : lw_okq (⟨"BeltSumsModel", "goes", "()V"⟩, 14) := ⟨⟨by decide +kernel, by decide +kernel⟩, List.mem_of_getElem? (i := 723) (by decide +kernel), List.mem_of_getElem? (i := 819) (by decide +kernel), List.mem_of_getElem? (i := 820) (by decide +kernel)⟩
theorem lw_p14 : lw_okq (⟨"BeltSumsModel", "falls", "()V"⟩, 14) := ⟨⟨by decide +kernel, by decide +kernel⟩, List.mem_of_getElem? (i := 723) (by decide +kernel), List.mem_of_getElem? (i := 823) (by decide +kernel), List.mem_of_getElem? (i := 824) (by decide +kernel)⟩
theorem lw_p15 : lw_okq (⟨"BeltSumsModel", "feeds", "()V"⟩, 14) := ⟨⟨by decide +kernel, by decide +kernel⟩, List.mem_of_getElem? (i := 723) (by decide +kernel), List.mem_of_getElem? (i := 827) (by decide +kernel), List.mem_of_getElem? (i := 828) (by decide +kernel)⟩
def lw_privs_1 : List (MethodName × Nat) := [(⟨"BeltSums", "recorded", "(I)I"⟩, 5), (⟨"BeltSums$Plant", "wantsMore", "()Z"⟩, 15), (⟨"BeltSums$Plant", "dropAtEnd", "()I"⟩, 15), (⟨"BeltSums$Plant", "feed", "()V"⟩, 15), (⟨"BeltSums$Plant", "spillTooMuch", "()V"⟩, 15), (⟨"BeltSums$Plant", "endBatch", "()V"⟩, 15), (⟨"BeltSums", "foretell", "()I"⟩, 5), (⟨"BeltSums$Command", "passes", "(LBeltSums$Text;I)Z"⟩, 4), (⟨"BeltSums$Command", "readNumber", "(LBeltSums$Text;)I"⟩, 4), (⟨"BeltSumsModel", "changes", "()V"⟩, 14), (⟨"BeltSumsModel", "hasBatch", "()Z"⟩, 14), (⟨"BeltSumsModel", "mass", "(II)I"⟩, 14), (⟨"BeltSumsModel", "ticks", "()V"⟩, 14), (⟨"BeltSumsModel", "goes", "()V"⟩, 14), (⟨"BeltSumsModel", "falls", "()V"⟩, 14), (⟨"BeltSumsModel", "feeds", "()V"⟩, 14)]
theorem lw_r1 : ∀ q ∈ lw_privs_1, lw_okq q := List.forall_mem_cons.mpr ⟨lw_p0, List.forall_mem_cons.mpr ⟨lw_p1, List.forall_mem_cons.mpr ⟨lw_p2, List.forall_mem_cons.mpr ⟨lw_p3, List.forall_mem_cons.mpr ⟨lw_p4, List.forall_mem_cons.mpr ⟨lw_p5, List.forall_mem_cons.mpr ⟨lw_p6, List.forall_mem_cons.mpr ⟨lw_p7, List.forall_mem_cons.mpr ⟨lw_p8, List.forall_mem_cons.mpr ⟨lw_p9, List.forall_mem_cons.mpr ⟨lw_p10, List.forall_mem_cons.mpr ⟨lw_p11, List.forall_mem_cons.mpr ⟨lw_p12, List.forall_mem_cons.mpr ⟨lw_p13, List.forall_mem_cons.mpr ⟨lw_p14, List.forall_mem_cons.mpr ⟨lw_p15, fun _ h => absurd h List.not_mem_nil⟩⟩⟩⟩⟩⟩⟩⟩⟩⟩⟩⟩⟩⟩⟩⟩
theorem lw_p16 : lw_okq (⟨"BeltSumsModel", "reads", "()V"⟩, 14) := ⟨⟨by decide +kernel, by decide +kernel⟩, List.mem_of_getElem? (i := 723) (by decide +kernel), List.mem_of_getElem? (i := 831) (by decide +kernel), List.mem_of_getElem? (i := 832) (by decide +kernel)⟩
theorem lw_p17 : lw_okq (⟨"BeltSumsModel", "reading", "()I"⟩, 14) := ⟨⟨by decide +kernel, by decide +kernel⟩, List.mem_of_getElem? (i := 723) (by decide +kernel), List.mem_of_getElem? (i := 835) (by decide +kernel), List.mem_of_getElem? (i := 836) (by decide +kernel)⟩
theorem lw_p18 : lw_okq (⟨"BeltSumsModel", "isBin", "(I)Z"⟩, 14) := ⟨⟨by decide +kernel, by decide +kernel⟩, List.mem_of_getElem? (i := 723) (by decide +kernel), List.mem_of_getElem? (i := 848) (by decide +kernel), List.mem_of_getElem? (i := 849) (by decide +kernel)⟩
theorem lw_p19 : lw_okq (⟨"BeltSumsModel", "binMass", "(I)I"⟩, 14) := ⟨⟨by decide +kernel, by decide +kernel⟩, List.mem_of_getElem? (i := 723) (by decide +kernel), List.mem_of_getElem? (i := 853) (by decide +kernel), List.mem_of_getElem? (i := 854) (by decide +kernel)⟩
theorem lw_p20 : lw_okq (⟨"BeltSumsModel", "isAccount", "(I)Z"⟩, 14) := ⟨⟨by decide +kernel, by decide +kernel⟩, List.mem_of_getElem? (i := 723) (by decide +kernel), List.mem_of_getElem? (i := 867) (by decide +kernel), List.mem_of_getElem? (i := 868) (by decide +kernel)⟩
theorem lw_p21 : lw_okq (⟨"BeltSumsModel", "isUnder", "(II)Z"⟩, 14) := ⟨⟨by decide +kernel, by decide +kernel⟩, List.mem_of_getElem? (i := 723) (by decide +kernel), List.mem_of_getElem? (i := 879) (by decide +kernel), List.mem_of_getElem? (i := 880) (by decide +kernel)⟩
theorem lw_p22 : lw_okq (⟨"BeltSumsModel", "depth", "(I)I"⟩, 14) := ⟨⟨by decide +kernel, by decide +kernel⟩, List.mem_of_getElem? (i := 723) (by decide +kernel), List.mem_of_getElem? (i := 883) (by decide +kernel), List.mem_of_getElem? (i := 884) (by decide +kernel)⟩
theorem lw_p23 : lw_okq (⟨"BeltSumsModel", "total", "()I"⟩, 14) := ⟨⟨by decide +kernel, by decide +kernel⟩, List.mem_of_getElem? (i := 723) (by decide +kernel), List.mem_of_getElem? (i := 904) (by decide +kernel), List.mem_of_getElem? (i := 905) (by decide +kernel)⟩
theorem lw_p24 : lw_okq (⟨"BeltSumsModel", "batchTold", "(I)I"⟩, 14) := ⟨⟨by decide +kernel, by decide +kernel⟩, List.mem_of_getElem? (i := 723) (by decide +kernel), List.mem_of_getElem? (i := 912) (by decide +kernel), List.mem_of_getElem? (i := 913) (by decide +kernel)⟩
theorem lw_p25 : lw_okq (⟨"BeltSumsModel", "hopper", "()I"⟩, 14) := ⟨⟨by decide +kernel, by decide +kernel⟩, List.mem_of_getElem? (i := 723) (by decide +kernel), List.mem_of_getElem? (i := 916) (by decide +kernel), List.mem_of_getElem? (i := 917) (by decide +kernel)⟩
theorem lw_p26 : lw_okq (⟨"BeltSumsModel", "inBins", "()I"⟩, 14) := ⟨⟨by decide +kernel, by decide +kernel⟩, List.mem_of_getElem? (i := 723) (by decide +kernel), List.mem_of_getElem? (i := 920) (by decide +kernel), List.mem_of_getElem? (i := 921) (by decide +kernel)⟩
theorem lw_p27 : lw_okq (⟨"BeltSumsModel", "lasts", "()I"⟩, 14) := ⟨⟨by decide +kernel, by decide +kernel⟩, List.mem_of_getElem? (i := 723) (by decide +kernel), List.mem_of_getElem? (i := 928) (by decide +kernel), List.mem_of_getElem? (i := 929) (by decide +kernel)⟩
theorem lw_p28 : lw_okq (⟨"BeltSumsModel", "plays", "()I"⟩, 14) := ⟨⟨by decide +kernel, by decide +kernel⟩, List.mem_of_getElem? (i := 723) (by decide +kernel), List.mem_of_getElem? (i := 959) (by decide +kernel), List.mem_of_getElem? (i := 960) (by decide +kernel)⟩
theorem lw_p29 : lw_okq (⟨"BeltSumsModel", "parses", "()Z"⟩, 14) := ⟨⟨by decide +kernel, by decide +kernel⟩, List.mem_of_getElem? (i := 723) (by decide +kernel), List.mem_of_getElem? (i := 963) (by decide +kernel), List.mem_of_getElem? (i := 964) (by decide +kernel)⟩
theorem lw_p30 : lw_okq (⟨"BeltSumsModel", "passes", "(I)Z"⟩, 14) := ⟨⟨by decide +kernel, by decide +kernel⟩, List.mem_of_getElem? (i := 723) (by decide +kernel), List.mem_of_getElem? (i := 967) (by decide +kernel), List.mem_of_getElem? (i := 968) (by decide +kernel)⟩
theorem lw_p31 : lw_okq (⟨"BeltSumsModel", "isAt", "(II)Z"⟩, 14) := ⟨⟨by decide +kernel, by decide +kernel⟩, List.mem_of_getElem? (i := 723) (by decide +kernel), List.mem_of_getElem? (i := 971) (by decide +kernel), List.mem_of_getElem? (i := 972) (by decide +kernel)⟩
def lw_privs_2 : List (MethodName × Nat) := [(⟨"BeltSumsModel", "reads", "()V"⟩, 14), (⟨"BeltSumsModel", "reading", "()I"⟩, 14), (⟨"BeltSumsModel", "isBin", "(I)Z"⟩, 14), (⟨"BeltSumsModel", "binMass", "(I)I"⟩, 14), (⟨"BeltSumsModel", "isAccount", "(I)Z"⟩, 14), (⟨"BeltSumsModel", "isUnder", "(II)Z"⟩, 14), (⟨"BeltSumsModel", "depth", "(I)I"⟩, 14), (⟨"BeltSumsModel", "total", "()I"⟩, 14), (⟨"BeltSumsModel", "batchTold", "(I)I"⟩, 14), (⟨"BeltSumsModel", "hopper", "()I"⟩, 14), (⟨"BeltSumsModel", "inBins", "()I"⟩, 14), (⟨"BeltSumsModel", "lasts", "()I"⟩, 14), (⟨"BeltSumsModel", "plays", "()I"⟩, 14), (⟨"BeltSumsModel", "parses", "()Z"⟩, 14), (⟨"BeltSumsModel", "passes", "(I)Z"⟩, 14), (⟨"BeltSumsModel", "isAt", "(II)Z"⟩, 14)]
theorem lw_r2 : ∀ q ∈ lw_privs_2, lw_okq q := List.forall_mem_cons.mpr ⟨lw_p16, List.forall_mem_cons.mpr ⟨lw_p17, List.forall_mem_cons.mpr ⟨lw_p18, List.forall_mem_cons.mpr ⟨lw_p19, List.forall_mem_cons.mpr ⟨lw_p20, List.forall_mem_cons.mpr ⟨lw_p21, List.forall_mem_cons.mpr ⟨lw_p22, List.forall_mem_cons.mpr ⟨lw_p23, List.forall_mem_cons.mpr ⟨lw_p24, List.forall_mem_cons.mpr ⟨lw_p25, List.forall_mem_cons.mpr ⟨lw_p26, List.forall_mem_cons.mpr ⟨lw_p27, List.forall_mem_cons.mpr ⟨lw_p28, List.forall_mem_cons.mpr ⟨lw_p29, List.forall_mem_cons.mpr ⟨lw_p30, List.forall_mem_cons.mpr ⟨lw_p31, fun _ h => absurd h List.not_mem_nil⟩⟩⟩⟩⟩⟩⟩⟩⟩⟩⟩⟩⟩⟩⟩⟩
theorem lw_p32 : lw_okq (⟨"BeltSumsModel", "number", "(I)Z"⟩, 14) := ⟨⟨by decide +kernel, by decide +kernel⟩, List.mem_of_getElem? (i := 723) (by decide +kernel), List.mem_of_getElem? (i := 975) (by decide +kernel), List.mem_of_getElem? (i := 976) (by decide +kernel)⟩
theorem lw_p33 : lw_okq (⟨"BeltSumsModel", "calls", "()I"⟩, 14) := ⟨⟨by decide +kernel, by decide +kernel⟩, List.mem_of_getElem? (i := 723) (by decide +kernel), List.mem_of_getElem? (i := 979) (by decide +kernel), List.mem_of_getElem? (i := 980) (by decide +kernel)⟩
def lw_privs_3 : List (MethodName × Nat) := [(⟨"BeltSumsModel", "number", "(I)Z"⟩, 14), (⟨"BeltSumsModel", "calls", "()I"⟩, 14)]
theorem lw_r3 : ∀ q ∈ lw_privs_3, lw_okq q := List.forall_mem_cons.mpr ⟨lw_p32, List.forall_mem_cons.mpr ⟨lw_p33, fun _ h => absurd h List.not_mem_nil⟩⟩
def lw_privs : List (MethodName × Nat) := lw_privs_1 ++ (lw_privs_2 ++ (lw_privs_3))
def lw_tbl : List Cond := k2_sels lw_privs ++ tables_1
theorem lw_privs_ok : ∀ q ∈ lw_privs, lw_okq q := by
  show ∀ q ∈ lw_privs_1 ++ (lw_privs_2 ++ (lw_privs_3)), lw_okq q
  exact List.forall_mem_append.mpr ⟨lw_r1, List.forall_mem_append.mpr ⟨lw_r2, lw_r3⟩⟩
def RX0 : String := "BeltSums$Accounts"
def TX0 : u_T := fun k => match k with
  | 0 => ("BeltSums$Accounts", "within", "[I", true)
  | 1 => ("BeltSums$Accounts", "own", "[I", true)
  | 2 => ("BeltSums$Accounts", "assigned", "[I", true)
  | _ => ("BeltSums$Accounts", "many", "I", false)
def tyX0 : Nat → FieldType := fun k => match k with
  | 0 => .array .int
  | 1 => .array .int
  | 2 => .array .int
  | _ => .int
abbrev wsX00 : List Cond := u_ws RX0 TX0 4
theorem nmX0 : ∀ a, a < 4 → ∀ b, b < 4 → a ≠ b → (TX0 a).2.1 ≠ (TX0 b).2.1 := by decide +kernel
theorem tyX0_ok : ∀ k, k < 4 → parseFieldDescriptor (TX0 k).2.2.1 = some (tyX0 k) := by decide +kernel
abbrev cX0_init : ByteArray := prog_2_method_1_code
def yX0_init : MethodName := ⟨RX0, "<init>", "()V"⟩
abbrev cX0_copyFrom : ByteArray := prog_2_method_2_code
def yX0_copyFrom : MethodName := ⟨RX0, "copyFrom", "(LBeltSums$Accounts;)V"⟩
abbrev cX0_has : ByteArray := prog_2_method_3_code
def yX0_has : MethodName := ⟨RX0, "has", "(I)Z"⟩
abbrev cX0_add : ByteArray := prog_2_method_4_code
def yX0_add : MethodName := ⟨RX0, "add", "(I)I"⟩
abbrev cX0_assign : ByteArray := prog_2_method_5_code
def yX0_assign : MethodName := ⟨RX0, "assign", "(II)I"⟩
abbrev cX0_enter : ByteArray := prog_2_method_6_code
def yX0_enter : MethodName := ⟨RX0, "enter", "(II)V"⟩
abbrev cX0_isUnder : ByteArray := prog_2_method_7_code
def yX0_isUnder : MethodName := ⟨RX0, "isUnder", "(II)Z"⟩
abbrev cX0_massWithAllUnder : ByteArray := prog_2_method_8_code
def yX0_massWithAllUnder : MethodName := ⟨RX0, "massWithAllUnder", "(I)I"⟩
abbrev cX0_countUnder : ByteArray := prog_2_method_9_code
def yX0_countUnder : MethodName := ⟨RX0, "countUnder", "(I)I"⟩
abbrev cX0_depth : ByteArray := prog_2_method_10_code
def yX0_depth : MethodName := ⟨RX0, "depth", "(I)I"⟩
def RX1 : String := "BeltSums$Belt"
def TX1 : u_T := fun k => match k with
  | 0 => ("BeltSums$Belt", "masses", "[I", true)
  | 1 => ("BeltSums$Belt", "start", "I", false)
  | _ => ("BeltSums$Belt", "total", "I", false)
def tyX1 : Nat → FieldType := fun k => match k with
  | 0 => .array .int
  | 1 => .int
  | _ => .int
abbrev wsX10 : List Cond := u_ws RX1 TX1 3
theorem nmX1 : ∀ a, a < 3 → ∀ b, b < 3 → a ≠ b → (TX1 a).2.1 ≠ (TX1 b).2.1 := by decide +kernel
theorem tyX1_ok : ∀ k, k < 3 → parseFieldDescriptor (TX1 k).2.2.1 = some (tyX1 k) := by decide +kernel
abbrev cX1_init : ByteArray := prog_3_method_1_code
def yX1_init : MethodName := ⟨RX1, "<init>", "()V"⟩
abbrev cX1_copyFrom : ByteArray := prog_3_method_2_code
def yX1_copyFrom : MethodName := ⟨RX1, "copyFrom", "(LBeltSums$Belt;)V"⟩
abbrev cX1_mass : ByteArray := prog_3_method_3_code
def yX1_mass : MethodName := ⟨RX1, "mass", "(II)I"⟩
abbrev cX1_take : ByteArray := prog_3_method_4_code
def yX1_take : MethodName := ⟨RX1, "take", "(III)V"⟩
abbrev cX1_putAtStart : ByteArray := prog_3_method_5_code
def yX1_putAtStart : MethodName := ⟨RX1, "putAtStart", "(II)V"⟩
abbrev cX1_goOn : ByteArray := prog_3_method_6_code
def yX1_goOn : MethodName := ⟨RX1, "goOn", "()V"⟩
abbrev cX1_massOfPlace : ByteArray := prog_3_method_7_code
def yX1_massOfPlace : MethodName := ⟨RX1, "massOfPlace", "(I)I"⟩
abbrev cX1_massSeen : ByteArray := prog_3_method_8_code
def yX1_massSeen : MethodName := ⟨RX1, "massSeen", "()I"⟩
def RX2 : String := "BeltSums$Bins"
def TX2 : u_T := fun k => match k with
  | 0 => ("BeltSums$Bins", "masses", "[I", true)
  | 1 => ("BeltSums$Bins", "grown", "[I", true)
  | 2 => ("BeltSums$Bins", "ticksFilled", "[I", true)
  | _ => ("BeltSums$Bins", "many", "I", false)
def tyX2 : Nat → FieldType := fun k => match k with
  | 0 => .array .int
  | 1 => .array .int
  | 2 => .array .int
  | _ => .int
abbrev wsX20 : List Cond := u_ws RX2 TX2 4
theorem nmX2 : ∀ a, a < 4 → ∀ b, b < 4 → a ≠ b → (TX2 a).2.1 ≠ (TX2 b).2.1 := by decide +kernel
theorem tyX2_ok : ∀ k, k < 4 → parseFieldDescriptor (TX2 k).2.2.1 = some (tyX2 k) := by decide +kernel
abbrev cX2_init : ByteArray := prog_4_method_1_code
def yX2_init : MethodName := ⟨RX2, "<init>", "()V"⟩
abbrev cX2_copyFrom : ByteArray := prog_4_method_2_code
def yX2_copyFrom : MethodName := ⟨RX2, "copyFrom", "(LBeltSums$Bins;)V"⟩
abbrev cX2_has : ByteArray := prog_4_method_3_code
def yX2_has : MethodName := ⟨RX2, "has", "(I)Z"⟩
abbrev cX2_addToPresent : ByteArray := prog_4_method_4_code
def yX2_addToPresent : MethodName := ⟨RX2, "addToPresent", "(II)V"⟩
abbrev cX2_growPresent : ByteArray := prog_4_method_5_code
def yX2_growPresent : MethodName := ⟨RX2, "growPresent", "(I)V"⟩
abbrev cX2_countFilledTick : ByteArray := prog_4_method_6_code
def yX2_countFilledTick : MethodName := ⟨RX2, "countFilledTick", "()V"⟩
abbrev cX2_massOf : ByteArray := prog_4_method_7_code
def yX2_massOf : MethodName := ⟨RX2, "massOf", "(I)I"⟩
abbrev cX2_massOfPresent : ByteArray := prog_4_method_8_code
def yX2_massOfPresent : MethodName := ⟨RX2, "massOfPresent", "()I"⟩
abbrev cX2_massOfAll : ByteArray := prog_4_method_9_code
def yX2_massOfAll : MethodName := ⟨RX2, "massOfAll", "()I"⟩
def RX3 : String := "BeltSums$Command"
def TX3 : u_T := fun k => match k with
  | 0 => ("BeltSums$Command", "letter", "I", false)
  | 1 => ("BeltSums$Command", "first", "I", false)
  | 2 => ("BeltSums$Command", "second", "I", false)
  | _ => ("BeltSums$Command", "end", "I", false)
def tyX3 : Nat → FieldType := fun k => match k with
  | 0 => .int
  | 1 => .int
  | 2 => .int
  | _ => .int
abbrev wsX30 : List Cond := u_ws RX3 TX3 4
theorem nmX3 : ∀ a, a < 4 → ∀ b, b < 4 → a ≠ b → (TX3 a).2.1 ≠ (TX3 b).2.1 := by decide +kernel
theorem tyX3_ok : ∀ k, k < 4 → parseFieldDescriptor (TX3 k).2.2.1 = some (tyX3 k) := by decide +kernel
abbrev cX3_init : ByteArray := prog_5_method_1_code
def yX3_init : MethodName := ⟨RX3, "<init>", "()V"⟩
abbrev cX3_read : ByteArray := prog_5_method_2_code
def yX3_read : MethodName := ⟨RX3, "read", "(LBeltSums$Text;I)Z"⟩
abbrev cX3_passes : ByteArray := prog_5_method_3_code
def yX3_passes : MethodName := ⟨RX3, "passes", "(LBeltSums$Text;I)Z"⟩
abbrev cX3_readNumber : ByteArray := prog_5_method_4_code
def yX3_readNumber : MethodName := ⟨RX3, "readNumber", "(LBeltSums$Text;)I"⟩
abbrev cX3_carryOut : ByteArray := prog_5_method_5_code
def yX3_carryOut : MethodName := ⟨RX3, "carryOut", "(LBeltSums$Plant;)I"⟩
def RX4 : String := "BeltSums$History"
def TX4 : u_T := fun k => match k with
  | 0 => ("BeltSums$History", "latest", "LBeltSums$Plant;", false)
  | 1 => ("BeltSums$History", "second", "LBeltSums$Plant;", false)
  | 2 => ("BeltSums$History", "third", "LBeltSums$Plant;", false)
  | 3 => ("BeltSums$History", "oldest", "LBeltSums$Plant;", false)
  | _ => ("BeltSums$History", "states", "I", false)
def tyX4 : Nat → FieldType := fun k => match k with
  | 0 => .object "BeltSums$Plant"
  | 1 => .object "BeltSums$Plant"
  | 2 => .object "BeltSums$Plant"
  | 3 => .object "BeltSums$Plant"
  | _ => .int
abbrev wsX40 : List Cond := u_ws RX4 TX4 5
theorem nmX4 : ∀ a, a < 5 → ∀ b, b < 5 → a ≠ b → (TX4 a).2.1 ≠ (TX4 b).2.1 := by decide +kernel
theorem tyX4_ok : ∀ k, k < 5 → parseFieldDescriptor (TX4 k).2.2.1 = some (tyX4 k) := by decide +kernel
abbrev cX4_init : ByteArray := prog_6_method_1_code
def yX4_init : MethodName := ⟨RX4, "<init>", "()V"⟩
abbrev cX4_push : ByteArray := prog_6_method_2_code
def yX4_push : MethodName := ⟨RX4, "push", "(LBeltSums$Plant;)V"⟩
abbrev cX4_pullInto : ByteArray := prog_6_method_3_code
def yX4_pullInto : MethodName := ⟨RX4, "pullInto", "(LBeltSums$Plant;)V"⟩
def RX5 : String := "BeltSums$Hopper"
def TX5 : u_T := fun k => match k with
  | 0 => ("BeltSums$Hopper", "kinds", "[I", true)
  | 1 => ("BeltSums$Hopper", "masses", "[I", true)
  | 2 => ("BeltSums$Hopper", "lots", "I", false)
  | _ => ("BeltSums$Hopper", "putSoFar", "I", false)
def tyX5 : Nat → FieldType := fun k => match k with
  | 0 => .array .int
  | 1 => .array .int
  | 2 => .int
  | _ => .int
abbrev wsX50 : List Cond := u_ws RX5 TX5 4
theorem nmX5 : ∀ a, a < 4 → ∀ b, b < 4 → a ≠ b → (TX5 a).2.1 ≠ (TX5 b).2.1 := by decide +kernel
theorem tyX5_ok : ∀ k, k < 4 → parseFieldDescriptor (TX5 k).2.2.1 = some (tyX5 k) := by decide +kernel
abbrev cX5_init : ByteArray := prog_7_method_1_code
def yX5_init : MethodName := ⟨RX5, "<init>", "()V"⟩
abbrev cX5_copyFrom : ByteArray := prog_7_method_2_code
def yX5_copyFrom : MethodName := ⟨RX5, "copyFrom", "(LBeltSums$Hopper;)V"⟩
abbrev cX5_append : ByteArray := prog_7_method_3_code
def yX5_append : MethodName := ⟨RX5, "append", "(II)V"⟩
abbrev cX5_takeFromFirst : ByteArray := prog_7_method_4_code
def yX5_takeFromFirst : MethodName := ⟨RX5, "takeFromFirst", "(I)V"⟩
abbrev cX5_massInside : ByteArray := prog_7_method_5_code
def yX5_massInside : MethodName := ⟨RX5, "massInside", "()I"⟩
def RX6 : String := "BeltSums$Plant"
def TX6 : u_T := fun k => match k with
  | 0 => ("BeltSums$Plant", "hopper", "LBeltSums$Hopper;", true)
  | 1 => ("BeltSums$Plant", "belt", "LBeltSums$Belt;", true)
  | 2 => ("BeltSums$Plant", "bins", "LBeltSums$Bins;", true)
  | 3 => ("BeltSums$Plant", "scale", "LBeltSums$Scale;", true)
  | 4 => ("BeltSums$Plant", "accounts", "LBeltSums$Accounts;", true)
  | 5 => ("BeltSums$Plant", "settings", "[I", true)
  | 6 => ("BeltSums$Plant", "gateWidth", "I", false)
  | 7 => ("BeltSums$Plant", "switchedOn", "I", false)
  | 8 => ("BeltSums$Plant", "batchMass", "I", false)
  | 9 => ("BeltSums$Plant", "batchStopped", "Z", false)
  | 10 => ("BeltSums$Plant", "cameInBatch", "I", false)
  | 11 => ("BeltSums$Plant", "time", "I", false)
  | 12 => ("BeltSums$Plant", "ticksStood", "I", false)
  | 13 => ("BeltSums$Plant", "spilt", "I", false)
  | _ => ("BeltSums$Plant", "fallen", "I", false)
def tyX6 : Nat → FieldType := fun k => match k with
  | 0 => .object "BeltSums$Hopper"
  | 1 => .object "BeltSums$Belt"
  | 2 => .object "BeltSums$Bins"
  | 3 => .object "BeltSums$Scale"
  | 4 => .object "BeltSums$Accounts"
  | 5 => .array .int
  | 6 => .int
  | 7 => .int
  | 8 => .int
  | 9 => .boolean
  | 10 => .int
  | 11 => .int
  | 12 => .int
  | 13 => .int
  | _ => .int
abbrev wsX60 : List Cond := u_ws RX6 TX6 15
theorem nmX6 : ∀ a, a < 15 → ∀ b, b < 15 → a ≠ b → (TX6 a).2.1 ≠ (TX6 b).2.1 := by decide +kernel
theorem tyX6_ok : ∀ k, k < 15 → parseFieldDescriptor (TX6 k).2.2.1 = some (tyX6 k) := by decide +kernel
abbrev cX6_init : ByteArray := prog_8_method_1_code
def yX6_init : MethodName := ⟨RX6, "<init>", "()V"⟩
abbrev cX6_copyFrom : ByteArray := prog_8_method_2_code
def yX6_copyFrom : MethodName := ⟨RX6, "copyFrom", "(LBeltSums$Plant;)V"⟩
abbrev cX6_hasBatch : ByteArray := prog_8_method_3_code
def yX6_hasBatch : MethodName := ⟨RX6, "hasBatch", "()Z"⟩
abbrev cX6_putLot : ByteArray := prog_8_method_4_code
def yX6_putLot : MethodName := ⟨RX6, "putLot", "(II)I"⟩
abbrev cX6_setGate : ByteArray := prog_8_method_5_code
def yX6_setGate : MethodName := ⟨RX6, "setGate", "(I)I"⟩
abbrev cX6_switchBelt : ByteArray := prog_8_method_6_code
def yX6_switchBelt : MethodName := ⟨RX6, "switchBelt", "(I)I"⟩
abbrev cX6_putBin : ByteArray := prog_8_method_7_code
def yX6_putBin : MethodName := ⟨RX6, "putBin", "()I"⟩
abbrev cX6_beginBatch : ByteArray := prog_8_method_8_code
def yX6_beginBatch : MethodName := ⟨RX6, "beginBatch", "(I)I"⟩
abbrev cX6_passTicks : ByteArray := prog_8_method_9_code
def yX6_passTicks : MethodName := ⟨RX6, "passTicks", "(I)I"⟩
abbrev cX6_passTick : ByteArray := prog_8_method_10_code
def yX6_passTick : MethodName := ⟨RX6, "passTick", "()I"⟩
abbrev cX6_wantsMore : ByteArray := prog_8_method_11_code
def yX6_wantsMore : MethodName := ⟨RX6, "wantsMore", "()Z"⟩
abbrev cX6_dropAtEnd : ByteArray := prog_8_method_12_code
def yX6_dropAtEnd : MethodName := ⟨RX6, "dropAtEnd", "()I"⟩
abbrev cX6_feed : ByteArray := prog_8_method_13_code
def yX6_feed : MethodName := ⟨RX6, "feed", "()V"⟩
abbrev cX6_spillTooMuch : ByteArray := prog_8_method_14_code
def yX6_spillTooMuch : MethodName := ⟨RX6, "spillTooMuch", "()V"⟩
abbrev cX6_endBatch : ByteArray := prog_8_method_15_code
def yX6_endBatch : MethodName := ⟨RX6, "endBatch", "()V"⟩
abbrev cX6_setZero : ByteArray := prog_8_method_16_code
def yX6_setZero : MethodName := ⟨RX6, "setZero", "()I"⟩
abbrev cX6_correctBy : ByteArray := prog_8_method_17_code
def yX6_correctBy : MethodName := ⟨RX6, "correctBy", "(I)I"⟩
abbrev cX6_changeSetting : ByteArray := prog_8_method_18_code
def yX6_changeSetting : MethodName := ⟨RX6, "changeSetting", "(II)I"⟩
def RX7 : String := "BeltSums$Rehearsal"
def TX7 : u_T := fun k => match k with
  | 0 => ("BeltSums$Rehearsal", "command", "LBeltSums$Command;", true)
  | 1 => ("BeltSums$Rehearsal", "position", "I", false)
  | 2 => ("BeltSums$Rehearsal", "reason", "I", false)
  | 3 => ("BeltSums$Rehearsal", "cause", "I", false)
  | _ => ("BeltSums$Rehearsal", "done", "I", false)
def tyX7 : Nat → FieldType := fun k => match k with
  | 0 => .object "BeltSums$Command"
  | 1 => .int
  | 2 => .int
  | 3 => .int
  | _ => .int
abbrev wsX70 : List Cond := u_ws RX7 TX7 5
theorem nmX7 : ∀ a, a < 5 → ∀ b, b < 5 → a ≠ b → (TX7 a).2.1 ≠ (TX7 b).2.1 := by decide +kernel
theorem tyX7_ok : ∀ k, k < 5 → parseFieldDescriptor (TX7 k).2.2.1 = some (tyX7 k) := by decide +kernel
abbrev cX7_init : ByteArray := prog_9_method_1_code
def yX7_init : MethodName := ⟨RX7, "<init>", "()V"⟩
abbrev cX7_perform : ByteArray := prog_9_method_2_code
def yX7_perform : MethodName := ⟨RX7, "perform", "(LBeltSums$Text;LBeltSums$Plant;LBeltSums$Plant;)V"⟩
def RX8 : String := "BeltSums$Scale"
def TX8 : u_T := fun k => match k with
  | 0 => ("BeltSums$Scale", "drift", "I", false)
  | 1 => ("BeltSums$Scale", "zero", "I", false)
  | 2 => ("BeltSums$Scale", "sum", "I", false)
  | 3 => ("BeltSums$Scale", "rest", "I", false)
  | _ => ("BeltSums$Scale", "factor", "I", false)
def tyX8 : Nat → FieldType := fun k => match k with
  | 0 => .int
  | 1 => .int
  | 2 => .int
  | 3 => .int
  | _ => .int
abbrev wsX80 : List Cond := u_ws RX8 TX8 5
theorem nmX8 : ∀ a, a < 5 → ∀ b, b < 5 → a ≠ b → (TX8 a).2.1 ≠ (TX8 b).2.1 := by decide +kernel
theorem tyX8_ok : ∀ k, k < 5 → parseFieldDescriptor (TX8 k).2.2.1 = some (tyX8 k) := by decide +kernel
abbrev cX8_init : ByteArray := prog_10_method_1_code
def yX8_init : MethodName := ⟨RX8, "<init>", "()V"⟩
abbrev cX8_copyFrom : ByteArray := prog_10_method_2_code
def yX8_copyFrom : MethodName := ⟨RX8, "copyFrom", "(LBeltSums$Scale;)V"⟩
abbrev cX8_reading : ByteArray := prog_10_method_3_code
def yX8_reading : MethodName := ⟨RX8, "reading", "(I)I"⟩
abbrev cX8_weigh : ByteArray := prog_10_method_4_code
def yX8_weigh : MethodName := ⟨RX8, "weigh", "(I)I"⟩
abbrev cX8_toldTotal : ByteArray := prog_10_method_5_code
def yX8_toldTotal : MethodName := ⟨RX8, "toldTotal", "()I"⟩
def RX9 : String := "BeltSums$Text"
def TX9 : u_T := fun k => match k with
  | 0 => ("BeltSums$Text", "characters", "[C", true)
  | _ => ("BeltSums$Text", "length", "I", false)
def tyX9 : Nat → FieldType := fun k => match k with
  | 0 => .array .char
  | _ => .int
abbrev wsX90 : List Cond := u_ws RX9 TX9 2
theorem nmX9 : ∀ a, a < 2 → ∀ b, b < 2 → a ≠ b → (TX9 a).2.1 ≠ (TX9 b).2.1 := by decide +kernel
theorem tyX9_ok : ∀ k, k < 2 → parseFieldDescriptor (TX9 k).2.2.1 = some (tyX9 k) := by decide +kernel
abbrev cX9_init : ByteArray := prog_11_method_1_code
def yX9_init : MethodName := ⟨RX9, "<init>", "()V"⟩
abbrev cX9_append : ByteArray := prog_11_method_2_code
def yX9_append : MethodName := ⟨RX9, "append", "(C)V"⟩
abbrev cX9_at : ByteArray := prog_11_method_3_code
def yX9_at : MethodName := ⟨RX9, "at", "(I)I"⟩
def RX10 : String := "BeltSums"
def TX10 : u_T := fun k => match k with
  | 0 => ("BeltSums", "now", "LBeltSums$Plant;", true)
  | 1 => ("BeltSums", "spare", "LBeltSums$Plant;", true)
  | 2 => ("BeltSums", "history", "LBeltSums$History;", true)
  | 3 => ("BeltSums", "text", "LBeltSums$Text;", true)
  | _ => ("BeltSums", "rehearsal", "LBeltSums$Rehearsal;", true)
def tyX10 : Nat → FieldType := fun k => match k with
  | 0 => .object "BeltSums$Plant"
  | 1 => .object "BeltSums$Plant"
  | 2 => .object "BeltSums$History"
  | 3 => .object "BeltSums$Text"
  | _ => .object "BeltSums$Rehearsal"
abbrev wsX100 : List Cond := u_ws RX10 TX10 5
theorem nmX10 : ∀ a, a < 5 → ∀ b, b < 5 → a ≠ b → (TX10 a).2.1 ≠ (TX10 b).2.1 := by decide +kernel
theorem tyX10_ok : ∀ k, k < 5 → parseFieldDescriptor (TX10 k).2.2.1 = some (tyX10 k) := by decide +kernel
abbrev cX10_init : ByteArray := prog_1_method_1_code
def yX10_init : MethodName := ⟨RX10, "<init>", "()V"⟩
abbrev cX10_lot : ByteArray := prog_1_method_2_code
def yX10_lot : MethodName := ⟨RX10, "lot", "(II)I"⟩
abbrev cX10_gate : ByteArray := prog_1_method_3_code
def yX10_gate : MethodName := ⟨RX10, "gate", "(I)I"⟩
abbrev cX10_run : ByteArray := prog_1_method_4_code
def yX10_run : MethodName := ⟨RX10, "run", "(I)I"⟩
abbrev cX10_bin : ByteArray := prog_1_method_5_code
def yX10_bin : MethodName := ⟨RX10, "bin", "()I"⟩
abbrev cX10_batch : ByteArray := prog_1_method_6_code
def yX10_batch : MethodName := ⟨RX10, "batch", "(I)I"⟩
abbrev cX10_tick : ByteArray := prog_1_method_7_code
def yX10_tick : MethodName := ⟨RX10, "tick", "(I)I"⟩
abbrev cX10_zero : ByteArray := prog_1_method_8_code
def yX10_zero : MethodName := ⟨RX10, "zero", "()I"⟩
abbrev cX10_correct : ByteArray := prog_1_method_9_code
def yX10_correct : MethodName := ⟨RX10, "correct", "(I)I"⟩
abbrev cX10_set : ByteArray := prog_1_method_10_code
def yX10_set : MethodName := ⟨RX10, "set", "(II)I"⟩
abbrev cX10_account : ByteArray := prog_1_method_11_code
def yX10_account : MethodName := ⟨RX10, "account", "(I)I"⟩
abbrev cX10_book : ByteArray := prog_1_method_12_code
def yX10_book : MethodName := ⟨RX10, "book", "(II)I"⟩
abbrev cX10_accountOf : ByteArray := prog_1_method_13_code
def yX10_accountOf : MethodName := ⟨RX10, "accountOf", "(II)I"⟩
abbrev cX10_massAt : ByteArray := prog_1_method_14_code
def yX10_massAt : MethodName := ⟨RX10, "massAt", "(II)I"⟩
abbrev cX10_lotOf : ByteArray := prog_1_method_15_code
def yX10_lotOf : MethodName := ⟨RX10, "lotOf", "(II)I"⟩
abbrev cX10_binOf : ByteArray := prog_1_method_16_code
def yX10_binOf : MethodName := ⟨RX10, "binOf", "(II)I"⟩
abbrev cX10_scale : ByteArray := prog_1_method_17_code
def yX10_scale : MethodName := ⟨RX10, "scale", "(I)I"⟩
abbrev cX10_count : ByteArray := prog_1_method_18_code
def yX10_count : MethodName := ⟨RX10, "count", "(I)I"⟩
abbrev cX10_batchIn : ByteArray := prog_1_method_19_code
def yX10_batchIn : MethodName := ⟨RX10, "batchIn", "()I"⟩
abbrev cX10_batchOut : ByteArray := prog_1_method_20_code
def yX10_batchOut : MethodName := ⟨RX10, "batchOut", "()I"⟩
abbrev cX10_error : ByteArray := prog_1_method_21_code
def yX10_error : MethodName := ⟨RX10, "error", "()I"⟩
abbrev cX10_undo : ByteArray := prog_1_method_22_code
def yX10_undo : MethodName := ⟨RX10, "undo", "()I"⟩
abbrev cX10_type : ByteArray := prog_1_method_23_code
def yX10_type : MethodName := ⟨RX10, "type", "(I)I"⟩
abbrev cX10_clearText : ByteArray := prog_1_method_24_code
def yX10_clearText : MethodName := ⟨RX10, "clearText", "()I"⟩
abbrev cX10_fault : ByteArray := prog_1_method_25_code
def yX10_fault : MethodName := ⟨RX10, "fault", "(I)I"⟩
abbrev cX10_play : ByteArray := prog_1_method_26_code
def yX10_play : MethodName := ⟨RX10, "play", "()I"⟩
abbrev cX10_recorded : ByteArray := prog_1_method_27_code
def yX10_recorded : MethodName := ⟨RX10, "recorded", "(I)I"⟩
abbrev cX10_foretell : ByteArray := prog_1_method_28_code
def yX10_foretell : MethodName := ⟨RX10, "foretell", "()I"⟩
abbrev cX10_isError : ByteArray := prog_1_method_29_code
def yX10_isError : MethodName := ⟨RX10, "isError", "(I)Z"⟩
abbrev cX10_isKind : ByteArray := prog_1_method_30_code
def yX10_isKind : MethodName := ⟨RX10, "isKind", "(I)Z"⟩
abbrev cX10_copyInto : ByteArray := prog_1_method_31_code
def yX10_copyInto : MethodName := ⟨RX10, "copyInto", "([I[I)V"⟩
def RX11 : String := "BeltSumsModel"
def TX11 : u_T := fun k => match k with
  | 0 => ("BeltSumsModel", "s", "[I", true)
  | 1 => ("BeltSumsModel", "past", "[I", true)
  | 2 => ("BeltSumsModel", "held", "[I", true)
  | 3 => ("BeltSumsModel", "tried", "[I", true)
  | 4 => ("BeltSumsModel", "pasts", "I", false)
  | 5 => ("BeltSumsModel", "runs", "Z", false)
  | 6 => ("BeltSumsModel", "text", "[I", true)
  | 7 => ("BeltSumsModel", "typed", "I", false)
  | 8 => ("BeltSumsModel", "then", "I", false)
  | 9 => ("BeltSumsModel", "spot", "I", false)
  | 10 => ("BeltSumsModel", "cause", "I", false)
  | 11 => ("BeltSumsModel", "commands", "I", false)
  | 12 => ("BeltSumsModel", "kind", "I", false)
  | _ => ("BeltSumsModel", "told", "[I", true)
def tyX11 : Nat → FieldType := fun k => match k with
  | 0 => .array .int
  | 1 => .array .int
  | 2 => .array .int
  | 3 => .array .int
  | 4 => .int
  | 5 => .boolean
  | 6 => .array .int
  | 7 => .int
  | 8 => .int
  | 9 => .int
  | 10 => .int
  | 11 => .int
  | 12 => .int
  | _ => .array .int
abbrev wsX110 : List Cond := u_ws RX11 TX11 14
theorem nmX11 : ∀ a, a < 14 → ∀ b, b < 14 → a ≠ b → (TX11 a).2.1 ≠ (TX11 b).2.1 := by decide +kernel
theorem tyX11_ok : ∀ k, k < 14 → parseFieldDescriptor (TX11 k).2.2.1 = some (tyX11 k) := by decide +kernel
abbrev cX11_init : ByteArray := prog_13_method_1_code
def yX11_init : MethodName := ⟨RX11, "<init>", "()V"⟩
abbrev cX11_in : ByteArray := prog_13_method_3_code
def yX11_in : MethodName := ⟨RX11, "in", "(III)Z"⟩
abbrev cX11_copies : ByteArray := prog_13_method_4_code
def yX11_copies : MethodName := ⟨RX11, "copies", "([I[I)V"⟩
abbrev cX11_changes : ByteArray := prog_13_method_5_code
def yX11_changes : MethodName := ⟨RX11, "changes", "()V"⟩
abbrev cX11_hasBatch : ByteArray := prog_13_method_6_code
def yX11_hasBatch : MethodName := ⟨RX11, "hasBatch", "()Z"⟩
abbrev cX11_lot : ByteArray := prog_13_method_7_code
def yX11_lot : MethodName := ⟨RX11, "lot", "(II)I"⟩
abbrev cX11_gate : ByteArray := prog_13_method_8_code
def yX11_gate : MethodName := ⟨RX11, "gate", "(I)I"⟩
abbrev cX11_run : ByteArray := prog_13_method_9_code
def yX11_run : MethodName := ⟨RX11, "run", "(I)I"⟩
abbrev cX11_bin : ByteArray := prog_13_method_10_code
def yX11_bin : MethodName := ⟨RX11, "bin", "()I"⟩
abbrev cX11_mass : ByteArray := prog_13_method_11_code
def yX11_mass : MethodName := ⟨RX11, "mass", "(II)I"⟩
abbrev cX11_batch : ByteArray := prog_13_method_12_code
def yX11_batch : MethodName := ⟨RX11, "batch", "(I)I"⟩
abbrev cX11_falls : ByteArray := prog_13_method_13_code
def yX11_falls : MethodName := ⟨RX11, "falls", "()V"⟩
abbrev cX11_feeds : ByteArray := prog_13_method_14_code
def yX11_feeds : MethodName := ⟨RX11, "feeds", "()V"⟩
abbrev cX11_reading : ByteArray := prog_13_method_15_code
def yX11_reading : MethodName := ⟨RX11, "reading", "()I"⟩
abbrev cX11_reads : ByteArray := prog_13_method_16_code
def yX11_reads : MethodName := ⟨RX11, "reads", "()V"⟩
abbrev cX11_goes : ByteArray := prog_13_method_17_code
def yX11_goes : MethodName := ⟨RX11, "goes", "()V"⟩
abbrev cX11_ticks : ByteArray := prog_13_method_18_code
def yX11_ticks : MethodName := ⟨RX11, "ticks", "()V"⟩
abbrev cX11_tick : ByteArray := prog_13_method_19_code
def yX11_tick : MethodName := ⟨RX11, "tick", "(I)I"⟩
abbrev cX11_zero : ByteArray := prog_13_method_20_code
def yX11_zero : MethodName := ⟨RX11, "zero", "()I"⟩
abbrev cX11_isBin : ByteArray := prog_13_method_21_code
def yX11_isBin : MethodName := ⟨RX11, "isBin", "(I)Z"⟩
abbrev cX11_binMass : ByteArray := prog_13_method_22_code
def yX11_binMass : MethodName := ⟨RX11, "binMass", "(I)I"⟩
abbrev cX11_correct : ByteArray := prog_13_method_23_code
def yX11_correct : MethodName := ⟨RX11, "correct", "(I)I"⟩
abbrev cX11_set : ByteArray := prog_13_method_24_code
def yX11_set : MethodName := ⟨RX11, "set", "(II)I"⟩
abbrev cX11_isAccount : ByteArray := prog_13_method_25_code
def yX11_isAccount : MethodName := ⟨RX11, "isAccount", "(I)Z"⟩
abbrev cX11_account : ByteArray := prog_13_method_26_code
def yX11_account : MethodName := ⟨RX11, "account", "(I)I"⟩
abbrev cX11_book : ByteArray := prog_13_method_27_code
def yX11_book : MethodName := ⟨RX11, "book", "(II)I"⟩
abbrev cX11_isUnder : ByteArray := prog_13_method_28_code
def yX11_isUnder : MethodName := ⟨RX11, "isUnder", "(II)Z"⟩
abbrev cX11_depth : ByteArray := prog_13_method_29_code
def yX11_depth : MethodName := ⟨RX11, "depth", "(I)I"⟩
abbrev cX11_accountOf : ByteArray := prog_13_method_30_code
def yX11_accountOf : MethodName := ⟨RX11, "accountOf", "(II)I"⟩
abbrev cX11_massAt : ByteArray := prog_13_method_31_code
def yX11_massAt : MethodName := ⟨RX11, "massAt", "(II)I"⟩
abbrev cX11_lotOf : ByteArray := prog_13_method_32_code
def yX11_lotOf : MethodName := ⟨RX11, "lotOf", "(II)I"⟩
abbrev cX11_binOf : ByteArray := prog_13_method_33_code
def yX11_binOf : MethodName := ⟨RX11, "binOf", "(II)I"⟩
abbrev cX11_total : ByteArray := prog_13_method_34_code
def yX11_total : MethodName := ⟨RX11, "total", "()I"⟩
abbrev cX11_scale : ByteArray := prog_13_method_35_code
def yX11_scale : MethodName := ⟨RX11, "scale", "(I)I"⟩
abbrev cX11_hopper : ByteArray := prog_13_method_36_code
def yX11_hopper : MethodName := ⟨RX11, "hopper", "()I"⟩
abbrev cX11_inBins : ByteArray := prog_13_method_37_code
def yX11_inBins : MethodName := ⟨RX11, "inBins", "()I"⟩
abbrev cX11_batchTold : ByteArray := prog_13_method_38_code
def yX11_batchTold : MethodName := ⟨RX11, "batchTold", "(I)I"⟩
abbrev cX11_count : ByteArray := prog_13_method_39_code
def yX11_count : MethodName := ⟨RX11, "count", "(I)I"⟩
abbrev cX11_lasts : ByteArray := prog_13_method_40_code
def yX11_lasts : MethodName := ⟨RX11, "lasts", "()I"⟩
abbrev cX11_batchIn : ByteArray := prog_13_method_41_code
def yX11_batchIn : MethodName := ⟨RX11, "batchIn", "()I"⟩
abbrev cX11_batchOut : ByteArray := prog_13_method_42_code
def yX11_batchOut : MethodName := ⟨RX11, "batchOut", "()I"⟩
abbrev cX11_error : ByteArray := prog_13_method_43_code
def yX11_error : MethodName := ⟨RX11, "error", "()I"⟩
abbrev cX11_undo : ByteArray := prog_13_method_44_code
def yX11_undo : MethodName := ⟨RX11, "undo", "()I"⟩
abbrev cX11_type : ByteArray := prog_13_method_45_code
def yX11_type : MethodName := ⟨RX11, "type", "(I)I"⟩
abbrev cX11_clearText : ByteArray := prog_13_method_46_code
def yX11_clearText : MethodName := ⟨RX11, "clearText", "()I"⟩
abbrev cX11_isAt : ByteArray := prog_13_method_47_code
def yX11_isAt : MethodName := ⟨RX11, "isAt", "(II)Z"⟩
abbrev cX11_passes : ByteArray := prog_13_method_48_code
def yX11_passes : MethodName := ⟨RX11, "passes", "(I)Z"⟩
abbrev cX11_number : ByteArray := prog_13_method_49_code
def yX11_number : MethodName := ⟨RX11, "number", "(I)Z"⟩
abbrev cX11_parses : ByteArray := prog_13_method_50_code
def yX11_parses : MethodName := ⟨RX11, "parses", "()Z"⟩
abbrev cX11_calls : ByteArray := prog_13_method_51_code
def yX11_calls : MethodName := ⟨RX11, "calls", "()I"⟩
abbrev cX11_plays : ByteArray := prog_13_method_52_code
def yX11_plays : MethodName := ⟨RX11, "plays", "()I"⟩
abbrev cX11_fault : ByteArray := prog_13_method_53_code
def yX11_fault : MethodName := ⟨RX11, "fault", "(I)I"⟩
abbrev cX11_play : ByteArray := prog_13_method_54_code
def yX11_play : MethodName := ⟨RX11, "play", "()I"⟩
def RJ9 : String := "java/lang/Math"
def TJ9 : u_T := fun k => match k with
  | _ => ("", "", "", false)
def tyJ9 : Nat → FieldType := fun k => match k with
  | _ => .int
abbrev wsJ90 : List Cond := u_ws RJ9 TJ9 0
theorem nmJ9 : ∀ a, a < 0 → ∀ b, b < 0 → a ≠ b → (TJ9 a).2.1 ≠ (TJ9 b).2.1 := by decide +kernel
theorem tyJ9_ok : ∀ k, k < 0 → parseFieldDescriptor (TJ9 k).2.2.1 = some (tyJ9 k) := by decide +kernel
abbrev cJ9_max_7cf53 : ByteArray := prog_14_method_65_code
def yJ9_max_7cf53 : MethodName := ⟨RJ9, "max", "(II)I"⟩
abbrev cJ9_min_7cf53 : ByteArray := prog_14_method_69_code
def yJ9_min_7cf53 : MethodName := ⟨RJ9, "min", "(II)I"⟩
def RJ10 : String := "java/lang/System"
def TJ10 : u_T := fun k => match k with
  | _ => ("", "", "", false)
def tyJ10 : Nat → FieldType := fun k => match k with
  | _ => .int
abbrev wsJ100 : List Cond := u_ws RJ10 TJ10 0
theorem nmJ10 : ∀ a, a < 0 → ∀ b, b < 0 → a ≠ b → (TJ10 a).2.1 ≠ (TJ10 b).2.1 := by decide +kernel
theorem tyJ10_ok : ∀ k, k < 0 → parseFieldDescriptor (TJ10 k).2.2.1 = some (tyJ10 k) := by decide +kernel
def RL : String := "BeltSumsLaw"
abbrev cL_law : ByteArray := code
def yL_law : MethodName := ⟨RL, "law", "([I)Z"⟩
abbrev vwCl : List vw_C := [(RX0, TX0, 4), (RX1, TX1, 3), (RX2, TX2, 4), (RX3, TX3, 4), (RX4, TX4, 5), (RX5, TX5, 4), (RX6, TX6, 15), (RX7, TX7, 5), (RX8, TX8, 5), (RX9, TX9, 2), (RX10, TX10, 5), (RX11, TX11, 14)]
def tblG : List Cond := lw_tbl.filter goodWord
theorem tG {w : Cond} (i : Nat) (h : lw_tbl[i]? = some w) (hg : goodWord w = true) : w ∈ tblG := List.mem_filter.mpr ⟨List.mem_of_getElem? h, hg⟩
theorem t0 : (Cond.selects "BeltSums" ({ cls := "BeltSums", name := "recorded", desc := "(I)I" } : Jvm.MethodName) ({ cls := "BeltSums", name := "recorded", desc := "(I)I" } : Jvm.MethodName)) ∈ tblG := tG 0 (by decide +kernel) rfl
theorem t1 : (Cond.selects "BeltSums$Plant" ({ cls := "BeltSums$Plant", name := "wantsMore", desc := "()Z" } : Jvm.MethodName) ({ cls := "BeltSums$Plant", name := "wantsMore", desc := "()Z" } : Jvm.MethodName)) ∈ tblG := tG 1 (by decide +kernel) rfl
theorem t2 : (Cond.selects "BeltSums$Plant" ({ cls := "BeltSums$Plant", name := "dropAtEnd", desc := "()I" } : Jvm.MethodName) ({ cls := "BeltSums$Plant", name := "dropAtEnd", desc := "()I" } : Jvm.MethodName)) ∈ tblG := tG 2 (by decide +kernel) rfl
theorem t3 : (Cond.selects "BeltSums$Plant" ({ cls := "BeltSums$Plant", name := "feed", desc := "()V" } : Jvm.MethodName) ({ cls := "BeltSums$Plant", name := "feed", desc := "()V" } : Jvm.MethodName)) ∈ tblG := tG 3 (by decide +kernel) rfl
theorem t4 : (Cond.selects "BeltSums$Plant" ({ cls := "BeltSums$Plant", name := "spillTooMuch", desc := "()V" } : Jvm.MethodName) ({ cls := "BeltSums$Plant", name := "spillTooMuch", desc := "()V" } : Jvm.MethodName)) ∈ tblG := tG 4 (by decide +kernel) rfl
theorem t5 : (Cond.selects "BeltSums$Plant" ({ cls := "BeltSums$Plant", name := "endBatch", desc := "()V" } : Jvm.MethodName) ({ cls := "BeltSums$Plant", name := "endBatch", desc := "()V" } : Jvm.MethodName)) ∈ tblG := tG 5 (by decide +kernel) rfl
theorem t6 : (Cond.selects "BeltSums" ({ cls := "BeltSums", name := "foretell", desc := "()I" } : Jvm.MethodName) ({ cls := "BeltSums", name := "foretell", desc := "()I" } : Jvm.MethodName)) ∈ tblG := tG 6 (by decide +kernel) rfl
theorem t7 : (Cond.selects "BeltSums$Command" ({ cls := "BeltSums$Command", name := "passes", desc := "(LBeltSums$Text;I)Z" } : Jvm.MethodName) ({ cls := "BeltSums$Command", name := "passes", desc := "(LBeltSums$Text;I)Z" } : Jvm.MethodName)) ∈ tblG := tG 7 (by decide +kernel) rfl
theorem t8 : (Cond.selects "BeltSums$Command" ({ cls := "BeltSums$Command", name := "readNumber", desc := "(LBeltSums$Text;)I" } : Jvm.MethodName) ({ cls := "BeltSums$Command", name := "readNumber", desc := "(LBeltSums$Text;)I" } : Jvm.MethodName)) ∈ tblG := tG 8 (by decide +kernel) rfl
theorem t9 : (Cond.selects "BeltSumsModel" ({ cls := "BeltSumsModel", name := "changes", desc := "()V" } : Jvm.MethodName) ({ cls := "BeltSumsModel", name := "changes", desc := "()V" } : Jvm.MethodName)) ∈ tblG := tG 9 (by decide +kernel) rfl
theorem t10 : (Cond.selects "BeltSumsModel" ({ cls := "BeltSumsModel", name := "hasBatch", desc := "()Z" } : Jvm.MethodName) ({ cls := "BeltSumsModel", name := "hasBatch", desc := "()Z" } : Jvm.MethodName)) ∈ tblG := tG 10 (by decide +kernel) rfl
theorem t11 : (Cond.selects "BeltSumsModel" ({ cls := "BeltSumsModel", name := "mass", desc := "(II)I" } : Jvm.MethodName) ({ cls := "BeltSumsModel", name := "mass", desc := "(II)I" } : Jvm.MethodName)) ∈ tblG := tG 11 (by decide +kernel) rfl
theorem t12 : (Cond.selects "BeltSumsModel" ({ cls := "BeltSumsModel", name := "ticks", desc := "()V" } : Jvm.MethodName) ({ cls := "BeltSumsModel", name := "ticks", desc := "()V" } : Jvm.MethodName)) ∈ tblG := tG 12 (by decide +kernel) rfl
theorem t13 : (Cond.selects "BeltSumsModel" ({ cls := "BeltSumsModel", name := "goes", desc := "()V" } : Jvm.MethodName) ({ cls := "BeltSumsModel", name := "goes", desc := "()V" } : Jvm.MethodName)) ∈ tblG := tG 13 (by decide +kernel) rfl
theorem t14 : (Cond.selects "BeltSumsModel" ({ cls := "BeltSumsModel", name := "falls", desc := "()V" } : Jvm.MethodName) ({ cls := "BeltSumsModel", name := "falls", desc := "()V" } : Jvm.MethodName)) ∈ tblG := tG 14 (by decide +kernel) rfl
theorem t15 : (Cond.selects "BeltSumsModel" ({ cls := "BeltSumsModel", name := "feeds", desc := "()V" } : Jvm.MethodName) ({ cls := "BeltSumsModel", name := "feeds", desc := "()V" } : Jvm.MethodName)) ∈ tblG := tG 15 (by decide +kernel) rfl
theorem t16 : (Cond.selects "BeltSumsModel" ({ cls := "BeltSumsModel", name := "reads", desc := "()V" } : Jvm.MethodName) ({ cls := "BeltSumsModel", name := "reads", desc := "()V" } : Jvm.MethodName)) ∈ tblG := tG 16 (by decide +kernel) rfl
theorem t17 : (Cond.selects "BeltSumsModel" ({ cls := "BeltSumsModel", name := "reading", desc := "()I" } : Jvm.MethodName) ({ cls := "BeltSumsModel", name := "reading", desc := "()I" } : Jvm.MethodName)) ∈ tblG := tG 17 (by decide +kernel) rfl
theorem t18 : (Cond.selects "BeltSumsModel" ({ cls := "BeltSumsModel", name := "isBin", desc := "(I)Z" } : Jvm.MethodName) ({ cls := "BeltSumsModel", name := "isBin", desc := "(I)Z" } : Jvm.MethodName)) ∈ tblG := tG 18 (by decide +kernel) rfl
theorem t19 : (Cond.selects "BeltSumsModel" ({ cls := "BeltSumsModel", name := "binMass", desc := "(I)I" } : Jvm.MethodName) ({ cls := "BeltSumsModel", name := "binMass", desc := "(I)I" } : Jvm.MethodName)) ∈ tblG := tG 19 (by decide +kernel) rfl
theorem t20 : (Cond.selects "BeltSumsModel" ({ cls := "BeltSumsModel", name := "isAccount", desc := "(I)Z" } : Jvm.MethodName) ({ cls := "BeltSumsModel", name := "isAccount", desc := "(I)Z" } : Jvm.MethodName)) ∈ tblG := tG 20 (by decide +kernel) rfl
theorem t21 : (Cond.selects "BeltSumsModel" ({ cls := "BeltSumsModel", name := "isUnder", desc := "(II)Z" } : Jvm.MethodName) ({ cls := "BeltSumsModel", name := "isUnder", desc := "(II)Z" } : Jvm.MethodName)) ∈ tblG := tG 21 (by decide +kernel) rfl
theorem t22 : (Cond.selects "BeltSumsModel" ({ cls := "BeltSumsModel", name := "depth", desc := "(I)I" } : Jvm.MethodName) ({ cls := "BeltSumsModel", name := "depth", desc := "(I)I" } : Jvm.MethodName)) ∈ tblG := tG 22 (by decide +kernel) rfl
theorem t23 : (Cond.selects "BeltSumsModel" ({ cls := "BeltSumsModel", name := "total", desc := "()I" } : Jvm.MethodName) ({ cls := "BeltSumsModel", name := "total", desc := "()I" } : Jvm.MethodName)) ∈ tblG := tG 23 (by decide +kernel) rfl
theorem t24 : (Cond.selects "BeltSumsModel" ({ cls := "BeltSumsModel", name := "batchTold", desc := "(I)I" } : Jvm.MethodName) ({ cls := "BeltSumsModel", name := "batchTold", desc := "(I)I" } : Jvm.MethodName)) ∈ tblG := tG 24 (by decide +kernel) rfl
theorem t25 : (Cond.selects "BeltSumsModel" ({ cls := "BeltSumsModel", name := "hopper", desc := "()I" } : Jvm.MethodName) ({ cls := "BeltSumsModel", name := "hopper", desc := "()I" } : Jvm.MethodName)) ∈ tblG := tG 25 (by decide +kernel) rfl
theorem t26 : (Cond.selects "BeltSumsModel" ({ cls := "BeltSumsModel", name := "inBins", desc := "()I" } : Jvm.MethodName) ({ cls := "BeltSumsModel", name := "inBins", desc := "()I" } : Jvm.MethodName)) ∈ tblG := tG 26 (by decide +kernel) rfl
theorem t27 : (Cond.selects "BeltSumsModel" ({ cls := "BeltSumsModel", name := "lasts", desc := "()I" } : Jvm.MethodName) ({ cls := "BeltSumsModel", name := "lasts", desc := "()I" } : Jvm.MethodName)) ∈ tblG := tG 27 (by decide +kernel) rfl
theorem t28 : (Cond.selects "BeltSumsModel" ({ cls := "BeltSumsModel", name := "plays", desc := "()I" } : Jvm.MethodName) ({ cls := "BeltSumsModel", name := "plays", desc := "()I" } : Jvm.MethodName)) ∈ tblG := tG 28 (by decide +kernel) rfl
theorem t29 : (Cond.selects "BeltSumsModel" ({ cls := "BeltSumsModel", name := "parses", desc := "()Z" } : Jvm.MethodName) ({ cls := "BeltSumsModel", name := "parses", desc := "()Z" } : Jvm.MethodName)) ∈ tblG := tG 29 (by decide +kernel) rfl
theorem t30 : (Cond.selects "BeltSumsModel" ({ cls := "BeltSumsModel", name := "passes", desc := "(I)Z" } : Jvm.MethodName) ({ cls := "BeltSumsModel", name := "passes", desc := "(I)Z" } : Jvm.MethodName)) ∈ tblG := tG 30 (by decide +kernel) rfl
theorem t31 : (Cond.selects "BeltSumsModel" ({ cls := "BeltSumsModel", name := "isAt", desc := "(II)Z" } : Jvm.MethodName) ({ cls := "BeltSumsModel", name := "isAt", desc := "(II)Z" } : Jvm.MethodName)) ∈ tblG := tG 31 (by decide +kernel) rfl
theorem t32 : (Cond.selects "BeltSumsModel" ({ cls := "BeltSumsModel", name := "number", desc := "(I)Z" } : Jvm.MethodName) ({ cls := "BeltSumsModel", name := "number", desc := "(I)Z" } : Jvm.MethodName)) ∈ tblG := tG 32 (by decide +kernel) rfl
theorem t33 : (Cond.selects "BeltSumsModel" ({ cls := "BeltSumsModel", name := "calls", desc := "()I" } : Jvm.MethodName) ({ cls := "BeltSumsModel", name := "calls", desc := "()I" } : Jvm.MethodName)) ∈ tblG := tG 33 (by decide +kernel) rfl
theorem t34 : (Cond.initialized "BeltSumsLaw") ∈ tblG := tG 34 (by decide +kernel) rfl
theorem t35 : (Cond.initialized "BeltSums") ∈ tblG := tG 35 (by decide +kernel) rfl
theorem t36 : (Cond.initialized "BeltSums$Plant") ∈ tblG := tG 36 (by decide +kernel) rfl
theorem t37 : (Cond.initialized "BeltSums$Hopper") ∈ tblG := tG 37 (by decide +kernel) rfl
theorem t38 : (Cond.initialized "BeltSums$Belt") ∈ tblG := tG 38 (by decide +kernel) rfl
theorem t39 : (Cond.initialized "BeltSums$Bins") ∈ tblG := tG 39 (by decide +kernel) rfl
theorem t40 : (Cond.initialized "BeltSums$Scale") ∈ tblG := tG 40 (by decide +kernel) rfl
theorem t41 : (Cond.initialized "BeltSums$Accounts") ∈ tblG := tG 41 (by decide +kernel) rfl
theorem t42 : (Cond.initialized "java/lang/Math") ∈ tblG := tG 42 (by decide +kernel) rfl
theorem t43 : (Cond.initialized "java/lang/System") ∈ tblG := tG 43 (by decide +kernel) rfl
theorem t44 : (Cond.initialized "BeltSums$History") ∈ tblG := tG 44 (by decide +kernel) rfl
theorem t45 : (Cond.initialized "BeltSums$Text") ∈ tblG := tG 45 (by decide +kernel) rfl
theorem t46 : (Cond.initialized "BeltSums$Rehearsal") ∈ tblG := tG 46 (by decide +kernel) rfl
theorem t47 : (Cond.initialized "BeltSums$Command") ∈ tblG := tG 47 (by decide +kernel) rfl
theorem t48 : (Cond.initialized "BeltSumsModel") ∈ tblG := tG 48 (by decide +kernel) rfl
theorem t49 : (Cond.classLink "BeltSumsLaw" (7 : Nat) "BeltSums") ∈ tblG := tG 49 (by decide +kernel) rfl
theorem t50 : (Cond.instantiable "BeltSums" (5 : Nat)) ∈ tblG := tG 50 (by decide +kernel) rfl
theorem t51 : (Cond.methodLink "BeltSumsLaw" (9 : Nat) ({ cls := "BeltSums", name := "<init>", desc := "()V" } : Jvm.MethodName)) ∈ tblG := tG 51 (by decide +kernel) rfl
theorem t52 : (Cond.instanceMethod ({ cls := "BeltSums", name := "<init>", desc := "()V" } : Jvm.MethodName)) ∈ tblG := tG 52 (by decide +kernel) rfl
theorem t53 : (Cond.code ({ cls := "BeltSums", name := "<init>", desc := "()V" } : Jvm.MethodName) prog_1_method_1_code (1 : Nat) (Option.none : Option Jvm.ClassFile.FieldType)) ∈ tblG := tG 53 (by decide +kernel) rfl
theorem t54 : (Cond.methodLink "BeltSums" (1 : Nat) ({ cls := "java/lang/Object", name := "<init>", desc := "()V" } : Jvm.MethodName)) ∈ tblG := tG 54 (by decide +kernel) rfl
theorem t55 : (Cond.instanceMethod ({ cls := "java/lang/Object", name := "<init>", desc := "()V" } : Jvm.MethodName)) ∈ tblG := tG 55 (by decide +kernel) rfl
theorem t56 : (Cond.code ({ cls := "java/lang/Object", name := "<init>", desc := "()V" } : Jvm.MethodName) object_method_1_code (1 : Nat) (Option.none : Option Jvm.ClassFile.FieldType)) ∈ tblG := tG 56 (by decide +kernel) rfl
theorem t57 : (Cond.classLink "BeltSums" (7 : Nat) "BeltSums$Plant") ∈ tblG := tG 57 (by decide +kernel) rfl
theorem t58 : (Cond.instantiable "BeltSums$Plant" (15 : Nat)) ∈ tblG := tG 58 (by decide +kernel) rfl
theorem t59 : (Cond.methodLink "BeltSums" (9 : Nat) ({ cls := "BeltSums$Plant", name := "<init>", desc := "()V" } : Jvm.MethodName)) ∈ tblG := tG 59 (by decide +kernel) rfl
theorem t60 : (Cond.instanceMethod ({ cls := "BeltSums$Plant", name := "<init>", desc := "()V" } : Jvm.MethodName)) ∈ tblG := tG 60 (by decide +kernel) rfl
theorem t61 : (Cond.code ({ cls := "BeltSums$Plant", name := "<init>", desc := "()V" } : Jvm.MethodName) prog_8_method_1_code (1 : Nat) (Option.none : Option Jvm.ClassFile.FieldType)) ∈ tblG := tG 61 (by decide +kernel) rfl
theorem t62 : (Cond.methodLink "BeltSums$Plant" (3 : Nat) ({ cls := "java/lang/Object", name := "<init>", desc := "()V" } : Jvm.MethodName)) ∈ tblG := tG 62 (by decide +kernel) rfl
theorem t63 : (Cond.classLink "BeltSums$Plant" (9 : Nat) "BeltSums$Hopper") ∈ tblG := tG 63 (by decide +kernel) rfl
theorem t64 : (Cond.instantiable "BeltSums$Hopper" (4 : Nat)) ∈ tblG := tG 64 (by decide +kernel) rfl
theorem t66 : (Cond.instanceMethod ({ cls := "BeltSums$Hopper", name := "<init>", desc := "()V" } : Jvm.MethodName)) ∈ tblG := tG 66 (by decide +kernel) rfl
theorem t67 : (Cond.code ({ cls := "BeltSums$Hopper", name := "<init>", desc := "()V" } : Jvm.MethodName) prog_7_method_1_code (1 : Nat) (Option.none : Option Jvm.ClassFile.FieldType)) ∈ tblG := tG 67 (by decide +kernel) rfl
theorem t68 : (Cond.methodLink "BeltSums$Hopper" (3 : Nat) ({ cls := "java/lang/Object", name := "<init>", desc := "()V" } : Jvm.MethodName)) ∈ tblG := tG 68 (by decide +kernel) rfl
theorem t69 : (Cond.fieldLink "BeltSums$Hopper" (9 : Nat) "BeltSums$Hopper" "kinds" "[I") ∈ tblG := tG 69 (by decide +kernel) rfl
theorem t70 : (Cond.fieldLink "BeltSums$Plant" (187 : Nat) "BeltSums$Hopper" "kinds" "[I") ∈ tblG := tG 70 (by decide +kernel) rfl
theorem t71 : (Cond.fieldLink "BeltSums" (133 : Nat) "BeltSums$Hopper" "kinds" "[I") ∈ tblG := tG 71 (by decide +kernel) rfl
theorem t72 : (Cond.fieldLink "BeltSums$Hopper" (15 : Nat) "BeltSums$Hopper" "masses" "[I") ∈ tblG := tG 72 (by decide +kernel) rfl
theorem t73 : (Cond.fieldLink "BeltSums$Plant" (179 : Nat) "BeltSums$Hopper" "masses" "[I") ∈ tblG := tG 73 (by decide +kernel) rfl
theorem t74 : (Cond.fieldLink "BeltSums" (136 : Nat) "BeltSums$Hopper" "masses" "[I") ∈ tblG := tG 74 (by decide +kernel) rfl
theorem t75 : (Cond.fieldLink "BeltSums$Hopper" (22 : Nat) "BeltSums$Hopper" "lots" "I") ∈ tblG := tG 75 (by decide +kernel) rfl
theorem t76 : (Cond.fieldLink "BeltSums$Plant" (107 : Nat) "BeltSums$Hopper" "lots" "I") ∈ tblG := tG 76 (by decide +kernel) rfl
theorem t77 : (Cond.fieldLink "BeltSums" (127 : Nat) "BeltSums$Hopper" "lots" "I") ∈ tblG := tG 77 (by decide +kernel) rfl
theorem t78 : (Cond.fieldLink "BeltSums$Hopper" (26 : Nat) "BeltSums$Hopper" "putSoFar" "I") ∈ tblG := tG 78 (by decide +kernel) rfl
theorem t79 : (Cond.fieldLink "BeltSums" (226 : Nat) "BeltSums$Hopper" "putSoFar" "I") ∈ tblG := tG 79 (by decide +kernel) rfl
theorem t80 : (Cond.laysFinal "BeltSums$Hopper" "BeltSums$Hopper" "kinds" "[I") ∈ tblG := tG 80 (by decide +kernel) rfl
theorem t82 : (Cond.laysFinal "BeltSums$Hopper" "BeltSums$Hopper" "masses" "[I") ∈ tblG := tG 82 (by decide +kernel) rfl
theorem t84 : (Cond.lays "BeltSums$Hopper" "BeltSums$Hopper" "lots" "I") ∈ tblG := tG 84 (by decide +kernel) rfl
theorem t86 : (Cond.lays "BeltSums$Hopper" "BeltSums$Hopper" "putSoFar" "I") ∈ tblG := tG 86 (by decide +kernel) rfl
theorem t89 : (Cond.arrayClass Jvm.ClassFile.FieldType.int) ∈ tblG := tG 89 (by decide +kernel) rfl
theorem t90 : (Cond.classLink "BeltSums$Plant" (18 : Nat) "BeltSums$Belt") ∈ tblG := tG 90 (by decide +kernel) rfl
theorem t91 : (Cond.instantiable "BeltSums$Belt" (3 : Nat)) ∈ tblG := tG 91 (by decide +kernel) rfl
theorem t93 : (Cond.instanceMethod ({ cls := "BeltSums$Belt", name := "<init>", desc := "()V" } : Jvm.MethodName)) ∈ tblG := tG 93 (by decide +kernel) rfl
theorem t94 : (Cond.code ({ cls := "BeltSums$Belt", name := "<init>", desc := "()V" } : Jvm.MethodName) prog_3_method_1_code (1 : Nat) (Option.none : Option Jvm.ClassFile.FieldType)) ∈ tblG := tG 94 (by decide +kernel) rfl
theorem t95 : (Cond.methodLink "BeltSums$Belt" (3 : Nat) ({ cls := "java/lang/Object", name := "<init>", desc := "()V" } : Jvm.MethodName)) ∈ tblG := tG 95 (by decide +kernel) rfl
theorem t96 : (Cond.fieldLink "BeltSums$Belt" (9 : Nat) "BeltSums$Belt" "masses" "[I") ∈ tblG := tG 96 (by decide +kernel) rfl
theorem t97 : (Cond.fieldLink "BeltSums$Belt" (19 : Nat) "BeltSums$Belt" "start" "I") ∈ tblG := tG 97 (by decide +kernel) rfl
theorem t98 : (Cond.fieldLink "BeltSums$Belt" (23 : Nat) "BeltSums$Belt" "total" "I") ∈ tblG := tG 98 (by decide +kernel) rfl
theorem t99 : (Cond.fieldLink "BeltSums$Plant" (123 : Nat) "BeltSums$Belt" "total" "I") ∈ tblG := tG 99 (by decide +kernel) rfl
theorem t100 : (Cond.fieldLink "BeltSums" (220 : Nat) "BeltSums$Belt" "total" "I") ∈ tblG := tG 100 (by decide +kernel) rfl
theorem t101 : (Cond.laysFinal "BeltSums$Belt" "BeltSums$Belt" "masses" "[I") ∈ tblG := tG 101 (by decide +kernel) rfl
theorem t103 : (Cond.lays "BeltSums$Belt" "BeltSums$Belt" "start" "I") ∈ tblG := tG 103 (by decide +kernel) rfl
theorem t105 : (Cond.lays "BeltSums$Belt" "BeltSums$Belt" "total" "I") ∈ tblG := tG 105 (by decide +kernel) rfl
theorem t108 : (Cond.classLink "BeltSums$Plant" (25 : Nat) "BeltSums$Bins") ∈ tblG := tG 108 (by decide +kernel) rfl
theorem t109 : (Cond.instantiable "BeltSums$Bins" (4 : Nat)) ∈ tblG := tG 109 (by decide +kernel) rfl
theorem t111 : (Cond.instanceMethod ({ cls := "BeltSums$Bins", name := "<init>", desc := "()V" } : Jvm.MethodName)) ∈ tblG := tG 111 (by decide +kernel) rfl
theorem t112 : (Cond.code ({ cls := "BeltSums$Bins", name := "<init>", desc := "()V" } : Jvm.MethodName) prog_4_method_1_code (1 : Nat) (Option.none : Option Jvm.ClassFile.FieldType)) ∈ tblG := tG 112 (by decide +kernel) rfl
theorem t113 : (Cond.methodLink "BeltSums$Bins" (3 : Nat) ({ cls := "java/lang/Object", name := "<init>", desc := "()V" } : Jvm.MethodName)) ∈ tblG := tG 113 (by decide +kernel) rfl
theorem t114 : (Cond.fieldLink "BeltSums$Bins" (9 : Nat) "BeltSums$Bins" "masses" "[I") ∈ tblG := tG 114 (by decide +kernel) rfl
theorem t115 : (Cond.fieldLink "BeltSums" (149 : Nat) "BeltSums$Bins" "masses" "[I") ∈ tblG := tG 115 (by decide +kernel) rfl
theorem t116 : (Cond.fieldLink "BeltSums$Bins" (15 : Nat) "BeltSums$Bins" "grown" "[I") ∈ tblG := tG 116 (by decide +kernel) rfl
theorem t117 : (Cond.fieldLink "BeltSums" (153 : Nat) "BeltSums$Bins" "grown" "[I") ∈ tblG := tG 117 (by decide +kernel) rfl
theorem t118 : (Cond.fieldLink "BeltSums$Plant" (206 : Nat) "BeltSums$Bins" "grown" "[I") ∈ tblG := tG 118 (by decide +kernel) rfl
theorem t119 : (Cond.fieldLink "BeltSums$Bins" (18 : Nat) "BeltSums$Bins" "ticksFilled" "[I") ∈ tblG := tG 119 (by decide +kernel) rfl
theorem t120 : (Cond.fieldLink "BeltSums" (157 : Nat) "BeltSums$Bins" "ticksFilled" "[I") ∈ tblG := tG 120 (by decide +kernel) rfl
theorem t121 : (Cond.fieldLink "BeltSums$Bins" (25 : Nat) "BeltSums$Bins" "many" "I") ∈ tblG := tG 121 (by decide +kernel) rfl
theorem t122 : (Cond.fieldLink "BeltSums$Plant" (120 : Nat) "BeltSums$Bins" "many" "I") ∈ tblG := tG 122 (by decide +kernel) rfl
theorem t123 : (Cond.fieldLink "BeltSums" (203 : Nat) "BeltSums$Bins" "many" "I") ∈ tblG := tG 123 (by decide +kernel) rfl
theorem t124 : (Cond.laysFinal "BeltSums$Bins" "BeltSums$Bins" "masses" "[I") ∈ tblG := tG 124 (by decide +kernel) rfl
theorem t126 : (Cond.laysFinal "BeltSums$Bins" "BeltSums$Bins" "grown" "[I") ∈ tblG := tG 126 (by decide +kernel) rfl
theorem t128 : (Cond.laysFinal "BeltSums$Bins" "BeltSums$Bins" "ticksFilled" "[I") ∈ tblG := tG 128 (by decide +kernel) rfl
theorem t130 : (Cond.lays "BeltSums$Bins" "BeltSums$Bins" "many" "I") ∈ tblG := tG 130 (by decide +kernel) rfl
theorem t133 : (Cond.classLink "BeltSums$Plant" (32 : Nat) "BeltSums$Scale") ∈ tblG := tG 133 (by decide +kernel) rfl
theorem t134 : (Cond.instantiable "BeltSums$Scale" (5 : Nat)) ∈ tblG := tG 134 (by decide +kernel) rfl
theorem t136 : (Cond.instanceMethod ({ cls := "BeltSums$Scale", name := "<init>", desc := "()V" } : Jvm.MethodName)) ∈ tblG := tG 136 (by decide +kernel) rfl
theorem t137 : (Cond.code ({ cls := "BeltSums$Scale", name := "<init>", desc := "()V" } : Jvm.MethodName) prog_10_method_1_code (1 : Nat) (Option.none : Option Jvm.ClassFile.FieldType)) ∈ tblG := tG 137 (by decide +kernel) rfl
theorem t138 : (Cond.methodLink "BeltSums$Scale" (3 : Nat) ({ cls := "java/lang/Object", name := "<init>", desc := "()V" } : Jvm.MethodName)) ∈ tblG := tG 138 (by decide +kernel) rfl
theorem t139 : (Cond.fieldLink "BeltSums$Scale" (15 : Nat) "BeltSums$Scale" "drift" "I") ∈ tblG := tG 139 (by decide +kernel) rfl
theorem t140 : (Cond.fieldLink "BeltSums$Plant" (130 : Nat) "BeltSums$Scale" "drift" "I") ∈ tblG := tG 140 (by decide +kernel) rfl
theorem t141 : (Cond.fieldLink "BeltSums" (173 : Nat) "BeltSums$Scale" "drift" "I") ∈ tblG := tG 141 (by decide +kernel) rfl
theorem t142 : (Cond.fieldLink "BeltSums$Scale" (18 : Nat) "BeltSums$Scale" "zero" "I") ∈ tblG := tG 142 (by decide +kernel) rfl
theorem t143 : (Cond.fieldLink "BeltSums$Plant" (199 : Nat) "BeltSums$Scale" "zero" "I") ∈ tblG := tG 143 (by decide +kernel) rfl
theorem t144 : (Cond.fieldLink "BeltSums" (176 : Nat) "BeltSums$Scale" "zero" "I") ∈ tblG := tG 144 (by decide +kernel) rfl
theorem t145 : (Cond.fieldLink "BeltSums$Scale" (21 : Nat) "BeltSums$Scale" "sum" "I") ∈ tblG := tG 145 (by decide +kernel) rfl
theorem t146 : (Cond.fieldLink "BeltSums" (179 : Nat) "BeltSums$Scale" "sum" "I") ∈ tblG := tG 146 (by decide +kernel) rfl
theorem t147 : (Cond.fieldLink "BeltSums$Scale" (24 : Nat) "BeltSums$Scale" "rest" "I") ∈ tblG := tG 147 (by decide +kernel) rfl
theorem t148 : (Cond.fieldLink "BeltSums$Scale" (9 : Nat) "BeltSums$Scale" "factor" "I") ∈ tblG := tG 148 (by decide +kernel) rfl
theorem t149 : (Cond.fieldLink "BeltSums$Plant" (212 : Nat) "BeltSums$Scale" "factor" "I") ∈ tblG := tG 149 (by decide +kernel) rfl
theorem t150 : (Cond.fieldLink "BeltSums" (185 : Nat) "BeltSums$Scale" "factor" "I") ∈ tblG := tG 150 (by decide +kernel) rfl
theorem t151 : (Cond.lays "BeltSums$Scale" "BeltSums$Scale" "drift" "I") ∈ tblG := tG 151 (by decide +kernel) rfl
theorem t153 : (Cond.lays "BeltSums$Scale" "BeltSums$Scale" "zero" "I") ∈ tblG := tG 153 (by decide +kernel) rfl
theorem t155 : (Cond.lays "BeltSums$Scale" "BeltSums$Scale" "sum" "I") ∈ tblG := tG 155 (by decide +kernel) rfl
theorem t157 : (Cond.lays "BeltSums$Scale" "BeltSums$Scale" "rest" "I") ∈ tblG := tG 157 (by decide +kernel) rfl
theorem t159 : (Cond.lays "BeltSums$Scale" "BeltSums$Scale" "factor" "I") ∈ tblG := tG 159 (by decide +kernel) rfl
theorem t162 : (Cond.classLink "BeltSums$Plant" (39 : Nat) "BeltSums$Accounts") ∈ tblG := tG 162 (by decide +kernel) rfl
theorem t163 : (Cond.instantiable "BeltSums$Accounts" (4 : Nat)) ∈ tblG := tG 163 (by decide +kernel) rfl
theorem t165 : (Cond.instanceMethod ({ cls := "BeltSums$Accounts", name := "<init>", desc := "()V" } : Jvm.MethodName)) ∈ tblG := tG 165 (by decide +kernel) rfl
theorem t166 : (Cond.code ({ cls := "BeltSums$Accounts", name := "<init>", desc := "()V" } : Jvm.MethodName) prog_2_method_1_code (1 : Nat) (Option.none : Option Jvm.ClassFile.FieldType)) ∈ tblG := tG 166 (by decide +kernel) rfl
theorem t167 : (Cond.methodLink "BeltSums$Accounts" (3 : Nat) ({ cls := "java/lang/Object", name := "<init>", desc := "()V" } : Jvm.MethodName)) ∈ tblG := tG 167 (by decide +kernel) rfl
theorem t168 : (Cond.fieldLink "BeltSums$Accounts" (9 : Nat) "BeltSums$Accounts" "within" "[I") ∈ tblG := tG 168 (by decide +kernel) rfl
theorem t169 : (Cond.fieldLink "BeltSums" (95 : Nat) "BeltSums$Accounts" "within" "[I") ∈ tblG := tG 169 (by decide +kernel) rfl
theorem t170 : (Cond.fieldLink "BeltSums$Accounts" (15 : Nat) "BeltSums$Accounts" "own" "[I") ∈ tblG := tG 170 (by decide +kernel) rfl
theorem t171 : (Cond.fieldLink "BeltSums" (99 : Nat) "BeltSums$Accounts" "own" "[I") ∈ tblG := tG 171 (by decide +kernel) rfl
theorem t172 : (Cond.fieldLink "BeltSums$Accounts" (18 : Nat) "BeltSums$Accounts" "assigned" "[I") ∈ tblG := tG 172 (by decide +kernel) rfl
theorem t173 : (Cond.fieldLink "BeltSums" (194 : Nat) "BeltSums$Accounts" "assigned" "[I") ∈ tblG := tG 173 (by decide +kernel) rfl
theorem t174 : (Cond.fieldLink "BeltSums$Accounts" (21 : Nat) "BeltSums$Accounts" "many" "I") ∈ tblG := tG 174 (by decide +kernel) rfl
theorem t175 : (Cond.fieldLink "BeltSums" (235 : Nat) "BeltSums$Accounts" "many" "I") ∈ tblG := tG 175 (by decide +kernel) rfl
theorem t176 : (Cond.laysFinal "BeltSums$Accounts" "BeltSums$Accounts" "within" "[I") ∈ tblG := tG 176 (by decide +kernel) rfl
theorem t178 : (Cond.laysFinal "BeltSums$Accounts" "BeltSums$Accounts" "own" "[I") ∈ tblG := tG 178 (by decide +kernel) rfl
theorem t180 : (Cond.laysFinal "BeltSums$Accounts" "BeltSums$Accounts" "assigned" "[I") ∈ tblG := tG 180 (by decide +kernel) rfl
theorem t182 : (Cond.lays "BeltSums$Accounts" "BeltSums$Accounts" "many" "I") ∈ tblG := tG 182 (by decide +kernel) rfl
theorem t188 : (Cond.static ({ cls := "BeltSums", name := "copyInto", desc := "([I[I)V" } : Jvm.MethodName)) ∈ tblG := tG 188 (by decide +kernel) rfl
theorem t189 : (Cond.code ({ cls := "BeltSums", name := "copyInto", desc := "([I[I)V" } : Jvm.MethodName) prog_1_method_31_code (2 : Nat) (Option.none : Option Jvm.ClassFile.FieldType)) ∈ tblG := tG 189 (by decide +kernel) rfl
theorem t190 : (Cond.methodLink "BeltSums" (285 : Nat) ({ cls := "java/lang/Math", name := "min", desc := "(II)I" } : Jvm.MethodName)) ∈ tblG := tG 190 (by decide +kernel) rfl
theorem t191 : (Cond.static ({ cls := "java/lang/Math", name := "min", desc := "(II)I" } : Jvm.MethodName)) ∈ tblG := tG 191 (by decide +kernel) rfl
theorem t192 : (Cond.code ({ cls := "java/lang/Math", name := "min", desc := "(II)I" } : Jvm.MethodName) prog_14_method_69_code (2 : Nat) (Option.some Jvm.ClassFile.FieldType.int)) ∈ tblG := tG 192 (by decide +kernel) rfl
theorem t193 : (Cond.methodLink "BeltSums" (290 : Nat) ({ cls := "java/lang/System", name := "arraycopy", desc := "(Ljava/lang/Object;ILjava/lang/Object;II)V" } : Jvm.MethodName)) ∈ tblG := tG 193 (by decide +kernel) rfl
theorem t194 : (Cond.static ({ cls := "java/lang/System", name := "arraycopy", desc := "(Ljava/lang/Object;ILjava/lang/Object;II)V" } : Jvm.MethodName)) ∈ tblG := tG 194 (by decide +kernel) rfl
theorem t195 : (Cond.native ({ cls := "java/lang/System", name := "arraycopy", desc := "(Ljava/lang/Object;ILjava/lang/Object;II)V" } : Jvm.MethodName)) ∈ tblG := tG 195 (by decide +kernel) rfl
theorem t196 : (Cond.fieldLink "BeltSums$Plant" (12 : Nat) "BeltSums$Plant" "hopper" "LBeltSums$Hopper;") ∈ tblG := tG 196 (by decide +kernel) rfl
theorem t197 : (Cond.fieldLink "BeltSums" (123 : Nat) "BeltSums$Plant" "hopper" "LBeltSums$Hopper;") ∈ tblG := tG 197 (by decide +kernel) rfl
theorem t198 : (Cond.fieldLink "BeltSums$Plant" (21 : Nat) "BeltSums$Plant" "belt" "LBeltSums$Belt;") ∈ tblG := tG 198 (by decide +kernel) rfl
theorem t199 : (Cond.fieldLink "BeltSums" (111 : Nat) "BeltSums$Plant" "belt" "LBeltSums$Belt;") ∈ tblG := tG 199 (by decide +kernel) rfl
theorem t200 : (Cond.fieldLink "BeltSums$Plant" (28 : Nat) "BeltSums$Plant" "bins" "LBeltSums$Bins;") ∈ tblG := tG 200 (by decide +kernel) rfl
theorem t201 : (Cond.fieldLink "BeltSums" (139 : Nat) "BeltSums$Plant" "bins" "LBeltSums$Bins;") ∈ tblG := tG 201 (by decide +kernel) rfl
theorem t202 : (Cond.fieldLink "BeltSums$Plant" (35 : Nat) "BeltSums$Plant" "scale" "LBeltSums$Scale;") ∈ tblG := tG 202 (by decide +kernel) rfl
theorem t203 : (Cond.fieldLink "BeltSums" (160 : Nat) "BeltSums$Plant" "scale" "LBeltSums$Scale;") ∈ tblG := tG 203 (by decide +kernel) rfl
theorem t204 : (Cond.fieldLink "BeltSums$Plant" (42 : Nat) "BeltSums$Plant" "accounts" "LBeltSums$Accounts;") ∈ tblG := tG 204 (by decide +kernel) rfl
theorem t205 : (Cond.fieldLink "BeltSums" (77 : Nat) "BeltSums$Plant" "accounts" "LBeltSums$Accounts;") ∈ tblG := tG 205 (by decide +kernel) rfl
theorem t206 : (Cond.fieldLink "BeltSums$Plant" (46 : Nat) "BeltSums$Plant" "settings" "[I") ∈ tblG := tG 206 (by decide +kernel) rfl
theorem t207 : (Cond.fieldLink "BeltSums" (191 : Nat) "BeltSums$Plant" "settings" "[I") ∈ tblG := tG 207 (by decide +kernel) rfl
theorem t208 : (Cond.fieldLink "BeltSums$Plant" (50 : Nat) "BeltSums$Plant" "gateWidth" "I") ∈ tblG := tG 208 (by decide +kernel) rfl
theorem t209 : (Cond.fieldLink "BeltSums" (197 : Nat) "BeltSums$Plant" "gateWidth" "I") ∈ tblG := tG 209 (by decide +kernel) rfl
theorem t210 : (Cond.fieldLink "BeltSums$Plant" (77 : Nat) "BeltSums$Plant" "switchedOn" "I") ∈ tblG := tG 210 (by decide +kernel) rfl
theorem t211 : (Cond.fieldLink "BeltSums" (200 : Nat) "BeltSums$Plant" "switchedOn" "I") ∈ tblG := tG 211 (by decide +kernel) rfl
theorem t212 : (Cond.fieldLink "BeltSums$Plant" (80 : Nat) "BeltSums$Plant" "batchMass" "I") ∈ tblG := tG 212 (by decide +kernel) rfl
theorem t213 : (Cond.fieldLink "BeltSums" (210 : Nat) "BeltSums$Plant" "batchMass" "I") ∈ tblG := tG 213 (by decide +kernel) rfl
theorem t214 : (Cond.fieldLink "BeltSums$Plant" (83 : Nat) "BeltSums$Plant" "batchStopped" "Z") ∈ tblG := tG 214 (by decide +kernel) rfl
theorem t215 : (Cond.fieldLink "BeltSums" (213 : Nat) "BeltSums$Plant" "batchStopped" "Z") ∈ tblG := tG 215 (by decide +kernel) rfl
theorem t216 : (Cond.fieldLink "BeltSums$Plant" (87 : Nat) "BeltSums$Plant" "cameInBatch" "I") ∈ tblG := tG 216 (by decide +kernel) rfl
theorem t217 : (Cond.fieldLink "BeltSums$Plant" (90 : Nat) "BeltSums$Plant" "time" "I") ∈ tblG := tG 217 (by decide +kernel) rfl
theorem t218 : (Cond.fieldLink "BeltSums" (217 : Nat) "BeltSums$Plant" "time" "I") ∈ tblG := tG 218 (by decide +kernel) rfl
theorem t219 : (Cond.fieldLink "BeltSums$Plant" (93 : Nat) "BeltSums$Plant" "ticksStood" "I") ∈ tblG := tG 219 (by decide +kernel) rfl
theorem t220 : (Cond.fieldLink "BeltSums" (188 : Nat) "BeltSums$Plant" "ticksStood" "I") ∈ tblG := tG 220 (by decide +kernel) rfl
theorem t221 : (Cond.fieldLink "BeltSums$Plant" (96 : Nat) "BeltSums$Plant" "spilt" "I") ∈ tblG := tG 221 (by decide +kernel) rfl
theorem t222 : (Cond.fieldLink "BeltSums" (232 : Nat) "BeltSums$Plant" "spilt" "I") ∈ tblG := tG 222 (by decide +kernel) rfl
theorem t223 : (Cond.fieldLink "BeltSums$Plant" (99 : Nat) "BeltSums$Plant" "fallen" "I") ∈ tblG := tG 223 (by decide +kernel) rfl
theorem t224 : (Cond.fieldLink "BeltSums" (249 : Nat) "BeltSums$Plant" "fallen" "I") ∈ tblG := tG 224 (by decide +kernel) rfl
theorem t225 : (Cond.laysFinal "BeltSums$Plant" "BeltSums$Plant" "hopper" "LBeltSums$Hopper;") ∈ tblG := tG 225 (by decide +kernel) rfl
theorem t227 : (Cond.laysFinal "BeltSums$Plant" "BeltSums$Plant" "belt" "LBeltSums$Belt;") ∈ tblG := tG 227 (by decide +kernel) rfl
theorem t229 : (Cond.laysFinal "BeltSums$Plant" "BeltSums$Plant" "bins" "LBeltSums$Bins;") ∈ tblG := tG 229 (by decide +kernel) rfl
theorem t231 : (Cond.laysFinal "BeltSums$Plant" "BeltSums$Plant" "scale" "LBeltSums$Scale;") ∈ tblG := tG 231 (by decide +kernel) rfl
theorem t233 : (Cond.laysFinal "BeltSums$Plant" "BeltSums$Plant" "accounts" "LBeltSums$Accounts;") ∈ tblG := tG 233 (by decide +kernel) rfl
theorem t235 : (Cond.laysFinal "BeltSums$Plant" "BeltSums$Plant" "settings" "[I") ∈ tblG := tG 235 (by decide +kernel) rfl
theorem t237 : (Cond.lays "BeltSums$Plant" "BeltSums$Plant" "gateWidth" "I") ∈ tblG := tG 237 (by decide +kernel) rfl
theorem t239 : (Cond.lays "BeltSums$Plant" "BeltSums$Plant" "switchedOn" "I") ∈ tblG := tG 239 (by decide +kernel) rfl
theorem t241 : (Cond.lays "BeltSums$Plant" "BeltSums$Plant" "batchMass" "I") ∈ tblG := tG 241 (by decide +kernel) rfl
theorem t243 : (Cond.lays "BeltSums$Plant" "BeltSums$Plant" "batchStopped" "Z") ∈ tblG := tG 243 (by decide +kernel) rfl
theorem t245 : (Cond.lays "BeltSums$Plant" "BeltSums$Plant" "cameInBatch" "I") ∈ tblG := tG 245 (by decide +kernel) rfl
theorem t247 : (Cond.lays "BeltSums$Plant" "BeltSums$Plant" "time" "I") ∈ tblG := tG 247 (by decide +kernel) rfl
theorem t249 : (Cond.lays "BeltSums$Plant" "BeltSums$Plant" "ticksStood" "I") ∈ tblG := tG 249 (by decide +kernel) rfl
theorem t251 : (Cond.lays "BeltSums$Plant" "BeltSums$Plant" "spilt" "I") ∈ tblG := tG 251 (by decide +kernel) rfl
theorem t253 : (Cond.lays "BeltSums$Plant" "BeltSums$Plant" "fallen" "I") ∈ tblG := tG 253 (by decide +kernel) rfl
theorem t256 : (Cond.classLink "BeltSums" (19 : Nat) "BeltSums$History") ∈ tblG := tG 256 (by decide +kernel) rfl
theorem t257 : (Cond.instantiable "BeltSums$History" (5 : Nat)) ∈ tblG := tG 257 (by decide +kernel) rfl
theorem t259 : (Cond.instanceMethod ({ cls := "BeltSums$History", name := "<init>", desc := "()V" } : Jvm.MethodName)) ∈ tblG := tG 259 (by decide +kernel) rfl
theorem t260 : (Cond.code ({ cls := "BeltSums$History", name := "<init>", desc := "()V" } : Jvm.MethodName) prog_6_method_1_code (1 : Nat) (Option.none : Option Jvm.ClassFile.FieldType)) ∈ tblG := tG 260 (by decide +kernel) rfl
theorem t261 : (Cond.methodLink "BeltSums$History" (3 : Nat) ({ cls := "java/lang/Object", name := "<init>", desc := "()V" } : Jvm.MethodName)) ∈ tblG := tG 261 (by decide +kernel) rfl
theorem t262 : (Cond.classLink "BeltSums$History" (9 : Nat) "BeltSums$Plant") ∈ tblG := tG 262 (by decide +kernel) rfl
theorem t263 : (Cond.methodLink "BeltSums$History" (11 : Nat) ({ cls := "BeltSums$Plant", name := "<init>", desc := "()V" } : Jvm.MethodName)) ∈ tblG := tG 263 (by decide +kernel) rfl
theorem t264 : (Cond.fieldLink "BeltSums$History" (12 : Nat) "BeltSums$History" "latest" "LBeltSums$Plant;") ∈ tblG := tG 264 (by decide +kernel) rfl
theorem t265 : (Cond.fieldLink "BeltSums$History" (18 : Nat) "BeltSums$History" "second" "LBeltSums$Plant;") ∈ tblG := tG 265 (by decide +kernel) rfl
theorem t266 : (Cond.fieldLink "BeltSums$History" (21 : Nat) "BeltSums$History" "third" "LBeltSums$Plant;") ∈ tblG := tG 266 (by decide +kernel) rfl
theorem t267 : (Cond.fieldLink "BeltSums$History" (24 : Nat) "BeltSums$History" "oldest" "LBeltSums$Plant;") ∈ tblG := tG 267 (by decide +kernel) rfl
theorem t268 : (Cond.fieldLink "BeltSums$History" (31 : Nat) "BeltSums$History" "states" "I") ∈ tblG := tG 268 (by decide +kernel) rfl
theorem t269 : (Cond.fieldLink "BeltSums" (236 : Nat) "BeltSums$History" "states" "I") ∈ tblG := tG 269 (by decide +kernel) rfl
theorem t270 : (Cond.lays "BeltSums$History" "BeltSums$History" "latest" "LBeltSums$Plant;") ∈ tblG := tG 270 (by decide +kernel) rfl
theorem t272 : (Cond.lays "BeltSums$History" "BeltSums$History" "second" "LBeltSums$Plant;") ∈ tblG := tG 272 (by decide +kernel) rfl
theorem t274 : (Cond.lays "BeltSums$History" "BeltSums$History" "third" "LBeltSums$Plant;") ∈ tblG := tG 274 (by decide +kernel) rfl
theorem t276 : (Cond.lays "BeltSums$History" "BeltSums$History" "oldest" "LBeltSums$Plant;") ∈ tblG := tG 276 (by decide +kernel) rfl
theorem t278 : (Cond.lays "BeltSums$History" "BeltSums$History" "states" "I") ∈ tblG := tG 278 (by decide +kernel) rfl
theorem t281 : (Cond.classLink "BeltSums" (26 : Nat) "BeltSums$Text") ∈ tblG := tG 281 (by decide +kernel) rfl
theorem t282 : (Cond.instantiable "BeltSums$Text" (2 : Nat)) ∈ tblG := tG 282 (by decide +kernel) rfl
theorem t284 : (Cond.instanceMethod ({ cls := "BeltSums$Text", name := "<init>", desc := "()V" } : Jvm.MethodName)) ∈ tblG := tG 284 (by decide +kernel) rfl
theorem t285 : (Cond.code ({ cls := "BeltSums$Text", name := "<init>", desc := "()V" } : Jvm.MethodName) prog_11_method_1_code (1 : Nat) (Option.none : Option Jvm.ClassFile.FieldType)) ∈ tblG := tG 285 (by decide +kernel) rfl
theorem t286 : (Cond.methodLink "BeltSums$Text" (3 : Nat) ({ cls := "java/lang/Object", name := "<init>", desc := "()V" } : Jvm.MethodName)) ∈ tblG := tG 286 (by decide +kernel) rfl
theorem t287 : (Cond.fieldLink "BeltSums$Text" (9 : Nat) "BeltSums$Text" "characters" "[C") ∈ tblG := tG 287 (by decide +kernel) rfl
theorem t288 : (Cond.fieldLink "BeltSums$Text" (15 : Nat) "BeltSums$Text" "length" "I") ∈ tblG := tG 288 (by decide +kernel) rfl
theorem t289 : (Cond.fieldLink "BeltSums$Rehearsal" (37 : Nat) "BeltSums$Text" "length" "I") ∈ tblG := tG 289 (by decide +kernel) rfl
theorem t290 : (Cond.fieldLink "BeltSums" (239 : Nat) "BeltSums$Text" "length" "I") ∈ tblG := tG 290 (by decide +kernel) rfl
theorem t291 : (Cond.laysFinal "BeltSums$Text" "BeltSums$Text" "characters" "[C") ∈ tblG := tG 291 (by decide +kernel) rfl
theorem t293 : (Cond.lays "BeltSums$Text" "BeltSums$Text" "length" "I") ∈ tblG := tG 293 (by decide +kernel) rfl
theorem t296 : (Cond.arrayClass Jvm.ClassFile.FieldType.char) ∈ tblG := tG 296 (by decide +kernel) rfl
theorem t297 : (Cond.classLink "BeltSums" (33 : Nat) "BeltSums$Rehearsal") ∈ tblG := tG 297 (by decide +kernel) rfl
theorem t298 : (Cond.instantiable "BeltSums$Rehearsal" (5 : Nat)) ∈ tblG := tG 298 (by decide +kernel) rfl
theorem t300 : (Cond.instanceMethod ({ cls := "BeltSums$Rehearsal", name := "<init>", desc := "()V" } : Jvm.MethodName)) ∈ tblG := tG 300 (by decide +kernel) rfl
theorem t301 : (Cond.code ({ cls := "BeltSums$Rehearsal", name := "<init>", desc := "()V" } : Jvm.MethodName) prog_9_method_1_code (1 : Nat) (Option.none : Option Jvm.ClassFile.FieldType)) ∈ tblG := tG 301 (by decide +kernel) rfl
theorem t302 : (Cond.methodLink "BeltSums$Rehearsal" (3 : Nat) ({ cls := "java/lang/Object", name := "<init>", desc := "()V" } : Jvm.MethodName)) ∈ tblG := tG 302 (by decide +kernel) rfl
theorem t303 : (Cond.classLink "BeltSums$Rehearsal" (9 : Nat) "BeltSums$Command") ∈ tblG := tG 303 (by decide +kernel) rfl
theorem t304 : (Cond.instantiable "BeltSums$Command" (4 : Nat)) ∈ tblG := tG 304 (by decide +kernel) rfl
theorem t306 : (Cond.instanceMethod ({ cls := "BeltSums$Command", name := "<init>", desc := "()V" } : Jvm.MethodName)) ∈ tblG := tG 306 (by decide +kernel) rfl
theorem t307 : (Cond.code ({ cls := "BeltSums$Command", name := "<init>", desc := "()V" } : Jvm.MethodName) prog_5_method_1_code (1 : Nat) (Option.none : Option Jvm.ClassFile.FieldType)) ∈ tblG := tG 307 (by decide +kernel) rfl
theorem t308 : (Cond.methodLink "BeltSums$Command" (3 : Nat) ({ cls := "java/lang/Object", name := "<init>", desc := "()V" } : Jvm.MethodName)) ∈ tblG := tG 308 (by decide +kernel) rfl
theorem t309 : (Cond.fieldLink "BeltSums$Command" (15 : Nat) "BeltSums$Command" "letter" "I") ∈ tblG := tG 309 (by decide +kernel) rfl
theorem t310 : (Cond.fieldLink "BeltSums$Command" (21 : Nat) "BeltSums$Command" "first" "I") ∈ tblG := tG 310 (by decide +kernel) rfl
theorem t311 : (Cond.fieldLink "BeltSums$Command" (24 : Nat) "BeltSums$Command" "second" "I") ∈ tblG := tG 311 (by decide +kernel) rfl
theorem t312 : (Cond.fieldLink "BeltSums$Command" (27 : Nat) "BeltSums$Command" "end" "I") ∈ tblG := tG 312 (by decide +kernel) rfl
theorem t313 : (Cond.fieldLink "BeltSums$Rehearsal" (54 : Nat) "BeltSums$Command" "end" "I") ∈ tblG := tG 313 (by decide +kernel) rfl
theorem t314 : (Cond.lays "BeltSums$Command" "BeltSums$Command" "letter" "I") ∈ tblG := tG 314 (by decide +kernel) rfl
theorem t316 : (Cond.lays "BeltSums$Command" "BeltSums$Command" "first" "I") ∈ tblG := tG 316 (by decide +kernel) rfl
theorem t318 : (Cond.lays "BeltSums$Command" "BeltSums$Command" "second" "I") ∈ tblG := tG 318 (by decide +kernel) rfl
theorem t320 : (Cond.lays "BeltSums$Command" "BeltSums$Command" "end" "I") ∈ tblG := tG 320 (by decide +kernel) rfl
theorem t323 : (Cond.fieldLink "BeltSums$Rehearsal" (12 : Nat) "BeltSums$Rehearsal" "command" "LBeltSums$Command;") ∈ tblG := tG 323 (by decide +kernel) rfl
theorem t324 : (Cond.fieldLink "BeltSums$Rehearsal" (24 : Nat) "BeltSums$Rehearsal" "position" "I") ∈ tblG := tG 324 (by decide +kernel) rfl
theorem t325 : (Cond.fieldLink "BeltSums" (267 : Nat) "BeltSums$Rehearsal" "position" "I") ∈ tblG := tG 325 (by decide +kernel) rfl
theorem t326 : (Cond.fieldLink "BeltSums$Rehearsal" (28 : Nat) "BeltSums$Rehearsal" "reason" "I") ∈ tblG := tG 326 (by decide +kernel) rfl
theorem t327 : (Cond.fieldLink "BeltSums" (264 : Nat) "BeltSums$Rehearsal" "reason" "I") ∈ tblG := tG 327 (by decide +kernel) rfl
theorem t328 : (Cond.fieldLink "BeltSums$Rehearsal" (31 : Nat) "BeltSums$Rehearsal" "cause" "I") ∈ tblG := tG 328 (by decide +kernel) rfl
theorem t329 : (Cond.fieldLink "BeltSums" (270 : Nat) "BeltSums$Rehearsal" "cause" "I") ∈ tblG := tG 329 (by decide +kernel) rfl
theorem t330 : (Cond.fieldLink "BeltSums$Rehearsal" (34 : Nat) "BeltSums$Rehearsal" "done" "I") ∈ tblG := tG 330 (by decide +kernel) rfl
theorem t331 : (Cond.fieldLink "BeltSums" (276 : Nat) "BeltSums$Rehearsal" "done" "I") ∈ tblG := tG 331 (by decide +kernel) rfl
theorem t332 : (Cond.laysFinal "BeltSums$Rehearsal" "BeltSums$Rehearsal" "command" "LBeltSums$Command;") ∈ tblG := tG 332 (by decide +kernel) rfl
theorem t334 : (Cond.lays "BeltSums$Rehearsal" "BeltSums$Rehearsal" "position" "I") ∈ tblG := tG 334 (by decide +kernel) rfl
theorem t336 : (Cond.lays "BeltSums$Rehearsal" "BeltSums$Rehearsal" "reason" "I") ∈ tblG := tG 336 (by decide +kernel) rfl
theorem t338 : (Cond.lays "BeltSums$Rehearsal" "BeltSums$Rehearsal" "cause" "I") ∈ tblG := tG 338 (by decide +kernel) rfl
theorem t340 : (Cond.lays "BeltSums$Rehearsal" "BeltSums$Rehearsal" "done" "I") ∈ tblG := tG 340 (by decide +kernel) rfl
theorem t343 : (Cond.fieldLink "BeltSums" (10 : Nat) "BeltSums" "now" "LBeltSums$Plant;") ∈ tblG := tG 343 (by decide +kernel) rfl
theorem t344 : (Cond.fieldLink "BeltSums" (16 : Nat) "BeltSums" "spare" "LBeltSums$Plant;") ∈ tblG := tG 344 (by decide +kernel) rfl
theorem t345 : (Cond.fieldLink "BeltSums" (22 : Nat) "BeltSums" "history" "LBeltSums$History;") ∈ tblG := tG 345 (by decide +kernel) rfl
theorem t346 : (Cond.fieldLink "BeltSums" (29 : Nat) "BeltSums" "text" "LBeltSums$Text;") ∈ tblG := tG 346 (by decide +kernel) rfl
theorem t347 : (Cond.fieldLink "BeltSums" (36 : Nat) "BeltSums" "rehearsal" "LBeltSums$Rehearsal;") ∈ tblG := tG 347 (by decide +kernel) rfl
theorem t348 : (Cond.laysFinal "BeltSums" "BeltSums" "now" "LBeltSums$Plant;") ∈ tblG := tG 348 (by decide +kernel) rfl
theorem t350 : (Cond.laysFinal "BeltSums" "BeltSums" "spare" "LBeltSums$Plant;") ∈ tblG := tG 350 (by decide +kernel) rfl
theorem t352 : (Cond.laysFinal "BeltSums" "BeltSums" "history" "LBeltSums$History;") ∈ tblG := tG 352 (by decide +kernel) rfl
theorem t354 : (Cond.laysFinal "BeltSums" "BeltSums" "text" "LBeltSums$Text;") ∈ tblG := tG 354 (by decide +kernel) rfl
theorem t356 : (Cond.laysFinal "BeltSums" "BeltSums" "rehearsal" "LBeltSums$Rehearsal;") ∈ tblG := tG 356 (by decide +kernel) rfl
theorem t359 : (Cond.methodLink "BeltSumsLaw" (13 : Nat) ({ cls := "BeltSums", name := "lot", desc := "(II)I" } : Jvm.MethodName)) ∈ tblG := tG 359 (by decide +kernel) rfl
theorem t360 : (Cond.instanceMethod ({ cls := "BeltSums", name := "lot", desc := "(II)I" } : Jvm.MethodName)) ∈ tblG := tG 360 (by decide +kernel) rfl
theorem t361 : (Cond.selects "BeltSums" ({ cls := "BeltSums", name := "lot", desc := "(II)I" } : Jvm.MethodName) ({ cls := "BeltSums", name := "lot", desc := "(II)I" } : Jvm.MethodName)) ∈ tblG := tG 361 (by decide +kernel) rfl
theorem t362 : (Cond.code ({ cls := "BeltSums", name := "lot", desc := "(II)I" } : Jvm.MethodName) prog_1_method_2_code (3 : Nat) (Option.some Jvm.ClassFile.FieldType.int)) ∈ tblG := tG 362 (by decide +kernel) rfl
theorem t363 : (Cond.methodLink "BeltSums" (40 : Nat) ({ cls := "BeltSums$Plant", name := "copyFrom", desc := "(LBeltSums$Plant;)V" } : Jvm.MethodName)) ∈ tblG := tG 363 (by decide +kernel) rfl
theorem t364 : (Cond.instanceMethod ({ cls := "BeltSums$Plant", name := "copyFrom", desc := "(LBeltSums$Plant;)V" } : Jvm.MethodName)) ∈ tblG := tG 364 (by decide +kernel) rfl
theorem t365 : (Cond.selects "BeltSums$Plant" ({ cls := "BeltSums$Plant", name := "copyFrom", desc := "(LBeltSums$Plant;)V" } : Jvm.MethodName) ({ cls := "BeltSums$Plant", name := "copyFrom", desc := "(LBeltSums$Plant;)V" } : Jvm.MethodName)) ∈ tblG := tG 365 (by decide +kernel) rfl
theorem t366 : (Cond.code ({ cls := "BeltSums$Plant", name := "copyFrom", desc := "(LBeltSums$Plant;)V" } : Jvm.MethodName) prog_8_method_2_code (2 : Nat) (Option.none : Option Jvm.ClassFile.FieldType)) ∈ tblG := tG 366 (by decide +kernel) rfl
theorem t367 : (Cond.methodLink "BeltSums$Plant" (61 : Nat) ({ cls := "BeltSums$Hopper", name := "copyFrom", desc := "(LBeltSums$Hopper;)V" } : Jvm.MethodName)) ∈ tblG := tG 367 (by decide +kernel) rfl
theorem t368 : (Cond.instanceMethod ({ cls := "BeltSums$Hopper", name := "copyFrom", desc := "(LBeltSums$Hopper;)V" } : Jvm.MethodName)) ∈ tblG := tG 368 (by decide +kernel) rfl
theorem t369 : (Cond.selects "BeltSums$Hopper" ({ cls := "BeltSums$Hopper", name := "copyFrom", desc := "(LBeltSums$Hopper;)V" } : Jvm.MethodName) ({ cls := "BeltSums$Hopper", name := "copyFrom", desc := "(LBeltSums$Hopper;)V" } : Jvm.MethodName)) ∈ tblG := tG 369 (by decide +kernel) rfl
theorem t370 : (Cond.code ({ cls := "BeltSums$Hopper", name := "copyFrom", desc := "(LBeltSums$Hopper;)V" } : Jvm.MethodName) prog_7_method_2_code (2 : Nat) (Option.none : Option Jvm.ClassFile.FieldType)) ∈ tblG := tG 370 (by decide +kernel) rfl
theorem t372 : (Cond.methodLink "BeltSums$Plant" (65 : Nat) ({ cls := "BeltSums$Belt", name := "copyFrom", desc := "(LBeltSums$Belt;)V" } : Jvm.MethodName)) ∈ tblG := tG 372 (by decide +kernel) rfl
theorem t373 : (Cond.instanceMethod ({ cls := "BeltSums$Belt", name := "copyFrom", desc := "(LBeltSums$Belt;)V" } : Jvm.MethodName)) ∈ tblG := tG 373 (by decide +kernel) rfl
theorem t374 : (Cond.selects "BeltSums$Belt" ({ cls := "BeltSums$Belt", name := "copyFrom", desc := "(LBeltSums$Belt;)V" } : Jvm.MethodName) ({ cls := "BeltSums$Belt", name := "copyFrom", desc := "(LBeltSums$Belt;)V" } : Jvm.MethodName)) ∈ tblG := tG 374 (by decide +kernel) rfl
theorem t375 : (Cond.code ({ cls := "BeltSums$Belt", name := "copyFrom", desc := "(LBeltSums$Belt;)V" } : Jvm.MethodName) prog_3_method_2_code (2 : Nat) (Option.none : Option Jvm.ClassFile.FieldType)) ∈ tblG := tG 375 (by decide +kernel) rfl
theorem t377 : (Cond.methodLink "BeltSums$Plant" (68 : Nat) ({ cls := "BeltSums$Bins", name := "copyFrom", desc := "(LBeltSums$Bins;)V" } : Jvm.MethodName)) ∈ tblG := tG 377 (by decide +kernel) rfl
theorem t378 : (Cond.instanceMethod ({ cls := "BeltSums$Bins", name := "copyFrom", desc := "(LBeltSums$Bins;)V" } : Jvm.MethodName)) ∈ tblG := tG 378 (by decide +kernel) rfl
theorem t379 : (Cond.selects "BeltSums$Bins" ({ cls := "BeltSums$Bins", name := "copyFrom", desc := "(LBeltSums$Bins;)V" } : Jvm.MethodName) ({ cls := "BeltSums$Bins", name := "copyFrom", desc := "(LBeltSums$Bins;)V" } : Jvm.MethodName)) ∈ tblG := tG 379 (by decide +kernel) rfl
theorem t380 : (Cond.code ({ cls := "BeltSums$Bins", name := "copyFrom", desc := "(LBeltSums$Bins;)V" } : Jvm.MethodName) prog_4_method_2_code (2 : Nat) (Option.none : Option Jvm.ClassFile.FieldType)) ∈ tblG := tG 380 (by decide +kernel) rfl
theorem t382 : (Cond.methodLink "BeltSums$Plant" (71 : Nat) ({ cls := "BeltSums$Scale", name := "copyFrom", desc := "(LBeltSums$Scale;)V" } : Jvm.MethodName)) ∈ tblG := tG 382 (by decide +kernel) rfl
theorem t383 : (Cond.instanceMethod ({ cls := "BeltSums$Scale", name := "copyFrom", desc := "(LBeltSums$Scale;)V" } : Jvm.MethodName)) ∈ tblG := tG 383 (by decide +kernel) rfl
theorem t384 : (Cond.selects "BeltSums$Scale" ({ cls := "BeltSums$Scale", name := "copyFrom", desc := "(LBeltSums$Scale;)V" } : Jvm.MethodName) ({ cls := "BeltSums$Scale", name := "copyFrom", desc := "(LBeltSums$Scale;)V" } : Jvm.MethodName)) ∈ tblG := tG 384 (by decide +kernel) rfl
theorem t385 : (Cond.code ({ cls := "BeltSums$Scale", name := "copyFrom", desc := "(LBeltSums$Scale;)V" } : Jvm.MethodName) prog_10_method_2_code (2 : Nat) (Option.none : Option Jvm.ClassFile.FieldType)) ∈ tblG := tG 385 (by decide +kernel) rfl
theorem t386 : (Cond.methodLink "BeltSums$Plant" (74 : Nat) ({ cls := "BeltSums$Accounts", name := "copyFrom", desc := "(LBeltSums$Accounts;)V" } : Jvm.MethodName)) ∈ tblG := tG 386 (by decide +kernel) rfl
theorem t387 : (Cond.instanceMethod ({ cls := "BeltSums$Accounts", name := "copyFrom", desc := "(LBeltSums$Accounts;)V" } : Jvm.MethodName)) ∈ tblG := tG 387 (by decide +kernel) rfl
theorem t388 : (Cond.selects "BeltSums$Accounts" ({ cls := "BeltSums$Accounts", name := "copyFrom", desc := "(LBeltSums$Accounts;)V" } : Jvm.MethodName) ({ cls := "BeltSums$Accounts", name := "copyFrom", desc := "(LBeltSums$Accounts;)V" } : Jvm.MethodName)) ∈ tblG := tG 388 (by decide +kernel) rfl
theorem t389 : (Cond.code ({ cls := "BeltSums$Accounts", name := "copyFrom", desc := "(LBeltSums$Accounts;)V" } : Jvm.MethodName) prog_2_method_2_code (2 : Nat) (Option.none : Option Jvm.ClassFile.FieldType)) ∈ tblG := tG 389 (by decide +kernel) rfl
theorem t391 : (Cond.methodLink "BeltSums" (44 : Nat) ({ cls := "BeltSums$Plant", name := "putLot", desc := "(II)I" } : Jvm.MethodName)) ∈ tblG := tG 391 (by decide +kernel) rfl
theorem t392 : (Cond.instanceMethod ({ cls := "BeltSums$Plant", name := "putLot", desc := "(II)I" } : Jvm.MethodName)) ∈ tblG := tG 392 (by decide +kernel) rfl
theorem t393 : (Cond.selects "BeltSums$Plant" ({ cls := "BeltSums$Plant", name := "putLot", desc := "(II)I" } : Jvm.MethodName) ({ cls := "BeltSums$Plant", name := "putLot", desc := "(II)I" } : Jvm.MethodName)) ∈ tblG := tG 393 (by decide +kernel) rfl
theorem t394 : (Cond.code ({ cls := "BeltSums$Plant", name := "putLot", desc := "(II)I" } : Jvm.MethodName) prog_8_method_4_code (3 : Nat) (Option.some Jvm.ClassFile.FieldType.int)) ∈ tblG := tG 394 (by decide +kernel) rfl
theorem t396 : (Cond.static ({ cls := "BeltSums", name := "isKind", desc := "(I)Z" } : Jvm.MethodName)) ∈ tblG := tG 396 (by decide +kernel) rfl
theorem t397 : (Cond.code ({ cls := "BeltSums", name := "isKind", desc := "(I)Z" } : Jvm.MethodName) prog_1_method_30_code (1 : Nat) (Option.some Jvm.ClassFile.FieldType.boolean)) ∈ tblG := tG 397 (by decide +kernel) rfl
theorem t398 : (Cond.constant "BeltSums$Plant" (106 : Nat) (-1000001 : Int32)) ∈ tblG := tG 398 (by decide +kernel) rfl
theorem t399 : (Cond.constant "BeltSums$Plant" (110 : Nat) (-1000003 : Int32)) ∈ tblG := tG 399 (by decide +kernel) rfl
theorem t400 : (Cond.methodLink "BeltSums$Plant" (111 : Nat) ({ cls := "BeltSums$Hopper", name := "append", desc := "(II)V" } : Jvm.MethodName)) ∈ tblG := tG 400 (by decide +kernel) rfl
theorem t401 : (Cond.instanceMethod ({ cls := "BeltSums$Hopper", name := "append", desc := "(II)V" } : Jvm.MethodName)) ∈ tblG := tG 401 (by decide +kernel) rfl
theorem t402 : (Cond.selects "BeltSums$Hopper" ({ cls := "BeltSums$Hopper", name := "append", desc := "(II)V" } : Jvm.MethodName) ({ cls := "BeltSums$Hopper", name := "append", desc := "(II)V" } : Jvm.MethodName)) ∈ tblG := tG 402 (by decide +kernel) rfl
theorem t403 : (Cond.code ({ cls := "BeltSums$Hopper", name := "append", desc := "(II)V" } : Jvm.MethodName) prog_7_method_3_code (3 : Nat) (Option.none : Option Jvm.ClassFile.FieldType)) ∈ tblG := tG 403 (by decide +kernel) rfl
theorem t404 : (Cond.methodLink "BeltSums" (48 : Nat) ({ cls := "BeltSums", name := "recorded", desc := "(I)I" } : Jvm.MethodName)) ∈ tblG := tG 404 (by decide +kernel) rfl
theorem t406 : (Cond.instanceMethod ({ cls := "BeltSums", name := "recorded", desc := "(I)I" } : Jvm.MethodName)) ∈ tblG := tG 406 (by decide +kernel) rfl
theorem t407 : (Cond.code ({ cls := "BeltSums", name := "recorded", desc := "(I)I" } : Jvm.MethodName) prog_1_method_27_code (2 : Nat) (Option.some Jvm.ClassFile.FieldType.int)) ∈ tblG := tG 407 (by decide +kernel) rfl
theorem t408 : (Cond.methodLink "BeltSums" (279 : Nat) ({ cls := "BeltSums", name := "isError", desc := "(I)Z" } : Jvm.MethodName)) ∈ tblG := tG 408 (by decide +kernel) rfl
theorem t409 : (Cond.static ({ cls := "BeltSums", name := "isError", desc := "(I)Z" } : Jvm.MethodName)) ∈ tblG := tG 409 (by decide +kernel) rfl
theorem t410 : (Cond.code ({ cls := "BeltSums", name := "isError", desc := "(I)Z" } : Jvm.MethodName) prog_1_method_29_code (1 : Nat) (Option.some Jvm.ClassFile.FieldType.boolean)) ∈ tblG := tG 410 (by decide +kernel) rfl
theorem t411 : (Cond.constant "BeltSums" (94 : Nat) (-1000004 : Int32)) ∈ tblG := tG 411 (by decide +kernel) rfl
theorem t412 : (Cond.constant "BeltSums" (93 : Nat) (-1000001 : Int32)) ∈ tblG := tG 412 (by decide +kernel) rfl
theorem t413 : (Cond.methodLink "BeltSums" (273 : Nat) ({ cls := "BeltSums$History", name := "push", desc := "(LBeltSums$Plant;)V" } : Jvm.MethodName)) ∈ tblG := tG 413 (by decide +kernel) rfl
theorem t414 : (Cond.instanceMethod ({ cls := "BeltSums$History", name := "push", desc := "(LBeltSums$Plant;)V" } : Jvm.MethodName)) ∈ tblG := tG 414 (by decide +kernel) rfl
theorem t415 : (Cond.selects "BeltSums$History" ({ cls := "BeltSums$History", name := "push", desc := "(LBeltSums$Plant;)V" } : Jvm.MethodName) ({ cls := "BeltSums$History", name := "push", desc := "(LBeltSums$Plant;)V" } : Jvm.MethodName)) ∈ tblG := tG 415 (by decide +kernel) rfl
theorem t416 : (Cond.code ({ cls := "BeltSums$History", name := "push", desc := "(LBeltSums$Plant;)V" } : Jvm.MethodName) prog_6_method_2_code (3 : Nat) (Option.none : Option Jvm.ClassFile.FieldType)) ∈ tblG := tG 416 (by decide +kernel) rfl
theorem t417 : (Cond.methodLink "BeltSums$History" (27 : Nat) ({ cls := "BeltSums$Plant", name := "copyFrom", desc := "(LBeltSums$Plant;)V" } : Jvm.MethodName)) ∈ tblG := tG 417 (by decide +kernel) rfl
theorem t418 : (Cond.methodLink "BeltSums$History" (35 : Nat) ({ cls := "java/lang/Math", name := "min", desc := "(II)I" } : Jvm.MethodName)) ∈ tblG := tG 418 (by decide +kernel) rfl
theorem t419 : (Cond.methodLink "BeltSumsLaw" (18 : Nat) ({ cls := "BeltSums", name := "gate", desc := "(I)I" } : Jvm.MethodName)) ∈ tblG := tG 419 (by decide +kernel) rfl
theorem t420 : (Cond.instanceMethod ({ cls := "BeltSums", name := "gate", desc := "(I)I" } : Jvm.MethodName)) ∈ tblG := tG 420 (by decide +kernel) rfl
theorem t421 : (Cond.selects "BeltSums" ({ cls := "BeltSums", name := "gate", desc := "(I)I" } : Jvm.MethodName) ({ cls := "BeltSums", name := "gate", desc := "(I)I" } : Jvm.MethodName)) ∈ tblG := tG 421 (by decide +kernel) rfl
theorem t422 : (Cond.code ({ cls := "BeltSums", name := "gate", desc := "(I)I" } : Jvm.MethodName) prog_1_method_3_code (2 : Nat) (Option.some Jvm.ClassFile.FieldType.int)) ∈ tblG := tG 422 (by decide +kernel) rfl
theorem t423 : (Cond.methodLink "BeltSums" (52 : Nat) ({ cls := "BeltSums$Plant", name := "setGate", desc := "(I)I" } : Jvm.MethodName)) ∈ tblG := tG 423 (by decide +kernel) rfl
theorem t424 : (Cond.instanceMethod ({ cls := "BeltSums$Plant", name := "setGate", desc := "(I)I" } : Jvm.MethodName)) ∈ tblG := tG 424 (by decide +kernel) rfl
theorem t425 : (Cond.selects "BeltSums$Plant" ({ cls := "BeltSums$Plant", name := "setGate", desc := "(I)I" } : Jvm.MethodName) ({ cls := "BeltSums$Plant", name := "setGate", desc := "(I)I" } : Jvm.MethodName)) ∈ tblG := tG 425 (by decide +kernel) rfl
theorem t426 : (Cond.code ({ cls := "BeltSums$Plant", name := "setGate", desc := "(I)I" } : Jvm.MethodName) prog_8_method_5_code (3 : Nat) (Option.some Jvm.ClassFile.FieldType.int)) ∈ tblG := tG 426 (by decide +kernel) rfl
theorem t427 : (Cond.methodLink "BeltSumsLaw" (23 : Nat) ({ cls := "BeltSums", name := "run", desc := "(I)I" } : Jvm.MethodName)) ∈ tblG := tG 427 (by decide +kernel) rfl
theorem t428 : (Cond.instanceMethod ({ cls := "BeltSums", name := "run", desc := "(I)I" } : Jvm.MethodName)) ∈ tblG := tG 428 (by decide +kernel) rfl
theorem t429 : (Cond.selects "BeltSums" ({ cls := "BeltSums", name := "run", desc := "(I)I" } : Jvm.MethodName) ({ cls := "BeltSums", name := "run", desc := "(I)I" } : Jvm.MethodName)) ∈ tblG := tG 429 (by decide +kernel) rfl
theorem t430 : (Cond.code ({ cls := "BeltSums", name := "run", desc := "(I)I" } : Jvm.MethodName) prog_1_method_4_code (2 : Nat) (Option.some Jvm.ClassFile.FieldType.int)) ∈ tblG := tG 430 (by decide +kernel) rfl
theorem t431 : (Cond.methodLink "BeltSums" (55 : Nat) ({ cls := "BeltSums$Plant", name := "switchBelt", desc := "(I)I" } : Jvm.MethodName)) ∈ tblG := tG 431 (by decide +kernel) rfl
theorem t432 : (Cond.instanceMethod ({ cls := "BeltSums$Plant", name := "switchBelt", desc := "(I)I" } : Jvm.MethodName)) ∈ tblG := tG 432 (by decide +kernel) rfl
theorem t433 : (Cond.selects "BeltSums$Plant" ({ cls := "BeltSums$Plant", name := "switchBelt", desc := "(I)I" } : Jvm.MethodName) ({ cls := "BeltSums$Plant", name := "switchBelt", desc := "(I)I" } : Jvm.MethodName)) ∈ tblG := tG 433 (by decide +kernel) rfl
theorem t434 : (Cond.code ({ cls := "BeltSums$Plant", name := "switchBelt", desc := "(I)I" } : Jvm.MethodName) prog_8_method_6_code (3 : Nat) (Option.some Jvm.ClassFile.FieldType.int)) ∈ tblG := tG 434 (by decide +kernel) rfl
theorem t435 : (Cond.methodLink "BeltSums$Plant" (115 : Nat) ({ cls := "BeltSums$Plant", name := "hasBatch", desc := "()Z" } : Jvm.MethodName)) ∈ tblG := tG 435 (by decide +kernel) rfl
theorem t436 : (Cond.instanceMethod ({ cls := "BeltSums$Plant", name := "hasBatch", desc := "()Z" } : Jvm.MethodName)) ∈ tblG := tG 436 (by decide +kernel) rfl
theorem t437 : (Cond.selects "BeltSums$Plant" ({ cls := "BeltSums$Plant", name := "hasBatch", desc := "()Z" } : Jvm.MethodName) ({ cls := "BeltSums$Plant", name := "hasBatch", desc := "()Z" } : Jvm.MethodName)) ∈ tblG := tG 437 (by decide +kernel) rfl
theorem t438 : (Cond.code ({ cls := "BeltSums$Plant", name := "hasBatch", desc := "()Z" } : Jvm.MethodName) prog_8_method_3_code (1 : Nat) (Option.some Jvm.ClassFile.FieldType.boolean)) ∈ tblG := tG 438 (by decide +kernel) rfl
theorem t439 : (Cond.constant "BeltSums$Plant" (119 : Nat) (-1000002 : Int32)) ∈ tblG := tG 439 (by decide +kernel) rfl
theorem t440 : (Cond.methodLink "BeltSumsLaw" (27 : Nat) ({ cls := "BeltSums", name := "bin", desc := "()I" } : Jvm.MethodName)) ∈ tblG := tG 440 (by decide +kernel) rfl
theorem t441 : (Cond.instanceMethod ({ cls := "BeltSums", name := "bin", desc := "()I" } : Jvm.MethodName)) ∈ tblG := tG 441 (by decide +kernel) rfl
theorem t442 : (Cond.selects "BeltSums" ({ cls := "BeltSums", name := "bin", desc := "()I" } : Jvm.MethodName) ({ cls := "BeltSums", name := "bin", desc := "()I" } : Jvm.MethodName)) ∈ tblG := tG 442 (by decide +kernel) rfl
theorem t443 : (Cond.code ({ cls := "BeltSums", name := "bin", desc := "()I" } : Jvm.MethodName) prog_1_method_5_code (1 : Nat) (Option.some Jvm.ClassFile.FieldType.int)) ∈ tblG := tG 443 (by decide +kernel) rfl
theorem t444 : (Cond.methodLink "BeltSums" (58 : Nat) ({ cls := "BeltSums$Plant", name := "putBin", desc := "()I" } : Jvm.MethodName)) ∈ tblG := tG 444 (by decide +kernel) rfl
theorem t445 : (Cond.instanceMethod ({ cls := "BeltSums$Plant", name := "putBin", desc := "()I" } : Jvm.MethodName)) ∈ tblG := tG 445 (by decide +kernel) rfl
theorem t446 : (Cond.selects "BeltSums$Plant" ({ cls := "BeltSums$Plant", name := "putBin", desc := "()I" } : Jvm.MethodName) ({ cls := "BeltSums$Plant", name := "putBin", desc := "()I" } : Jvm.MethodName)) ∈ tblG := tG 446 (by decide +kernel) rfl
theorem t447 : (Cond.code ({ cls := "BeltSums$Plant", name := "putBin", desc := "()I" } : Jvm.MethodName) prog_8_method_7_code (1 : Nat) (Option.some Jvm.ClassFile.FieldType.int)) ∈ tblG := tG 447 (by decide +kernel) rfl
theorem t448 : (Cond.methodLink "BeltSumsLaw" (32 : Nat) ({ cls := "BeltSums", name := "batch", desc := "(I)I" } : Jvm.MethodName)) ∈ tblG := tG 448 (by decide +kernel) rfl
theorem t449 : (Cond.instanceMethod ({ cls := "BeltSums", name := "batch", desc := "(I)I" } : Jvm.MethodName)) ∈ tblG := tG 449 (by decide +kernel) rfl
theorem t450 : (Cond.selects "BeltSums" ({ cls := "BeltSums", name := "batch", desc := "(I)I" } : Jvm.MethodName) ({ cls := "BeltSums", name := "batch", desc := "(I)I" } : Jvm.MethodName)) ∈ tblG := tG 450 (by decide +kernel) rfl
theorem t451 : (Cond.code ({ cls := "BeltSums", name := "batch", desc := "(I)I" } : Jvm.MethodName) prog_1_method_6_code (2 : Nat) (Option.some Jvm.ClassFile.FieldType.int)) ∈ tblG := tG 451 (by decide +kernel) rfl
theorem t452 : (Cond.methodLink "BeltSums" (62 : Nat) ({ cls := "BeltSums$Plant", name := "beginBatch", desc := "(I)I" } : Jvm.MethodName)) ∈ tblG := tG 452 (by decide +kernel) rfl
theorem t453 : (Cond.instanceMethod ({ cls := "BeltSums$Plant", name := "beginBatch", desc := "(I)I" } : Jvm.MethodName)) ∈ tblG := tG 453 (by decide +kernel) rfl
theorem t454 : (Cond.selects "BeltSums$Plant" ({ cls := "BeltSums$Plant", name := "beginBatch", desc := "(I)I" } : Jvm.MethodName) ({ cls := "BeltSums$Plant", name := "beginBatch", desc := "(I)I" } : Jvm.MethodName)) ∈ tblG := tG 454 (by decide +kernel) rfl
theorem t455 : (Cond.code ({ cls := "BeltSums$Plant", name := "beginBatch", desc := "(I)I" } : Jvm.MethodName) prog_8_method_8_code (2 : Nat) (Option.some Jvm.ClassFile.FieldType.int)) ∈ tblG := tG 455 (by decide +kernel) rfl
theorem t456 : (Cond.methodLink "BeltSumsLaw" (36 : Nat) ({ cls := "BeltSums", name := "tick", desc := "(I)I" } : Jvm.MethodName)) ∈ tblG := tG 456 (by decide +kernel) rfl
theorem t457 : (Cond.instanceMethod ({ cls := "BeltSums", name := "tick", desc := "(I)I" } : Jvm.MethodName)) ∈ tblG := tG 457 (by decide +kernel) rfl
theorem t458 : (Cond.selects "BeltSums" ({ cls := "BeltSums", name := "tick", desc := "(I)I" } : Jvm.MethodName) ({ cls := "BeltSums", name := "tick", desc := "(I)I" } : Jvm.MethodName)) ∈ tblG := tG 458 (by decide +kernel) rfl
theorem t459 : (Cond.code ({ cls := "BeltSums", name := "tick", desc := "(I)I" } : Jvm.MethodName) prog_1_method_7_code (2 : Nat) (Option.some Jvm.ClassFile.FieldType.int)) ∈ tblG := tG 459 (by decide +kernel) rfl
theorem t460 : (Cond.methodLink "BeltSums" (65 : Nat) ({ cls := "BeltSums$Plant", name := "passTicks", desc := "(I)I" } : Jvm.MethodName)) ∈ tblG := tG 460 (by decide +kernel) rfl
theorem t461 : (Cond.instanceMethod ({ cls := "BeltSums$Plant", name := "passTicks", desc := "(I)I" } : Jvm.MethodName)) ∈ tblG := tG 461 (by decide +kernel) rfl
theorem t462 : (Cond.selects "BeltSums$Plant" ({ cls := "BeltSums$Plant", name := "passTicks", desc := "(I)I" } : Jvm.MethodName) ({ cls := "BeltSums$Plant", name := "passTicks", desc := "(I)I" } : Jvm.MethodName)) ∈ tblG := tG 462 (by decide +kernel) rfl
theorem t463 : (Cond.code ({ cls := "BeltSums$Plant", name := "passTicks", desc := "(I)I" } : Jvm.MethodName) prog_8_method_9_code (4 : Nat) (Option.some Jvm.ClassFile.FieldType.int)) ∈ tblG := tG 463 (by decide +kernel) rfl
theorem t464 : (Cond.methodLink "BeltSums$Plant" (126 : Nat) ({ cls := "BeltSums$Plant", name := "passTick", desc := "()I" } : Jvm.MethodName)) ∈ tblG := tG 464 (by decide +kernel) rfl
theorem t465 : (Cond.instanceMethod ({ cls := "BeltSums$Plant", name := "passTick", desc := "()I" } : Jvm.MethodName)) ∈ tblG := tG 465 (by decide +kernel) rfl
theorem t466 : (Cond.selects "BeltSums$Plant" ({ cls := "BeltSums$Plant", name := "passTick", desc := "()I" } : Jvm.MethodName) ({ cls := "BeltSums$Plant", name := "passTick", desc := "()I" } : Jvm.MethodName)) ∈ tblG := tG 466 (by decide +kernel) rfl
theorem t467 : (Cond.code ({ cls := "BeltSums$Plant", name := "passTick", desc := "()I" } : Jvm.MethodName) prog_8_method_10_code (3 : Nat) (Option.some Jvm.ClassFile.FieldType.int)) ∈ tblG := tG 467 (by decide +kernel) rfl
theorem t468 : (Cond.methodLink "BeltSums$Plant" (133 : Nat) ({ cls := "BeltSums$Plant", name := "wantsMore", desc := "()Z" } : Jvm.MethodName)) ∈ tblG := tG 468 (by decide +kernel) rfl
theorem t470 : (Cond.instanceMethod ({ cls := "BeltSums$Plant", name := "wantsMore", desc := "()Z" } : Jvm.MethodName)) ∈ tblG := tG 470 (by decide +kernel) rfl
theorem t471 : (Cond.code ({ cls := "BeltSums$Plant", name := "wantsMore", desc := "()Z" } : Jvm.MethodName) prog_8_method_11_code (1 : Nat) (Option.some Jvm.ClassFile.FieldType.boolean)) ∈ tblG := tG 471 (by decide +kernel) rfl
theorem t472 : (Cond.methodLink "BeltSums$Plant" (136 : Nat) ({ cls := "BeltSums$Plant", name := "dropAtEnd", desc := "()I" } : Jvm.MethodName)) ∈ tblG := tG 472 (by decide +kernel) rfl
theorem t474 : (Cond.instanceMethod ({ cls := "BeltSums$Plant", name := "dropAtEnd", desc := "()I" } : Jvm.MethodName)) ∈ tblG := tG 474 (by decide +kernel) rfl
theorem t475 : (Cond.code ({ cls := "BeltSums$Plant", name := "dropAtEnd", desc := "()I" } : Jvm.MethodName) prog_8_method_12_code (4 : Nat) (Option.some Jvm.ClassFile.FieldType.int)) ∈ tblG := tG 475 (by decide +kernel) rfl
theorem t476 : (Cond.methodLink "BeltSums$Plant" (162 : Nat) ({ cls := "BeltSums$Belt", name := "mass", desc := "(II)I" } : Jvm.MethodName)) ∈ tblG := tG 476 (by decide +kernel) rfl
theorem t477 : (Cond.instanceMethod ({ cls := "BeltSums$Belt", name := "mass", desc := "(II)I" } : Jvm.MethodName)) ∈ tblG := tG 477 (by decide +kernel) rfl
theorem t478 : (Cond.selects "BeltSums$Belt" ({ cls := "BeltSums$Belt", name := "mass", desc := "(II)I" } : Jvm.MethodName) ({ cls := "BeltSums$Belt", name := "mass", desc := "(II)I" } : Jvm.MethodName)) ∈ tblG := tG 478 (by decide +kernel) rfl
theorem t479 : (Cond.code ({ cls := "BeltSums$Belt", name := "mass", desc := "(II)I" } : Jvm.MethodName) prog_3_method_3_code (3 : Nat) (Option.some Jvm.ClassFile.FieldType.int)) ∈ tblG := tG 479 (by decide +kernel) rfl
theorem t480 : (Cond.methodLink "BeltSums$Plant" (166 : Nat) ({ cls := "BeltSums$Belt", name := "take", desc := "(III)V" } : Jvm.MethodName)) ∈ tblG := tG 480 (by decide +kernel) rfl
theorem t481 : (Cond.instanceMethod ({ cls := "BeltSums$Belt", name := "take", desc := "(III)V" } : Jvm.MethodName)) ∈ tblG := tG 481 (by decide +kernel) rfl
theorem t482 : (Cond.selects "BeltSums$Belt" ({ cls := "BeltSums$Belt", name := "take", desc := "(III)V" } : Jvm.MethodName) ({ cls := "BeltSums$Belt", name := "take", desc := "(III)V" } : Jvm.MethodName)) ∈ tblG := tG 482 (by decide +kernel) rfl
theorem t483 : (Cond.code ({ cls := "BeltSums$Belt", name := "take", desc := "(III)V" } : Jvm.MethodName) prog_3_method_4_code (4 : Nat) (Option.none : Option Jvm.ClassFile.FieldType)) ∈ tblG := tG 483 (by decide +kernel) rfl
theorem t484 : (Cond.methodLink "BeltSums$Plant" (170 : Nat) ({ cls := "BeltSums$Bins", name := "addToPresent", desc := "(II)V" } : Jvm.MethodName)) ∈ tblG := tG 484 (by decide +kernel) rfl
theorem t485 : (Cond.instanceMethod ({ cls := "BeltSums$Bins", name := "addToPresent", desc := "(II)V" } : Jvm.MethodName)) ∈ tblG := tG 485 (by decide +kernel) rfl
theorem t486 : (Cond.selects "BeltSums$Bins" ({ cls := "BeltSums$Bins", name := "addToPresent", desc := "(II)V" } : Jvm.MethodName) ({ cls := "BeltSums$Bins", name := "addToPresent", desc := "(II)V" } : Jvm.MethodName)) ∈ tblG := tG 486 (by decide +kernel) rfl
theorem t487 : (Cond.code ({ cls := "BeltSums$Bins", name := "addToPresent", desc := "(II)V" } : Jvm.MethodName) prog_4_method_4_code (3 : Nat) (Option.none : Option Jvm.ClassFile.FieldType)) ∈ tblG := tG 487 (by decide +kernel) rfl
theorem t488 : (Cond.methodLink "BeltSums$Plant" (173 : Nat) ({ cls := "BeltSums$Accounts", name := "enter", desc := "(II)V" } : Jvm.MethodName)) ∈ tblG := tG 488 (by decide +kernel) rfl
theorem t489 : (Cond.instanceMethod ({ cls := "BeltSums$Accounts", name := "enter", desc := "(II)V" } : Jvm.MethodName)) ∈ tblG := tG 489 (by decide +kernel) rfl
theorem t490 : (Cond.selects "BeltSums$Accounts" ({ cls := "BeltSums$Accounts", name := "enter", desc := "(II)V" } : Jvm.MethodName) ({ cls := "BeltSums$Accounts", name := "enter", desc := "(II)V" } : Jvm.MethodName)) ∈ tblG := tG 490 (by decide +kernel) rfl
theorem t491 : (Cond.code ({ cls := "BeltSums$Accounts", name := "enter", desc := "(II)V" } : Jvm.MethodName) prog_2_method_6_code (3 : Nat) (Option.none : Option Jvm.ClassFile.FieldType)) ∈ tblG := tG 491 (by decide +kernel) rfl
theorem t492 : (Cond.methodLink "BeltSums$Plant" (176 : Nat) ({ cls := "BeltSums$Bins", name := "countFilledTick", desc := "()V" } : Jvm.MethodName)) ∈ tblG := tG 492 (by decide +kernel) rfl
theorem t493 : (Cond.instanceMethod ({ cls := "BeltSums$Bins", name := "countFilledTick", desc := "()V" } : Jvm.MethodName)) ∈ tblG := tG 493 (by decide +kernel) rfl
theorem t494 : (Cond.selects "BeltSums$Bins" ({ cls := "BeltSums$Bins", name := "countFilledTick", desc := "()V" } : Jvm.MethodName) ({ cls := "BeltSums$Bins", name := "countFilledTick", desc := "()V" } : Jvm.MethodName)) ∈ tblG := tG 494 (by decide +kernel) rfl
theorem t495 : (Cond.code ({ cls := "BeltSums$Bins", name := "countFilledTick", desc := "()V" } : Jvm.MethodName) prog_4_method_6_code (1 : Nat) (Option.none : Option Jvm.ClassFile.FieldType)) ∈ tblG := tG 495 (by decide +kernel) rfl
theorem t496 : (Cond.methodLink "BeltSums$Plant" (139 : Nat) ({ cls := "BeltSums$Belt", name := "goOn", desc := "()V" } : Jvm.MethodName)) ∈ tblG := tG 496 (by decide +kernel) rfl
theorem t497 : (Cond.instanceMethod ({ cls := "BeltSums$Belt", name := "goOn", desc := "()V" } : Jvm.MethodName)) ∈ tblG := tG 497 (by decide +kernel) rfl
theorem t498 : (Cond.selects "BeltSums$Belt" ({ cls := "BeltSums$Belt", name := "goOn", desc := "()V" } : Jvm.MethodName) ({ cls := "BeltSums$Belt", name := "goOn", desc := "()V" } : Jvm.MethodName)) ∈ tblG := tG 498 (by decide +kernel) rfl
theorem t499 : (Cond.code ({ cls := "BeltSums$Belt", name := "goOn", desc := "()V" } : Jvm.MethodName) prog_3_method_6_code (1 : Nat) (Option.none : Option Jvm.ClassFile.FieldType)) ∈ tblG := tG 499 (by decide +kernel) rfl
theorem t500 : (Cond.methodLink "BeltSums$Plant" (142 : Nat) ({ cls := "BeltSums$Plant", name := "feed", desc := "()V" } : Jvm.MethodName)) ∈ tblG := tG 500 (by decide +kernel) rfl
theorem t502 : (Cond.instanceMethod ({ cls := "BeltSums$Plant", name := "feed", desc := "()V" } : Jvm.MethodName)) ∈ tblG := tG 502 (by decide +kernel) rfl
theorem t503 : (Cond.code ({ cls := "BeltSums$Plant", name := "feed", desc := "()V" } : Jvm.MethodName) prog_8_method_13_code (4 : Nat) (Option.none : Option Jvm.ClassFile.FieldType)) ∈ tblG := tG 503 (by decide +kernel) rfl
theorem t504 : (Cond.methodLink "BeltSums$Plant" (182 : Nat) ({ cls := "java/lang/Math", name := "min", desc := "(II)I" } : Jvm.MethodName)) ∈ tblG := tG 504 (by decide +kernel) rfl
theorem t505 : (Cond.methodLink "BeltSums$Plant" (190 : Nat) ({ cls := "BeltSums$Belt", name := "putAtStart", desc := "(II)V" } : Jvm.MethodName)) ∈ tblG := tG 505 (by decide +kernel) rfl
theorem t506 : (Cond.instanceMethod ({ cls := "BeltSums$Belt", name := "putAtStart", desc := "(II)V" } : Jvm.MethodName)) ∈ tblG := tG 506 (by decide +kernel) rfl
theorem t507 : (Cond.selects "BeltSums$Belt" ({ cls := "BeltSums$Belt", name := "putAtStart", desc := "(II)V" } : Jvm.MethodName) ({ cls := "BeltSums$Belt", name := "putAtStart", desc := "(II)V" } : Jvm.MethodName)) ∈ tblG := tG 507 (by decide +kernel) rfl
theorem t508 : (Cond.code ({ cls := "BeltSums$Belt", name := "putAtStart", desc := "(II)V" } : Jvm.MethodName) prog_3_method_5_code (3 : Nat) (Option.none : Option Jvm.ClassFile.FieldType)) ∈ tblG := tG 508 (by decide +kernel) rfl
theorem t509 : (Cond.methodLink "BeltSums$Plant" (193 : Nat) ({ cls := "BeltSums$Hopper", name := "takeFromFirst", desc := "(I)V" } : Jvm.MethodName)) ∈ tblG := tG 509 (by decide +kernel) rfl
theorem t510 : (Cond.instanceMethod ({ cls := "BeltSums$Hopper", name := "takeFromFirst", desc := "(I)V" } : Jvm.MethodName)) ∈ tblG := tG 510 (by decide +kernel) rfl
theorem t511 : (Cond.selects "BeltSums$Hopper" ({ cls := "BeltSums$Hopper", name := "takeFromFirst", desc := "(I)V" } : Jvm.MethodName) ({ cls := "BeltSums$Hopper", name := "takeFromFirst", desc := "(I)V" } : Jvm.MethodName)) ∈ tblG := tG 511 (by decide +kernel) rfl
theorem t512 : (Cond.code ({ cls := "BeltSums$Hopper", name := "takeFromFirst", desc := "(I)V" } : Jvm.MethodName) prog_7_method_4_code (3 : Nat) (Option.none : Option Jvm.ClassFile.FieldType)) ∈ tblG := tG 512 (by decide +kernel) rfl
theorem t513 : (Cond.methodLink "BeltSums$Plant" (145 : Nat) ({ cls := "BeltSums$Plant", name := "spillTooMuch", desc := "()V" } : Jvm.MethodName)) ∈ tblG := tG 513 (by decide +kernel) rfl
theorem t515 : (Cond.instanceMethod ({ cls := "BeltSums$Plant", name := "spillTooMuch", desc := "()V" } : Jvm.MethodName)) ∈ tblG := tG 515 (by decide +kernel) rfl
theorem t516 : (Cond.code ({ cls := "BeltSums$Plant", name := "spillTooMuch", desc := "()V" } : Jvm.MethodName) prog_8_method_14_code (4 : Nat) (Option.none : Option Jvm.ClassFile.FieldType)) ∈ tblG := tG 516 (by decide +kernel) rfl
theorem t517 : (Cond.methodLink "BeltSums$Plant" (196 : Nat) ({ cls := "BeltSums$Belt", name := "massOfPlace", desc := "(I)I" } : Jvm.MethodName)) ∈ tblG := tG 517 (by decide +kernel) rfl
theorem t518 : (Cond.instanceMethod ({ cls := "BeltSums$Belt", name := "massOfPlace", desc := "(I)I" } : Jvm.MethodName)) ∈ tblG := tG 518 (by decide +kernel) rfl
theorem t519 : (Cond.selects "BeltSums$Belt" ({ cls := "BeltSums$Belt", name := "massOfPlace", desc := "(I)I" } : Jvm.MethodName) ({ cls := "BeltSums$Belt", name := "massOfPlace", desc := "(I)I" } : Jvm.MethodName)) ∈ tblG := tG 519 (by decide +kernel) rfl
theorem t520 : (Cond.code ({ cls := "BeltSums$Belt", name := "massOfPlace", desc := "(I)I" } : Jvm.MethodName) prog_3_method_7_code (5 : Nat) (Option.some Jvm.ClassFile.FieldType.int)) ∈ tblG := tG 520 (by decide +kernel) rfl
theorem t521 : (Cond.methodLink "BeltSums$Plant" (148 : Nat) ({ cls := "BeltSums$Belt", name := "massSeen", desc := "()I" } : Jvm.MethodName)) ∈ tblG := tG 521 (by decide +kernel) rfl
theorem t522 : (Cond.instanceMethod ({ cls := "BeltSums$Belt", name := "massSeen", desc := "()I" } : Jvm.MethodName)) ∈ tblG := tG 522 (by decide +kernel) rfl
theorem t523 : (Cond.selects "BeltSums$Belt" ({ cls := "BeltSums$Belt", name := "massSeen", desc := "()I" } : Jvm.MethodName) ({ cls := "BeltSums$Belt", name := "massSeen", desc := "()I" } : Jvm.MethodName)) ∈ tblG := tG 523 (by decide +kernel) rfl
theorem t524 : (Cond.code ({ cls := "BeltSums$Belt", name := "massSeen", desc := "()I" } : Jvm.MethodName) prog_3_method_8_code (3 : Nat) (Option.some Jvm.ClassFile.FieldType.int)) ∈ tblG := tG 524 (by decide +kernel) rfl
theorem t525 : (Cond.methodLink "BeltSums$Belt" (26 : Nat) ({ cls := "BeltSums$Belt", name := "massOfPlace", desc := "(I)I" } : Jvm.MethodName)) ∈ tblG := tG 525 (by decide +kernel) rfl
theorem t526 : (Cond.methodLink "BeltSums$Plant" (151 : Nat) ({ cls := "BeltSums$Scale", name := "weigh", desc := "(I)I" } : Jvm.MethodName)) ∈ tblG := tG 526 (by decide +kernel) rfl
theorem t527 : (Cond.instanceMethod ({ cls := "BeltSums$Scale", name := "weigh", desc := "(I)I" } : Jvm.MethodName)) ∈ tblG := tG 527 (by decide +kernel) rfl
theorem t528 : (Cond.selects "BeltSums$Scale" ({ cls := "BeltSums$Scale", name := "weigh", desc := "(I)I" } : Jvm.MethodName) ({ cls := "BeltSums$Scale", name := "weigh", desc := "(I)I" } : Jvm.MethodName)) ∈ tblG := tG 528 (by decide +kernel) rfl
theorem t529 : (Cond.code ({ cls := "BeltSums$Scale", name := "weigh", desc := "(I)I" } : Jvm.MethodName) prog_10_method_4_code (4 : Nat) (Option.some Jvm.ClassFile.FieldType.int)) ∈ tblG := tG 529 (by decide +kernel) rfl
theorem t530 : (Cond.methodLink "BeltSums$Scale" (27 : Nat) ({ cls := "BeltSums$Scale", name := "reading", desc := "(I)I" } : Jvm.MethodName)) ∈ tblG := tG 530 (by decide +kernel) rfl
theorem t531 : (Cond.instanceMethod ({ cls := "BeltSums$Scale", name := "reading", desc := "(I)I" } : Jvm.MethodName)) ∈ tblG := tG 531 (by decide +kernel) rfl
theorem t532 : (Cond.selects "BeltSums$Scale" ({ cls := "BeltSums$Scale", name := "reading", desc := "(I)I" } : Jvm.MethodName) ({ cls := "BeltSums$Scale", name := "reading", desc := "(I)I" } : Jvm.MethodName)) ∈ tblG := tG 532 (by decide +kernel) rfl
theorem t533 : (Cond.code ({ cls := "BeltSums$Scale", name := "reading", desc := "(I)I" } : Jvm.MethodName) prog_10_method_3_code (2 : Nat) (Option.some Jvm.ClassFile.FieldType.int)) ∈ tblG := tG 533 (by decide +kernel) rfl
theorem t534 : (Cond.methodLink "BeltSums$Plant" (155 : Nat) ({ cls := "BeltSums$Bins", name := "growPresent", desc := "(I)V" } : Jvm.MethodName)) ∈ tblG := tG 534 (by decide +kernel) rfl
theorem t535 : (Cond.instanceMethod ({ cls := "BeltSums$Bins", name := "growPresent", desc := "(I)V" } : Jvm.MethodName)) ∈ tblG := tG 535 (by decide +kernel) rfl
theorem t536 : (Cond.selects "BeltSums$Bins" ({ cls := "BeltSums$Bins", name := "growPresent", desc := "(I)V" } : Jvm.MethodName) ({ cls := "BeltSums$Bins", name := "growPresent", desc := "(I)V" } : Jvm.MethodName)) ∈ tblG := tG 536 (by decide +kernel) rfl
theorem t537 : (Cond.code ({ cls := "BeltSums$Bins", name := "growPresent", desc := "(I)V" } : Jvm.MethodName) prog_4_method_5_code (2 : Nat) (Option.none : Option Jvm.ClassFile.FieldType)) ∈ tblG := tG 537 (by decide +kernel) rfl
theorem t538 : (Cond.methodLink "BeltSums$Plant" (159 : Nat) ({ cls := "BeltSums$Plant", name := "endBatch", desc := "()V" } : Jvm.MethodName)) ∈ tblG := tG 538 (by decide +kernel) rfl
theorem t540 : (Cond.instanceMethod ({ cls := "BeltSums$Plant", name := "endBatch", desc := "()V" } : Jvm.MethodName)) ∈ tblG := tG 540 (by decide +kernel) rfl
theorem t541 : (Cond.code ({ cls := "BeltSums$Plant", name := "endBatch", desc := "()V" } : Jvm.MethodName) prog_8_method_15_code (1 : Nat) (Option.none : Option Jvm.ClassFile.FieldType)) ∈ tblG := tG 541 (by decide +kernel) rfl
theorem t542 : (Cond.methodLink "BeltSumsLaw" (40 : Nat) ({ cls := "BeltSums", name := "zero", desc := "()I" } : Jvm.MethodName)) ∈ tblG := tG 542 (by decide +kernel) rfl
theorem t543 : (Cond.instanceMethod ({ cls := "BeltSums", name := "zero", desc := "()I" } : Jvm.MethodName)) ∈ tblG := tG 543 (by decide +kernel) rfl
theorem t544 : (Cond.selects "BeltSums" ({ cls := "BeltSums", name := "zero", desc := "()I" } : Jvm.MethodName) ({ cls := "BeltSums", name := "zero", desc := "()I" } : Jvm.MethodName)) ∈ tblG := tG 544 (by decide +kernel) rfl
theorem t545 : (Cond.code ({ cls := "BeltSums", name := "zero", desc := "()I" } : Jvm.MethodName) prog_1_method_8_code (1 : Nat) (Option.some Jvm.ClassFile.FieldType.int)) ∈ tblG := tG 545 (by decide +kernel) rfl
theorem t546 : (Cond.methodLink "BeltSums" (68 : Nat) ({ cls := "BeltSums$Plant", name := "setZero", desc := "()I" } : Jvm.MethodName)) ∈ tblG := tG 546 (by decide +kernel) rfl
theorem t547 : (Cond.instanceMethod ({ cls := "BeltSums$Plant", name := "setZero", desc := "()I" } : Jvm.MethodName)) ∈ tblG := tG 547 (by decide +kernel) rfl
theorem t548 : (Cond.selects "BeltSums$Plant" ({ cls := "BeltSums$Plant", name := "setZero", desc := "()I" } : Jvm.MethodName) ({ cls := "BeltSums$Plant", name := "setZero", desc := "()I" } : Jvm.MethodName)) ∈ tblG := tG 548 (by decide +kernel) rfl
theorem t549 : (Cond.code ({ cls := "BeltSums$Plant", name := "setZero", desc := "()I" } : Jvm.MethodName) prog_8_method_16_code (3 : Nat) (Option.some Jvm.ClassFile.FieldType.int)) ∈ tblG := tG 549 (by decide +kernel) rfl
theorem t550 : (Cond.constant "BeltSums$Plant" (202 : Nat) (1000000 : Int32)) ∈ tblG := tG 550 (by decide +kernel) rfl
theorem t551 : (Cond.methodLink "BeltSumsLaw" (44 : Nat) ({ cls := "BeltSums", name := "correct", desc := "(I)I" } : Jvm.MethodName)) ∈ tblG := tG 551 (by decide +kernel) rfl
theorem t552 : (Cond.instanceMethod ({ cls := "BeltSums", name := "correct", desc := "(I)I" } : Jvm.MethodName)) ∈ tblG := tG 552 (by decide +kernel) rfl
theorem t553 : (Cond.selects "BeltSums" ({ cls := "BeltSums", name := "correct", desc := "(I)I" } : Jvm.MethodName) ({ cls := "BeltSums", name := "correct", desc := "(I)I" } : Jvm.MethodName)) ∈ tblG := tG 553 (by decide +kernel) rfl
theorem t554 : (Cond.code ({ cls := "BeltSums", name := "correct", desc := "(I)I" } : Jvm.MethodName) prog_1_method_9_code (2 : Nat) (Option.some Jvm.ClassFile.FieldType.int)) ∈ tblG := tG 554 (by decide +kernel) rfl
theorem t555 : (Cond.methodLink "BeltSums" (71 : Nat) ({ cls := "BeltSums$Plant", name := "correctBy", desc := "(I)I" } : Jvm.MethodName)) ∈ tblG := tG 555 (by decide +kernel) rfl
theorem t556 : (Cond.instanceMethod ({ cls := "BeltSums$Plant", name := "correctBy", desc := "(I)I" } : Jvm.MethodName)) ∈ tblG := tG 556 (by decide +kernel) rfl
theorem t557 : (Cond.selects "BeltSums$Plant" ({ cls := "BeltSums$Plant", name := "correctBy", desc := "(I)I" } : Jvm.MethodName) ({ cls := "BeltSums$Plant", name := "correctBy", desc := "(I)I" } : Jvm.MethodName)) ∈ tblG := tG 557 (by decide +kernel) rfl
theorem t558 : (Cond.code ({ cls := "BeltSums$Plant", name := "correctBy", desc := "(I)I" } : Jvm.MethodName) prog_8_method_17_code (4 : Nat) (Option.some Jvm.ClassFile.FieldType.int)) ∈ tblG := tG 558 (by decide +kernel) rfl
theorem t559 : (Cond.methodLink "BeltSums$Plant" (203 : Nat) ({ cls := "BeltSums$Bins", name := "has", desc := "(I)Z" } : Jvm.MethodName)) ∈ tblG := tG 559 (by decide +kernel) rfl
theorem t560 : (Cond.instanceMethod ({ cls := "BeltSums$Bins", name := "has", desc := "(I)Z" } : Jvm.MethodName)) ∈ tblG := tG 560 (by decide +kernel) rfl
theorem t561 : (Cond.selects "BeltSums$Bins" ({ cls := "BeltSums$Bins", name := "has", desc := "(I)Z" } : Jvm.MethodName) ({ cls := "BeltSums$Bins", name := "has", desc := "(I)Z" } : Jvm.MethodName)) ∈ tblG := tG 561 (by decide +kernel) rfl
theorem t562 : (Cond.code ({ cls := "BeltSums$Bins", name := "has", desc := "(I)Z" } : Jvm.MethodName) prog_4_method_3_code (2 : Nat) (Option.some Jvm.ClassFile.FieldType.boolean)) ∈ tblG := tG 562 (by decide +kernel) rfl
theorem t563 : (Cond.methodLink "BeltSums$Plant" (209 : Nat) ({ cls := "BeltSums$Bins", name := "massOf", desc := "(I)I" } : Jvm.MethodName)) ∈ tblG := tG 563 (by decide +kernel) rfl
theorem t564 : (Cond.instanceMethod ({ cls := "BeltSums$Bins", name := "massOf", desc := "(I)I" } : Jvm.MethodName)) ∈ tblG := tG 564 (by decide +kernel) rfl
theorem t565 : (Cond.selects "BeltSums$Bins" ({ cls := "BeltSums$Bins", name := "massOf", desc := "(I)I" } : Jvm.MethodName) ({ cls := "BeltSums$Bins", name := "massOf", desc := "(I)I" } : Jvm.MethodName)) ∈ tblG := tG 565 (by decide +kernel) rfl
theorem t566 : (Cond.code ({ cls := "BeltSums$Bins", name := "massOf", desc := "(I)I" } : Jvm.MethodName) prog_4_method_7_code (4 : Nat) (Option.some Jvm.ClassFile.FieldType.int)) ∈ tblG := tG 566 (by decide +kernel) rfl
theorem t567 : (Cond.methodLink "BeltSumsLaw" (48 : Nat) ({ cls := "BeltSums", name := "set", desc := "(II)I" } : Jvm.MethodName)) ∈ tblG := tG 567 (by decide +kernel) rfl
theorem t568 : (Cond.instanceMethod ({ cls := "BeltSums", name := "set", desc := "(II)I" } : Jvm.MethodName)) ∈ tblG := tG 568 (by decide +kernel) rfl
theorem t569 : (Cond.selects "BeltSums" ({ cls := "BeltSums", name := "set", desc := "(II)I" } : Jvm.MethodName) ({ cls := "BeltSums", name := "set", desc := "(II)I" } : Jvm.MethodName)) ∈ tblG := tG 569 (by decide +kernel) rfl
theorem t570 : (Cond.code ({ cls := "BeltSums", name := "set", desc := "(II)I" } : Jvm.MethodName) prog_1_method_10_code (3 : Nat) (Option.some Jvm.ClassFile.FieldType.int)) ∈ tblG := tG 570 (by decide +kernel) rfl
theorem t571 : (Cond.methodLink "BeltSums" (74 : Nat) ({ cls := "BeltSums$Plant", name := "changeSetting", desc := "(II)I" } : Jvm.MethodName)) ∈ tblG := tG 571 (by decide +kernel) rfl
theorem t572 : (Cond.instanceMethod ({ cls := "BeltSums$Plant", name := "changeSetting", desc := "(II)I" } : Jvm.MethodName)) ∈ tblG := tG 572 (by decide +kernel) rfl
theorem t573 : (Cond.selects "BeltSums$Plant" ({ cls := "BeltSums$Plant", name := "changeSetting", desc := "(II)I" } : Jvm.MethodName) ({ cls := "BeltSums$Plant", name := "changeSetting", desc := "(II)I" } : Jvm.MethodName)) ∈ tblG := tG 573 (by decide +kernel) rfl
theorem t574 : (Cond.code ({ cls := "BeltSums$Plant", name := "changeSetting", desc := "(II)I" } : Jvm.MethodName) prog_8_method_18_code (4 : Nat) (Option.some Jvm.ClassFile.FieldType.int)) ∈ tblG := tG 574 (by decide +kernel) rfl
theorem t579 : (Cond.methodLink "BeltSumsLaw" (52 : Nat) ({ cls := "BeltSums", name := "account", desc := "(I)I" } : Jvm.MethodName)) ∈ tblG := tG 579 (by decide +kernel) rfl
theorem t580 : (Cond.instanceMethod ({ cls := "BeltSums", name := "account", desc := "(I)I" } : Jvm.MethodName)) ∈ tblG := tG 580 (by decide +kernel) rfl
theorem t581 : (Cond.selects "BeltSums" ({ cls := "BeltSums", name := "account", desc := "(I)I" } : Jvm.MethodName) ({ cls := "BeltSums", name := "account", desc := "(I)I" } : Jvm.MethodName)) ∈ tblG := tG 581 (by decide +kernel) rfl
theorem t582 : (Cond.code ({ cls := "BeltSums", name := "account", desc := "(I)I" } : Jvm.MethodName) prog_1_method_11_code (2 : Nat) (Option.some Jvm.ClassFile.FieldType.int)) ∈ tblG := tG 582 (by decide +kernel) rfl
theorem t583 : (Cond.methodLink "BeltSums" (81 : Nat) ({ cls := "BeltSums$Accounts", name := "add", desc := "(I)I" } : Jvm.MethodName)) ∈ tblG := tG 583 (by decide +kernel) rfl
theorem t584 : (Cond.instanceMethod ({ cls := "BeltSums$Accounts", name := "add", desc := "(I)I" } : Jvm.MethodName)) ∈ tblG := tG 584 (by decide +kernel) rfl
theorem t585 : (Cond.selects "BeltSums$Accounts" ({ cls := "BeltSums$Accounts", name := "add", desc := "(I)I" } : Jvm.MethodName) ({ cls := "BeltSums$Accounts", name := "add", desc := "(I)I" } : Jvm.MethodName)) ∈ tblG := tG 585 (by decide +kernel) rfl
theorem t586 : (Cond.code ({ cls := "BeltSums$Accounts", name := "add", desc := "(I)I" } : Jvm.MethodName) prog_2_method_4_code (2 : Nat) (Option.some Jvm.ClassFile.FieldType.int)) ∈ tblG := tG 586 (by decide +kernel) rfl
theorem t587 : (Cond.methodLink "BeltSums$Accounts" (29 : Nat) ({ cls := "BeltSums$Accounts", name := "has", desc := "(I)Z" } : Jvm.MethodName)) ∈ tblG := tG 587 (by decide +kernel) rfl
theorem t588 : (Cond.instanceMethod ({ cls := "BeltSums$Accounts", name := "has", desc := "(I)Z" } : Jvm.MethodName)) ∈ tblG := tG 588 (by decide +kernel) rfl
theorem t589 : (Cond.selects "BeltSums$Accounts" ({ cls := "BeltSums$Accounts", name := "has", desc := "(I)Z" } : Jvm.MethodName) ({ cls := "BeltSums$Accounts", name := "has", desc := "(I)Z" } : Jvm.MethodName)) ∈ tblG := tG 589 (by decide +kernel) rfl
theorem t590 : (Cond.code ({ cls := "BeltSums$Accounts", name := "has", desc := "(I)Z" } : Jvm.MethodName) prog_2_method_3_code (2 : Nat) (Option.some Jvm.ClassFile.FieldType.boolean)) ∈ tblG := tG 590 (by decide +kernel) rfl
theorem t591 : (Cond.constant "BeltSums$Accounts" (33 : Nat) (-1000001 : Int32)) ∈ tblG := tG 591 (by decide +kernel) rfl
theorem t592 : (Cond.constant "BeltSums$Accounts" (34 : Nat) (-1000003 : Int32)) ∈ tblG := tG 592 (by decide +kernel) rfl
theorem t593 : (Cond.methodLink "BeltSumsLaw" (56 : Nat) ({ cls := "BeltSums", name := "book", desc := "(II)I" } : Jvm.MethodName)) ∈ tblG := tG 593 (by decide +kernel) rfl
theorem t594 : (Cond.instanceMethod ({ cls := "BeltSums", name := "book", desc := "(II)I" } : Jvm.MethodName)) ∈ tblG := tG 594 (by decide +kernel) rfl
theorem t595 : (Cond.selects "BeltSums" ({ cls := "BeltSums", name := "book", desc := "(II)I" } : Jvm.MethodName) ({ cls := "BeltSums", name := "book", desc := "(II)I" } : Jvm.MethodName)) ∈ tblG := tG 595 (by decide +kernel) rfl
theorem t596 : (Cond.code ({ cls := "BeltSums", name := "book", desc := "(II)I" } : Jvm.MethodName) prog_1_method_12_code (3 : Nat) (Option.some Jvm.ClassFile.FieldType.int)) ∈ tblG := tG 596 (by decide +kernel) rfl
theorem t597 : (Cond.methodLink "BeltSums" (86 : Nat) ({ cls := "BeltSums$Accounts", name := "assign", desc := "(II)I" } : Jvm.MethodName)) ∈ tblG := tG 597 (by decide +kernel) rfl
theorem t598 : (Cond.instanceMethod ({ cls := "BeltSums$Accounts", name := "assign", desc := "(II)I" } : Jvm.MethodName)) ∈ tblG := tG 598 (by decide +kernel) rfl
theorem t599 : (Cond.selects "BeltSums$Accounts" ({ cls := "BeltSums$Accounts", name := "assign", desc := "(II)I" } : Jvm.MethodName) ({ cls := "BeltSums$Accounts", name := "assign", desc := "(II)I" } : Jvm.MethodName)) ∈ tblG := tG 599 (by decide +kernel) rfl
theorem t600 : (Cond.code ({ cls := "BeltSums$Accounts", name := "assign", desc := "(II)I" } : Jvm.MethodName) prog_2_method_5_code (4 : Nat) (Option.some Jvm.ClassFile.FieldType.int)) ∈ tblG := tG 600 (by decide +kernel) rfl
theorem t602 : (Cond.methodLink "BeltSumsLaw" (60 : Nat) ({ cls := "BeltSums", name := "accountOf", desc := "(II)I" } : Jvm.MethodName)) ∈ tblG := tG 602 (by decide +kernel) rfl
theorem t603 : (Cond.instanceMethod ({ cls := "BeltSums", name := "accountOf", desc := "(II)I" } : Jvm.MethodName)) ∈ tblG := tG 603 (by decide +kernel) rfl
theorem t604 : (Cond.selects "BeltSums" ({ cls := "BeltSums", name := "accountOf", desc := "(II)I" } : Jvm.MethodName) ({ cls := "BeltSums", name := "accountOf", desc := "(II)I" } : Jvm.MethodName)) ∈ tblG := tG 604 (by decide +kernel) rfl
theorem t605 : (Cond.code ({ cls := "BeltSums", name := "accountOf", desc := "(II)I" } : Jvm.MethodName) prog_1_method_13_code (4 : Nat) (Option.some Jvm.ClassFile.FieldType.int)) ∈ tblG := tG 605 (by decide +kernel) rfl
theorem t606 : (Cond.methodLink "BeltSums" (89 : Nat) ({ cls := "BeltSums$Accounts", name := "has", desc := "(I)Z" } : Jvm.MethodName)) ∈ tblG := tG 606 (by decide +kernel) rfl
theorem t607 : (Cond.methodLink "BeltSums" (102 : Nat) ({ cls := "BeltSums$Accounts", name := "massWithAllUnder", desc := "(I)I" } : Jvm.MethodName)) ∈ tblG := tG 607 (by decide +kernel) rfl
theorem t608 : (Cond.instanceMethod ({ cls := "BeltSums$Accounts", name := "massWithAllUnder", desc := "(I)I" } : Jvm.MethodName)) ∈ tblG := tG 608 (by decide +kernel) rfl
theorem t609 : (Cond.selects "BeltSums$Accounts" ({ cls := "BeltSums$Accounts", name := "massWithAllUnder", desc := "(I)I" } : Jvm.MethodName) ({ cls := "BeltSums$Accounts", name := "massWithAllUnder", desc := "(I)I" } : Jvm.MethodName)) ∈ tblG := tG 609 (by decide +kernel) rfl
theorem t610 : (Cond.code ({ cls := "BeltSums$Accounts", name := "massWithAllUnder", desc := "(I)I" } : Jvm.MethodName) prog_2_method_8_code (4 : Nat) (Option.some Jvm.ClassFile.FieldType.int)) ∈ tblG := tG 610 (by decide +kernel) rfl
theorem t611 : (Cond.methodLink "BeltSums$Accounts" (38 : Nat) ({ cls := "BeltSums$Accounts", name := "isUnder", desc := "(II)Z" } : Jvm.MethodName)) ∈ tblG := tG 611 (by decide +kernel) rfl
theorem t612 : (Cond.instanceMethod ({ cls := "BeltSums$Accounts", name := "isUnder", desc := "(II)Z" } : Jvm.MethodName)) ∈ tblG := tG 612 (by decide +kernel) rfl
theorem t613 : (Cond.selects "BeltSums$Accounts" ({ cls := "BeltSums$Accounts", name := "isUnder", desc := "(II)Z" } : Jvm.MethodName) ({ cls := "BeltSums$Accounts", name := "isUnder", desc := "(II)Z" } : Jvm.MethodName)) ∈ tblG := tG 613 (by decide +kernel) rfl
theorem t614 : (Cond.code ({ cls := "BeltSums$Accounts", name := "isUnder", desc := "(II)Z" } : Jvm.MethodName) prog_2_method_7_code (5 : Nat) (Option.some Jvm.ClassFile.FieldType.boolean)) ∈ tblG := tG 614 (by decide +kernel) rfl
theorem t615 : (Cond.methodLink "BeltSums" (105 : Nat) ({ cls := "BeltSums$Accounts", name := "countUnder", desc := "(I)I" } : Jvm.MethodName)) ∈ tblG := tG 615 (by decide +kernel) rfl
theorem t616 : (Cond.instanceMethod ({ cls := "BeltSums$Accounts", name := "countUnder", desc := "(I)I" } : Jvm.MethodName)) ∈ tblG := tG 616 (by decide +kernel) rfl
theorem t617 : (Cond.selects "BeltSums$Accounts" ({ cls := "BeltSums$Accounts", name := "countUnder", desc := "(I)I" } : Jvm.MethodName) ({ cls := "BeltSums$Accounts", name := "countUnder", desc := "(I)I" } : Jvm.MethodName)) ∈ tblG := tG 617 (by decide +kernel) rfl
theorem t618 : (Cond.code ({ cls := "BeltSums$Accounts", name := "countUnder", desc := "(I)I" } : Jvm.MethodName) prog_2_method_9_code (4 : Nat) (Option.some Jvm.ClassFile.FieldType.int)) ∈ tblG := tG 618 (by decide +kernel) rfl
theorem t619 : (Cond.methodLink "BeltSums" (108 : Nat) ({ cls := "BeltSums$Accounts", name := "depth", desc := "(I)I" } : Jvm.MethodName)) ∈ tblG := tG 619 (by decide +kernel) rfl
theorem t620 : (Cond.instanceMethod ({ cls := "BeltSums$Accounts", name := "depth", desc := "(I)I" } : Jvm.MethodName)) ∈ tblG := tG 620 (by decide +kernel) rfl
theorem t621 : (Cond.selects "BeltSums$Accounts" ({ cls := "BeltSums$Accounts", name := "depth", desc := "(I)I" } : Jvm.MethodName) ({ cls := "BeltSums$Accounts", name := "depth", desc := "(I)I" } : Jvm.MethodName)) ∈ tblG := tG 621 (by decide +kernel) rfl
theorem t622 : (Cond.code ({ cls := "BeltSums$Accounts", name := "depth", desc := "(I)I" } : Jvm.MethodName) prog_2_method_10_code (5 : Nat) (Option.some Jvm.ClassFile.FieldType.int)) ∈ tblG := tG 622 (by decide +kernel) rfl
theorem t623 : (Cond.methodLink "BeltSumsLaw" (64 : Nat) ({ cls := "BeltSums", name := "massAt", desc := "(II)I" } : Jvm.MethodName)) ∈ tblG := tG 623 (by decide +kernel) rfl
theorem t624 : (Cond.instanceMethod ({ cls := "BeltSums", name := "massAt", desc := "(II)I" } : Jvm.MethodName)) ∈ tblG := tG 624 (by decide +kernel) rfl
theorem t625 : (Cond.selects "BeltSums" ({ cls := "BeltSums", name := "massAt", desc := "(II)I" } : Jvm.MethodName) ({ cls := "BeltSums", name := "massAt", desc := "(II)I" } : Jvm.MethodName)) ∈ tblG := tG 625 (by decide +kernel) rfl
theorem t626 : (Cond.code ({ cls := "BeltSums", name := "massAt", desc := "(II)I" } : Jvm.MethodName) prog_1_method_14_code (3 : Nat) (Option.some Jvm.ClassFile.FieldType.int)) ∈ tblG := tG 626 (by decide +kernel) rfl
theorem t627 : (Cond.methodLink "BeltSums" (115 : Nat) ({ cls := "BeltSums$Belt", name := "massOfPlace", desc := "(I)I" } : Jvm.MethodName)) ∈ tblG := tG 627 (by decide +kernel) rfl
theorem t628 : (Cond.methodLink "BeltSums" (120 : Nat) ({ cls := "BeltSums$Belt", name := "mass", desc := "(II)I" } : Jvm.MethodName)) ∈ tblG := tG 628 (by decide +kernel) rfl
theorem t629 : (Cond.methodLink "BeltSumsLaw" (68 : Nat) ({ cls := "BeltSums", name := "lotOf", desc := "(II)I" } : Jvm.MethodName)) ∈ tblG := tG 629 (by decide +kernel) rfl
theorem t630 : (Cond.instanceMethod ({ cls := "BeltSums", name := "lotOf", desc := "(II)I" } : Jvm.MethodName)) ∈ tblG := tG 630 (by decide +kernel) rfl
theorem t631 : (Cond.selects "BeltSums" ({ cls := "BeltSums", name := "lotOf", desc := "(II)I" } : Jvm.MethodName) ({ cls := "BeltSums", name := "lotOf", desc := "(II)I" } : Jvm.MethodName)) ∈ tblG := tG 631 (by decide +kernel) rfl
theorem t632 : (Cond.code ({ cls := "BeltSums", name := "lotOf", desc := "(II)I" } : Jvm.MethodName) prog_1_method_15_code (3 : Nat) (Option.some Jvm.ClassFile.FieldType.int)) ∈ tblG := tG 632 (by decide +kernel) rfl
theorem t633 : (Cond.methodLink "BeltSumsLaw" (72 : Nat) ({ cls := "BeltSums", name := "binOf", desc := "(II)I" } : Jvm.MethodName)) ∈ tblG := tG 633 (by decide +kernel) rfl
theorem t634 : (Cond.instanceMethod ({ cls := "BeltSums", name := "binOf", desc := "(II)I" } : Jvm.MethodName)) ∈ tblG := tG 634 (by decide +kernel) rfl
theorem t635 : (Cond.selects "BeltSums" ({ cls := "BeltSums", name := "binOf", desc := "(II)I" } : Jvm.MethodName) ({ cls := "BeltSums", name := "binOf", desc := "(II)I" } : Jvm.MethodName)) ∈ tblG := tG 635 (by decide +kernel) rfl
theorem t636 : (Cond.code ({ cls := "BeltSums", name := "binOf", desc := "(II)I" } : Jvm.MethodName) prog_1_method_16_code (4 : Nat) (Option.some Jvm.ClassFile.FieldType.int)) ∈ tblG := tG 636 (by decide +kernel) rfl
theorem t637 : (Cond.methodLink "BeltSums" (143 : Nat) ({ cls := "BeltSums$Bins", name := "has", desc := "(I)Z" } : Jvm.MethodName)) ∈ tblG := tG 637 (by decide +kernel) rfl
theorem t638 : (Cond.methodLink "BeltSums" (146 : Nat) ({ cls := "BeltSums", name := "isKind", desc := "(I)Z" } : Jvm.MethodName)) ∈ tblG := tG 638 (by decide +kernel) rfl
theorem t639 : (Cond.methodLink "BeltSums" (150 : Nat) ({ cls := "BeltSums$Bins", name := "massOf", desc := "(I)I" } : Jvm.MethodName)) ∈ tblG := tG 639 (by decide +kernel) rfl
theorem t640 : (Cond.constant "BeltSums" (156 : Nat) (1000000000 : Int32)) ∈ tblG := tG 640 (by decide +kernel) rfl
theorem t641 : (Cond.methodLink "BeltSumsLaw" (76 : Nat) ({ cls := "BeltSums", name := "scale", desc := "(I)I" } : Jvm.MethodName)) ∈ tblG := tG 641 (by decide +kernel) rfl
theorem t642 : (Cond.instanceMethod ({ cls := "BeltSums", name := "scale", desc := "(I)I" } : Jvm.MethodName)) ∈ tblG := tG 642 (by decide +kernel) rfl
theorem t643 : (Cond.selects "BeltSums" ({ cls := "BeltSums", name := "scale", desc := "(I)I" } : Jvm.MethodName) ({ cls := "BeltSums", name := "scale", desc := "(I)I" } : Jvm.MethodName)) ∈ tblG := tG 643 (by decide +kernel) rfl
theorem t644 : (Cond.code ({ cls := "BeltSums", name := "scale", desc := "(I)I" } : Jvm.MethodName) prog_1_method_17_code (3 : Nat) (Option.some Jvm.ClassFile.FieldType.int)) ∈ tblG := tG 644 (by decide +kernel) rfl
theorem t645 : (Cond.methodLink "BeltSums" (164 : Nat) ({ cls := "BeltSums$Belt", name := "massSeen", desc := "()I" } : Jvm.MethodName)) ∈ tblG := tG 645 (by decide +kernel) rfl
theorem t646 : (Cond.methodLink "BeltSums" (167 : Nat) ({ cls := "BeltSums$Scale", name := "reading", desc := "(I)I" } : Jvm.MethodName)) ∈ tblG := tG 646 (by decide +kernel) rfl
theorem t647 : (Cond.constant "BeltSums" (172 : Nat) (1000000 : Int32)) ∈ tblG := tG 647 (by decide +kernel) rfl
theorem t648 : (Cond.methodLink "BeltSums" (182 : Nat) ({ cls := "BeltSums$Scale", name := "toldTotal", desc := "()I" } : Jvm.MethodName)) ∈ tblG := tG 648 (by decide +kernel) rfl
theorem t649 : (Cond.instanceMethod ({ cls := "BeltSums$Scale", name := "toldTotal", desc := "()I" } : Jvm.MethodName)) ∈ tblG := tG 649 (by decide +kernel) rfl
theorem t650 : (Cond.selects "BeltSums$Scale" ({ cls := "BeltSums$Scale", name := "toldTotal", desc := "()I" } : Jvm.MethodName) ({ cls := "BeltSums$Scale", name := "toldTotal", desc := "()I" } : Jvm.MethodName)) ∈ tblG := tG 650 (by decide +kernel) rfl
theorem t651 : (Cond.code ({ cls := "BeltSums$Scale", name := "toldTotal", desc := "()I" } : Jvm.MethodName) prog_10_method_5_code (1 : Nat) (Option.some Jvm.ClassFile.FieldType.int)) ∈ tblG := tG 651 (by decide +kernel) rfl
theorem t652 : (Cond.constantLong "BeltSums$Scale" (31 : Nat) (1000 : Int64)) ∈ tblG := tG 652 (by decide +kernel) rfl
theorem t653 : (Cond.methodLink "BeltSumsLaw" (80 : Nat) ({ cls := "BeltSums", name := "count", desc := "(I)I" } : Jvm.MethodName)) ∈ tblG := tG 653 (by decide +kernel) rfl
theorem t654 : (Cond.instanceMethod ({ cls := "BeltSums", name := "count", desc := "(I)I" } : Jvm.MethodName)) ∈ tblG := tG 654 (by decide +kernel) rfl
theorem t655 : (Cond.selects "BeltSums" ({ cls := "BeltSums", name := "count", desc := "(I)I" } : Jvm.MethodName) ({ cls := "BeltSums", name := "count", desc := "(I)I" } : Jvm.MethodName)) ∈ tblG := tG 655 (by decide +kernel) rfl
theorem t656 : (Cond.code ({ cls := "BeltSums", name := "count", desc := "(I)I" } : Jvm.MethodName) prog_1_method_18_code (3 : Nat) (Option.some Jvm.ClassFile.FieldType.int)) ∈ tblG := tG 656 (by decide +kernel) rfl
theorem t657 : (Cond.methodLink "BeltSums" (206 : Nat) ({ cls := "BeltSums$Plant", name := "hasBatch", desc := "()Z" } : Jvm.MethodName)) ∈ tblG := tG 657 (by decide +kernel) rfl
theorem t658 : (Cond.methodLink "BeltSums" (223 : Nat) ({ cls := "BeltSums$Hopper", name := "massInside", desc := "()I" } : Jvm.MethodName)) ∈ tblG := tG 658 (by decide +kernel) rfl
theorem t659 : (Cond.instanceMethod ({ cls := "BeltSums$Hopper", name := "massInside", desc := "()I" } : Jvm.MethodName)) ∈ tblG := tG 659 (by decide +kernel) rfl
theorem t660 : (Cond.selects "BeltSums$Hopper" ({ cls := "BeltSums$Hopper", name := "massInside", desc := "()I" } : Jvm.MethodName) ({ cls := "BeltSums$Hopper", name := "massInside", desc := "()I" } : Jvm.MethodName)) ∈ tblG := tG 660 (by decide +kernel) rfl
theorem t661 : (Cond.code ({ cls := "BeltSums$Hopper", name := "massInside", desc := "()I" } : Jvm.MethodName) prog_7_method_5_code (3 : Nat) (Option.some Jvm.ClassFile.FieldType.int)) ∈ tblG := tG 661 (by decide +kernel) rfl
theorem t662 : (Cond.methodLink "BeltSums" (229 : Nat) ({ cls := "BeltSums$Bins", name := "massOfAll", desc := "()I" } : Jvm.MethodName)) ∈ tblG := tG 662 (by decide +kernel) rfl
theorem t663 : (Cond.instanceMethod ({ cls := "BeltSums$Bins", name := "massOfAll", desc := "()I" } : Jvm.MethodName)) ∈ tblG := tG 663 (by decide +kernel) rfl
theorem t664 : (Cond.selects "BeltSums$Bins" ({ cls := "BeltSums$Bins", name := "massOfAll", desc := "()I" } : Jvm.MethodName) ({ cls := "BeltSums$Bins", name := "massOfAll", desc := "()I" } : Jvm.MethodName)) ∈ tblG := tG 664 (by decide +kernel) rfl
theorem t665 : (Cond.code ({ cls := "BeltSums$Bins", name := "massOfAll", desc := "()I" } : Jvm.MethodName) prog_4_method_9_code (3 : Nat) (Option.some Jvm.ClassFile.FieldType.int)) ∈ tblG := tG 665 (by decide +kernel) rfl
theorem t666 : (Cond.methodLink "BeltSumsLaw" (84 : Nat) ({ cls := "BeltSums", name := "batchIn", desc := "()I" } : Jvm.MethodName)) ∈ tblG := tG 666 (by decide +kernel) rfl
theorem t667 : (Cond.instanceMethod ({ cls := "BeltSums", name := "batchIn", desc := "()I" } : Jvm.MethodName)) ∈ tblG := tG 667 (by decide +kernel) rfl
theorem t668 : (Cond.selects "BeltSums" ({ cls := "BeltSums", name := "batchIn", desc := "()I" } : Jvm.MethodName) ({ cls := "BeltSums", name := "batchIn", desc := "()I" } : Jvm.MethodName)) ∈ tblG := tG 668 (by decide +kernel) rfl
theorem t669 : (Cond.code ({ cls := "BeltSums", name := "batchIn", desc := "()I" } : Jvm.MethodName) prog_1_method_19_code (1 : Nat) (Option.some Jvm.ClassFile.FieldType.int)) ∈ tblG := tG 669 (by decide +kernel) rfl
theorem t670 : (Cond.methodLink "BeltSums" (242 : Nat) ({ cls := "BeltSums", name := "foretell", desc := "()I" } : Jvm.MethodName)) ∈ tblG := tG 670 (by decide +kernel) rfl
theorem t672 : (Cond.instanceMethod ({ cls := "BeltSums", name := "foretell", desc := "()I" } : Jvm.MethodName)) ∈ tblG := tG 672 (by decide +kernel) rfl
theorem t673 : (Cond.code ({ cls := "BeltSums", name := "foretell", desc := "()I" } : Jvm.MethodName) prog_1_method_28_code (2 : Nat) (Option.some Jvm.ClassFile.FieldType.int)) ∈ tblG := tG 673 (by decide +kernel) rfl
theorem t674 : (Cond.methodLink "BeltSums" (282 : Nat) ({ cls := "BeltSums$Plant", name := "passTick", desc := "()I" } : Jvm.MethodName)) ∈ tblG := tG 674 (by decide +kernel) rfl
theorem t675 : (Cond.constant "BeltSums" (245 : Nat) (-1000002 : Int32)) ∈ tblG := tG 675 (by decide +kernel) rfl
theorem t676 : (Cond.methodLink "BeltSumsLaw" (88 : Nat) ({ cls := "BeltSums", name := "batchOut", desc := "()I" } : Jvm.MethodName)) ∈ tblG := tG 676 (by decide +kernel) rfl
theorem t677 : (Cond.instanceMethod ({ cls := "BeltSums", name := "batchOut", desc := "()I" } : Jvm.MethodName)) ∈ tblG := tG 677 (by decide +kernel) rfl
theorem t678 : (Cond.selects "BeltSums" ({ cls := "BeltSums", name := "batchOut", desc := "()I" } : Jvm.MethodName) ({ cls := "BeltSums", name := "batchOut", desc := "()I" } : Jvm.MethodName)) ∈ tblG := tG 678 (by decide +kernel) rfl
theorem t679 : (Cond.code ({ cls := "BeltSums", name := "batchOut", desc := "()I" } : Jvm.MethodName) prog_1_method_20_code (1 : Nat) (Option.some Jvm.ClassFile.FieldType.int)) ∈ tblG := tG 679 (by decide +kernel) rfl
theorem t680 : (Cond.methodLink "BeltSums" (246 : Nat) ({ cls := "BeltSums$Bins", name := "massOfPresent", desc := "()I" } : Jvm.MethodName)) ∈ tblG := tG 680 (by decide +kernel) rfl
theorem t681 : (Cond.instanceMethod ({ cls := "BeltSums$Bins", name := "massOfPresent", desc := "()I" } : Jvm.MethodName)) ∈ tblG := tG 681 (by decide +kernel) rfl
theorem t682 : (Cond.selects "BeltSums$Bins" ({ cls := "BeltSums$Bins", name := "massOfPresent", desc := "()I" } : Jvm.MethodName) ({ cls := "BeltSums$Bins", name := "massOfPresent", desc := "()I" } : Jvm.MethodName)) ∈ tblG := tG 682 (by decide +kernel) rfl
theorem t683 : (Cond.code ({ cls := "BeltSums$Bins", name := "massOfPresent", desc := "()I" } : Jvm.MethodName) prog_4_method_8_code (1 : Nat) (Option.some Jvm.ClassFile.FieldType.int)) ∈ tblG := tG 683 (by decide +kernel) rfl
theorem t684 : (Cond.methodLink "BeltSums$Bins" (29 : Nat) ({ cls := "BeltSums$Bins", name := "massOf", desc := "(I)I" } : Jvm.MethodName)) ∈ tblG := tG 684 (by decide +kernel) rfl
theorem t685 : (Cond.methodLink "BeltSumsLaw" (92 : Nat) ({ cls := "BeltSums", name := "error", desc := "()I" } : Jvm.MethodName)) ∈ tblG := tG 685 (by decide +kernel) rfl
theorem t686 : (Cond.instanceMethod ({ cls := "BeltSums", name := "error", desc := "()I" } : Jvm.MethodName)) ∈ tblG := tG 686 (by decide +kernel) rfl
theorem t687 : (Cond.selects "BeltSums" ({ cls := "BeltSums", name := "error", desc := "()I" } : Jvm.MethodName) ({ cls := "BeltSums", name := "error", desc := "()I" } : Jvm.MethodName)) ∈ tblG := tG 687 (by decide +kernel) rfl
theorem t688 : (Cond.code ({ cls := "BeltSums", name := "error", desc := "()I" } : Jvm.MethodName) prog_1_method_21_code (1 : Nat) (Option.some Jvm.ClassFile.FieldType.int)) ∈ tblG := tG 688 (by decide +kernel) rfl
theorem t689 : (Cond.methodLink "BeltSumsLaw" (96 : Nat) ({ cls := "BeltSums", name := "undo", desc := "()I" } : Jvm.MethodName)) ∈ tblG := tG 689 (by decide +kernel) rfl
theorem t690 : (Cond.instanceMethod ({ cls := "BeltSums", name := "undo", desc := "()I" } : Jvm.MethodName)) ∈ tblG := tG 690 (by decide +kernel) rfl
theorem t691 : (Cond.selects "BeltSums" ({ cls := "BeltSums", name := "undo", desc := "()I" } : Jvm.MethodName) ({ cls := "BeltSums", name := "undo", desc := "()I" } : Jvm.MethodName)) ∈ tblG := tG 691 (by decide +kernel) rfl
theorem t692 : (Cond.code ({ cls := "BeltSums", name := "undo", desc := "()I" } : Jvm.MethodName) prog_1_method_22_code (1 : Nat) (Option.some Jvm.ClassFile.FieldType.int)) ∈ tblG := tG 692 (by decide +kernel) rfl
theorem t693 : (Cond.methodLink "BeltSums" (252 : Nat) ({ cls := "BeltSums$History", name := "pullInto", desc := "(LBeltSums$Plant;)V" } : Jvm.MethodName)) ∈ tblG := tG 693 (by decide +kernel) rfl
theorem t694 : (Cond.instanceMethod ({ cls := "BeltSums$History", name := "pullInto", desc := "(LBeltSums$Plant;)V" } : Jvm.MethodName)) ∈ tblG := tG 694 (by decide +kernel) rfl
theorem t695 : (Cond.selects "BeltSums$History" ({ cls := "BeltSums$History", name := "pullInto", desc := "(LBeltSums$Plant;)V" } : Jvm.MethodName) ({ cls := "BeltSums$History", name := "pullInto", desc := "(LBeltSums$Plant;)V" } : Jvm.MethodName)) ∈ tblG := tG 695 (by decide +kernel) rfl
theorem t696 : (Cond.code ({ cls := "BeltSums$History", name := "pullInto", desc := "(LBeltSums$Plant;)V" } : Jvm.MethodName) prog_6_method_3_code (3 : Nat) (Option.none : Option Jvm.ClassFile.FieldType)) ∈ tblG := tG 696 (by decide +kernel) rfl
theorem t697 : (Cond.methodLink "BeltSumsLaw" (100 : Nat) ({ cls := "BeltSums", name := "type", desc := "(I)I" } : Jvm.MethodName)) ∈ tblG := tG 697 (by decide +kernel) rfl
theorem t698 : (Cond.instanceMethod ({ cls := "BeltSums", name := "type", desc := "(I)I" } : Jvm.MethodName)) ∈ tblG := tG 698 (by decide +kernel) rfl
theorem t699 : (Cond.selects "BeltSums" ({ cls := "BeltSums", name := "type", desc := "(I)I" } : Jvm.MethodName) ({ cls := "BeltSums", name := "type", desc := "(I)I" } : Jvm.MethodName)) ∈ tblG := tG 699 (by decide +kernel) rfl
theorem t700 : (Cond.code ({ cls := "BeltSums", name := "type", desc := "(I)I" } : Jvm.MethodName) prog_1_method_23_code (2 : Nat) (Option.some Jvm.ClassFile.FieldType.int)) ∈ tblG := tG 700 (by decide +kernel) rfl
theorem t701 : (Cond.constant "BeltSums" (255 : Nat) (-1000003 : Int32)) ∈ tblG := tG 701 (by decide +kernel) rfl
theorem t702 : (Cond.methodLink "BeltSums" (256 : Nat) ({ cls := "BeltSums$Text", name := "append", desc := "(C)V" } : Jvm.MethodName)) ∈ tblG := tG 702 (by decide +kernel) rfl
theorem t703 : (Cond.instanceMethod ({ cls := "BeltSums$Text", name := "append", desc := "(C)V" } : Jvm.MethodName)) ∈ tblG := tG 703 (by decide +kernel) rfl
theorem t704 : (Cond.selects "BeltSums$Text" ({ cls := "BeltSums$Text", name := "append", desc := "(C)V" } : Jvm.MethodName) ({ cls := "BeltSums$Text", name := "append", desc := "(C)V" } : Jvm.MethodName)) ∈ tblG := tG 704 (by decide +kernel) rfl
theorem t705 : (Cond.code ({ cls := "BeltSums$Text", name := "append", desc := "(C)V" } : Jvm.MethodName) prog_11_method_2_code (2 : Nat) (Option.none : Option Jvm.ClassFile.FieldType)) ∈ tblG := tG 705 (by decide +kernel) rfl
theorem t706 : (Cond.methodLink "BeltSumsLaw" (104 : Nat) ({ cls := "BeltSums", name := "clearText", desc := "()I" } : Jvm.MethodName)) ∈ tblG := tG 706 (by decide +kernel) rfl
theorem t707 : (Cond.instanceMethod ({ cls := "BeltSums", name := "clearText", desc := "()I" } : Jvm.MethodName)) ∈ tblG := tG 707 (by decide +kernel) rfl
theorem t708 : (Cond.selects "BeltSums" ({ cls := "BeltSums", name := "clearText", desc := "()I" } : Jvm.MethodName) ({ cls := "BeltSums", name := "clearText", desc := "()I" } : Jvm.MethodName)) ∈ tblG := tG 708 (by decide +kernel) rfl
theorem t709 : (Cond.code ({ cls := "BeltSums", name := "clearText", desc := "()I" } : Jvm.MethodName) prog_1_method_24_code (2 : Nat) (Option.some Jvm.ClassFile.FieldType.int)) ∈ tblG := tG 709 (by decide +kernel) rfl
theorem t710 : (Cond.methodLink "BeltSumsLaw" (108 : Nat) ({ cls := "BeltSums", name := "fault", desc := "(I)I" } : Jvm.MethodName)) ∈ tblG := tG 710 (by decide +kernel) rfl
theorem t711 : (Cond.instanceMethod ({ cls := "BeltSums", name := "fault", desc := "(I)I" } : Jvm.MethodName)) ∈ tblG := tG 711 (by decide +kernel) rfl
theorem t712 : (Cond.selects "BeltSums" ({ cls := "BeltSums", name := "fault", desc := "(I)I" } : Jvm.MethodName) ({ cls := "BeltSums", name := "fault", desc := "(I)I" } : Jvm.MethodName)) ∈ tblG := tG 712 (by decide +kernel) rfl
theorem t713 : (Cond.code ({ cls := "BeltSums", name := "fault", desc := "(I)I" } : Jvm.MethodName) prog_1_method_25_code (2 : Nat) (Option.some Jvm.ClassFile.FieldType.int)) ∈ tblG := tG 713 (by decide +kernel) rfl
theorem t714 : (Cond.methodLink "BeltSums" (260 : Nat) ({ cls := "BeltSums$Rehearsal", name := "perform", desc := "(LBeltSums$Text;LBeltSums$Plant;LBeltSums$Plant;)V" } : Jvm.MethodName)) ∈ tblG := tG 714 (by decide +kernel) rfl
theorem t715 : (Cond.instanceMethod ({ cls := "BeltSums$Rehearsal", name := "perform", desc := "(LBeltSums$Text;LBeltSums$Plant;LBeltSums$Plant;)V" } : Jvm.MethodName)) ∈ tblG := tG 715 (by decide +kernel) rfl
theorem t716 : (Cond.selects "BeltSums$Rehearsal" ({ cls := "BeltSums$Rehearsal", name := "perform", desc := "(LBeltSums$Text;LBeltSums$Plant;LBeltSums$Plant;)V" } : Jvm.MethodName) ({ cls := "BeltSums$Rehearsal", name := "perform", desc := "(LBeltSums$Text;LBeltSums$Plant;LBeltSums$Plant;)V" } : Jvm.MethodName)) ∈ tblG := tG 716 (by decide +kernel) rfl
theorem t717 : (Cond.code ({ cls := "BeltSums$Rehearsal", name := "perform", desc := "(LBeltSums$Text;LBeltSums$Plant;LBeltSums$Plant;)V" } : Jvm.MethodName) prog_9_method_2_code (6 : Nat) (Option.none : Option Jvm.ClassFile.FieldType)) ∈ tblG := tG 717 (by decide +kernel) rfl
theorem t718 : (Cond.methodLink "BeltSums$Rehearsal" (18 : Nat) ({ cls := "BeltSums$Plant", name := "copyFrom", desc := "(LBeltSums$Plant;)V" } : Jvm.MethodName)) ∈ tblG := tG 718 (by decide +kernel) rfl
theorem t719 : (Cond.methodLink "BeltSums$Rehearsal" (42 : Nat) ({ cls := "BeltSums$Command", name := "read", desc := "(LBeltSums$Text;I)Z" } : Jvm.MethodName)) ∈ tblG := tG 719 (by decide +kernel) rfl
theorem t720 : (Cond.instanceMethod ({ cls := "BeltSums$Command", name := "read", desc := "(LBeltSums$Text;I)Z" } : Jvm.MethodName)) ∈ tblG := tG 720 (by decide +kernel) rfl
theorem t721 : (Cond.selects "BeltSums$Command" ({ cls := "BeltSums$Command", name := "read", desc := "(LBeltSums$Text;I)Z" } : Jvm.MethodName) ({ cls := "BeltSums$Command", name := "read", desc := "(LBeltSums$Text;I)Z" } : Jvm.MethodName)) ∈ tblG := tG 721 (by decide +kernel) rfl
theorem t722 : (Cond.code ({ cls := "BeltSums$Command", name := "read", desc := "(LBeltSums$Text;I)Z" } : Jvm.MethodName) prog_5_method_2_code (3 : Nat) (Option.some Jvm.ClassFile.FieldType.boolean)) ∈ tblG := tG 722 (by decide +kernel) rfl
theorem t723 : (Cond.methodLink "BeltSums$Command" (9 : Nat) ({ cls := "BeltSums$Text", name := "at", desc := "(I)I" } : Jvm.MethodName)) ∈ tblG := tG 723 (by decide +kernel) rfl
theorem t724 : (Cond.instanceMethod ({ cls := "BeltSums$Text", name := "at", desc := "(I)I" } : Jvm.MethodName)) ∈ tblG := tG 724 (by decide +kernel) rfl
theorem t725 : (Cond.selects "BeltSums$Text" ({ cls := "BeltSums$Text", name := "at", desc := "(I)I" } : Jvm.MethodName) ({ cls := "BeltSums$Text", name := "at", desc := "(I)I" } : Jvm.MethodName)) ∈ tblG := tG 725 (by decide +kernel) rfl
theorem t726 : (Cond.code ({ cls := "BeltSums$Text", name := "at", desc := "(I)I" } : Jvm.MethodName) prog_11_method_3_code (2 : Nat) (Option.some Jvm.ClassFile.FieldType.int)) ∈ tblG := tG 726 (by decide +kernel) rfl
theorem t727 : (Cond.methodLink "BeltSums$Command" (30 : Nat) ({ cls := "BeltSums$Command", name := "passes", desc := "(LBeltSums$Text;I)Z" } : Jvm.MethodName)) ∈ tblG := tG 727 (by decide +kernel) rfl
theorem t729 : (Cond.instanceMethod ({ cls := "BeltSums$Command", name := "passes", desc := "(LBeltSums$Text;I)Z" } : Jvm.MethodName)) ∈ tblG := tG 729 (by decide +kernel) rfl
theorem t730 : (Cond.code ({ cls := "BeltSums$Command", name := "passes", desc := "(LBeltSums$Text;I)Z" } : Jvm.MethodName) prog_5_method_3_code (3 : Nat) (Option.some Jvm.ClassFile.FieldType.boolean)) ∈ tblG := tG 730 (by decide +kernel) rfl
theorem t731 : (Cond.methodLink "BeltSums$Command" (34 : Nat) ({ cls := "BeltSums$Command", name := "readNumber", desc := "(LBeltSums$Text;)I" } : Jvm.MethodName)) ∈ tblG := tG 731 (by decide +kernel) rfl
theorem t733 : (Cond.instanceMethod ({ cls := "BeltSums$Command", name := "readNumber", desc := "(LBeltSums$Text;)I" } : Jvm.MethodName)) ∈ tblG := tG 733 (by decide +kernel) rfl
theorem t734 : (Cond.code ({ cls := "BeltSums$Command", name := "readNumber", desc := "(LBeltSums$Text;)I" } : Jvm.MethodName) prog_5_method_4_code (5 : Nat) (Option.some Jvm.ClassFile.FieldType.int)) ∈ tblG := tG 734 (by decide +kernel) rfl
theorem t735 : (Cond.methodLink "BeltSums$Command" (38 : Nat) ({ cls := "java/lang/Math", name := "max", desc := "(II)I" } : Jvm.MethodName)) ∈ tblG := tG 735 (by decide +kernel) rfl
theorem t736 : (Cond.static ({ cls := "java/lang/Math", name := "max", desc := "(II)I" } : Jvm.MethodName)) ∈ tblG := tG 736 (by decide +kernel) rfl
theorem t737 : (Cond.code ({ cls := "java/lang/Math", name := "max", desc := "(II)I" } : Jvm.MethodName) prog_14_method_65_code (2 : Nat) (Option.some Jvm.ClassFile.FieldType.int)) ∈ tblG := tG 737 (by decide +kernel) rfl
theorem t738 : (Cond.methodLink "BeltSums$Rehearsal" (46 : Nat) ({ cls := "BeltSums$Command", name := "carryOut", desc := "(LBeltSums$Plant;)I" } : Jvm.MethodName)) ∈ tblG := tG 738 (by decide +kernel) rfl
theorem t739 : (Cond.instanceMethod ({ cls := "BeltSums$Command", name := "carryOut", desc := "(LBeltSums$Plant;)I" } : Jvm.MethodName)) ∈ tblG := tG 739 (by decide +kernel) rfl
theorem t740 : (Cond.selects "BeltSums$Command" ({ cls := "BeltSums$Command", name := "carryOut", desc := "(LBeltSums$Plant;)I" } : Jvm.MethodName) ({ cls := "BeltSums$Command", name := "carryOut", desc := "(LBeltSums$Plant;)I" } : Jvm.MethodName)) ∈ tblG := tG 740 (by decide +kernel) rfl
theorem t741 : (Cond.code ({ cls := "BeltSums$Command", name := "carryOut", desc := "(LBeltSums$Plant;)I" } : Jvm.MethodName) prog_5_method_5_code (2 : Nat) (Option.some Jvm.ClassFile.FieldType.int)) ∈ tblG := tG 741 (by decide +kernel) rfl
theorem t742 : (Cond.methodLink "BeltSums$Command" (44 : Nat) ({ cls := "BeltSums$Plant", name := "putLot", desc := "(II)I" } : Jvm.MethodName)) ∈ tblG := tG 742 (by decide +kernel) rfl
theorem t743 : (Cond.methodLink "BeltSums$Command" (49 : Nat) ({ cls := "BeltSums$Plant", name := "setGate", desc := "(I)I" } : Jvm.MethodName)) ∈ tblG := tG 743 (by decide +kernel) rfl
theorem t744 : (Cond.methodLink "BeltSums$Command" (52 : Nat) ({ cls := "BeltSums$Plant", name := "putBin", desc := "()I" } : Jvm.MethodName)) ∈ tblG := tG 744 (by decide +kernel) rfl
theorem t745 : (Cond.methodLink "BeltSums$Command" (56 : Nat) ({ cls := "BeltSums$Plant", name := "switchBelt", desc := "(I)I" } : Jvm.MethodName)) ∈ tblG := tG 745 (by decide +kernel) rfl
theorem t746 : (Cond.methodLink "BeltSums$Command" (59 : Nat) ({ cls := "BeltSums$Plant", name := "beginBatch", desc := "(I)I" } : Jvm.MethodName)) ∈ tblG := tG 746 (by decide +kernel) rfl
theorem t747 : (Cond.methodLink "BeltSums$Command" (62 : Nat) ({ cls := "BeltSums$Plant", name := "setZero", desc := "()I" } : Jvm.MethodName)) ∈ tblG := tG 747 (by decide +kernel) rfl
theorem t748 : (Cond.methodLink "BeltSums$Command" (65 : Nat) ({ cls := "BeltSums$Plant", name := "correctBy", desc := "(I)I" } : Jvm.MethodName)) ∈ tblG := tG 748 (by decide +kernel) rfl
theorem t749 : (Cond.methodLink "BeltSums$Command" (68 : Nat) ({ cls := "BeltSums$Plant", name := "passTicks", desc := "(I)I" } : Jvm.MethodName)) ∈ tblG := tG 749 (by decide +kernel) rfl
theorem t750 : (Cond.constant "BeltSums$Command" (71 : Nat) (-1000001 : Int32)) ∈ tblG := tG 750 (by decide +kernel) rfl
theorem t752 : (Cond.methodLink "BeltSumsLaw" (112 : Nat) ({ cls := "BeltSums", name := "play", desc := "()I" } : Jvm.MethodName)) ∈ tblG := tG 752 (by decide +kernel) rfl
theorem t753 : (Cond.instanceMethod ({ cls := "BeltSums", name := "play", desc := "()I" } : Jvm.MethodName)) ∈ tblG := tG 753 (by decide +kernel) rfl
theorem t754 : (Cond.selects "BeltSums" ({ cls := "BeltSums", name := "play", desc := "()I" } : Jvm.MethodName) ({ cls := "BeltSums", name := "play", desc := "()I" } : Jvm.MethodName)) ∈ tblG := tG 754 (by decide +kernel) rfl
theorem t755 : (Cond.code ({ cls := "BeltSums", name := "play", desc := "()I" } : Jvm.MethodName) prog_1_method_26_code (1 : Nat) (Option.some Jvm.ClassFile.FieldType.int)) ∈ tblG := tG 755 (by decide +kernel) rfl
theorem t756 : (Cond.classLink "BeltSumsLaw" (10 : Nat) "BeltSumsModel") ∈ tblG := tG 756 (by decide +kernel) rfl
theorem t757 : (Cond.instantiable "BeltSumsModel" (14 : Nat)) ∈ tblG := tG 757 (by decide +kernel) rfl
theorem t758 : (Cond.methodLink "BeltSumsLaw" (12 : Nat) ({ cls := "BeltSumsModel", name := "<init>", desc := "()V" } : Jvm.MethodName)) ∈ tblG := tG 758 (by decide +kernel) rfl
theorem t759 : (Cond.instanceMethod ({ cls := "BeltSumsModel", name := "<init>", desc := "()V" } : Jvm.MethodName)) ∈ tblG := tG 759 (by decide +kernel) rfl
theorem t760 : (Cond.code ({ cls := "BeltSumsModel", name := "<init>", desc := "()V" } : Jvm.MethodName) prog_13_method_1_code (1 : Nat) (Option.none : Option Jvm.ClassFile.FieldType)) ∈ tblG := tG 760 (by decide +kernel) rfl
theorem t761 : (Cond.methodLink "BeltSumsModel" (1 : Nat) ({ cls := "java/lang/Object", name := "<init>", desc := "()V" } : Jvm.MethodName)) ∈ tblG := tG 761 (by decide +kernel) rfl
theorem t762 : (Cond.constant "BeltSumsModel" (28 : Nat) (-1000004 : Int32)) ∈ tblG := tG 762 (by decide +kernel) rfl
theorem t763 : (Cond.fieldLink "BeltSumsModel" (7 : Nat) "BeltSumsModel" "s" "[I") ∈ tblG := tG 763 (by decide +kernel) rfl
theorem t764 : (Cond.fieldLink "BeltSumsModel" (13 : Nat) "BeltSumsModel" "past" "[I") ∈ tblG := tG 764 (by decide +kernel) rfl
theorem t765 : (Cond.fieldLink "BeltSumsModel" (16 : Nat) "BeltSumsModel" "held" "[I") ∈ tblG := tG 765 (by decide +kernel) rfl
theorem t766 : (Cond.fieldLink "BeltSumsModel" (19 : Nat) "BeltSumsModel" "tried" "[I") ∈ tblG := tG 766 (by decide +kernel) rfl
theorem t767 : (Cond.fieldLink "BeltSumsModel" (33 : Nat) "BeltSumsModel" "pasts" "I") ∈ tblG := tG 767 (by decide +kernel) rfl
theorem t768 : (Cond.fieldLink "BeltSumsModel" (29 : Nat) "BeltSumsModel" "runs" "Z") ∈ tblG := tG 768 (by decide +kernel) rfl
theorem t769 : (Cond.fieldLink "BeltSumsModel" (22 : Nat) "BeltSumsModel" "text" "[I") ∈ tblG := tG 769 (by decide +kernel) rfl
theorem t770 : (Cond.fieldLink "BeltSumsModel" (112 : Nat) "BeltSumsModel" "typed" "I") ∈ tblG := tG 770 (by decide +kernel) rfl
theorem t771 : (Cond.fieldLink "BeltSumsModel" (119 : Nat) "BeltSumsModel" "then" "I") ∈ tblG := tG 771 (by decide +kernel) rfl
theorem t772 : (Cond.fieldLink "BeltSumsModel" (125 : Nat) "BeltSumsModel" "spot" "I") ∈ tblG := tG 772 (by decide +kernel) rfl
theorem t773 : (Cond.fieldLink "BeltSumsModel" (173 : Nat) "BeltSumsModel" "cause" "I") ∈ tblG := tG 773 (by decide +kernel) rfl
theorem t774 : (Cond.fieldLink "BeltSumsModel" (164 : Nat) "BeltSumsModel" "commands" "I") ∈ tblG := tG 774 (by decide +kernel) rfl
theorem t775 : (Cond.fieldLink "BeltSumsModel" (131 : Nat) "BeltSumsModel" "kind" "I") ∈ tblG := tG 775 (by decide +kernel) rfl
theorem t776 : (Cond.fieldLink "BeltSumsModel" (25 : Nat) "BeltSumsModel" "told" "[I") ∈ tblG := tG 776 (by decide +kernel) rfl
theorem t777 : (Cond.laysFinal "BeltSumsModel" "BeltSumsModel" "s" "[I") ∈ tblG := tG 777 (by decide +kernel) rfl
theorem t779 : (Cond.laysFinal "BeltSumsModel" "BeltSumsModel" "past" "[I") ∈ tblG := tG 779 (by decide +kernel) rfl
theorem t781 : (Cond.laysFinal "BeltSumsModel" "BeltSumsModel" "held" "[I") ∈ tblG := tG 781 (by decide +kernel) rfl
theorem t783 : (Cond.laysFinal "BeltSumsModel" "BeltSumsModel" "tried" "[I") ∈ tblG := tG 783 (by decide +kernel) rfl
theorem t785 : (Cond.lays "BeltSumsModel" "BeltSumsModel" "pasts" "I") ∈ tblG := tG 785 (by decide +kernel) rfl
theorem t787 : (Cond.lays "BeltSumsModel" "BeltSumsModel" "runs" "Z") ∈ tblG := tG 787 (by decide +kernel) rfl
theorem t789 : (Cond.laysFinal "BeltSumsModel" "BeltSumsModel" "text" "[I") ∈ tblG := tG 789 (by decide +kernel) rfl
theorem t791 : (Cond.lays "BeltSumsModel" "BeltSumsModel" "typed" "I") ∈ tblG := tG 791 (by decide +kernel) rfl
theorem t793 : (Cond.lays "BeltSumsModel" "BeltSumsModel" "then" "I") ∈ tblG := tG 793 (by decide +kernel) rfl
theorem t795 : (Cond.lays "BeltSumsModel" "BeltSumsModel" "spot" "I") ∈ tblG := tG 795 (by decide +kernel) rfl
theorem t797 : (Cond.lays "BeltSumsModel" "BeltSumsModel" "cause" "I") ∈ tblG := tG 797 (by decide +kernel) rfl
theorem t799 : (Cond.lays "BeltSumsModel" "BeltSumsModel" "commands" "I") ∈ tblG := tG 799 (by decide +kernel) rfl
theorem t801 : (Cond.lays "BeltSumsModel" "BeltSumsModel" "kind" "I") ∈ tblG := tG 801 (by decide +kernel) rfl
theorem t803 : (Cond.laysFinal "BeltSumsModel" "BeltSumsModel" "told" "[I") ∈ tblG := tG 803 (by decide +kernel) rfl
theorem t806 : (Cond.methodLink "BeltSumsLaw" (17 : Nat) ({ cls := "BeltSumsModel", name := "lot", desc := "(II)I" } : Jvm.MethodName)) ∈ tblG := tG 806 (by decide +kernel) rfl
theorem t807 : (Cond.instanceMethod ({ cls := "BeltSumsModel", name := "lot", desc := "(II)I" } : Jvm.MethodName)) ∈ tblG := tG 807 (by decide +kernel) rfl
theorem t808 : (Cond.selects "BeltSumsModel" ({ cls := "BeltSumsModel", name := "lot", desc := "(II)I" } : Jvm.MethodName) ({ cls := "BeltSumsModel", name := "lot", desc := "(II)I" } : Jvm.MethodName)) ∈ tblG := tG 808 (by decide +kernel) rfl
theorem t809 : (Cond.code ({ cls := "BeltSumsModel", name := "lot", desc := "(II)I" } : Jvm.MethodName) prog_13_method_7_code (3 : Nat) (Option.some Jvm.ClassFile.FieldType.int)) ∈ tblG := tG 809 (by decide +kernel) rfl
theorem t810 : (Cond.methodLink "BeltSumsModel" (37 : Nat) ({ cls := "BeltSumsModel", name := "in", desc := "(III)Z" } : Jvm.MethodName)) ∈ tblG := tG 810 (by decide +kernel) rfl
theorem t811 : (Cond.static ({ cls := "BeltSumsModel", name := "in", desc := "(III)Z" } : Jvm.MethodName)) ∈ tblG := tG 811 (by decide +kernel) rfl
theorem t812 : (Cond.code ({ cls := "BeltSumsModel", name := "in", desc := "(III)Z" } : Jvm.MethodName) prog_13_method_3_code (3 : Nat) (Option.some Jvm.ClassFile.FieldType.boolean)) ∈ tblG := tG 812 (by decide +kernel) rfl
theorem t813 : (Cond.constant "BeltSumsModel" (41 : Nat) (-1000001 : Int32)) ∈ tblG := tG 813 (by decide +kernel) rfl
theorem t814 : (Cond.constant "BeltSumsModel" (42 : Nat) (-1000003 : Int32)) ∈ tblG := tG 814 (by decide +kernel) rfl
theorem t815 : (Cond.methodLink "BeltSumsModel" (43 : Nat) ({ cls := "BeltSumsModel", name := "changes", desc := "()V" } : Jvm.MethodName)) ∈ tblG := tG 815 (by decide +kernel) rfl
theorem t817 : (Cond.instanceMethod ({ cls := "BeltSumsModel", name := "changes", desc := "()V" } : Jvm.MethodName)) ∈ tblG := tG 817 (by decide +kernel) rfl
theorem t818 : (Cond.code ({ cls := "BeltSumsModel", name := "changes", desc := "()V" } : Jvm.MethodName) prog_13_method_5_code (2 : Nat) (Option.none : Option Jvm.ClassFile.FieldType)) ∈ tblG := tG 818 (by decide +kernel) rfl
theorem t819 : (Cond.methodLink "BeltSumsLaw" (22 : Nat) ({ cls := "BeltSumsModel", name := "gate", desc := "(I)I" } : Jvm.MethodName)) ∈ tblG := tG 819 (by decide +kernel) rfl
theorem t820 : (Cond.instanceMethod ({ cls := "BeltSumsModel", name := "gate", desc := "(I)I" } : Jvm.MethodName)) ∈ tblG := tG 820 (by decide +kernel) rfl
theorem t821 : (Cond.selects "BeltSumsModel" ({ cls := "BeltSumsModel", name := "gate", desc := "(I)I" } : Jvm.MethodName) ({ cls := "BeltSumsModel", name := "gate", desc := "(I)I" } : Jvm.MethodName)) ∈ tblG := tG 821 (by decide +kernel) rfl
theorem t822 : (Cond.code ({ cls := "BeltSumsModel", name := "gate", desc := "(I)I" } : Jvm.MethodName) prog_13_method_8_code (3 : Nat) (Option.some Jvm.ClassFile.FieldType.int)) ∈ tblG := tG 822 (by decide +kernel) rfl
theorem t823 : (Cond.methodLink "BeltSumsLaw" (26 : Nat) ({ cls := "BeltSumsModel", name := "run", desc := "(I)I" } : Jvm.MethodName)) ∈ tblG := tG 823 (by decide +kernel) rfl
theorem t824 : (Cond.instanceMethod ({ cls := "BeltSumsModel", name := "run", desc := "(I)I" } : Jvm.MethodName)) ∈ tblG := tG 824 (by decide +kernel) rfl
theorem t825 : (Cond.selects "BeltSumsModel" ({ cls := "BeltSumsModel", name := "run", desc := "(I)I" } : Jvm.MethodName) ({ cls := "BeltSumsModel", name := "run", desc := "(I)I" } : Jvm.MethodName)) ∈ tblG := tG 825 (by decide +kernel) rfl
theorem t826 : (Cond.code ({ cls := "BeltSumsModel", name := "run", desc := "(I)I" } : Jvm.MethodName) prog_13_method_9_code (3 : Nat) (Option.some Jvm.ClassFile.FieldType.int)) ∈ tblG := tG 826 (by decide +kernel) rfl
theorem t827 : (Cond.methodLink "BeltSumsModel" (46 : Nat) ({ cls := "BeltSumsModel", name := "hasBatch", desc := "()Z" } : Jvm.MethodName)) ∈ tblG := tG 827 (by decide +kernel) rfl
theorem t829 : (Cond.instanceMethod ({ cls := "BeltSumsModel", name := "hasBatch", desc := "()Z" } : Jvm.MethodName)) ∈ tblG := tG 829 (by decide +kernel) rfl
theorem t830 : (Cond.code ({ cls := "BeltSumsModel", name := "hasBatch", desc := "()Z" } : Jvm.MethodName) prog_13_method_6_code (1 : Nat) (Option.some Jvm.ClassFile.FieldType.boolean)) ∈ tblG := tG 830 (by decide +kernel) rfl
theorem t831 : (Cond.constant "BeltSumsModel" (50 : Nat) (-1000002 : Int32)) ∈ tblG := tG 831 (by decide +kernel) rfl
theorem t832 : (Cond.methodLink "BeltSumsLaw" (31 : Nat) ({ cls := "BeltSumsModel", name := "bin", desc := "()I" } : Jvm.MethodName)) ∈ tblG := tG 832 (by decide +kernel) rfl
theorem t833 : (Cond.instanceMethod ({ cls := "BeltSumsModel", name := "bin", desc := "()I" } : Jvm.MethodName)) ∈ tblG := tG 833 (by decide +kernel) rfl
theorem t834 : (Cond.selects "BeltSumsModel" ({ cls := "BeltSumsModel", name := "bin", desc := "()I" } : Jvm.MethodName) ({ cls := "BeltSumsModel", name := "bin", desc := "()I" } : Jvm.MethodName)) ∈ tblG := tG 834 (by decide +kernel) rfl
theorem t835 : (Cond.code ({ cls := "BeltSumsModel", name := "bin", desc := "()I" } : Jvm.MethodName) prog_13_method_10_code (3 : Nat) (Option.some Jvm.ClassFile.FieldType.int)) ∈ tblG := tG 835 (by decide +kernel) rfl
theorem t836 : (Cond.methodLink "BeltSumsLaw" (35 : Nat) ({ cls := "BeltSumsModel", name := "batch", desc := "(I)I" } : Jvm.MethodName)) ∈ tblG := tG 836 (by decide +kernel) rfl
theorem t837 : (Cond.instanceMethod ({ cls := "BeltSumsModel", name := "batch", desc := "(I)I" } : Jvm.MethodName)) ∈ tblG := tG 837 (by decide +kernel) rfl
theorem t838 : (Cond.selects "BeltSumsModel" ({ cls := "BeltSumsModel", name := "batch", desc := "(I)I" } : Jvm.MethodName) ({ cls := "BeltSumsModel", name := "batch", desc := "(I)I" } : Jvm.MethodName)) ∈ tblG := tG 838 (by decide +kernel) rfl
theorem t839 : (Cond.code ({ cls := "BeltSumsModel", name := "batch", desc := "(I)I" } : Jvm.MethodName) prog_13_method_12_code (2 : Nat) (Option.some Jvm.ClassFile.FieldType.int)) ∈ tblG := tG 839 (by decide +kernel) rfl
theorem t840 : (Cond.methodLink "BeltSumsModel" (51 : Nat) ({ cls := "BeltSumsModel", name := "mass", desc := "(II)I" } : Jvm.MethodName)) ∈ tblG := tG 840 (by decide +kernel) rfl
theorem t842 : (Cond.instanceMethod ({ cls := "BeltSumsModel", name := "mass", desc := "(II)I" } : Jvm.MethodName)) ∈ tblG := tG 842 (by decide +kernel) rfl
theorem t843 : (Cond.code ({ cls := "BeltSumsModel", name := "mass", desc := "(II)I" } : Jvm.MethodName) prog_13_method_11_code (5 : Nat) (Option.some Jvm.ClassFile.FieldType.int)) ∈ tblG := tG 843 (by decide +kernel) rfl
theorem t844 : (Cond.methodLink "BeltSumsLaw" (39 : Nat) ({ cls := "BeltSumsModel", name := "tick", desc := "(I)I" } : Jvm.MethodName)) ∈ tblG := tG 844 (by decide +kernel) rfl
theorem t845 : (Cond.instanceMethod ({ cls := "BeltSumsModel", name := "tick", desc := "(I)I" } : Jvm.MethodName)) ∈ tblG := tG 845 (by decide +kernel) rfl
theorem t846 : (Cond.selects "BeltSumsModel" ({ cls := "BeltSumsModel", name := "tick", desc := "(I)I" } : Jvm.MethodName) ({ cls := "BeltSumsModel", name := "tick", desc := "(I)I" } : Jvm.MethodName)) ∈ tblG := tG 846 (by decide +kernel) rfl
theorem t847 : (Cond.code ({ cls := "BeltSumsModel", name := "tick", desc := "(I)I" } : Jvm.MethodName) prog_13_method_19_code (4 : Nat) (Option.some Jvm.ClassFile.FieldType.int)) ∈ tblG := tG 847 (by decide +kernel) rfl
theorem t848 : (Cond.methodLink "BeltSumsModel" (71 : Nat) ({ cls := "BeltSumsModel", name := "ticks", desc := "()V" } : Jvm.MethodName)) ∈ tblG := tG 848 (by decide +kernel) rfl
theorem t850 : (Cond.instanceMethod ({ cls := "BeltSumsModel", name := "ticks", desc := "()V" } : Jvm.MethodName)) ∈ tblG := tG 850 (by decide +kernel) rfl
theorem t851 : (Cond.code ({ cls := "BeltSumsModel", name := "ticks", desc := "()V" } : Jvm.MethodName) prog_13_method_18_code (1 : Nat) (Option.none : Option Jvm.ClassFile.FieldType)) ∈ tblG := tG 851 (by decide +kernel) rfl
theorem t852 : (Cond.methodLink "BeltSumsModel" (68 : Nat) ({ cls := "BeltSumsModel", name := "goes", desc := "()V" } : Jvm.MethodName)) ∈ tblG := tG 852 (by decide +kernel) rfl
theorem t854 : (Cond.instanceMethod ({ cls := "BeltSumsModel", name := "goes", desc := "()V" } : Jvm.MethodName)) ∈ tblG := tG 854 (by decide +kernel) rfl
theorem t855 : (Cond.code ({ cls := "BeltSumsModel", name := "goes", desc := "()V" } : Jvm.MethodName) prog_13_method_17_code (2 : Nat) (Option.none : Option Jvm.ClassFile.FieldType)) ∈ tblG := tG 855 (by decide +kernel) rfl
theorem t856 : (Cond.methodLink "BeltSumsModel" (59 : Nat) ({ cls := "BeltSumsModel", name := "falls", desc := "()V" } : Jvm.MethodName)) ∈ tblG := tG 856 (by decide +kernel) rfl
theorem t858 : (Cond.instanceMethod ({ cls := "BeltSumsModel", name := "falls", desc := "()V" } : Jvm.MethodName)) ∈ tblG := tG 858 (by decide +kernel) rfl
theorem t859 : (Cond.code ({ cls := "BeltSumsModel", name := "falls", desc := "()V" } : Jvm.MethodName) prog_13_method_13_code (5 : Nat) (Option.none : Option Jvm.ClassFile.FieldType)) ∈ tblG := tG 859 (by decide +kernel) rfl
theorem t860 : (Cond.methodLink "BeltSumsModel" (62 : Nat) ({ cls := "BeltSumsModel", name := "feeds", desc := "()V" } : Jvm.MethodName)) ∈ tblG := tG 860 (by decide +kernel) rfl
theorem t862 : (Cond.instanceMethod ({ cls := "BeltSumsModel", name := "feeds", desc := "()V" } : Jvm.MethodName)) ∈ tblG := tG 862 (by decide +kernel) rfl
theorem t863 : (Cond.code ({ cls := "BeltSumsModel", name := "feeds", desc := "()V" } : Jvm.MethodName) prog_13_method_14_code (5 : Nat) (Option.none : Option Jvm.ClassFile.FieldType)) ∈ tblG := tG 863 (by decide +kernel) rfl
theorem t864 : (Cond.methodLink "BeltSumsModel" (65 : Nat) ({ cls := "BeltSumsModel", name := "reads", desc := "()V" } : Jvm.MethodName)) ∈ tblG := tG 864 (by decide +kernel) rfl
theorem t866 : (Cond.instanceMethod ({ cls := "BeltSumsModel", name := "reads", desc := "()V" } : Jvm.MethodName)) ∈ tblG := tG 866 (by decide +kernel) rfl
theorem t867 : (Cond.code ({ cls := "BeltSumsModel", name := "reads", desc := "()V" } : Jvm.MethodName) prog_13_method_16_code (2 : Nat) (Option.none : Option Jvm.ClassFile.FieldType)) ∈ tblG := tG 867 (by decide +kernel) rfl
theorem t868 : (Cond.methodLink "BeltSumsModel" (55 : Nat) ({ cls := "BeltSumsModel", name := "reading", desc := "()I" } : Jvm.MethodName)) ∈ tblG := tG 868 (by decide +kernel) rfl
theorem t870 : (Cond.instanceMethod ({ cls := "BeltSumsModel", name := "reading", desc := "()I" } : Jvm.MethodName)) ∈ tblG := tG 870 (by decide +kernel) rfl
theorem t871 : (Cond.code ({ cls := "BeltSumsModel", name := "reading", desc := "()I" } : Jvm.MethodName) prog_13_method_15_code (1 : Nat) (Option.some Jvm.ClassFile.FieldType.int)) ∈ tblG := tG 871 (by decide +kernel) rfl
theorem t872 : (Cond.methodLink "BeltSumsLaw" (43 : Nat) ({ cls := "BeltSumsModel", name := "zero", desc := "()I" } : Jvm.MethodName)) ∈ tblG := tG 872 (by decide +kernel) rfl
theorem t873 : (Cond.instanceMethod ({ cls := "BeltSumsModel", name := "zero", desc := "()I" } : Jvm.MethodName)) ∈ tblG := tG 873 (by decide +kernel) rfl
theorem t874 : (Cond.selects "BeltSumsModel" ({ cls := "BeltSumsModel", name := "zero", desc := "()I" } : Jvm.MethodName) ({ cls := "BeltSumsModel", name := "zero", desc := "()I" } : Jvm.MethodName)) ∈ tblG := tG 874 (by decide +kernel) rfl
theorem t875 : (Cond.code ({ cls := "BeltSumsModel", name := "zero", desc := "()I" } : Jvm.MethodName) prog_13_method_20_code (2 : Nat) (Option.some Jvm.ClassFile.FieldType.int)) ∈ tblG := tG 875 (by decide +kernel) rfl
theorem t876 : (Cond.constant "BeltSumsModel" (74 : Nat) (1000000 : Int32)) ∈ tblG := tG 876 (by decide +kernel) rfl
theorem t877 : (Cond.methodLink "BeltSumsLaw" (47 : Nat) ({ cls := "BeltSumsModel", name := "correct", desc := "(I)I" } : Jvm.MethodName)) ∈ tblG := tG 877 (by decide +kernel) rfl
theorem t878 : (Cond.instanceMethod ({ cls := "BeltSumsModel", name := "correct", desc := "(I)I" } : Jvm.MethodName)) ∈ tblG := tG 878 (by decide +kernel) rfl
theorem t879 : (Cond.selects "BeltSumsModel" ({ cls := "BeltSumsModel", name := "correct", desc := "(I)I" } : Jvm.MethodName) ({ cls := "BeltSumsModel", name := "correct", desc := "(I)I" } : Jvm.MethodName)) ∈ tblG := tG 879 (by decide +kernel) rfl
theorem t880 : (Cond.code ({ cls := "BeltSumsModel", name := "correct", desc := "(I)I" } : Jvm.MethodName) prog_13_method_23_code (5 : Nat) (Option.some Jvm.ClassFile.FieldType.int)) ∈ tblG := tG 880 (by decide +kernel) rfl
theorem t881 : (Cond.methodLink "BeltSumsModel" (75 : Nat) ({ cls := "BeltSumsModel", name := "isBin", desc := "(I)Z" } : Jvm.MethodName)) ∈ tblG := tG 881 (by decide +kernel) rfl
theorem t883 : (Cond.instanceMethod ({ cls := "BeltSumsModel", name := "isBin", desc := "(I)Z" } : Jvm.MethodName)) ∈ tblG := tG 883 (by decide +kernel) rfl
theorem t884 : (Cond.code ({ cls := "BeltSumsModel", name := "isBin", desc := "(I)Z" } : Jvm.MethodName) prog_13_method_21_code (2 : Nat) (Option.some Jvm.ClassFile.FieldType.boolean)) ∈ tblG := tG 884 (by decide +kernel) rfl
theorem t885 : (Cond.constantLong "BeltSumsModel" (79 : Nat) (1000 : Int64)) ∈ tblG := tG 885 (by decide +kernel) rfl
theorem t886 : (Cond.methodLink "BeltSumsModel" (81 : Nat) ({ cls := "BeltSumsModel", name := "binMass", desc := "(I)I" } : Jvm.MethodName)) ∈ tblG := tG 886 (by decide +kernel) rfl
theorem t888 : (Cond.instanceMethod ({ cls := "BeltSumsModel", name := "binMass", desc := "(I)I" } : Jvm.MethodName)) ∈ tblG := tG 888 (by decide +kernel) rfl
theorem t889 : (Cond.code ({ cls := "BeltSumsModel", name := "binMass", desc := "(I)I" } : Jvm.MethodName) prog_13_method_22_code (3 : Nat) (Option.some Jvm.ClassFile.FieldType.int)) ∈ tblG := tG 889 (by decide +kernel) rfl
theorem t890 : (Cond.constantLong "BeltSumsModel" (85 : Nat) (500 : Int64)) ∈ tblG := tG 890 (by decide +kernel) rfl
theorem t891 : (Cond.constantLong "BeltSumsModel" (87 : Nat) (2000 : Int64)) ∈ tblG := tG 891 (by decide +kernel) rfl
theorem t892 : (Cond.methodLink "BeltSumsLaw" (51 : Nat) ({ cls := "BeltSumsModel", name := "set", desc := "(II)I" } : Jvm.MethodName)) ∈ tblG := tG 892 (by decide +kernel) rfl
theorem t893 : (Cond.instanceMethod ({ cls := "BeltSumsModel", name := "set", desc := "(II)I" } : Jvm.MethodName)) ∈ tblG := tG 893 (by decide +kernel) rfl
theorem t894 : (Cond.selects "BeltSumsModel" ({ cls := "BeltSumsModel", name := "set", desc := "(II)I" } : Jvm.MethodName) ({ cls := "BeltSumsModel", name := "set", desc := "(II)I" } : Jvm.MethodName)) ∈ tblG := tG 894 (by decide +kernel) rfl
theorem t895 : (Cond.code ({ cls := "BeltSumsModel", name := "set", desc := "(II)I" } : Jvm.MethodName) prog_13_method_24_code (4 : Nat) (Option.some Jvm.ClassFile.FieldType.int)) ∈ tblG := tG 895 (by decide +kernel) rfl
theorem t896 : (Cond.methodLink "BeltSumsLaw" (55 : Nat) ({ cls := "BeltSumsModel", name := "account", desc := "(I)I" } : Jvm.MethodName)) ∈ tblG := tG 896 (by decide +kernel) rfl
theorem t897 : (Cond.instanceMethod ({ cls := "BeltSumsModel", name := "account", desc := "(I)I" } : Jvm.MethodName)) ∈ tblG := tG 897 (by decide +kernel) rfl
theorem t898 : (Cond.selects "BeltSumsModel" ({ cls := "BeltSumsModel", name := "account", desc := "(I)I" } : Jvm.MethodName) ({ cls := "BeltSumsModel", name := "account", desc := "(I)I" } : Jvm.MethodName)) ∈ tblG := tG 898 (by decide +kernel) rfl
theorem t899 : (Cond.code ({ cls := "BeltSumsModel", name := "account", desc := "(I)I" } : Jvm.MethodName) prog_13_method_26_code (3 : Nat) (Option.some Jvm.ClassFile.FieldType.int)) ∈ tblG := tG 899 (by decide +kernel) rfl
theorem t900 : (Cond.methodLink "BeltSumsModel" (89 : Nat) ({ cls := "BeltSumsModel", name := "isAccount", desc := "(I)Z" } : Jvm.MethodName)) ∈ tblG := tG 900 (by decide +kernel) rfl
theorem t902 : (Cond.instanceMethod ({ cls := "BeltSumsModel", name := "isAccount", desc := "(I)Z" } : Jvm.MethodName)) ∈ tblG := tG 902 (by decide +kernel) rfl
theorem t903 : (Cond.code ({ cls := "BeltSumsModel", name := "isAccount", desc := "(I)Z" } : Jvm.MethodName) prog_13_method_25_code (2 : Nat) (Option.some Jvm.ClassFile.FieldType.boolean)) ∈ tblG := tG 903 (by decide +kernel) rfl
theorem t904 : (Cond.methodLink "BeltSumsLaw" (59 : Nat) ({ cls := "BeltSumsModel", name := "book", desc := "(II)I" } : Jvm.MethodName)) ∈ tblG := tG 904 (by decide +kernel) rfl
theorem t905 : (Cond.instanceMethod ({ cls := "BeltSumsModel", name := "book", desc := "(II)I" } : Jvm.MethodName)) ∈ tblG := tG 905 (by decide +kernel) rfl
theorem t906 : (Cond.selects "BeltSumsModel" ({ cls := "BeltSumsModel", name := "book", desc := "(II)I" } : Jvm.MethodName) ({ cls := "BeltSumsModel", name := "book", desc := "(II)I" } : Jvm.MethodName)) ∈ tblG := tG 906 (by decide +kernel) rfl
theorem t907 : (Cond.code ({ cls := "BeltSumsModel", name := "book", desc := "(II)I" } : Jvm.MethodName) prog_13_method_27_code (4 : Nat) (Option.some Jvm.ClassFile.FieldType.int)) ∈ tblG := tG 907 (by decide +kernel) rfl
theorem t908 : (Cond.methodLink "BeltSumsLaw" (63 : Nat) ({ cls := "BeltSumsModel", name := "accountOf", desc := "(II)I" } : Jvm.MethodName)) ∈ tblG := tG 908 (by decide +kernel) rfl
theorem t909 : (Cond.instanceMethod ({ cls := "BeltSumsModel", name := "accountOf", desc := "(II)I" } : Jvm.MethodName)) ∈ tblG := tG 909 (by decide +kernel) rfl
theorem t910 : (Cond.selects "BeltSumsModel" ({ cls := "BeltSumsModel", name := "accountOf", desc := "(II)I" } : Jvm.MethodName) ({ cls := "BeltSumsModel", name := "accountOf", desc := "(II)I" } : Jvm.MethodName)) ∈ tblG := tG 910 (by decide +kernel) rfl
theorem t911 : (Cond.code ({ cls := "BeltSumsModel", name := "accountOf", desc := "(II)I" } : Jvm.MethodName) prog_13_method_30_code (7 : Nat) (Option.some Jvm.ClassFile.FieldType.int)) ∈ tblG := tG 911 (by decide +kernel) rfl
theorem t912 : (Cond.methodLink "BeltSumsModel" (92 : Nat) ({ cls := "BeltSumsModel", name := "isUnder", desc := "(II)Z" } : Jvm.MethodName)) ∈ tblG := tG 912 (by decide +kernel) rfl
theorem t914 : (Cond.instanceMethod ({ cls := "BeltSumsModel", name := "isUnder", desc := "(II)Z" } : Jvm.MethodName)) ∈ tblG := tG 914 (by decide +kernel) rfl
theorem t915 : (Cond.code ({ cls := "BeltSumsModel", name := "isUnder", desc := "(II)Z" } : Jvm.MethodName) prog_13_method_28_code (4 : Nat) (Option.some Jvm.ClassFile.FieldType.boolean)) ∈ tblG := tG 915 (by decide +kernel) rfl
theorem t916 : (Cond.methodLink "BeltSumsModel" (96 : Nat) ({ cls := "BeltSumsModel", name := "depth", desc := "(I)I" } : Jvm.MethodName)) ∈ tblG := tG 916 (by decide +kernel) rfl
theorem t918 : (Cond.instanceMethod ({ cls := "BeltSumsModel", name := "depth", desc := "(I)I" } : Jvm.MethodName)) ∈ tblG := tG 918 (by decide +kernel) rfl
theorem t919 : (Cond.code ({ cls := "BeltSumsModel", name := "depth", desc := "(I)I" } : Jvm.MethodName) prog_13_method_29_code (4 : Nat) (Option.some Jvm.ClassFile.FieldType.int)) ∈ tblG := tG 919 (by decide +kernel) rfl
theorem t920 : (Cond.methodLink "BeltSumsLaw" (67 : Nat) ({ cls := "BeltSumsModel", name := "massAt", desc := "(II)I" } : Jvm.MethodName)) ∈ tblG := tG 920 (by decide +kernel) rfl
theorem t921 : (Cond.instanceMethod ({ cls := "BeltSumsModel", name := "massAt", desc := "(II)I" } : Jvm.MethodName)) ∈ tblG := tG 921 (by decide +kernel) rfl
theorem t922 : (Cond.selects "BeltSumsModel" ({ cls := "BeltSumsModel", name := "massAt", desc := "(II)I" } : Jvm.MethodName) ({ cls := "BeltSumsModel", name := "massAt", desc := "(II)I" } : Jvm.MethodName)) ∈ tblG := tG 922 (by decide +kernel) rfl
theorem t923 : (Cond.code ({ cls := "BeltSumsModel", name := "massAt", desc := "(II)I" } : Jvm.MethodName) prog_13_method_31_code (3 : Nat) (Option.some Jvm.ClassFile.FieldType.int)) ∈ tblG := tG 923 (by decide +kernel) rfl
theorem t924 : (Cond.methodLink "BeltSumsLaw" (71 : Nat) ({ cls := "BeltSumsModel", name := "lotOf", desc := "(II)I" } : Jvm.MethodName)) ∈ tblG := tG 924 (by decide +kernel) rfl
theorem t925 : (Cond.instanceMethod ({ cls := "BeltSumsModel", name := "lotOf", desc := "(II)I" } : Jvm.MethodName)) ∈ tblG := tG 925 (by decide +kernel) rfl
theorem t926 : (Cond.selects "BeltSumsModel" ({ cls := "BeltSumsModel", name := "lotOf", desc := "(II)I" } : Jvm.MethodName) ({ cls := "BeltSumsModel", name := "lotOf", desc := "(II)I" } : Jvm.MethodName)) ∈ tblG := tG 926 (by decide +kernel) rfl
theorem t927 : (Cond.code ({ cls := "BeltSumsModel", name := "lotOf", desc := "(II)I" } : Jvm.MethodName) prog_13_method_32_code (3 : Nat) (Option.some Jvm.ClassFile.FieldType.int)) ∈ tblG := tG 927 (by decide +kernel) rfl
theorem t928 : (Cond.methodLink "BeltSumsLaw" (75 : Nat) ({ cls := "BeltSumsModel", name := "binOf", desc := "(II)I" } : Jvm.MethodName)) ∈ tblG := tG 928 (by decide +kernel) rfl
theorem t929 : (Cond.instanceMethod ({ cls := "BeltSumsModel", name := "binOf", desc := "(II)I" } : Jvm.MethodName)) ∈ tblG := tG 929 (by decide +kernel) rfl
theorem t930 : (Cond.selects "BeltSumsModel" ({ cls := "BeltSumsModel", name := "binOf", desc := "(II)I" } : Jvm.MethodName) ({ cls := "BeltSumsModel", name := "binOf", desc := "(II)I" } : Jvm.MethodName)) ∈ tblG := tG 930 (by decide +kernel) rfl
theorem t931 : (Cond.code ({ cls := "BeltSumsModel", name := "binOf", desc := "(II)I" } : Jvm.MethodName) prog_13_method_33_code (3 : Nat) (Option.some Jvm.ClassFile.FieldType.int)) ∈ tblG := tG 931 (by decide +kernel) rfl
theorem t932 : (Cond.constant "BeltSumsModel" (99 : Nat) (1000000000 : Int32)) ∈ tblG := tG 932 (by decide +kernel) rfl
theorem t933 : (Cond.methodLink "BeltSumsLaw" (79 : Nat) ({ cls := "BeltSumsModel", name := "scale", desc := "(I)I" } : Jvm.MethodName)) ∈ tblG := tG 933 (by decide +kernel) rfl
theorem t934 : (Cond.instanceMethod ({ cls := "BeltSumsModel", name := "scale", desc := "(I)I" } : Jvm.MethodName)) ∈ tblG := tG 934 (by decide +kernel) rfl
theorem t935 : (Cond.selects "BeltSumsModel" ({ cls := "BeltSumsModel", name := "scale", desc := "(I)I" } : Jvm.MethodName) ({ cls := "BeltSumsModel", name := "scale", desc := "(I)I" } : Jvm.MethodName)) ∈ tblG := tG 935 (by decide +kernel) rfl
theorem t936 : (Cond.code ({ cls := "BeltSumsModel", name := "scale", desc := "(I)I" } : Jvm.MethodName) prog_13_method_35_code (2 : Nat) (Option.some Jvm.ClassFile.FieldType.int)) ∈ tblG := tG 936 (by decide +kernel) rfl
theorem t937 : (Cond.methodLink "BeltSumsModel" (100 : Nat) ({ cls := "BeltSumsModel", name := "total", desc := "()I" } : Jvm.MethodName)) ∈ tblG := tG 937 (by decide +kernel) rfl
theorem t939 : (Cond.instanceMethod ({ cls := "BeltSumsModel", name := "total", desc := "()I" } : Jvm.MethodName)) ∈ tblG := tG 939 (by decide +kernel) rfl
theorem t940 : (Cond.code ({ cls := "BeltSumsModel", name := "total", desc := "()I" } : Jvm.MethodName) prog_13_method_34_code (1 : Nat) (Option.some Jvm.ClassFile.FieldType.int)) ∈ tblG := tG 940 (by decide +kernel) rfl
theorem t941 : (Cond.methodLink "BeltSumsLaw" (83 : Nat) ({ cls := "BeltSumsModel", name := "count", desc := "(I)I" } : Jvm.MethodName)) ∈ tblG := tG 941 (by decide +kernel) rfl
theorem t942 : (Cond.instanceMethod ({ cls := "BeltSumsModel", name := "count", desc := "(I)I" } : Jvm.MethodName)) ∈ tblG := tG 942 (by decide +kernel) rfl
theorem t943 : (Cond.selects "BeltSumsModel" ({ cls := "BeltSumsModel", name := "count", desc := "(I)I" } : Jvm.MethodName) ({ cls := "BeltSumsModel", name := "count", desc := "(I)I" } : Jvm.MethodName)) ∈ tblG := tG 943 (by decide +kernel) rfl
theorem t944 : (Cond.code ({ cls := "BeltSumsModel", name := "count", desc := "(I)I" } : Jvm.MethodName) prog_13_method_39_code (2 : Nat) (Option.some Jvm.ClassFile.FieldType.int)) ∈ tblG := tG 944 (by decide +kernel) rfl
theorem t945 : (Cond.methodLink "BeltSumsModel" (103 : Nat) ({ cls := "BeltSumsModel", name := "batchTold", desc := "(I)I" } : Jvm.MethodName)) ∈ tblG := tG 945 (by decide +kernel) rfl
theorem t947 : (Cond.instanceMethod ({ cls := "BeltSumsModel", name := "batchTold", desc := "(I)I" } : Jvm.MethodName)) ∈ tblG := tG 947 (by decide +kernel) rfl
theorem t948 : (Cond.code ({ cls := "BeltSumsModel", name := "batchTold", desc := "(I)I" } : Jvm.MethodName) prog_13_method_38_code (2 : Nat) (Option.some Jvm.ClassFile.FieldType.int)) ∈ tblG := tG 948 (by decide +kernel) rfl
theorem t949 : (Cond.methodLink "BeltSumsModel" (106 : Nat) ({ cls := "BeltSumsModel", name := "hopper", desc := "()I" } : Jvm.MethodName)) ∈ tblG := tG 949 (by decide +kernel) rfl
theorem t951 : (Cond.instanceMethod ({ cls := "BeltSumsModel", name := "hopper", desc := "()I" } : Jvm.MethodName)) ∈ tblG := tG 951 (by decide +kernel) rfl
theorem t952 : (Cond.code ({ cls := "BeltSumsModel", name := "hopper", desc := "()I" } : Jvm.MethodName) prog_13_method_36_code (3 : Nat) (Option.some Jvm.ClassFile.FieldType.int)) ∈ tblG := tG 952 (by decide +kernel) rfl
theorem t953 : (Cond.methodLink "BeltSumsModel" (109 : Nat) ({ cls := "BeltSumsModel", name := "inBins", desc := "()I" } : Jvm.MethodName)) ∈ tblG := tG 953 (by decide +kernel) rfl
theorem t955 : (Cond.instanceMethod ({ cls := "BeltSumsModel", name := "inBins", desc := "()I" } : Jvm.MethodName)) ∈ tblG := tG 955 (by decide +kernel) rfl
theorem t956 : (Cond.code ({ cls := "BeltSumsModel", name := "inBins", desc := "()I" } : Jvm.MethodName) prog_13_method_37_code (3 : Nat) (Option.some Jvm.ClassFile.FieldType.int)) ∈ tblG := tG 956 (by decide +kernel) rfl
theorem t957 : (Cond.methodLink "BeltSumsLaw" (87 : Nat) ({ cls := "BeltSumsModel", name := "batchIn", desc := "()I" } : Jvm.MethodName)) ∈ tblG := tG 957 (by decide +kernel) rfl
theorem t958 : (Cond.instanceMethod ({ cls := "BeltSumsModel", name := "batchIn", desc := "()I" } : Jvm.MethodName)) ∈ tblG := tG 958 (by decide +kernel) rfl
theorem t959 : (Cond.selects "BeltSumsModel" ({ cls := "BeltSumsModel", name := "batchIn", desc := "()I" } : Jvm.MethodName) ({ cls := "BeltSumsModel", name := "batchIn", desc := "()I" } : Jvm.MethodName)) ∈ tblG := tG 959 (by decide +kernel) rfl
theorem t960 : (Cond.code ({ cls := "BeltSumsModel", name := "batchIn", desc := "()I" } : Jvm.MethodName) prog_13_method_41_code (1 : Nat) (Option.some Jvm.ClassFile.FieldType.int)) ∈ tblG := tG 960 (by decide +kernel) rfl
theorem t961 : (Cond.methodLink "BeltSumsModel" (122 : Nat) ({ cls := "BeltSumsModel", name := "lasts", desc := "()I" } : Jvm.MethodName)) ∈ tblG := tG 961 (by decide +kernel) rfl
theorem t963 : (Cond.instanceMethod ({ cls := "BeltSumsModel", name := "lasts", desc := "()I" } : Jvm.MethodName)) ∈ tblG := tG 963 (by decide +kernel) rfl
theorem t964 : (Cond.code ({ cls := "BeltSumsModel", name := "lasts", desc := "()I" } : Jvm.MethodName) prog_13_method_40_code (3 : Nat) (Option.some Jvm.ClassFile.FieldType.int)) ∈ tblG := tG 964 (by decide +kernel) rfl
theorem t965 : (Cond.methodLink "BeltSumsModel" (115 : Nat) ({ cls := "BeltSumsModel", name := "copies", desc := "([I[I)V" } : Jvm.MethodName)) ∈ tblG := tG 965 (by decide +kernel) rfl
theorem t966 : (Cond.static ({ cls := "BeltSumsModel", name := "copies", desc := "([I[I)V" } : Jvm.MethodName)) ∈ tblG := tG 966 (by decide +kernel) rfl
theorem t967 : (Cond.code ({ cls := "BeltSumsModel", name := "copies", desc := "([I[I)V" } : Jvm.MethodName) prog_13_method_4_code (3 : Nat) (Option.none : Option Jvm.ClassFile.FieldType)) ∈ tblG := tG 967 (by decide +kernel) rfl
theorem t968 : (Cond.methodLink "BeltSumsLaw" (91 : Nat) ({ cls := "BeltSumsModel", name := "batchOut", desc := "()I" } : Jvm.MethodName)) ∈ tblG := tG 968 (by decide +kernel) rfl
theorem t969 : (Cond.instanceMethod ({ cls := "BeltSumsModel", name := "batchOut", desc := "()I" } : Jvm.MethodName)) ∈ tblG := tG 969 (by decide +kernel) rfl
theorem t970 : (Cond.selects "BeltSumsModel" ({ cls := "BeltSumsModel", name := "batchOut", desc := "()I" } : Jvm.MethodName) ({ cls := "BeltSumsModel", name := "batchOut", desc := "()I" } : Jvm.MethodName)) ∈ tblG := tG 970 (by decide +kernel) rfl
theorem t971 : (Cond.code ({ cls := "BeltSumsModel", name := "batchOut", desc := "()I" } : Jvm.MethodName) prog_13_method_42_code (1 : Nat) (Option.some Jvm.ClassFile.FieldType.int)) ∈ tblG := tG 971 (by decide +kernel) rfl
theorem t972 : (Cond.methodLink "BeltSumsLaw" (95 : Nat) ({ cls := "BeltSumsModel", name := "error", desc := "()I" } : Jvm.MethodName)) ∈ tblG := tG 972 (by decide +kernel) rfl
theorem t973 : (Cond.instanceMethod ({ cls := "BeltSumsModel", name := "error", desc := "()I" } : Jvm.MethodName)) ∈ tblG := tG 973 (by decide +kernel) rfl
theorem t974 : (Cond.selects "BeltSumsModel" ({ cls := "BeltSumsModel", name := "error", desc := "()I" } : Jvm.MethodName) ({ cls := "BeltSumsModel", name := "error", desc := "()I" } : Jvm.MethodName)) ∈ tblG := tG 974 (by decide +kernel) rfl
theorem t975 : (Cond.code ({ cls := "BeltSumsModel", name := "error", desc := "()I" } : Jvm.MethodName) prog_13_method_43_code (1 : Nat) (Option.some Jvm.ClassFile.FieldType.int)) ∈ tblG := tG 975 (by decide +kernel) rfl
theorem t976 : (Cond.methodLink "BeltSumsLaw" (99 : Nat) ({ cls := "BeltSumsModel", name := "undo", desc := "()I" } : Jvm.MethodName)) ∈ tblG := tG 976 (by decide +kernel) rfl
theorem t977 : (Cond.instanceMethod ({ cls := "BeltSumsModel", name := "undo", desc := "()I" } : Jvm.MethodName)) ∈ tblG := tG 977 (by decide +kernel) rfl
theorem t978 : (Cond.selects "BeltSumsModel" ({ cls := "BeltSumsModel", name := "undo", desc := "()I" } : Jvm.MethodName) ({ cls := "BeltSumsModel", name := "undo", desc := "()I" } : Jvm.MethodName)) ∈ tblG := tG 978 (by decide +kernel) rfl
theorem t979 : (Cond.code ({ cls := "BeltSumsModel", name := "undo", desc := "()I" } : Jvm.MethodName) prog_13_method_44_code (2 : Nat) (Option.some Jvm.ClassFile.FieldType.int)) ∈ tblG := tG 979 (by decide +kernel) rfl
theorem t980 : (Cond.methodLink "BeltSumsLaw" (103 : Nat) ({ cls := "BeltSumsModel", name := "type", desc := "(I)I" } : Jvm.MethodName)) ∈ tblG := tG 980 (by decide +kernel) rfl
theorem t981 : (Cond.instanceMethod ({ cls := "BeltSumsModel", name := "type", desc := "(I)I" } : Jvm.MethodName)) ∈ tblG := tG 981 (by decide +kernel) rfl
theorem t982 : (Cond.selects "BeltSumsModel" ({ cls := "BeltSumsModel", name := "type", desc := "(I)I" } : Jvm.MethodName) ({ cls := "BeltSumsModel", name := "type", desc := "(I)I" } : Jvm.MethodName)) ∈ tblG := tG 982 (by decide +kernel) rfl
theorem t983 : (Cond.code ({ cls := "BeltSumsModel", name := "type", desc := "(I)I" } : Jvm.MethodName) prog_13_method_45_code (2 : Nat) (Option.some Jvm.ClassFile.FieldType.int)) ∈ tblG := tG 983 (by decide +kernel) rfl
theorem t984 : (Cond.methodLink "BeltSumsLaw" (107 : Nat) ({ cls := "BeltSumsModel", name := "clearText", desc := "()I" } : Jvm.MethodName)) ∈ tblG := tG 984 (by decide +kernel) rfl
theorem t985 : (Cond.instanceMethod ({ cls := "BeltSumsModel", name := "clearText", desc := "()I" } : Jvm.MethodName)) ∈ tblG := tG 985 (by decide +kernel) rfl
theorem t986 : (Cond.selects "BeltSumsModel" ({ cls := "BeltSumsModel", name := "clearText", desc := "()I" } : Jvm.MethodName) ({ cls := "BeltSumsModel", name := "clearText", desc := "()I" } : Jvm.MethodName)) ∈ tblG := tG 986 (by decide +kernel) rfl
theorem t987 : (Cond.code ({ cls := "BeltSumsModel", name := "clearText", desc := "()I" } : Jvm.MethodName) prog_13_method_46_code (2 : Nat) (Option.some Jvm.ClassFile.FieldType.int)) ∈ tblG := tG 987 (by decide +kernel) rfl
theorem t988 : (Cond.methodLink "BeltSumsLaw" (111 : Nat) ({ cls := "BeltSumsModel", name := "fault", desc := "(I)I" } : Jvm.MethodName)) ∈ tblG := tG 988 (by decide +kernel) rfl
theorem t989 : (Cond.instanceMethod ({ cls := "BeltSumsModel", name := "fault", desc := "(I)I" } : Jvm.MethodName)) ∈ tblG := tG 989 (by decide +kernel) rfl
theorem t990 : (Cond.selects "BeltSumsModel" ({ cls := "BeltSumsModel", name := "fault", desc := "(I)I" } : Jvm.MethodName) ({ cls := "BeltSumsModel", name := "fault", desc := "(I)I" } : Jvm.MethodName)) ∈ tblG := tG 990 (by decide +kernel) rfl
theorem t991 : (Cond.code ({ cls := "BeltSumsModel", name := "fault", desc := "(I)I" } : Jvm.MethodName) prog_13_method_53_code (3 : Nat) (Option.some Jvm.ClassFile.FieldType.int)) ∈ tblG := tG 991 (by decide +kernel) rfl
theorem t992 : (Cond.methodLink "BeltSumsModel" (176 : Nat) ({ cls := "BeltSumsModel", name := "plays", desc := "()I" } : Jvm.MethodName)) ∈ tblG := tG 992 (by decide +kernel) rfl
theorem t994 : (Cond.instanceMethod ({ cls := "BeltSumsModel", name := "plays", desc := "()I" } : Jvm.MethodName)) ∈ tblG := tG 994 (by decide +kernel) rfl
theorem t995 : (Cond.code ({ cls := "BeltSumsModel", name := "plays", desc := "()I" } : Jvm.MethodName) prog_13_method_52_code (4 : Nat) (Option.some Jvm.ClassFile.FieldType.int)) ∈ tblG := tG 995 (by decide +kernel) rfl
theorem t996 : (Cond.methodLink "BeltSumsModel" (167 : Nat) ({ cls := "BeltSumsModel", name := "parses", desc := "()Z" } : Jvm.MethodName)) ∈ tblG := tG 996 (by decide +kernel) rfl
theorem t998 : (Cond.instanceMethod ({ cls := "BeltSumsModel", name := "parses", desc := "()Z" } : Jvm.MethodName)) ∈ tblG := tG 998 (by decide +kernel) rfl
theorem t999 : (Cond.code ({ cls := "BeltSumsModel", name := "parses", desc := "()Z" } : Jvm.MethodName) prog_13_method_50_code (1 : Nat) (Option.some Jvm.ClassFile.FieldType.boolean)) ∈ tblG := tG 999 (by decide +kernel) rfl
theorem t1000 : (Cond.methodLink "BeltSumsModel" (134 : Nat) ({ cls := "BeltSumsModel", name := "passes", desc := "(I)Z" } : Jvm.MethodName)) ∈ tblG := tG 1000 (by decide +kernel) rfl
theorem t1002 : (Cond.instanceMethod ({ cls := "BeltSumsModel", name := "passes", desc := "(I)Z" } : Jvm.MethodName)) ∈ tblG := tG 1002 (by decide +kernel) rfl
theorem t1003 : (Cond.code ({ cls := "BeltSumsModel", name := "passes", desc := "(I)Z" } : Jvm.MethodName) prog_13_method_48_code (3 : Nat) (Option.some Jvm.ClassFile.FieldType.boolean)) ∈ tblG := tG 1003 (by decide +kernel) rfl
theorem t1004 : (Cond.methodLink "BeltSumsModel" (128 : Nat) ({ cls := "BeltSumsModel", name := "isAt", desc := "(II)Z" } : Jvm.MethodName)) ∈ tblG := tG 1004 (by decide +kernel) rfl
theorem t1006 : (Cond.instanceMethod ({ cls := "BeltSumsModel", name := "isAt", desc := "(II)Z" } : Jvm.MethodName)) ∈ tblG := tG 1006 (by decide +kernel) rfl
theorem t1007 : (Cond.code ({ cls := "BeltSumsModel", name := "isAt", desc := "(II)Z" } : Jvm.MethodName) prog_13_method_47_code (3 : Nat) (Option.some Jvm.ClassFile.FieldType.boolean)) ∈ tblG := tG 1007 (by decide +kernel) rfl
theorem t1008 : (Cond.methodLink "BeltSumsModel" (137 : Nat) ({ cls := "BeltSumsModel", name := "number", desc := "(I)Z" } : Jvm.MethodName)) ∈ tblG := tG 1008 (by decide +kernel) rfl
theorem t1010 : (Cond.instanceMethod ({ cls := "BeltSumsModel", name := "number", desc := "(I)Z" } : Jvm.MethodName)) ∈ tblG := tG 1010 (by decide +kernel) rfl
theorem t1011 : (Cond.code ({ cls := "BeltSumsModel", name := "number", desc := "(I)Z" } : Jvm.MethodName) prog_13_method_49_code (3 : Nat) (Option.some Jvm.ClassFile.FieldType.boolean)) ∈ tblG := tG 1011 (by decide +kernel) rfl
theorem t1012 : (Cond.methodLink "BeltSumsModel" (170 : Nat) ({ cls := "BeltSumsModel", name := "calls", desc := "()I" } : Jvm.MethodName)) ∈ tblG := tG 1012 (by decide +kernel) rfl
theorem t1014 : (Cond.instanceMethod ({ cls := "BeltSumsModel", name := "calls", desc := "()I" } : Jvm.MethodName)) ∈ tblG := tG 1014 (by decide +kernel) rfl
theorem t1015 : (Cond.code ({ cls := "BeltSumsModel", name := "calls", desc := "()I" } : Jvm.MethodName) prog_13_method_51_code (1 : Nat) (Option.some Jvm.ClassFile.FieldType.int)) ∈ tblG := tG 1015 (by decide +kernel) rfl
theorem t1016 : (Cond.methodLink "BeltSumsModel" (140 : Nat) ({ cls := "BeltSumsModel", name := "bin", desc := "()I" } : Jvm.MethodName)) ∈ tblG := tG 1016 (by decide +kernel) rfl
theorem t1017 : (Cond.methodLink "BeltSumsModel" (143 : Nat) ({ cls := "BeltSumsModel", name := "run", desc := "(I)I" } : Jvm.MethodName)) ∈ tblG := tG 1017 (by decide +kernel) rfl
theorem t1018 : (Cond.methodLink "BeltSumsModel" (146 : Nat) ({ cls := "BeltSumsModel", name := "zero", desc := "()I" } : Jvm.MethodName)) ∈ tblG := tG 1018 (by decide +kernel) rfl
theorem t1019 : (Cond.methodLink "BeltSumsModel" (149 : Nat) ({ cls := "BeltSumsModel", name := "lot", desc := "(II)I" } : Jvm.MethodName)) ∈ tblG := tG 1019 (by decide +kernel) rfl
theorem t1020 : (Cond.methodLink "BeltSumsModel" (152 : Nat) ({ cls := "BeltSumsModel", name := "gate", desc := "(I)I" } : Jvm.MethodName)) ∈ tblG := tG 1020 (by decide +kernel) rfl
theorem t1021 : (Cond.methodLink "BeltSumsModel" (155 : Nat) ({ cls := "BeltSumsModel", name := "batch", desc := "(I)I" } : Jvm.MethodName)) ∈ tblG := tG 1021 (by decide +kernel) rfl
theorem t1022 : (Cond.methodLink "BeltSumsModel" (158 : Nat) ({ cls := "BeltSumsModel", name := "correct", desc := "(I)I" } : Jvm.MethodName)) ∈ tblG := tG 1022 (by decide +kernel) rfl
theorem t1023 : (Cond.methodLink "BeltSumsModel" (161 : Nat) ({ cls := "BeltSumsModel", name := "tick", desc := "(I)I" } : Jvm.MethodName)) ∈ tblG := tG 1023 (by decide +kernel) rfl
theorem t1024 : (Cond.methodLink "BeltSumsLaw" (115 : Nat) ({ cls := "BeltSumsModel", name := "play", desc := "()I" } : Jvm.MethodName)) ∈ tblG := tG 1024 (by decide +kernel) rfl
theorem t1025 : (Cond.instanceMethod ({ cls := "BeltSumsModel", name := "play", desc := "()I" } : Jvm.MethodName)) ∈ tblG := tG 1025 (by decide +kernel) rfl
theorem t1026 : (Cond.selects "BeltSumsModel" ({ cls := "BeltSumsModel", name := "play", desc := "()I" } : Jvm.MethodName) ({ cls := "BeltSumsModel", name := "play", desc := "()I" } : Jvm.MethodName)) ∈ tblG := tG 1026 (by decide +kernel) rfl
theorem t1027 : (Cond.code ({ cls := "BeltSumsModel", name := "play", desc := "()I" } : Jvm.MethodName) prog_13_method_54_code (2 : Nat) (Option.some Jvm.ClassFile.FieldType.int)) ∈ tblG := tG 1027 (by decide +kernel) rfl
def nestWs : List Cond := [(Jvm.Cond.methodLinkNest "BeltSums$Plant" (11 : Nat) ({ cls := "BeltSums$Hopper", name := "<init>", desc := "()V" } : Jvm.MethodName) "BeltSums"), (Jvm.Cond.methodLinkNest "BeltSums$Plant" (20 : Nat) ({ cls := "BeltSums$Belt", name := "<init>", desc := "()V" } : Jvm.MethodName) "BeltSums"), (Jvm.Cond.methodLinkNest "BeltSums$Plant" (27 : Nat) ({ cls := "BeltSums$Bins", name := "<init>", desc := "()V" } : Jvm.MethodName) "BeltSums"), (Jvm.Cond.methodLinkNest "BeltSums$Plant" (34 : Nat) ({ cls := "BeltSums$Scale", name := "<init>", desc := "()V" } : Jvm.MethodName) "BeltSums"), (Jvm.Cond.methodLinkNest "BeltSums$Plant" (41 : Nat) ({ cls := "BeltSums$Accounts", name := "<init>", desc := "()V" } : Jvm.MethodName) "BeltSums"), (Jvm.Cond.fieldLinkNest "BeltSums$Plant" (54 : Nat) "BeltSums" "FIRST_SETTINGS" "[I" "BeltSums"), (Jvm.Cond.methodLinkNest "BeltSums$Plant" (57 : Nat) ({ cls := "BeltSums", name := "copyInto", desc := "([I[I)V" } : Jvm.MethodName) "BeltSums"), (Jvm.Cond.methodLinkNest "BeltSums" (21 : Nat) ({ cls := "BeltSums$History", name := "<init>", desc := "()V" } : Jvm.MethodName) "BeltSums"), (Jvm.Cond.methodLinkNest "BeltSums" (28 : Nat) ({ cls := "BeltSums$Text", name := "<init>", desc := "()V" } : Jvm.MethodName) "BeltSums"), (Jvm.Cond.methodLinkNest "BeltSums" (35 : Nat) ({ cls := "BeltSums$Rehearsal", name := "<init>", desc := "()V" } : Jvm.MethodName) "BeltSums"), (Jvm.Cond.methodLinkNest "BeltSums$Rehearsal" (11 : Nat) ({ cls := "BeltSums$Command", name := "<init>", desc := "()V" } : Jvm.MethodName) "BeltSums"), (Jvm.Cond.methodLinkNest "BeltSums$Hopper" (18 : Nat) ({ cls := "BeltSums", name := "copyInto", desc := "([I[I)V" } : Jvm.MethodName) "BeltSums"), (Jvm.Cond.methodLinkNest "BeltSums$Belt" (15 : Nat) ({ cls := "BeltSums", name := "copyInto", desc := "([I[I)V" } : Jvm.MethodName) "BeltSums"), (Jvm.Cond.methodLinkNest "BeltSums$Bins" (21 : Nat) ({ cls := "BeltSums", name := "copyInto", desc := "([I[I)V" } : Jvm.MethodName) "BeltSums"), (Jvm.Cond.methodLinkNest "BeltSums$Accounts" (25 : Nat) ({ cls := "BeltSums", name := "copyInto", desc := "([I[I)V" } : Jvm.MethodName) "BeltSums"), (Jvm.Cond.methodLinkNest "BeltSums$Plant" (102 : Nat) ({ cls := "BeltSums", name := "isKind", desc := "(I)Z" } : Jvm.MethodName) "BeltSums"), (Jvm.Cond.fieldLinkNest "BeltSums$Plant" (215 : Nat) "BeltSums" "LEAST_SETTINGS" "[I" "BeltSums"), (Jvm.Cond.fieldLinkNest "BeltSums$Plant" (218 : Nat) "BeltSums" "MOST_SETTINGS" "[I" "BeltSums"), (Jvm.Cond.methodLinkNest "BeltSums$Accounts" (35 : Nat) ({ cls := "BeltSums", name := "isKind", desc := "(I)Z" } : Jvm.MethodName) "BeltSums"), (Jvm.Cond.methodLinkNest "BeltSums$Rehearsal" (50 : Nat) ({ cls := "BeltSums", name := "isError", desc := "(I)Z" } : Jvm.MethodName) "BeltSums")]
theorem inW0 : ∀ w ∈ u_ws RX0 TX0 4, w ∈ tblG := by
  have e : u_ws RX0 TX0 4 = [(Jvm.Cond.laysFinal "BeltSums$Accounts" "BeltSums$Accounts" "within" "[I"), (Jvm.Cond.laysFinal "BeltSums$Accounts" "BeltSums$Accounts" "own" "[I"), (Jvm.Cond.laysFinal "BeltSums$Accounts" "BeltSums$Accounts" "assigned" "[I"), (Jvm.Cond.lays "BeltSums$Accounts" "BeltSums$Accounts" "many" "I")] := rfl
  rw [e]
  exact List.forall_mem_cons.mpr ⟨t176, List.forall_mem_cons.mpr ⟨t178, List.forall_mem_cons.mpr ⟨t180, List.forall_mem_cons.mpr ⟨t182, fun _ h => absurd h List.not_mem_nil⟩⟩⟩⟩
theorem inW1 : ∀ w ∈ u_ws RX1 TX1 3, w ∈ tblG := by
  have e : u_ws RX1 TX1 3 = [(Jvm.Cond.laysFinal "BeltSums$Belt" "BeltSums$Belt" "masses" "[I"), (Jvm.Cond.lays "BeltSums$Belt" "BeltSums$Belt" "start" "I"), (Jvm.Cond.lays "BeltSums$Belt" "BeltSums$Belt" "total" "I")] := rfl
  rw [e]
  exact List.forall_mem_cons.mpr ⟨t101, List.forall_mem_cons.mpr ⟨t103, List.forall_mem_cons.mpr ⟨t105, fun _ h => absurd h List.not_mem_nil⟩⟩⟩
theorem inW2 : ∀ w ∈ u_ws RX2 TX2 4, w ∈ tblG := by
  have e : u_ws RX2 TX2 4 = [(Jvm.Cond.laysFinal "BeltSums$Bins" "BeltSums$Bins" "masses" "[I"), (Jvm.Cond.laysFinal "BeltSums$Bins" "BeltSums$Bins" "grown" "[I"), (Jvm.Cond.laysFinal "BeltSums$Bins" "BeltSums$Bins" "ticksFilled" "[I"), (Jvm.Cond.lays "BeltSums$Bins" "BeltSums$Bins" "many" "I")] := rfl
  rw [e]
  exact List.forall_mem_cons.mpr ⟨t124, List.forall_mem_cons.mpr ⟨t126, List.forall_mem_cons.mpr ⟨t128, List.forall_mem_cons.mpr ⟨t130, fun _ h => absurd h List.not_mem_nil⟩⟩⟩⟩
theorem inW3 : ∀ w ∈ u_ws RX3 TX3 4, w ∈ tblG := by
  have e : u_ws RX3 TX3 4 = [(Jvm.Cond.lays "BeltSums$Command" "BeltSums$Command" "letter" "I"), (Jvm.Cond.lays "BeltSums$Command" "BeltSums$Command" "first" "I"), (Jvm.Cond.lays "BeltSums$Command" "BeltSums$Command" "second" "I"), (Jvm.Cond.lays "BeltSums$Command" "BeltSums$Command" "end" "I")] := rfl
  rw [e]
  exact List.forall_mem_cons.mpr ⟨t314, List.forall_mem_cons.mpr ⟨t316, List.forall_mem_cons.mpr ⟨t318, List.forall_mem_cons.mpr ⟨t320, fun _ h => absurd h List.not_mem_nil⟩⟩⟩⟩
theorem inW4 : ∀ w ∈ u_ws RX4 TX4 5, w ∈ tblG := by
  have e : u_ws RX4 TX4 5 = [(Jvm.Cond.lays "BeltSums$History" "BeltSums$History" "latest" "LBeltSums$Plant;"), (Jvm.Cond.lays "BeltSums$History" "BeltSums$History" "second" "LBeltSums$Plant;"), (Jvm.Cond.lays "BeltSums$History" "BeltSums$History" "third" "LBeltSums$Plant;"), (Jvm.Cond.lays "BeltSums$History" "BeltSums$History" "oldest" "LBeltSums$Plant;"), (Jvm.Cond.lays "BeltSums$History" "BeltSums$History" "states" "I")] := rfl
  rw [e]
  exact List.forall_mem_cons.mpr ⟨t270, List.forall_mem_cons.mpr ⟨t272, List.forall_mem_cons.mpr ⟨t274, List.forall_mem_cons.mpr ⟨t276, List.forall_mem_cons.mpr ⟨t278, fun _ h => absurd h List.not_mem_nil⟩⟩⟩⟩⟩
theorem inW5 : ∀ w ∈ u_ws RX5 TX5 4, w ∈ tblG := by
  have e : u_ws RX5 TX5 4 = [(Jvm.Cond.laysFinal "BeltSums$Hopper" "BeltSums$Hopper" "kinds" "[I"), (Jvm.Cond.laysFinal "BeltSums$Hopper" "BeltSums$Hopper" "masses" "[I"), (Jvm.Cond.lays "BeltSums$Hopper" "BeltSums$Hopper" "lots" "I"), (Jvm.Cond.lays "BeltSums$Hopper" "BeltSums$Hopper" "putSoFar" "I")] := rfl
  rw [e]
  exact List.forall_mem_cons.mpr ⟨t80, List.forall_mem_cons.mpr ⟨t82, List.forall_mem_cons.mpr ⟨t84, List.forall_mem_cons.mpr ⟨t86, fun _ h => absurd h List.not_mem_nil⟩⟩⟩⟩
theorem inW6 : ∀ w ∈ u_ws RX6 TX6 15, w ∈ tblG := by
  have e : u_ws RX6 TX6 15 = [(Jvm.Cond.laysFinal "BeltSums$Plant" "BeltSums$Plant" "hopper" "LBeltSums$Hopper;"), (Jvm.Cond.laysFinal "BeltSums$Plant" "BeltSums$Plant" "belt" "LBeltSums$Belt;"), (Jvm.Cond.laysFinal "BeltSums$Plant" "BeltSums$Plant" "bins" "LBeltSums$Bins;"), (Jvm.Cond.laysFinal "BeltSums$Plant" "BeltSums$Plant" "scale" "LBeltSums$Scale;"), (Jvm.Cond.laysFinal "BeltSums$Plant" "BeltSums$Plant" "accounts" "LBeltSums$Accounts;"), (Jvm.Cond.laysFinal "BeltSums$Plant" "BeltSums$Plant" "settings" "[I"), (Jvm.Cond.lays "BeltSums$Plant" "BeltSums$Plant" "gateWidth" "I"), (Jvm.Cond.lays "BeltSums$Plant" "BeltSums$Plant" "switchedOn" "I"), (Jvm.Cond.lays "BeltSums$Plant" "BeltSums$Plant" "batchMass" "I"), (Jvm.Cond.lays "BeltSums$Plant" "BeltSums$Plant" "batchStopped" "Z"), (Jvm.Cond.lays "BeltSums$Plant" "BeltSums$Plant" "cameInBatch" "I"), (Jvm.Cond.lays "BeltSums$Plant" "BeltSums$Plant" "time" "I"), (Jvm.Cond.lays "BeltSums$Plant" "BeltSums$Plant" "ticksStood" "I"), (Jvm.Cond.lays "BeltSums$Plant" "BeltSums$Plant" "spilt" "I"), (Jvm.Cond.lays "BeltSums$Plant" "BeltSums$Plant" "fallen" "I")] := rfl
  rw [e]
  exact List.forall_mem_cons.mpr ⟨t225, List.forall_mem_cons.mpr ⟨t227, List.forall_mem_cons.mpr ⟨t229, List.forall_mem_cons.mpr ⟨t231, List.forall_mem_cons.mpr ⟨t233, List.forall_mem_cons.mpr ⟨t235, List.forall_mem_cons.mpr ⟨t237, List.forall_mem_cons.mpr ⟨t239, List.forall_mem_cons.mpr ⟨t241, List.forall_mem_cons.mpr ⟨t243, List.forall_mem_cons.mpr ⟨t245, List.forall_mem_cons.mpr ⟨t247, List.forall_mem_cons.mpr ⟨t249, List.forall_mem_cons.mpr ⟨t251, List.forall_mem_cons.mpr ⟨t253, fun _ h => absurd h List.not_mem_nil⟩⟩⟩⟩⟩⟩⟩⟩⟩⟩⟩⟩⟩⟩⟩
theorem inW7 : ∀ w ∈ u_ws RX7 TX7 5, w ∈ tblG := by
  have e : u_ws RX7 TX7 5 = [(Jvm.Cond.laysFinal "BeltSums$Rehearsal" "BeltSums$Rehearsal" "command" "LBeltSums$Command;"), (Jvm.Cond.lays "BeltSums$Rehearsal" "BeltSums$Rehearsal" "position" "I"), (Jvm.Cond.lays "BeltSums$Rehearsal" "BeltSums$Rehearsal" "reason" "I"), (Jvm.Cond.lays "BeltSums$Rehearsal" "BeltSums$Rehearsal" "cause" "I"), (Jvm.Cond.lays "BeltSums$Rehearsal" "BeltSums$Rehearsal" "done" "I")] := rfl
  rw [e]
  exact List.forall_mem_cons.mpr ⟨t332, List.forall_mem_cons.mpr ⟨t334, List.forall_mem_cons.mpr ⟨t336, List.forall_mem_cons.mpr ⟨t338, List.forall_mem_cons.mpr ⟨t340, fun _ h => absurd h List.not_mem_nil⟩⟩⟩⟩⟩
theorem inW8 : ∀ w ∈ u_ws RX8 TX8 5, w ∈ tblG := by
  have e : u_ws RX8 TX8 5 = [(Jvm.Cond.lays "BeltSums$Scale" "BeltSums$Scale" "drift" "I"), (Jvm.Cond.lays "BeltSums$Scale" "BeltSums$Scale" "zero" "I"), (Jvm.Cond.lays "BeltSums$Scale" "BeltSums$Scale" "sum" "I"), (Jvm.Cond.lays "BeltSums$Scale" "BeltSums$Scale" "rest" "I"), (Jvm.Cond.lays "BeltSums$Scale" "BeltSums$Scale" "factor" "I")] := rfl
  rw [e]
  exact List.forall_mem_cons.mpr ⟨t151, List.forall_mem_cons.mpr ⟨t153, List.forall_mem_cons.mpr ⟨t155, List.forall_mem_cons.mpr ⟨t157, List.forall_mem_cons.mpr ⟨t159, fun _ h => absurd h List.not_mem_nil⟩⟩⟩⟩⟩
theorem inW9 : ∀ w ∈ u_ws RX9 TX9 2, w ∈ tblG := by
  have e : u_ws RX9 TX9 2 = [(Jvm.Cond.laysFinal "BeltSums$Text" "BeltSums$Text" "characters" "[C"), (Jvm.Cond.lays "BeltSums$Text" "BeltSums$Text" "length" "I")] := rfl
  rw [e]
  exact List.forall_mem_cons.mpr ⟨t291, List.forall_mem_cons.mpr ⟨t293, fun _ h => absurd h List.not_mem_nil⟩⟩
theorem inW10 : ∀ w ∈ u_ws RX10 TX10 5, w ∈ tblG := by
  have e : u_ws RX10 TX10 5 = [(Jvm.Cond.laysFinal "BeltSums" "BeltSums" "now" "LBeltSums$Plant;"), (Jvm.Cond.laysFinal "BeltSums" "BeltSums" "spare" "LBeltSums$Plant;"), (Jvm.Cond.laysFinal "BeltSums" "BeltSums" "history" "LBeltSums$History;"), (Jvm.Cond.laysFinal "BeltSums" "BeltSums" "text" "LBeltSums$Text;"), (Jvm.Cond.laysFinal "BeltSums" "BeltSums" "rehearsal" "LBeltSums$Rehearsal;")] := rfl
  rw [e]
  exact List.forall_mem_cons.mpr ⟨t348, List.forall_mem_cons.mpr ⟨t350, List.forall_mem_cons.mpr ⟨t352, List.forall_mem_cons.mpr ⟨t354, List.forall_mem_cons.mpr ⟨t356, fun _ h => absurd h List.not_mem_nil⟩⟩⟩⟩⟩
theorem inW11 : ∀ w ∈ u_ws RX11 TX11 14, w ∈ tblG := by
  have e : u_ws RX11 TX11 14 = [(Jvm.Cond.laysFinal "BeltSumsModel" "BeltSumsModel" "s" "[I"), (Jvm.Cond.laysFinal "BeltSumsModel" "BeltSumsModel" "past" "[I"), (Jvm.Cond.laysFinal "BeltSumsModel" "BeltSumsModel" "held" "[I"), (Jvm.Cond.laysFinal "BeltSumsModel" "BeltSumsModel" "tried" "[I"), (Jvm.Cond.lays "BeltSumsModel" "BeltSumsModel" "pasts" "I"), (Jvm.Cond.lays "BeltSumsModel" "BeltSumsModel" "runs" "Z"), (Jvm.Cond.laysFinal "BeltSumsModel" "BeltSumsModel" "text" "[I"), (Jvm.Cond.lays "BeltSumsModel" "BeltSumsModel" "typed" "I"), (Jvm.Cond.lays "BeltSumsModel" "BeltSumsModel" "then" "I"), (Jvm.Cond.lays "BeltSumsModel" "BeltSumsModel" "spot" "I"), (Jvm.Cond.lays "BeltSumsModel" "BeltSumsModel" "cause" "I"), (Jvm.Cond.lays "BeltSumsModel" "BeltSumsModel" "commands" "I"), (Jvm.Cond.lays "BeltSumsModel" "BeltSumsModel" "kind" "I"), (Jvm.Cond.laysFinal "BeltSumsModel" "BeltSumsModel" "told" "[I")] := rfl
  rw [e]
  exact List.forall_mem_cons.mpr ⟨t777, List.forall_mem_cons.mpr ⟨t779, List.forall_mem_cons.mpr ⟨t781, List.forall_mem_cons.mpr ⟨t783, List.forall_mem_cons.mpr ⟨t785, List.forall_mem_cons.mpr ⟨t787, List.forall_mem_cons.mpr ⟨t789, List.forall_mem_cons.mpr ⟨t791, List.forall_mem_cons.mpr ⟨t793, List.forall_mem_cons.mpr ⟨t795, List.forall_mem_cons.mpr ⟨t797, List.forall_mem_cons.mpr ⟨t799, List.forall_mem_cons.mpr ⟨t801, List.forall_mem_cons.mpr ⟨t803, fun _ h => absurd h List.not_mem_nil⟩⟩⟩⟩⟩⟩⟩⟩⟩⟩⟩⟩⟩⟩
theorem n65 : (Cond.methodLinkNest "BeltSums$Plant" (11 : Nat) ({ cls := "BeltSums$Hopper", name := "<init>", desc := "()V" } : Jvm.MethodName) "BeltSums") ∈ nestWs := List.mem_of_getElem? (i := 0) rfl
theorem nt65 : (Cond.methodLinkNest "BeltSums$Plant" (11 : Nat) ({ cls := "BeltSums$Hopper", name := "<init>", desc := "()V" } : Jvm.MethodName) "BeltSums") ∈ lw_tbl := List.mem_of_getElem? (i := 65) (by decide +kernel)
theorem n92 : (Cond.methodLinkNest "BeltSums$Plant" (20 : Nat) ({ cls := "BeltSums$Belt", name := "<init>", desc := "()V" } : Jvm.MethodName) "BeltSums") ∈ nestWs := List.mem_of_getElem? (i := 1) rfl
theorem nt92 : (Cond.methodLinkNest "BeltSums$Plant" (20 : Nat) ({ cls := "BeltSums$Belt", name := "<init>", desc := "()V" } : Jvm.MethodName) "BeltSums") ∈ lw_tbl := List.mem_of_getElem? (i := 92) (by decide +kernel)
theorem n110 : (Cond.methodLinkNest "BeltSums$Plant" (27 : Nat) ({ cls := "BeltSums$Bins", name := "<init>", desc := "()V" } : Jvm.MethodName) "BeltSums") ∈ nestWs := List.mem_of_getElem? (i := 2) rfl
theorem nt110 : (Cond.methodLinkNest "BeltSums$Plant" (27 : Nat) ({ cls := "BeltSums$Bins", name := "<init>", desc := "()V" } : Jvm.MethodName) "BeltSums") ∈ lw_tbl := List.mem_of_getElem? (i := 110) (by decide +kernel)
theorem n135 : (Cond.methodLinkNest "BeltSums$Plant" (34 : Nat) ({ cls := "BeltSums$Scale", name := "<init>", desc := "()V" } : Jvm.MethodName) "BeltSums") ∈ nestWs := List.mem_of_getElem? (i := 3) rfl
theorem nt135 : (Cond.methodLinkNest "BeltSums$Plant" (34 : Nat) ({ cls := "BeltSums$Scale", name := "<init>", desc := "()V" } : Jvm.MethodName) "BeltSums") ∈ lw_tbl := List.mem_of_getElem? (i := 135) (by decide +kernel)
theorem n164 : (Cond.methodLinkNest "BeltSums$Plant" (41 : Nat) ({ cls := "BeltSums$Accounts", name := "<init>", desc := "()V" } : Jvm.MethodName) "BeltSums") ∈ nestWs := List.mem_of_getElem? (i := 4) rfl
theorem nt164 : (Cond.methodLinkNest "BeltSums$Plant" (41 : Nat) ({ cls := "BeltSums$Accounts", name := "<init>", desc := "()V" } : Jvm.MethodName) "BeltSums") ∈ lw_tbl := List.mem_of_getElem? (i := 164) (by decide +kernel)
theorem n185 : (Cond.fieldLinkNest "BeltSums$Plant" (54 : Nat) "BeltSums" "FIRST_SETTINGS" "[I" "BeltSums") ∈ nestWs := List.mem_of_getElem? (i := 5) rfl
theorem nt185 : (Cond.fieldLinkNest "BeltSums$Plant" (54 : Nat) "BeltSums" "FIRST_SETTINGS" "[I" "BeltSums") ∈ lw_tbl := List.mem_of_getElem? (i := 185) (by decide +kernel)
theorem n187 : (Cond.methodLinkNest "BeltSums$Plant" (57 : Nat) ({ cls := "BeltSums", name := "copyInto", desc := "([I[I)V" } : Jvm.MethodName) "BeltSums") ∈ nestWs := List.mem_of_getElem? (i := 6) rfl
theorem nt187 : (Cond.methodLinkNest "BeltSums$Plant" (57 : Nat) ({ cls := "BeltSums", name := "copyInto", desc := "([I[I)V" } : Jvm.MethodName) "BeltSums") ∈ lw_tbl := List.mem_of_getElem? (i := 187) (by decide +kernel)
theorem n258 : (Cond.methodLinkNest "BeltSums" (21 : Nat) ({ cls := "BeltSums$History", name := "<init>", desc := "()V" } : Jvm.MethodName) "BeltSums") ∈ nestWs := List.mem_of_getElem? (i := 7) rfl
theorem nt258 : (Cond.methodLinkNest "BeltSums" (21 : Nat) ({ cls := "BeltSums$History", name := "<init>", desc := "()V" } : Jvm.MethodName) "BeltSums") ∈ lw_tbl := List.mem_of_getElem? (i := 258) (by decide +kernel)
theorem n283 : (Cond.methodLinkNest "BeltSums" (28 : Nat) ({ cls := "BeltSums$Text", name := "<init>", desc := "()V" } : Jvm.MethodName) "BeltSums") ∈ nestWs := List.mem_of_getElem? (i := 8) rfl
theorem nt283 : (Cond.methodLinkNest "BeltSums" (28 : Nat) ({ cls := "BeltSums$Text", name := "<init>", desc := "()V" } : Jvm.MethodName) "BeltSums") ∈ lw_tbl := List.mem_of_getElem? (i := 283) (by decide +kernel)
theorem n299 : (Cond.methodLinkNest "BeltSums" (35 : Nat) ({ cls := "BeltSums$Rehearsal", name := "<init>", desc := "()V" } : Jvm.MethodName) "BeltSums") ∈ nestWs := List.mem_of_getElem? (i := 9) rfl
theorem nt299 : (Cond.methodLinkNest "BeltSums" (35 : Nat) ({ cls := "BeltSums$Rehearsal", name := "<init>", desc := "()V" } : Jvm.MethodName) "BeltSums") ∈ lw_tbl := List.mem_of_getElem? (i := 299) (by decide +kernel)
theorem n305 : (Cond.methodLinkNest "BeltSums$Rehearsal" (11 : Nat) ({ cls := "BeltSums$Command", name := "<init>", desc := "()V" } : Jvm.MethodName) "BeltSums") ∈ nestWs := List.mem_of_getElem? (i := 10) rfl
theorem nt305 : (Cond.methodLinkNest "BeltSums$Rehearsal" (11 : Nat) ({ cls := "BeltSums$Command", name := "<init>", desc := "()V" } : Jvm.MethodName) "BeltSums") ∈ lw_tbl := List.mem_of_getElem? (i := 305) (by decide +kernel)
theorem n371 : (Cond.methodLinkNest "BeltSums$Hopper" (18 : Nat) ({ cls := "BeltSums", name := "copyInto", desc := "([I[I)V" } : Jvm.MethodName) "BeltSums") ∈ nestWs := List.mem_of_getElem? (i := 11) rfl
theorem nt371 : (Cond.methodLinkNest "BeltSums$Hopper" (18 : Nat) ({ cls := "BeltSums", name := "copyInto", desc := "([I[I)V" } : Jvm.MethodName) "BeltSums") ∈ lw_tbl := List.mem_of_getElem? (i := 371) (by decide +kernel)
theorem n376 : (Cond.methodLinkNest "BeltSums$Belt" (15 : Nat) ({ cls := "BeltSums", name := "copyInto", desc := "([I[I)V" } : Jvm.MethodName) "BeltSums") ∈ nestWs := List.mem_of_getElem? (i := 12) rfl
theorem nt376 : (Cond.methodLinkNest "BeltSums$Belt" (15 : Nat) ({ cls := "BeltSums", name := "copyInto", desc := "([I[I)V" } : Jvm.MethodName) "BeltSums") ∈ lw_tbl := List.mem_of_getElem? (i := 376) (by decide +kernel)
theorem n381 : (Cond.methodLinkNest "BeltSums$Bins" (21 : Nat) ({ cls := "BeltSums", name := "copyInto", desc := "([I[I)V" } : Jvm.MethodName) "BeltSums") ∈ nestWs := List.mem_of_getElem? (i := 13) rfl
theorem nt381 : (Cond.methodLinkNest "BeltSums$Bins" (21 : Nat) ({ cls := "BeltSums", name := "copyInto", desc := "([I[I)V" } : Jvm.MethodName) "BeltSums") ∈ lw_tbl := List.mem_of_getElem? (i := 381) (by decide +kernel)
theorem n390 : (Cond.methodLinkNest "BeltSums$Accounts" (25 : Nat) ({ cls := "BeltSums", name := "copyInto", desc := "([I[I)V" } : Jvm.MethodName) "BeltSums") ∈ nestWs := List.mem_of_getElem? (i := 14) rfl
theorem nt390 : (Cond.methodLinkNest "BeltSums$Accounts" (25 : Nat) ({ cls := "BeltSums", name := "copyInto", desc := "([I[I)V" } : Jvm.MethodName) "BeltSums") ∈ lw_tbl := List.mem_of_getElem? (i := 390) (by decide +kernel)
theorem n395 : (Cond.methodLinkNest "BeltSums$Plant" (102 : Nat) ({ cls := "BeltSums", name := "isKind", desc := "(I)Z" } : Jvm.MethodName) "BeltSums") ∈ nestWs := List.mem_of_getElem? (i := 15) rfl
theorem nt395 : (Cond.methodLinkNest "BeltSums$Plant" (102 : Nat) ({ cls := "BeltSums", name := "isKind", desc := "(I)Z" } : Jvm.MethodName) "BeltSums") ∈ lw_tbl := List.mem_of_getElem? (i := 395) (by decide +kernel)
theorem n575 : (Cond.fieldLinkNest "BeltSums$Plant" (215 : Nat) "BeltSums" "LEAST_SETTINGS" "[I" "BeltSums") ∈ nestWs := List.mem_of_getElem? (i := 16) rfl
theorem nt575 : (Cond.fieldLinkNest "BeltSums$Plant" (215 : Nat) "BeltSums" "LEAST_SETTINGS" "[I" "BeltSums") ∈ lw_tbl := List.mem_of_getElem? (i := 575) (by decide +kernel)
theorem n577 : (Cond.fieldLinkNest "BeltSums$Plant" (218 : Nat) "BeltSums" "MOST_SETTINGS" "[I" "BeltSums") ∈ nestWs := List.mem_of_getElem? (i := 17) rfl
theorem nt577 : (Cond.fieldLinkNest "BeltSums$Plant" (218 : Nat) "BeltSums" "MOST_SETTINGS" "[I" "BeltSums") ∈ lw_tbl := List.mem_of_getElem? (i := 577) (by decide +kernel)
theorem n601 : (Cond.methodLinkNest "BeltSums$Accounts" (35 : Nat) ({ cls := "BeltSums", name := "isKind", desc := "(I)Z" } : Jvm.MethodName) "BeltSums") ∈ nestWs := List.mem_of_getElem? (i := 18) rfl
theorem nt601 : (Cond.methodLinkNest "BeltSums$Accounts" (35 : Nat) ({ cls := "BeltSums", name := "isKind", desc := "(I)Z" } : Jvm.MethodName) "BeltSums") ∈ lw_tbl := List.mem_of_getElem? (i := 601) (by decide +kernel)
theorem n751 : (Cond.methodLinkNest "BeltSums$Rehearsal" (50 : Nat) ({ cls := "BeltSums", name := "isError", desc := "(I)Z" } : Jvm.MethodName) "BeltSums") ∈ nestWs := List.mem_of_getElem? (i := 19) rfl
theorem nt751 : (Cond.methodLinkNest "BeltSums$Rehearsal" (50 : Nat) ({ cls := "BeltSums", name := "isError", desc := "(I)Z" } : Jvm.MethodName) "BeltSums") ∈ lw_tbl := List.mem_of_getElem? (i := 751) (by decide +kernel)
end
section
abbrev kG : Type := Launch × va_G × ClassId × ClassId × Nat × (Nat → Nat)
abbrev kS : Type := Nat × (Nat → Nat × Nat) × (Nat → Nat → Option Nat)
abbrev kI : Type := Nat → Nat → Int32
abbrev kP : Type := Option Value → kS → kI → Prop
abbrev kM : Type := MethodName × ByteArray × Nat × Option FieldType
abbrev kB (g : kG) : Nat := g.2.2.2.2.1
def kA (g : kG) : Nat → Prop := fun q => kB g ≤ q
-- the fields of a class by its number: a reference (true) or an int
def kft (ci : Nat) : List Bool := match ci with
  | 0 => [true, true, true, false]
  | 1 => [true, false, false]
  | 2 => [true, true, true, false]
  | 3 => [false, false, false, false]
  | 4 => [true, true, true, true, false]
  | 5 => [true, true, false, false]
  | 6 => [true, true, true, true, true, true, false, false, false, false, false, false, false, false, false]
  | 7 => [true, false, false, false, false]
  | 8 => [false, false, false, false, false]
  | 9 => [true, false]
  | 10 => [true, true, true, true, true]
  | 11 => [true, true, true, true, false, false, true, false, false, false, false, false, false, true]
  | _ => []
def kfv (f : Nat → Option Nat) (i : Nat → Int32) : List Bool → Nat → List Value
  | [], _ => []
  | b :: r, k => (if b then va_rf (f k) else .int (i k)) :: kfv f i r (k + 1)
theorem kfv_get {f : Nat → Option Nat} {i : Nat → Int32} : ∀ (ts : List Bool) (k j : Nat) (b : Bool), ts[j]? = some b → (kfv f i ts k)[j]? = some (if b then va_rf (f (k + j)) else .int (i (k + j)))
  | [], k, j, b, h => by simp at h
  | t :: r, k, 0, b, h => by simp at h; subst h; simp [kfv]
  | t :: r, k, j + 1, b, h => by
    have h' : r[j]? = some b := by simpa using h
    have ih := kfv_get (f := f) (i := i) r (k + 1) j b h'
    simp only [kfv, List.getElem?_cons_succ]
    rw [ih, show k + 1 + j = k + (j + 1) by omega]
theorem kfv_len {f : Nat → Option Nat} {i : Nat → Int32} : ∀ (ts : List Bool) (k : Nat), (kfv f i ts k).length = ts.length
  | [], k => rfl
  | t :: r, k => by simp [kfv, kfv_len r (k + 1)]
theorem kfv_same {f f' : Nat → Option Nat} {i i' : Nat → Int32} : ∀ (ts : List Bool) (k : Nat), (∀ j, k ≤ j → f j = f' j) → (∀ j, k ≤ j → i j = i' j) → kfv f i ts k = kfv f' i' ts k
  | [], k, _, _ => rfl
  | t :: r, k, h1, h2 => by
    simp only [kfv]
    rw [h1 k (Nat.le_refl k), h2 k (Nat.le_refl k), kfv_same r (k + 1) (fun j hj => h1 j (by omega)) (fun j hj => h2 j (by omega))]
theorem kfv_setI {f : Nat → Option Nat} {i : Nat → Int32} {x : Int32} : ∀ (ts : List Bool) (k j : Nat), ts[j]? = some false → (kfv f i ts k).set j (.int x) = kfv f (upd i (k + j) x) ts k
  | [], k, j, h => by simp at h
  | t :: r, k, 0, h => by
    simp at h; subst h
    simp only [kfv, List.set_cons_zero, Nat.add_zero]
    rw [kfv_same (f' := f) (i' := upd i k x) r (k + 1) (fun _ _ => rfl) (fun j hj => by simp [upd, show j ≠ k by omega])]
    simp [upd]
  | t :: r, k, j + 1, h => by
    have h' : r[j]? = some false := by simpa using h
    have ih := kfv_setI (f := f) (i := i) (x := x) r (k + 1) j h'
    simp only [kfv, List.set_cons_succ]
    rw [ih, show k + 1 + j = k + (j + 1) by omega]
    simp [upd, show k ≠ k + (j + 1) by omega]
theorem kfv_setR {f : Nat → Option Nat} {i : Nat → Int32} {x : Option Nat} : ∀ (ts : List Bool) (k j : Nat), ts[j]? = some true → (kfv f i ts k).set j (va_rf x) = kfv (va_up f (k + j) x) i ts k
  | [], k, j, h => by simp at h
  | t :: r, k, 0, h => by
    simp at h; subst h
    simp only [kfv, List.set_cons_zero, Nat.add_zero]
    rw [kfv_same (f' := va_up f k x) (i' := i) r (k + 1) (fun j hj => by simp [va_up, show j ≠ k by omega]) (fun _ _ => rfl)]
    simp [va_up]
  | t :: r, k, j + 1, h => by
    have h' : r[j]? = some true := by simpa using h
    have ih := kfv_setR (f := f) (i := i) (x := x) r (k + 1) j h'
    simp only [kfv, List.set_cons_succ]
    rw [ih, show k + 1 + j = k + (j + 1) by omega]
    simp [va_up, show k ≠ k + (j + 1) by omega]
-- a cell by its shape: (class, 0), or (100, n) an int array, (101, n) a char array
def kE (cI cC : ClassId) (h : Nat × Nat) (f : Nat → Option Nat) (i : Nat → Int32) : va_E := if h.1 = 100 then .inl (cI, h.2, .inl i) else if h.1 = 101 then .inl (cC, h.2, .inl i) else .inr (h.1, kfv f i (kft h.1) 0)
def kF (g : kG) (σ : kS) (I : kI) : Nat → va_E := fun a => kE g.2.2.1 g.2.2.2.1 (σ.2.1 a) (σ.2.2 a) (I a)
def kL (g : kG) (σ : kS) : List Nat := List.range' (kB g) (σ.1 - kB g)
def kW (g : kG) (σ : kS) (I : kI) : va_W := va_pl (kL g σ) (kF g σ I)
abbrev kTy (g : kG) : List (ClassId × FieldType) := [(g.2.2.1, .int), (g.2.2.2.1, .char)]
def kHold (g : kG) (σ : kS) (I : kI) (s : State) (H : Heap) : Prop := H.size = σ.1 ∧ kB g ≤ σ.1 ∧ va_P g.2.1 vwCl (kW g σ I) H ∧ va_K g.2.1 vwCl (kTy g) s
def kLh (ls : Array Slot) (nL : Nat) (loc : List (Option Value)) : Prop := ls.size = nL ∧ lv_wf ls ∧ loc.length = nL ∧ ∀ (i : Nat) (v : Value), loc[i]? = some (some v) → ls[i]? = some (.val v)
def kSa (i : Nat) : String := match i with
  | 0 => "FIRST_SETTINGS"
  | 1 => "LEAST_SETTINGS"
  | _ => "MOST_SETTINGS"
def kSv (i j : Nat) : Int32 := match i, j with
  | 0, 0 => 120
  | 0, 1 => 20
  | 0, _ => 1
  | 1, 0 => 1
  | 1, 1 => 1
  | 1, _ => -9
  | _, 0 => 500
  | _, 1 => 99
  | _, _ => 9
-- what every method may take as given of the start: the three tables of the class, the links between nest mates
def kST (g : kG) (s : State) : Prop := (∀ i, i < 3 → va_Z "BeltSums" (kSa i) "[I" (.ref (g.2.2.2.2.2 i)) (kA g) s s.heap ∧ va_T .int (g.2.2.2.2.2 i) 3 (fun j => .int (kSv i j)) (kA g) s s.heap) ∧ ∀ w ∈ nestWs, va_Nw w s
def kCx (g : kG) (μ : kM) (p : Program) (s : State) (m : MethodId) (args : Array Value) (meth : Method) (c : Code) : Prop :=
  p.tables.exec = Jvm.exec ∧ c.code = μ.2.1 ∧ c.maxLocals = μ.2.2.1 ∧ s.vm.findClass μ.1.cls = some m.cls ∧ (∀ w ∈ tblG, w.before args s = true) ∧ meth.locks = false ∧ meth.sig.returnType = μ.2.2.2 ∧ (μ.1.name = "<init>" → meth.name = "<init>") ∧ kST g s
def kAll (g : kG) (μ : kM) (E : State → Prop) (σ : kS) (I : kI) (loc : List (Option Value)) (p : Program) (s : State) (m : MethodId) (args : Array Value) (meth : Method) (c : Code) (H : Heap) (locs : List Loc) (ls : Array Slot) : Prop :=
  kCx g μ p s m args meth c ∧ E s ∧ kHold g σ I s H ∧ va_S (kA g) s.heap H locs ∧ kLh ls μ.2.2.1 loc
def kQ (g : kG) (Q : kP) : Array Value → State → Outcome → State → Prop := fun _ st oc t => ∃ (v : Option Value) (σ : kS) (I : kI), oc = .returned v ∧ Q v σ I ∧ kHold g σ I t t.heap ∧ va_F (kA g) st t
def wp (g : kG) (μ : kM) (R : Room) (E : State → Prop) (Q : kP) (n : Nat × Nat) (σ : kS) (I : kI) (pc : Nat) (loc : List (Option Value)) (st : List Value) : Prop :=
  ∀ (p : Program) (e : Env) (s : State) (m : MethodId) (args : Array Value) (below : List Frame) (meth : Method) (c : Code) (H : Heap) (locs : List Loc) (ls : Array Slot),
    kAll g μ E σ I loc p s m args meth c H locs ls → W p g.1 e R s m args below meth c H locs n.1 n.2 (MQ below (kQ g Q) args s R.cells R.slots (kA g)) (F0 m pc ls st)
/-- a contract -/
def ct (g : kG) (μ : kM) (R : Room) (as : List Value) (σ : kS) (I : kI) (Q : kP) : Prop :=
  Met g.1 μ.1 (.code μ.1 μ.2.1 μ.2.2.1 μ.2.2.2 :: tblG) R (va_Pc as (fun U => kHold g σ I U U.heap ∧ kST g U)) (kQ g Q) R.cells R.slots (kA g)
def kcat (v : Option Value) : Bool := match v with
  | some (.long _) => false
  | some (.double _) => false
  | _ => true
theorem kcat1 {v : Value} (h : kcat (some v) = true) : v.category = 1 := by cases v <;> simp_all [kcat, Value.category]
theorem kMono {g : kG} {μ : kM} {R : Room} {E : State → Prop} {Q Q' : kP} {n : Nat × Nat} {σ : kS} {I : kI} {pc : Nat} {loc : List (Option Value)} {st : List Value} (h : ∀ v σ I, Q v σ I → Q' v σ I) (w : wp g μ R E Q n σ I pc loc st) : wp g μ R E Q' n σ I pc loc st := by
  intro p e s m args below meth c H locs ls hh T hT X
  obtain ⟨t, a, o, b1, b2, ⟨v, σ', I', c1, c2, c3⟩, b4⟩ := w p e s m args below meth c H locs ls hh T hT X
  exact ⟨t, a, o, b1, b2, ⟨v, σ', I', c1, h _ _ _ c2, c3⟩, b4⟩
theorem kD {g : kG} {σ : kS} {I : kI} : va_D (kA g) (kW g σ I) := by
  refine ⟨fun i j p q hi hj hpq => ?_, fun k q hk => ?_⟩
  · simp only [kW, va_pl, List.getElem?_map, Option.map_eq_some_iff] at hi hj
    obtain ⟨a, ha, rfl⟩ := hi
    obtain ⟨b, hb, rfl⟩ := hj
    simp only at hpq
    subst hpq
    simp only [kL] at ha hb
    have h1 := List.getElem?_eq_some_iff.mp ha
    have h2 := List.getElem?_eq_some_iff.mp hb
    obtain ⟨h1a, h1b⟩ := h1
    obtain ⟨h2a, h2b⟩ := h2
    simp at h1b h2b
    omega
  · simp only [kW, va_pl, List.getElem?_map, Option.map_eq_some_iff] at hk
    obtain ⟨a, ha, rfl⟩ := hk
    have := List.mem_of_getElem? ha
    simp only [kL, List.mem_range'_1] at this
    exact this.1
theorem kIn {g : kG} {σ : kS} {I : kI} {a : Nat} (h : kB g ≤ a ∧ a < σ.1) : ∃ k : Nat, (kW g σ I)[k]? = some (a, kF g σ I a) := by
  have := va_pl_get (X := []) (L := kL g σ) (f := kF g σ I) (a := a) (by simp only [kL, List.mem_range'_1]; omega)
  simpa [kW] using this
def kst (I : kI) (a k : Nat) (x : Int32) : kI := va_up I a (upd (I a) k x)
theorem kst_s {I : kI} {a k : Nat} {x : Int32} : kst I a k x a = upd (I a) k x := by simp [kst, va_up]
theorem kst_n {I : kI} {a b k : Nat} {x : Int32} (h : b ≠ a) : kst I a k x b = I b := by simp [kst, va_up, h]
theorem kF_st {g : kG} {σ : kS} {I : kI} {a k : Nat} {x : Int32} : va_up (kF g σ I) a (kE g.2.2.1 g.2.2.2.1 (σ.2.1 a) (σ.2.2 a) (upd (I a) k x)) = kF g σ (kst I a k x) := by
  funext b
  by_cases h : b = a
  · subst h; simp [va_up, kF, kst_s]
  · simp [va_up, kF, h, kst_n h]
theorem kSet {g : kG} {σ : kS} {I : kI} {a k q : Nat} {x : Int32} (h : kB g ≤ a ∧ a < σ.1) (hq : (kW g σ I)[q]? = some (a, kF g σ I a)) : (kW g σ I).set q (a, kE g.2.2.1 g.2.2.2.1 (σ.2.1 a) (σ.2.2 a) (upd (I a) k x)) = kW g σ (kst I a k x) := by
  have hD : va_D (kA g) ([] ++ va_pl (kL g σ) (kF g σ I)) := kD
  have := va_pl_set (X := []) (a := a) (k := q) (e := kE g.2.2.1 g.2.2.2.1 (σ.2.1 a) (σ.2.2 a) (upd (I a) k x)) hD (by simp only [kL, List.mem_range'_1]; omega) hq
  simp only [List.nil_append] at this
  rw [show kW g σ I = va_pl (kL g σ) (kF g σ I) from rfl, this, kF_st]
  rfl
def kgst (G : Nat → Nat → Option Nat) (a k : Nat) (x : Option Nat) : Nat → Nat → Option Nat := va_up G a (va_up (G a) k x)
theorem kSetR {g : kG} {σ : kS} {I : kI} {a k q : Nat} {x : Option Nat} (h : kB g ≤ a ∧ a < σ.1) (hq : (kW g σ I)[q]? = some (a, kF g σ I a)) : (kW g σ I).set q (a, kE g.2.2.1 g.2.2.2.1 (σ.2.1 a) (va_up (σ.2.2 a) k x) (I a)) = kW g (σ.1, σ.2.1, kgst σ.2.2 a k x) I := by
  have hD : va_D (kA g) ([] ++ va_pl (kL g σ) (kF g σ I)) := kD
  have := va_pl_set (X := []) (a := a) (k := q) (e := kE g.2.2.1 g.2.2.2.1 (σ.2.1 a) (va_up (σ.2.2 a) k x) (I a)) hD (by simp only [kL, List.mem_range'_1]; omega) hq
  simp only [List.nil_append] at this
  rw [show kW g σ I = va_pl (kL g σ) (kF g σ I) from rfl, this]
  show va_pl _ _ = va_pl _ _
  congr 1
  funext b
  by_cases h : b = a
  · subst h; simp [va_up, kF, kgst]
  · simp [va_up, kF, kgst, h]
def kCI (ci : Nat) (C : String) (T : u_T) (ty : Nat → FieldType) (N : Nat) : Prop := vwCl[ci]? = some (C, T, N) ∧ (∀ w ∈ u_ws C T N, w ∈ tblG) ∧ (∀ k, k < N → parseFieldDescriptor (T k).2.2.1 = some (ty k)) ∧ (∀ a, a < N → ∀ b, b < N → a ≠ b → (T a).2.1 ≠ (T b).2.1) ∧ (kft ci).length = N ∧ ci ≠ 100 ∧ ci ≠ 101
theorem kc0 : kCI 0 RX0 TX0 tyX0 4 := ⟨rfl, inW0, tyX0_ok, nmX0, rfl, by decide, by decide⟩
theorem kc1 : kCI 1 RX1 TX1 tyX1 3 := ⟨rfl, inW1, tyX1_ok, nmX1, rfl, by decide, by decide⟩
theorem kc2 : kCI 2 RX2 TX2 tyX2 4 := ⟨rfl, inW2, tyX2_ok, nmX2, rfl, by decide, by decide⟩
theorem kc3 : kCI 3 RX3 TX3 tyX3 4 := ⟨rfl, inW3, tyX3_ok, nmX3, rfl, by decide, by decide⟩
theorem kc4 : kCI 4 RX4 TX4 tyX4 5 := ⟨rfl, inW4, tyX4_ok, nmX4, rfl, by decide, by decide⟩
theorem kc5 : kCI 5 RX5 TX5 tyX5 4 := ⟨rfl, inW5, tyX5_ok, nmX5, rfl, by decide, by decide⟩
theorem kc6 : kCI 6 RX6 TX6 tyX6 15 := ⟨rfl, inW6, tyX6_ok, nmX6, rfl, by decide, by decide⟩
theorem kc7 : kCI 7 RX7 TX7 tyX7 5 := ⟨rfl, inW7, tyX7_ok, nmX7, rfl, by decide, by decide⟩
theorem kc8 : kCI 8 RX8 TX8 tyX8 5 := ⟨rfl, inW8, tyX8_ok, nmX8, rfl, by decide, by decide⟩
theorem kc9 : kCI 9 RX9 TX9 tyX9 2 := ⟨rfl, inW9, tyX9_ok, nmX9, rfl, by decide, by decide⟩
theorem kc10 : kCI 10 RX10 TX10 tyX10 5 := ⟨rfl, inW10, tyX10_ok, nmX10, rfl, by decide, by decide⟩
theorem kc11 : kCI 11 RX11 TX11 tyX11 14 := ⟨rfl, inW11, tyX11_ok, nmX11, rfl, by decide, by decide⟩
section KWP
variable {g : kG} {μ : kM} {R : Room} {E : State → Prop} {Q : kP} {n : Nat × Nat} {σ : kS} {I : kI} {pc : Nat} {loc : List (Option Value)} {st : List Value}
theorem w_iconst {k : Int} {v : Int32} (hd : decode μ.2.1 pc = .ok (.iconst k, 1)) (hv : Int32.ofInt k = v) (kk : wp g μ R E Q n σ I (pc + 1) loc (.int v :: st)) : wp g μ R E Q n σ I pc loc (st) := fun p e s m args below meth c H locs ls h => lv_iconst h.1.1 h.1.2.1 hd hv (kk p e s m args below meth c H locs ls h)
theorem w_bipush {k : Int} {v : Int32} (hd : decode μ.2.1 pc = .ok (.bipush k, 2)) (hv : (Int8.ofInt k).toInt32 = v) (kk : wp g μ R E Q n σ I (pc + 2) loc (.int v :: st)) : wp g μ R E Q n σ I pc loc (st) := fun p e s m args below meth c H locs ls h => lv_bipush h.1.1 h.1.2.1 hd hv (kk p e s m args below meth c H locs ls h)
theorem w_sipush {k : Int} {v : Int32} (hd : decode μ.2.1 pc = .ok (.sipush k, 3)) (hv : (Int16.ofInt k).toInt32 = v) (kk : wp g μ R E Q n σ I (pc + 3) loc (.int v :: st)) : wp g μ R E Q n σ I pc loc (st) := fun p e s m args below meth c H locs ls h => lv_sipush h.1.1 h.1.2.1 hd hv (kk p e s m args below meth c H locs ls h)
theorem w_lconst {k : Fin 2} {v : Int64} (hd : decode μ.2.1 pc = .ok (.lconst k, 1)) (hv : Int64.ofNat (k : Nat) = v) (kk : wp g μ R E Q n σ I (pc + 1) loc (.long v :: st)) : wp g μ R E Q n σ I pc loc (st) := fun p e s m args below meth c H locs ls h => lv_lconst h.1.1 h.1.2.1 hd hv (kk p e s m args below meth c H locs ls h)
theorem w_iadd {x y : Int32} (hd : decode μ.2.1 pc = .ok (.iadd, 1)) (kk : wp g μ R E Q n σ I (pc + 1) loc (.int (x + y) :: st)) : wp g μ R E Q n σ I pc loc (.int y :: .int x :: st) := fun p e s m args below meth c H locs ls h => lv_iadd h.1.1 h.1.2.1 hd (kk p e s m args below meth c H locs ls h)
theorem w_isub {x y : Int32} (hd : decode μ.2.1 pc = .ok (.isub, 1)) (kk : wp g μ R E Q n σ I (pc + 1) loc (.int (x - y) :: st)) : wp g μ R E Q n σ I pc loc (.int y :: .int x :: st) := fun p e s m args below meth c H locs ls h => lv_isub h.1.1 h.1.2.1 hd (kk p e s m args below meth c H locs ls h)
theorem w_imul {x y : Int32} (hd : decode μ.2.1 pc = .ok (.imul, 1)) (kk : wp g μ R E Q n σ I (pc + 1) loc (.int (x * y) :: st)) : wp g μ R E Q n σ I pc loc (.int y :: .int x :: st) := fun p e s m args below meth c H locs ls h => lv_imul h.1.1 h.1.2.1 hd (kk p e s m args below meth c H locs ls h)
theorem w_iand {x y : Int32} (hd : decode μ.2.1 pc = .ok (.iand, 1)) (kk : wp g μ R E Q n σ I (pc + 1) loc (.int (x &&& y) :: st)) : wp g μ R E Q n σ I pc loc (.int y :: .int x :: st) := fun p e s m args below meth c H locs ls h => lv_iand h.1.1 h.1.2.1 hd (kk p e s m args below meth c H locs ls h)
theorem w_lmul {x y : Int64} (hd : decode μ.2.1 pc = .ok (.lmul, 1)) (kk : wp g μ R E Q n σ I (pc + 1) loc (.long (x * y) :: st)) : wp g μ R E Q n σ I pc loc (.long y :: .long x :: st) := fun p e s m args below meth c H locs ls h => lv_lmul h.1.1 h.1.2.1 hd (kk p e s m args below meth c H locs ls h)
theorem w_ldiv {x y : Int64} (hd : decode μ.2.1 pc = .ok (.ldiv, 1)) (hne : ¬ y = 0) (kk : wp g μ R E Q n σ I (pc + 1) loc (.long (x / y) :: st)) : wp g μ R E Q n σ I pc loc (.long y :: .long x :: st) := fun p e s m args below meth c H locs ls h => lv_ldiv h.1.1 h.1.2.1 hd hne (kk p e s m args below meth c H locs ls h)
theorem w_idiv {x y : Int32} (hd : decode μ.2.1 pc = .ok (.idiv, 1)) (hne : ¬ y = 0) (kk : wp g μ R E Q n σ I (pc + 1) loc (.int (x / y) :: st)) : wp g μ R E Q n σ I pc loc (.int y :: .int x :: st) := fun p e s m args below meth c H locs ls h => lv_idiv h.1.1 h.1.2.1 hd hne (kk p e s m args below meth c H locs ls h)
theorem w_irem {x y : Int32} (hd : decode μ.2.1 pc = .ok (.irem, 1)) (hne : ¬ y = 0) (kk : wp g μ R E Q n σ I (pc + 1) loc (.int (x - x / y * y) :: st)) : wp g μ R E Q n σ I pc loc (.int y :: .int x :: st) := fun p e s m args below meth c H locs ls h => lv_irem h.1.1 h.1.2.1 hd hne (kk p e s m args below meth c H locs ls h)
theorem w_i2l {x : Int32} (hd : decode μ.2.1 pc = .ok (.i2l, 1)) (kk : wp g μ R E Q n σ I (pc + 1) loc (.long (x.toInt64) :: st)) : wp g μ R E Q n σ I pc loc (.int x :: st) := fun p e s m args below meth c H locs ls h => lv_i2l h.1.1 h.1.2.1 hd rfl (kk p e s m args below meth c H locs ls h)
theorem w_l2i {x : Int64} (hd : decode μ.2.1 pc = .ok (.l2i, 1)) (kk : wp g μ R E Q n σ I (pc + 1) loc (.int (x.toInt32) :: st)) : wp g μ R E Q n σ I pc loc (.long x :: st) := fun p e s m args below meth c H locs ls h => lv_l2i h.1.1 h.1.2.1 hd rfl (kk p e s m args below meth c H locs ls h)
theorem w_i2c {x : Int32} (hd : decode μ.2.1 pc = .ok (.i2c, 1)) (kk : wp g μ R E Q n σ I (pc + 1) loc (.int ((x.toUInt32 % 65536).toInt32) :: st)) : wp g μ R E Q n σ I pc loc (.int x :: st) := fun p e s m args below meth c H locs ls h => lv_i2c h.1.1 h.1.2.1 hd rfl (kk p e s m args below meth c H locs ls h)
theorem w_lcmp {x y : Int64} (hd : decode μ.2.1 pc = .ok (.lcmp, 1)) (kk : wp g μ R E Q n σ I (pc + 1) loc (.int (lg_cmp x y) :: st)) : wp g μ R E Q n σ I pc loc (.long y :: .long x :: st) := fun p e s m args below meth c H locs ls h => W.lcmp h.1.1 h.1.2.1 hd (kk p e s m args below meth c H locs ls h)
theorem w_dup_i {x : Int32} (hd : decode μ.2.1 pc = .ok (.dup, 1)) (kk : wp g μ R E Q n σ I (pc + 1) loc (.int x :: .int x :: st)) : wp g μ R E Q n σ I pc loc (.int x :: st) := fun p e s m args below meth c H locs ls h => lv_dup h.1.1 h.1.2.1 hd rfl (kk p e s m args below meth c H locs ls h)
theorem w_pop_i {x : Int32} (hd : decode μ.2.1 pc = .ok (.pop, 1)) (kk : wp g μ R E Q n σ I (pc + 1) loc (st)) : wp g μ R E Q n σ I pc loc (.int x :: st) := fun p e s m args below meth c H locs ls h => lv_pop h.1.1 h.1.2.1 hd rfl (kk p e s m args below meth c H locs ls h)
theorem w_dup_a {x : Nat} (hd : decode μ.2.1 pc = .ok (.dup, 1)) (kk : wp g μ R E Q n σ I (pc + 1) loc (.ref x :: .ref x :: st)) : wp g μ R E Q n σ I pc loc (.ref x :: st) := fun p e s m args below meth c H locs ls h => lv_dup h.1.1 h.1.2.1 hd rfl (kk p e s m args below meth c H locs ls h)
theorem w_pop_a {x : Nat} (hd : decode μ.2.1 pc = .ok (.pop, 1)) (kk : wp g μ R E Q n σ I (pc + 1) loc (st)) : wp g μ R E Q n σ I pc loc (.ref x :: st) := fun p e s m args below meth c H locs ls h => lv_pop h.1.1 h.1.2.1 hd rfl (kk p e s m args below meth c H locs ls h)
theorem w_dup2 {x : Nat} {y : Int32} (hd : decode μ.2.1 pc = .ok (.dup2, 1)) (kk : wp g μ R E Q n σ I (pc + 1) loc (.int y :: .ref x :: .int y :: .ref x :: st)) : wp g μ R E Q n σ I pc loc (.int y :: .ref x :: st) := fun p e s m args below meth c H locs ls h => lv_dup2_11 h.1.1 h.1.2.1 hd rfl rfl (kk p e s m args below meth c H locs ls h)
theorem w_ldc {i : Nat} {v : Int32} (hw : Cond.constant μ.1.cls i v ∈ tblG) (hd : decode μ.2.1 pc = .ok (.ldc i, 2)) (kk : wp g μ R E Q n σ I (pc + 2) loc (.int v :: st)) : wp g μ R E Q n σ I pc loc st := fun p e s m args below meth c H locs ls h => lv_ldc h.1.1 h.1.2.1 h.1.2.2.2.1 (h.1.2.2.2.2.1 _ hw) hd (kk p e s m args below meth c H locs ls h)
theorem w_ldc2 {i : Nat} {v : Int64} (hw : Cond.constantLong μ.1.cls i v ∈ tblG) (hd : decode μ.2.1 pc = .ok (.ldc2_w i, 3)) (kk : wp g μ R E Q n σ I (pc + 3) loc (.long v :: st)) : wp g μ R E Q n σ I pc loc st := fun p e s m args below meth c H locs ls h => lv_ldc2 h.1.1 h.1.2.1 h.1.2.2.2.1 (h.1.2.2.2.2.1 _ hw) hd (kk p e s m args below meth c H locs ls h)
theorem w_goto {off : Int} {tgt : Nat} (hd : decode μ.2.1 pc = .ok (.goto off, 3)) (ht : (pc : Int) + off = (tgt : Int)) (kk : wp g μ R E Q n σ I tgt loc st) : wp g μ R E Q n σ I pc loc st := fun p e s m args below meth c H locs ls h => lv_goto h.1.1 h.1.2.1 hd ht (kk p e s m args below meth c H locs ls h)
theorem w_if_eq {x : Int32} {off : Int} {tgt : Nat} (hd : decode μ.2.1 pc = .ok (.ifCond .eq off, 3)) (ht : (pc : Int) + off = (tgt : Int)) (kt : x = 0 → wp g μ R E Q n σ I tgt loc st) (kf : ¬ x = 0 → wp g μ R E Q n σ I (pc + 3) loc st) : wp g μ R E Q n σ I pc loc (.int x :: st) := fun p e s m args below meth c H locs ls h => lv_if_eq h.1.1 h.1.2.1 hd ht (fun z => kt z p e s m args below meth c H locs ls h) (fun z => kf z p e s m args below meth c H locs ls h)
theorem w_icmp_eq {x y : Int32} {off : Int} {tgt : Nat} (hd : decode μ.2.1 pc = .ok (.if_icmp .eq off, 3)) (ht : (pc : Int) + off = (tgt : Int)) (kt : x = y → wp g μ R E Q n σ I tgt loc st) (kf : ¬ x = y → wp g μ R E Q n σ I (pc + 3) loc st) : wp g μ R E Q n σ I pc loc (.int y :: .int x :: st) := fun p e s m args below meth c H locs ls h => lv_icmp_eq h.1.1 h.1.2.1 hd ht (fun z => kt z p e s m args below meth c H locs ls h) (fun z => kf z p e s m args below meth c H locs ls h)
theorem w_if_ne {x : Int32} {off : Int} {tgt : Nat} (hd : decode μ.2.1 pc = .ok (.ifCond .ne off, 3)) (ht : (pc : Int) + off = (tgt : Int)) (kt : ¬ x = 0 → wp g μ R E Q n σ I tgt loc st) (kf : x = 0 → wp g μ R E Q n σ I (pc + 3) loc st) : wp g μ R E Q n σ I pc loc (.int x :: st) := fun p e s m args below meth c H locs ls h => lv_if_ne h.1.1 h.1.2.1 hd ht (fun z => kt z p e s m args below meth c H locs ls h) (fun z => kf z p e s m args below meth c H locs ls h)
theorem w_icmp_ne {x y : Int32} {off : Int} {tgt : Nat} (hd : decode μ.2.1 pc = .ok (.if_icmp .ne off, 3)) (ht : (pc : Int) + off = (tgt : Int)) (kt : ¬ x = y → wp g μ R E Q n σ I tgt loc st) (kf : x = y → wp g μ R E Q n σ I (pc + 3) loc st) : wp g μ R E Q n σ I pc loc (.int y :: .int x :: st) := fun p e s m args below meth c H locs ls h => lv_icmp_ne h.1.1 h.1.2.1 hd ht (fun z => kt z p e s m args below meth c H locs ls h) (fun z => kf z p e s m args below meth c H locs ls h)
theorem w_if_lt {x : Int32} {off : Int} {tgt : Nat} (hd : decode μ.2.1 pc = .ok (.ifCond .lt off, 3)) (ht : (pc : Int) + off = (tgt : Int)) (kt : x < 0 → wp g μ R E Q n σ I tgt loc st) (kf : ¬ x < 0 → wp g μ R E Q n σ I (pc + 3) loc st) : wp g μ R E Q n σ I pc loc (.int x :: st) := fun p e s m args below meth c H locs ls h => lv_if_lt h.1.1 h.1.2.1 hd ht (fun z => kt z p e s m args below meth c H locs ls h) (fun z => kf z p e s m args below meth c H locs ls h)
theorem w_icmp_lt {x y : Int32} {off : Int} {tgt : Nat} (hd : decode μ.2.1 pc = .ok (.if_icmp .lt off, 3)) (ht : (pc : Int) + off = (tgt : Int)) (kt : x < y → wp g μ R E Q n σ I tgt loc st) (kf : ¬ x < y → wp g μ R E Q n σ I (pc + 3) loc st) : wp g μ R E Q n σ I pc loc (.int y :: .int x :: st) := fun p e s m args below meth c H locs ls h => lv_icmp_lt h.1.1 h.1.2.1 hd ht (fun z => kt z p e s m args below meth c H locs ls h) (fun z => kf z p e s m args below meth c H locs ls h)
theorem w_if_ge {x : Int32} {off : Int} {tgt : Nat} (hd : decode μ.2.1 pc = .ok (.ifCond .ge off, 3)) (ht : (pc : Int) + off = (tgt : Int)) (kt : 0 ≤ x → wp g μ R E Q n σ I tgt loc st) (kf : ¬ 0 ≤ x → wp g μ R E Q n σ I (pc + 3) loc st) : wp g μ R E Q n σ I pc loc (.int x :: st) := fun p e s m args below meth c H locs ls h => lv_if_ge h.1.1 h.1.2.1 hd ht (fun z => kt z p e s m args below meth c H locs ls h) (fun z => kf z p e s m args below meth c H locs ls h)
theorem w_icmp_ge {x y : Int32} {off : Int} {tgt : Nat} (hd : decode μ.2.1 pc = .ok (.if_icmp .ge off, 3)) (ht : (pc : Int) + off = (tgt : Int)) (kt : y ≤ x → wp g μ R E Q n σ I tgt loc st) (kf : ¬ y ≤ x → wp g μ R E Q n σ I (pc + 3) loc st) : wp g μ R E Q n σ I pc loc (.int y :: .int x :: st) := fun p e s m args below meth c H locs ls h => lv_icmp_ge h.1.1 h.1.2.1 hd ht (fun z => kt z p e s m args below meth c H locs ls h) (fun z => kf z p e s m args below meth c H locs ls h)
theorem w_if_gt {x : Int32} {off : Int} {tgt : Nat} (hd : decode μ.2.1 pc = .ok (.ifCond .gt off, 3)) (ht : (pc : Int) + off = (tgt : Int)) (kt : 0 < x → wp g μ R E Q n σ I tgt loc st) (kf : ¬ 0 < x → wp g μ R E Q n σ I (pc + 3) loc st) : wp g μ R E Q n σ I pc loc (.int x :: st) := fun p e s m args below meth c H locs ls h => lv_if_gt h.1.1 h.1.2.1 hd ht (fun z => kt z p e s m args below meth c H locs ls h) (fun z => kf z p e s m args below meth c H locs ls h)
theorem w_icmp_gt {x y : Int32} {off : Int} {tgt : Nat} (hd : decode μ.2.1 pc = .ok (.if_icmp .gt off, 3)) (ht : (pc : Int) + off = (tgt : Int)) (kt : y < x → wp g μ R E Q n σ I tgt loc st) (kf : ¬ y < x → wp g μ R E Q n σ I (pc + 3) loc st) : wp g μ R E Q n σ I pc loc (.int y :: .int x :: st) := fun p e s m args below meth c H locs ls h => lv_icmp_gt h.1.1 h.1.2.1 hd ht (fun z => kt z p e s m args below meth c H locs ls h) (fun z => kf z p e s m args below meth c H locs ls h)
theorem w_if_le {x : Int32} {off : Int} {tgt : Nat} (hd : decode μ.2.1 pc = .ok (.ifCond .le off, 3)) (ht : (pc : Int) + off = (tgt : Int)) (kt : x ≤ 0 → wp g μ R E Q n σ I tgt loc st) (kf : ¬ x ≤ 0 → wp g μ R E Q n σ I (pc + 3) loc st) : wp g μ R E Q n σ I pc loc (.int x :: st) := fun p e s m args below meth c H locs ls h => lv_if_le h.1.1 h.1.2.1 hd ht (fun z => kt z p e s m args below meth c H locs ls h) (fun z => kf z p e s m args below meth c H locs ls h)
theorem w_icmp_le {x y : Int32} {off : Int} {tgt : Nat} (hd : decode μ.2.1 pc = .ok (.if_icmp .le off, 3)) (ht : (pc : Int) + off = (tgt : Int)) (kt : x ≤ y → wp g μ R E Q n σ I tgt loc st) (kf : ¬ x ≤ y → wp g μ R E Q n σ I (pc + 3) loc st) : wp g μ R E Q n σ I pc loc (.int y :: .int x :: st) := fun p e s m args below meth c H locs ls h => lv_icmp_le h.1.1 h.1.2.1 hd ht (fun z => kt z p e s m args below meth c H locs ls h) (fun z => kf z p e s m args below meth c H locs ls h)
theorem w_tableOut {dflt lo hi : Int} {offs : Array Int} {len : Nat} {x : Int32} {tgt : Nat} (hd : decode μ.2.1 pc = .ok (.tableswitch dflt lo hi offs, len)) (h9 : x.toInt < lo ∨ hi < x.toInt) (ht : (pc : Int) + dflt = (tgt : Int)) (kk : wp g μ R E Q n σ I tgt loc st) : wp g μ R E Q n σ I pc loc (.int x :: st) := fun p e s m args below meth c H locs ls h => lv_tableOut h.1.1 h.1.2.1 hd h9 ht (kk p e s m args below meth c H locs ls h)
theorem w_tableIn {dflt lo hi : Int} {offs : Array Int} {len : Nat} {x : Int32} {off : Int} {tgt : Nat} (hd : decode μ.2.1 pc = .ok (.tableswitch dflt lo hi offs, len)) (h1 : ¬ x.toInt < lo) (h2 : ¬ hi < x.toInt) (ho : offs[(x.toInt - lo).toNat]? = some off) (ht : (pc : Int) + off = (tgt : Int)) (kk : wp g μ R E Q n σ I tgt loc st) : wp g μ R E Q n σ I pc loc (.int x :: st) := fun p e s m args below meth c H locs ls h => lv_tableIn h.1.1 h.1.2.1 hd h1 h2 ho ht (kk p e s m args below meth c H locs ls h)
theorem w_lookup {dflt : Int} {ps : Array (Int × Int)} {len : Nat} {x : Int32} {off : Int} {tgt : Nat} (hd : decode μ.2.1 pc = .ok (.lookupswitch dflt ps, len)) (hp : (ps.toList.zip (ps.toList.drop 1)).all (fun (a, next) => a.1 < next.1) = true) (ho : Op.lookupswitch.offset ps.toList dflt x.toInt = off) (ht : (pc : Int) + off = (tgt : Int)) (kk : wp g μ R E Q n σ I tgt loc st) : wp g μ R E Q n σ I pc loc (.int x :: st) := fun p e s m args below meth c H locs ls h => lv_lookup h.1.1 h.1.2.1 hd hp ho ht (kk p e s m args below meth c H locs ls h)
theorem w_iload_n {k : Fin 4} {x : Int32} (hd : decode μ.2.1 pc = .ok (.iload_n k, 1)) (hl : loc[(k : Nat)]? = some (some (.int x))) (kk : wp g μ R E Q n σ I (pc + 1) loc (.int x :: st)) : wp g μ R E Q n σ I pc loc st := fun p e s m args below meth c H locs ls h => lv_iload_n h.1.1 h.1.2.1 hd rfl (h.2.2.2.2.2.2.2 _ _ hl) (kk p e s m args below meth c H locs ls h)
theorem w_iload {k : Nat} {x : Int32} (hd : decode μ.2.1 pc = .ok (.iload k, 2)) (hl : loc[k]? = some (some (.int x))) (kk : wp g μ R E Q n σ I (pc + 2) loc (.int x :: st)) : wp g μ R E Q n σ I pc loc st := fun p e s m args below meth c H locs ls h => lv_iload h.1.1 h.1.2.1 hd (h.2.2.2.2.2.2.2 _ _ hl) (kk p e s m args below meth c H locs ls h)
theorem w_iload_0 {l : List (Option Value)} {x : Int32} (hd : decode μ.2.1 pc = .ok (.iload_n 0, 1)) (kk : wp g μ R E Q n σ I (pc + 1) (some (.int x) :: l) (.int x :: st)) : wp g μ R E Q n σ I pc (some (.int x) :: l) st := w_iload_n hd rfl kk
theorem w_iload_1 {a0 : Option Value} {l : List (Option Value)} {x : Int32} (hd : decode μ.2.1 pc = .ok (.iload_n 1, 1)) (kk : wp g μ R E Q n σ I (pc + 1) (a0 :: some (.int x) :: l) (.int x :: st)) : wp g μ R E Q n σ I pc (a0 :: some (.int x) :: l) st := w_iload_n hd rfl kk
theorem w_iload_2 {a0 a1 : Option Value} {l : List (Option Value)} {x : Int32} (hd : decode μ.2.1 pc = .ok (.iload_n 2, 1)) (kk : wp g μ R E Q n σ I (pc + 1) (a0 :: a1 :: some (.int x) :: l) (.int x :: st)) : wp g μ R E Q n σ I pc (a0 :: a1 :: some (.int x) :: l) st := w_iload_n hd rfl kk
theorem w_iload_3 {a0 a1 a2 : Option Value} {l : List (Option Value)} {x : Int32} (hd : decode μ.2.1 pc = .ok (.iload_n 3, 1)) (kk : wp g μ R E Q n σ I (pc + 1) (a0 :: a1 :: a2 :: some (.int x) :: l) (.int x :: st)) : wp g μ R E Q n σ I pc (a0 :: a1 :: a2 :: some (.int x) :: l) st := w_iload_n hd rfl kk
theorem w_iload_4 {a0 a1 a2 a3 : Option Value} {l : List (Option Value)} {x : Int32} (hd : decode μ.2.1 pc = .ok (.iload 4, 2)) (kk : wp g μ R E Q n σ I (pc + 2) (a0 :: a1 :: a2 :: a3 :: some (.int x) :: l) (.int x :: st)) : wp g μ R E Q n σ I pc (a0 :: a1 :: a2 :: a3 :: some (.int x) :: l) st := w_iload hd rfl kk
theorem w_iload_5 {a0 a1 a2 a3 a4 : Option Value} {l : List (Option Value)} {x : Int32} (hd : decode μ.2.1 pc = .ok (.iload 5, 2)) (kk : wp g μ R E Q n σ I (pc + 2) (a0 :: a1 :: a2 :: a3 :: a4 :: some (.int x) :: l) (.int x :: st)) : wp g μ R E Q n σ I pc (a0 :: a1 :: a2 :: a3 :: a4 :: some (.int x) :: l) st := w_iload hd rfl kk
theorem w_iload_6 {a0 a1 a2 a3 a4 a5 : Option Value} {l : List (Option Value)} {x : Int32} (hd : decode μ.2.1 pc = .ok (.iload 6, 2)) (kk : wp g μ R E Q n σ I (pc + 2) (a0 :: a1 :: a2 :: a3 :: a4 :: a5 :: some (.int x) :: l) (.int x :: st)) : wp g μ R E Q n σ I pc (a0 :: a1 :: a2 :: a3 :: a4 :: a5 :: some (.int x) :: l) st := w_iload hd rfl kk
theorem w_iload_7 {a0 a1 a2 a3 a4 a5 a6 : Option Value} {l : List (Option Value)} {x : Int32} (hd : decode μ.2.1 pc = .ok (.iload 7, 2)) (kk : wp g μ R E Q n σ I (pc + 2) (a0 :: a1 :: a2 :: a3 :: a4 :: a5 :: a6 :: some (.int x) :: l) (.int x :: st)) : wp g μ R E Q n σ I pc (a0 :: a1 :: a2 :: a3 :: a4 :: a5 :: a6 :: some (.int x) :: l) st := w_iload hd rfl kk
theorem w_aload_n {k : Fin 4} {x : Nat} (hd : decode μ.2.1 pc = .ok (.aload_n k, 1)) (hl : loc[(k : Nat)]? = some (some (.ref x))) (kk : wp g μ R E Q n σ I (pc + 1) loc (.ref x :: st)) : wp g μ R E Q n σ I pc loc st := fun p e s m args below meth c H locs ls h => lv_aload_n h.1.1 h.1.2.1 hd rfl (h.2.2.2.2.2.2.2 _ _ hl) (kk p e s m args below meth c H locs ls h)
theorem w_aload {k : Nat} {x : Nat} (hd : decode μ.2.1 pc = .ok (.aload k, 2)) (hl : loc[k]? = some (some (.ref x))) (kk : wp g μ R E Q n σ I (pc + 2) loc (.ref x :: st)) : wp g μ R E Q n σ I pc loc st := fun p e s m args below meth c H locs ls h => lv_aload h.1.1 h.1.2.1 hd (h.2.2.2.2.2.2.2 _ _ hl) (kk p e s m args below meth c H locs ls h)
theorem w_aload_0 {l : List (Option Value)} {x : Nat} (hd : decode μ.2.1 pc = .ok (.aload_n 0, 1)) (kk : wp g μ R E Q n σ I (pc + 1) (some (.ref x) :: l) (.ref x :: st)) : wp g μ R E Q n σ I pc (some (.ref x) :: l) st := w_aload_n hd rfl kk
theorem w_aload_1 {a0 : Option Value} {l : List (Option Value)} {x : Nat} (hd : decode μ.2.1 pc = .ok (.aload_n 1, 1)) (kk : wp g μ R E Q n σ I (pc + 1) (a0 :: some (.ref x) :: l) (.ref x :: st)) : wp g μ R E Q n σ I pc (a0 :: some (.ref x) :: l) st := w_aload_n hd rfl kk
theorem w_aload_2 {a0 a1 : Option Value} {l : List (Option Value)} {x : Nat} (hd : decode μ.2.1 pc = .ok (.aload_n 2, 1)) (kk : wp g μ R E Q n σ I (pc + 1) (a0 :: a1 :: some (.ref x) :: l) (.ref x :: st)) : wp g μ R E Q n σ I pc (a0 :: a1 :: some (.ref x) :: l) st := w_aload_n hd rfl kk
theorem w_aload_3 {a0 a1 a2 : Option Value} {l : List (Option Value)} {x : Nat} (hd : decode μ.2.1 pc = .ok (.aload_n 3, 1)) (kk : wp g μ R E Q n σ I (pc + 1) (a0 :: a1 :: a2 :: some (.ref x) :: l) (.ref x :: st)) : wp g μ R E Q n σ I pc (a0 :: a1 :: a2 :: some (.ref x) :: l) st := w_aload_n hd rfl kk
theorem w_aload_4 {a0 a1 a2 a3 : Option Value} {l : List (Option Value)} {x : Nat} (hd : decode μ.2.1 pc = .ok (.aload 4, 2)) (kk : wp g μ R E Q n σ I (pc + 2) (a0 :: a1 :: a2 :: a3 :: some (.ref x) :: l) (.ref x :: st)) : wp g μ R E Q n σ I pc (a0 :: a1 :: a2 :: a3 :: some (.ref x) :: l) st := w_aload hd rfl kk
theorem w_aload_5 {a0 a1 a2 a3 a4 : Option Value} {l : List (Option Value)} {x : Nat} (hd : decode μ.2.1 pc = .ok (.aload 5, 2)) (kk : wp g μ R E Q n σ I (pc + 2) (a0 :: a1 :: a2 :: a3 :: a4 :: some (.ref x) :: l) (.ref x :: st)) : wp g μ R E Q n σ I pc (a0 :: a1 :: a2 :: a3 :: a4 :: some (.ref x) :: l) st := w_aload hd rfl kk
theorem w_aload_6 {a0 a1 a2 a3 a4 a5 : Option Value} {l : List (Option Value)} {x : Nat} (hd : decode μ.2.1 pc = .ok (.aload 6, 2)) (kk : wp g μ R E Q n σ I (pc + 2) (a0 :: a1 :: a2 :: a3 :: a4 :: a5 :: some (.ref x) :: l) (.ref x :: st)) : wp g μ R E Q n σ I pc (a0 :: a1 :: a2 :: a3 :: a4 :: a5 :: some (.ref x) :: l) st := w_aload hd rfl kk
theorem w_aload_7 {a0 a1 a2 a3 a4 a5 a6 : Option Value} {l : List (Option Value)} {x : Nat} (hd : decode μ.2.1 pc = .ok (.aload 7, 2)) (kk : wp g μ R E Q n σ I (pc + 2) (a0 :: a1 :: a2 :: a3 :: a4 :: a5 :: a6 :: some (.ref x) :: l) (.ref x :: st)) : wp g μ R E Q n σ I pc (a0 :: a1 :: a2 :: a3 :: a4 :: a5 :: a6 :: some (.ref x) :: l) st := w_aload hd rfl kk
theorem w_lload_n {k : Fin 4} {x : Int64} (hd : decode μ.2.1 pc = .ok (.lload_n k, 1)) (hl : loc[(k : Nat)]? = some (some (.long x))) (kk : wp g μ R E Q n σ I (pc + 1) loc (.long x :: st)) : wp g μ R E Q n σ I pc loc st := fun p e s m args below meth c H locs ls h => lv_lload_n h.1.1 h.1.2.1 hd rfl (h.2.2.2.2.2.2.2 _ _ hl) (kk p e s m args below meth c H locs ls h)
theorem w_lload {k : Nat} {x : Int64} (hd : decode μ.2.1 pc = .ok (.lload k, 2)) (hl : loc[k]? = some (some (.long x))) (kk : wp g μ R E Q n σ I (pc + 2) loc (.long x :: st)) : wp g μ R E Q n σ I pc loc st := fun p e s m args below meth c H locs ls h => lv_lload h.1.1 h.1.2.1 hd (h.2.2.2.2.2.2.2 _ _ hl) (kk p e s m args below meth c H locs ls h)
theorem w_lload_3 {a0 a1 a2 : Option Value} {l : List (Option Value)} {x : Int64} (hd : decode μ.2.1 pc = .ok (.lload_n 3, 1)) (kk : wp g μ R E Q n σ I (pc + 1) (a0 :: a1 :: a2 :: some (.long x) :: l) (.long x :: st)) : wp g μ R E Q n σ I pc (a0 :: a1 :: a2 :: some (.long x) :: l) st := w_lload_n hd rfl kk
def ktoA (loc : List (Option Value)) : List (Nat × Value) := (loc.zipIdx).filterMap (fun q => q.1.map (fun v => (q.2, v)))
theorem ktoA_mem {loc : List (Option Value)} {i : Nat} {v : Value} : (i, v) ∈ ktoA loc ↔ loc[i]? = some (some v) := by
  simp only [ktoA, List.mem_filterMap, Option.map_eq_some_iff]
  constructor
  · rintro ⟨⟨o, k⟩, h1, w, h2, h3⟩
    simp only [Prod.mk.injEq] at h3
    obtain ⟨rfl, rfl⟩ := h3
    have := List.mem_zipIdx_iff_getElem?.mp h1
    simp only at this h2
    rw [this, h2]
  · intro h
    exact ⟨(some v, i), List.mem_zipIdx_iff_getElem?.mpr h, v, rfl, rfl⟩
theorem kLh_has {ls : Array Slot} {nL : Nat} {loc : List (Option Value)} (h : kLh ls nL loc) : lv_has ls nL (ktoA loc) := ⟨h.1, h.2.1, fun q hq => h.2.2.2 q.1 q.2 (ktoA_mem.mp hq)⟩
theorem kLh_set {ls' : Array Slot} {nL i : Nat} {v : Value} {loc : List (Option Value)} (hlen : loc.length = nL) (hi : i < nL) (hcat : loc.all kcat = true) (h : lv_has ls' nL ((i, v) :: (ktoA loc).filter (fun q => !(q.1 == i) && !(q.1 + 1 == i && q.2.category == 2)))) : kLh ls' nL (loc.set i (some v)) := by
  refine ⟨h.1, h.2.1, by rw [List.length_set]; exact hlen, fun j w hj => ?_⟩
  by_cases hji : j = i
  · subst hji
    rw [List.getElem?_set_self (by omega)] at hj
    cases hj
    exact h.2.2 (j, v) List.mem_cons_self
  · rw [List.getElem?_set_ne (Ne.symm hji)] at hj
    have hc : kcat (some w) = true := List.all_eq_true.mp hcat _ (List.mem_of_getElem? hj)
    have hc1 := kcat1 hc
    refine h.2.2 (j, w) (List.mem_cons_of_mem _ (List.mem_filter.mpr ⟨ktoA_mem.mpr hj, ?_⟩))
    simp [hji, hc1]
theorem w_istore_n {k : Fin 4} {x : Int32} (hd : decode μ.2.1 pc = .ok (.istore_n k, 1)) (hcat : loc.all kcat = true) (hk : (k : Nat) < loc.length) (kk : wp g μ R E Q n σ I (pc + 1) (loc.set (k : Nat) (some (.int x))) st) : wp g μ R E Q n σ I pc loc (.int x :: st) := by
  intro p e s m args below meth c H locs ls h
  have hL := h.2.2.2.2
  have hk' : (k : Nat) < μ.2.2.1 := by rw [← hL.2.2.1]; exact hk
  exact lv_istore_n h.1.1 h.1.2.1 hd rfl (kLh_has hL) hk' rfl (fun ls' h' => kk p e s m args below meth c H locs ls' ⟨h.1, h.2.1, h.2.2.1, h.2.2.2.1, kLh_set hL.2.2.1 hk' hcat h'⟩)
theorem w_istore {k : Nat} {x : Int32} (hd : decode μ.2.1 pc = .ok (.istore k, 2)) (hcat : loc.all kcat = true) (hk : k < loc.length) (kk : wp g μ R E Q n σ I (pc + 2) (loc.set k (some (.int x))) st) : wp g μ R E Q n σ I pc loc (.int x :: st) := by
  intro p e s m args below meth c H locs ls h
  have hL := h.2.2.2.2
  have hk' : k < μ.2.2.1 := by rw [← hL.2.2.1]; exact hk
  exact lv_istore h.1.1 h.1.2.1 hd (kLh_has hL) hk' rfl (fun ls' h' => kk p e s m args below meth c H locs ls' ⟨h.1, h.2.1, h.2.2.1, h.2.2.2.1, kLh_set hL.2.2.1 hk' hcat h'⟩)
theorem w_istore_0 {a0 : Option Value} {l : List (Option Value)} {x : Int32} (hd : decode μ.2.1 pc = .ok (.istore_n 0, 1)) (hcat : (a0 :: l).all kcat = true) (kk : wp g μ R E Q n σ I (pc + 1) (some (.int x) :: l) st) : wp g μ R E Q n σ I pc (a0 :: l) (.int x :: st) := w_istore_n hd hcat (by simp only [List.length_cons]; first | omega | (show 0 < _; omega)) kk
theorem w_istore_1 {a0 a1 : Option Value} {l : List (Option Value)} {x : Int32} (hd : decode μ.2.1 pc = .ok (.istore_n 1, 1)) (hcat : (a0 :: a1 :: l).all kcat = true) (kk : wp g μ R E Q n σ I (pc + 1) (a0 :: some (.int x) :: l) st) : wp g μ R E Q n σ I pc (a0 :: a1 :: l) (.int x :: st) := w_istore_n hd hcat (by simp only [List.length_cons]; first | omega | (show 1 < _; omega)) kk
theorem w_istore_2 {a0 a1 a2 : Option Value} {l : List (Option Value)} {x : Int32} (hd : decode μ.2.1 pc = .ok (.istore_n 2, 1)) (hcat : (a0 :: a1 :: a2 :: l).all kcat = true) (kk : wp g μ R E Q n σ I (pc + 1) (a0 :: a1 :: some (.int x) :: l) st) : wp g μ R E Q n σ I pc (a0 :: a1 :: a2 :: l) (.int x :: st) := w_istore_n hd hcat (by simp only [List.length_cons]; first | omega | (show 2 < _; omega)) kk
theorem w_istore_3 {a0 a1 a2 a3 : Option Value} {l : List (Option Value)} {x : Int32} (hd : decode μ.2.1 pc = .ok (.istore_n 3, 1)) (hcat : (a0 :: a1 :: a2 :: a3 :: l).all kcat = true) (kk : wp g μ R E Q n σ I (pc + 1) (a0 :: a1 :: a2 :: some (.int x) :: l) st) : wp g μ R E Q n σ I pc (a0 :: a1 :: a2 :: a3 :: l) (.int x :: st) := w_istore_n hd hcat (by simp only [List.length_cons]; first | omega | (show 3 < _; omega)) kk
theorem w_istore_4 {a0 a1 a2 a3 a4 : Option Value} {l : List (Option Value)} {x : Int32} (hd : decode μ.2.1 pc = .ok (.istore 4, 2)) (hcat : (a0 :: a1 :: a2 :: a3 :: a4 :: l).all kcat = true) (kk : wp g μ R E Q n σ I (pc + 2) (a0 :: a1 :: a2 :: a3 :: some (.int x) :: l) st) : wp g μ R E Q n σ I pc (a0 :: a1 :: a2 :: a3 :: a4 :: l) (.int x :: st) := w_istore hd hcat (by simp only [List.length_cons]; first | omega | (show 4 < _; omega)) kk
theorem w_istore_5 {a0 a1 a2 a3 a4 a5 : Option Value} {l : List (Option Value)} {x : Int32} (hd : decode μ.2.1 pc = .ok (.istore 5, 2)) (hcat : (a0 :: a1 :: a2 :: a3 :: a4 :: a5 :: l).all kcat = true) (kk : wp g μ R E Q n σ I (pc + 2) (a0 :: a1 :: a2 :: a3 :: a4 :: some (.int x) :: l) st) : wp g μ R E Q n σ I pc (a0 :: a1 :: a2 :: a3 :: a4 :: a5 :: l) (.int x :: st) := w_istore hd hcat (by simp only [List.length_cons]; first | omega | (show 5 < _; omega)) kk
theorem w_istore_6 {a0 a1 a2 a3 a4 a5 a6 : Option Value} {l : List (Option Value)} {x : Int32} (hd : decode μ.2.1 pc = .ok (.istore 6, 2)) (hcat : (a0 :: a1 :: a2 :: a3 :: a4 :: a5 :: a6 :: l).all kcat = true) (kk : wp g μ R E Q n σ I (pc + 2) (a0 :: a1 :: a2 :: a3 :: a4 :: a5 :: some (.int x) :: l) st) : wp g μ R E Q n σ I pc (a0 :: a1 :: a2 :: a3 :: a4 :: a5 :: a6 :: l) (.int x :: st) := w_istore hd hcat (by simp only [List.length_cons]; first | omega | (show 6 < _; omega)) kk
theorem w_istore_7 {a0 a1 a2 a3 a4 a5 a6 a7 : Option Value} {l : List (Option Value)} {x : Int32} (hd : decode μ.2.1 pc = .ok (.istore 7, 2)) (hcat : (a0 :: a1 :: a2 :: a3 :: a4 :: a5 :: a6 :: a7 :: l).all kcat = true) (kk : wp g μ R E Q n σ I (pc + 2) (a0 :: a1 :: a2 :: a3 :: a4 :: a5 :: a6 :: some (.int x) :: l) st) : wp g μ R E Q n σ I pc (a0 :: a1 :: a2 :: a3 :: a4 :: a5 :: a6 :: a7 :: l) (.int x :: st) := w_istore hd hcat (by simp only [List.length_cons]; first | omega | (show 7 < _; omega)) kk
theorem w_astore_n {k : Fin 4} {x : Nat} (hd : decode μ.2.1 pc = .ok (.astore_n k, 1)) (hcat : loc.all kcat = true) (hk : (k : Nat) < loc.length) (kk : wp g μ R E Q n σ I (pc + 1) (loc.set (k : Nat) (some (.ref x))) st) : wp g μ R E Q n σ I pc loc (.ref x :: st) := by
  intro p e s m args below meth c H locs ls h
  have hL := h.2.2.2.2
  have hk' : (k : Nat) < μ.2.2.1 := by rw [← hL.2.2.1]; exact hk
  exact lv_astore_n h.1.1 h.1.2.1 hd rfl (kLh_has hL) hk' rfl (fun ls' h' => kk p e s m args below meth c H locs ls' ⟨h.1, h.2.1, h.2.2.1, h.2.2.2.1, kLh_set hL.2.2.1 hk' hcat h'⟩)
theorem w_astore {k : Nat} {x : Nat} (hd : decode μ.2.1 pc = .ok (.astore k, 2)) (hcat : loc.all kcat = true) (hk : k < loc.length) (kk : wp g μ R E Q n σ I (pc + 2) (loc.set k (some (.ref x))) st) : wp g μ R E Q n σ I pc loc (.ref x :: st) := by
  intro p e s m args below meth c H locs ls h
  have hL := h.2.2.2.2
  have hk' : k < μ.2.2.1 := by rw [← hL.2.2.1]; exact hk
  exact lv_astore h.1.1 h.1.2.1 hd (kLh_has hL) hk' rfl (fun ls' h' => kk p e s m args below meth c H locs ls' ⟨h.1, h.2.1, h.2.2.1, h.2.2.2.1, kLh_set hL.2.2.1 hk' hcat h'⟩)
theorem w_astore_0 {a0 : Option Value} {l : List (Option Value)} {x : Nat} (hd : decode μ.2.1 pc = .ok (.astore_n 0, 1)) (hcat : (a0 :: l).all kcat = true) (kk : wp g μ R E Q n σ I (pc + 1) (some (.ref x) :: l) st) : wp g μ R E Q n σ I pc (a0 :: l) (.ref x :: st) := w_astore_n hd hcat (by simp only [List.length_cons]; first | omega | (show 0 < _; omega)) kk
theorem w_astore_1 {a0 a1 : Option Value} {l : List (Option Value)} {x : Nat} (hd : decode μ.2.1 pc = .ok (.astore_n 1, 1)) (hcat : (a0 :: a1 :: l).all kcat = true) (kk : wp g μ R E Q n σ I (pc + 1) (a0 :: some (.ref x) :: l) st) : wp g μ R E Q n σ I pc (a0 :: a1 :: l) (.ref x :: st) := w_astore_n hd hcat (by simp only [List.length_cons]; first | omega | (show 1 < _; omega)) kk
theorem w_astore_2 {a0 a1 a2 : Option Value} {l : List (Option Value)} {x : Nat} (hd : decode μ.2.1 pc = .ok (.astore_n 2, 1)) (hcat : (a0 :: a1 :: a2 :: l).all kcat = true) (kk : wp g μ R E Q n σ I (pc + 1) (a0 :: a1 :: some (.ref x) :: l) st) : wp g μ R E Q n σ I pc (a0 :: a1 :: a2 :: l) (.ref x :: st) := w_astore_n hd hcat (by simp only [List.length_cons]; first | omega | (show 2 < _; omega)) kk
theorem w_astore_3 {a0 a1 a2 a3 : Option Value} {l : List (Option Value)} {x : Nat} (hd : decode μ.2.1 pc = .ok (.astore_n 3, 1)) (hcat : (a0 :: a1 :: a2 :: a3 :: l).all kcat = true) (kk : wp g μ R E Q n σ I (pc + 1) (a0 :: a1 :: a2 :: some (.ref x) :: l) st) : wp g μ R E Q n σ I pc (a0 :: a1 :: a2 :: a3 :: l) (.ref x :: st) := w_astore_n hd hcat (by simp only [List.length_cons]; first | omega | (show 3 < _; omega)) kk
theorem w_astore_4 {a0 a1 a2 a3 a4 : Option Value} {l : List (Option Value)} {x : Nat} (hd : decode μ.2.1 pc = .ok (.astore 4, 2)) (hcat : (a0 :: a1 :: a2 :: a3 :: a4 :: l).all kcat = true) (kk : wp g μ R E Q n σ I (pc + 2) (a0 :: a1 :: a2 :: a3 :: some (.ref x) :: l) st) : wp g μ R E Q n σ I pc (a0 :: a1 :: a2 :: a3 :: a4 :: l) (.ref x :: st) := w_astore hd hcat (by simp only [List.length_cons]; first | omega | (show 4 < _; omega)) kk
theorem w_astore_5 {a0 a1 a2 a3 a4 a5 : Option Value} {l : List (Option Value)} {x : Nat} (hd : decode μ.2.1 pc = .ok (.astore 5, 2)) (hcat : (a0 :: a1 :: a2 :: a3 :: a4 :: a5 :: l).all kcat = true) (kk : wp g μ R E Q n σ I (pc + 2) (a0 :: a1 :: a2 :: a3 :: a4 :: some (.ref x) :: l) st) : wp g μ R E Q n σ I pc (a0 :: a1 :: a2 :: a3 :: a4 :: a5 :: l) (.ref x :: st) := w_astore hd hcat (by simp only [List.length_cons]; first | omega | (show 5 < _; omega)) kk
theorem w_astore_6 {a0 a1 a2 a3 a4 a5 a6 : Option Value} {l : List (Option Value)} {x : Nat} (hd : decode μ.2.1 pc = .ok (.astore 6, 2)) (hcat : (a0 :: a1 :: a2 :: a3 :: a4 :: a5 :: a6 :: l).all kcat = true) (kk : wp g μ R E Q n σ I (pc + 2) (a0 :: a1 :: a2 :: a3 :: a4 :: a5 :: some (.ref x) :: l) st) : wp g μ R E Q n σ I pc (a0 :: a1 :: a2 :: a3 :: a4 :: a5 :: a6 :: l) (.ref x :: st) := w_astore hd hcat (by simp only [List.length_cons]; first | omega | (show 6 < _; omega)) kk
theorem w_astore_7 {a0 a1 a2 a3 a4 a5 a6 a7 : Option Value} {l : List (Option Value)} {x : Nat} (hd : decode μ.2.1 pc = .ok (.astore 7, 2)) (hcat : (a0 :: a1 :: a2 :: a3 :: a4 :: a5 :: a6 :: a7 :: l).all kcat = true) (kk : wp g μ R E Q n σ I (pc + 2) (a0 :: a1 :: a2 :: a3 :: a4 :: a5 :: a6 :: some (.ref x) :: l) st) : wp g μ R E Q n σ I pc (a0 :: a1 :: a2 :: a3 :: a4 :: a5 :: a6 :: a7 :: l) (.ref x :: st) := w_astore hd hcat (by simp only [List.length_cons]; first | omega | (show 7 < _; omega)) kk
theorem w_iinc {k : Nat} {d : Int} {x v : Int32} (hd : decode μ.2.1 pc = .ok (.iinc k d, 3)) (hv : x + Int32.ofInt d = v) (hcat : loc.all kcat = true) (hl : loc[k]? = some (some (.int x))) (kk : wp g μ R E Q n σ I (pc + 3) (loc.set k (some (.int v))) st) : wp g μ R E Q n σ I pc loc st := by
  intro p e s m args below meth c H locs ls h
  have hL := h.2.2.2.2
  have hk : k < loc.length := (List.getElem?_eq_some_iff.mp hl).1
  have hk' : k < μ.2.2.1 := by rw [← hL.2.2.1]; exact hk
  obtain ⟨q, hq⟩ := List.getElem?_of_mem (ktoA_mem.mpr hl)
  exact lv_iinc h.1.1 h.1.2.1 hd (kLh_has hL) hq hv hk' rfl (fun ls' h' => kk p e s m args below meth c H locs ls' ⟨h.1, h.2.1, h.2.2.1, h.2.2.2.1, kLh_set hL.2.2.1 hk' hcat h'⟩)
theorem w_iinc_0 {l : List (Option Value)} {d : Int} {x v : Int32} (hd : decode μ.2.1 pc = .ok (.iinc 0 d, 3)) (hv : x + Int32.ofInt d = v) (hcat : (some (.int x) :: l).all kcat = true) (kk : wp g μ R E Q n σ I (pc + 3) (some (.int v) :: l) st) : wp g μ R E Q n σ I pc (some (.int x) :: l) st := w_iinc hd hv hcat rfl kk
theorem w_iinc_1 {a0 : Option Value} {l : List (Option Value)} {d : Int} {x v : Int32} (hd : decode μ.2.1 pc = .ok (.iinc 1 d, 3)) (hv : x + Int32.ofInt d = v) (hcat : (a0 :: some (.int x) :: l).all kcat = true) (kk : wp g μ R E Q n σ I (pc + 3) (a0 :: some (.int v) :: l) st) : wp g μ R E Q n σ I pc (a0 :: some (.int x) :: l) st := w_iinc hd hv hcat rfl kk
theorem w_iinc_2 {a0 a1 : Option Value} {l : List (Option Value)} {d : Int} {x v : Int32} (hd : decode μ.2.1 pc = .ok (.iinc 2 d, 3)) (hv : x + Int32.ofInt d = v) (hcat : (a0 :: a1 :: some (.int x) :: l).all kcat = true) (kk : wp g μ R E Q n σ I (pc + 3) (a0 :: a1 :: some (.int v) :: l) st) : wp g μ R E Q n σ I pc (a0 :: a1 :: some (.int x) :: l) st := w_iinc hd hv hcat rfl kk
theorem w_iinc_3 {a0 a1 a2 : Option Value} {l : List (Option Value)} {d : Int} {x v : Int32} (hd : decode μ.2.1 pc = .ok (.iinc 3 d, 3)) (hv : x + Int32.ofInt d = v) (hcat : (a0 :: a1 :: a2 :: some (.int x) :: l).all kcat = true) (kk : wp g μ R E Q n σ I (pc + 3) (a0 :: a1 :: a2 :: some (.int v) :: l) st) : wp g μ R E Q n σ I pc (a0 :: a1 :: a2 :: some (.int x) :: l) st := w_iinc hd hv hcat rfl kk
theorem w_iinc_4 {a0 a1 a2 a3 : Option Value} {l : List (Option Value)} {d : Int} {x v : Int32} (hd : decode μ.2.1 pc = .ok (.iinc 4 d, 3)) (hv : x + Int32.ofInt d = v) (hcat : (a0 :: a1 :: a2 :: a3 :: some (.int x) :: l).all kcat = true) (kk : wp g μ R E Q n σ I (pc + 3) (a0 :: a1 :: a2 :: a3 :: some (.int v) :: l) st) : wp g μ R E Q n σ I pc (a0 :: a1 :: a2 :: a3 :: some (.int x) :: l) st := w_iinc hd hv hcat rfl kk
theorem w_iinc_5 {a0 a1 a2 a3 a4 : Option Value} {l : List (Option Value)} {d : Int} {x v : Int32} (hd : decode μ.2.1 pc = .ok (.iinc 5 d, 3)) (hv : x + Int32.ofInt d = v) (hcat : (a0 :: a1 :: a2 :: a3 :: a4 :: some (.int x) :: l).all kcat = true) (kk : wp g μ R E Q n σ I (pc + 3) (a0 :: a1 :: a2 :: a3 :: a4 :: some (.int v) :: l) st) : wp g μ R E Q n σ I pc (a0 :: a1 :: a2 :: a3 :: a4 :: some (.int x) :: l) st := w_iinc hd hv hcat rfl kk
theorem w_iinc_6 {a0 a1 a2 a3 a4 a5 : Option Value} {l : List (Option Value)} {d : Int} {x v : Int32} (hd : decode μ.2.1 pc = .ok (.iinc 6 d, 3)) (hv : x + Int32.ofInt d = v) (hcat : (a0 :: a1 :: a2 :: a3 :: a4 :: a5 :: some (.int x) :: l).all kcat = true) (kk : wp g μ R E Q n σ I (pc + 3) (a0 :: a1 :: a2 :: a3 :: a4 :: a5 :: some (.int v) :: l) st) : wp g μ R E Q n σ I pc (a0 :: a1 :: a2 :: a3 :: a4 :: a5 :: some (.int x) :: l) st := w_iinc hd hv hcat rfl kk
theorem w_iinc_7 {a0 a1 a2 a3 a4 a5 a6 : Option Value} {l : List (Option Value)} {d : Int} {x v : Int32} (hd : decode μ.2.1 pc = .ok (.iinc 7 d, 3)) (hv : x + Int32.ofInt d = v) (hcat : (a0 :: a1 :: a2 :: a3 :: a4 :: a5 :: a6 :: some (.int x) :: l).all kcat = true) (kk : wp g μ R E Q n σ I (pc + 3) (a0 :: a1 :: a2 :: a3 :: a4 :: a5 :: a6 :: some (.int v) :: l) st) : wp g μ R E Q n σ I pc (a0 :: a1 :: a2 :: a3 :: a4 :: a5 :: a6 :: some (.int x) :: l) st := w_iinc hd hv hcat rfl kk
theorem w_lstore_3 {a0 a1 a2 a3 a4 : Option Value} {x : Int64} (hd : decode μ.2.1 pc = .ok (.lstore_n 3, 1)) (hcat : [a0, a1, a2, a3, a4].all kcat = true) (kk : wp g μ R E Q n σ I (pc + 1) [a0, a1, a2, some (.long x), none] st) : wp g μ R E Q n σ I pc [a0, a1, a2, a3, a4] (.long x :: st) := by
  intro p e s m args below meth c H locs ls h
  have hL := h.2.2.2.2
  have hk' : 3 + 1 < μ.2.2.1 := by rw [← hL.2.2.1]; exact Nat.le_of_ble_eq_true rfl
  refine lv_lstore_n h.1.1 h.1.2.1 hd rfl (kLh_has hL) hk' rfl (fun ls' h' => kk p e s m args below meth c H locs ls' ⟨h.1, h.2.1, h.2.2.1, h.2.2.2.1, h'.1, h'.2.1, by rw [← hL.2.2.1]; rfl, fun j w hj => ?_⟩)
  have hj5 : j < 5 := (List.getElem?_eq_some_iff.mp hj).1
  by_cases h3 : j = 3
  · subst h3
    cases hj
    exact h'.2.2 (3, .long x) List.mem_cons_self
  · by_cases h4 : j = 4
    · subst h4; simp at hj
    · have hj' : [a0, a1, a2, a3, a4][j]? = some (some w) := by
        rcases (show j = 0 ∨ j = 1 ∨ j = 2 by omega) with rfl | rfl | rfl <;> simpa using hj
      have hc : kcat (some w) = true := List.all_eq_true.mp hcat _ (List.mem_of_getElem? hj')
      have hc1 := kcat1 hc
      refine h'.2.2 (j, w) (List.mem_cons_of_mem _ (List.mem_filter.mpr ⟨ktoA_mem.mpr hj', ?_⟩))
      have e3 : ((3 : Fin 4) : Nat) = 3 := rfl
      simp [e3, h3, h4, hc1]
theorem w_getI {ci i k a : Nat} {C : String} {T : u_T} {ty : Nat → FieldType} {N : Nat} (hci : kCI ci C T ty N) (k : Nat) (ha : kB g ≤ a ∧ a < σ.1) (hs : σ.2.1 a = (ci, 0)) (hk : (kft ci)[k]? = some false) (hw : Cond.fieldLink μ.1.cls i (T k).1 (T k).2.1 (T k).2.2.1 ∈ tblG) (hd : decode μ.2.1 pc = .ok (.getfield i, 3)) (kk : wp g μ R E Q n σ I (pc + 3) loc (.int (I a k) :: st)) : wp g μ R E Q n σ I pc loc (.ref a :: st) := by
  intro p e s m args below meth c H locs ls h
  obtain ⟨q, hq⟩ := kIn (I := I) ha
  have he : kF g σ I a = .inr (ci, kfv (σ.2.2 a) (I a) (kft ci) 0) := by simp only [kF, kE, hs, if_neg hci.2.2.2.2.2.1, if_neg hci.2.2.2.2.2.2]
  rw [he] at hq
  have hv := kfv_get (f := σ.2.2 a) (i := I a) (kft ci) 0 k false hk
  rw [Nat.zero_add] at hv
  have hk2 : k < N := by rw [← hci.2.2.2.2.1]; exact (List.getElem?_eq_some_iff.mp hk).1
  exact va_get (D := g.2.1) (ci := ci) (v := .int (I a k)) (C := C) (T := T) (N := N) h.1.1 h.1.2.1 h.1.2.2.2.2.1 hci.2.1 h.1.2.2.2.1 h.2.2.1.2.2.2 h.2.2.1.2.2.1 q hq hci.1 k hk2 (h.1.2.2.2.2.1 _ hw) (fun _ h9 => h9) hv hd (kk p e s m args below meth c H locs ls h)
theorem w_getR {ci i k a b : Nat} {C : String} {T : u_T} {ty : Nat → FieldType} {N : Nat} (hci : kCI ci C T ty N) (k : Nat) (ha : kB g ≤ a ∧ a < σ.1) (hs : σ.2.1 a = (ci, 0)) (hk : (kft ci)[k]? = some true) (hb : σ.2.2 a k = some b) (hw : Cond.fieldLink μ.1.cls i (T k).1 (T k).2.1 (T k).2.2.1 ∈ tblG) (hd : decode μ.2.1 pc = .ok (.getfield i, 3)) (kk : wp g μ R E Q n σ I (pc + 3) loc (.ref b :: st)) : wp g μ R E Q n σ I pc loc (.ref a :: st) := by
  intro p e s m args below meth c H locs ls h
  obtain ⟨q, hq⟩ := kIn (I := I) ha
  have he : kF g σ I a = .inr (ci, kfv (σ.2.2 a) (I a) (kft ci) 0) := by simp only [kF, kE, hs, if_neg hci.2.2.2.2.2.1, if_neg hci.2.2.2.2.2.2]
  rw [he] at hq
  have hv := kfv_get (f := σ.2.2 a) (i := I a) (kft ci) 0 k true hk
  rw [Nat.zero_add, hb] at hv
  have hk2 : k < N := by rw [← hci.2.2.2.2.1]; exact (List.getElem?_eq_some_iff.mp hk).1
  exact va_get (D := g.2.1) (ci := ci) (v := .ref b) (C := C) (T := T) (N := N) h.1.1 h.1.2.1 h.1.2.2.2.2.1 hci.2.1 h.1.2.2.2.1 h.2.2.1.2.2.2 h.2.2.1.2.2.1 q hq hci.1 k hk2 (h.1.2.2.2.2.1 _ hw) (fun _ h9 => h9) hv hd (kk p e s m args below meth c H locs ls h)

theorem w_putI {ci i a : Nat} {x : Int32} {C : String} {T : u_T} {ty : Nat → FieldType} {N : Nat} (hci : kCI ci C T ty N) (k : Nat) (ha : kB g ≤ a ∧ a < σ.1) (hs : σ.2.1 a = (ci, 0)) (hk : (kft ci)[k]? = some false) (hw : Cond.fieldLink μ.1.cls i (T k).1 (T k).2.1 (T k).2.2.1 ∈ tblG) (hfin : (T k).2.2.2 = false) {fty : FieldType} (hp : parseFieldDescriptor (T k).2.2.1 = some fty) (hn : narrow fty (.int x) = .int x) (hf : fits fty (.int x) = true) (hd : decode μ.2.1 pc = .ok (.putfield i, 3)) (kk : wp g μ R E Q n σ (kst I a k x) (pc + 3) loc st) : wp g μ R E Q n σ I pc loc (.int x :: .ref a :: st) := by
  intro p e s m args below meth c H locs ls h
  obtain ⟨q, hq⟩ := kIn (I := I) ha
  have hq0 := hq
  have he0 : kF g σ I a = .inr (ci, kfv (σ.2.2 a) (I a) (kft ci) 0) := by simp only [kF, kE, hs, if_neg hci.2.2.2.2.2.1, if_neg hci.2.2.2.2.2.2]
  rw [he0] at hq
  have hk1 := (List.getElem?_eq_some_iff.mp hk).1
  have hk2 : k < N := by rw [← hci.2.2.2.2.1]; exact hk1
  have hK := h.2.2.1.2.2.2
  have hP := h.2.2.1.2.2.1
  have hts := h.1.2.2.2.2.1
  have hown := h.1.2.2.2.1
  have hc := hci.1
  have hap := va_apart (own := C) hts hci.2.1 ty hci.2.2.1 hci.2.2.2.1 hK hc
  obtain ⟨r, h1, cell, q1, q2, q3, q4⟩ := hP q _ hq
  have hr : r = (C, T, N) := Option.some.inj (h1.symm.trans hc)
  subst hr
  obtain ⟨hS, hfc, kC, hkC, hkind⟩ := hK.1 ci _ hc
  obtain ⟨cf, kf, fi, f, hi, hsl⟩ := hS k hk2
  have hlay := hts _ (hci.2.1 _ (u_in_lay hk2))
  unfold u_lay at hlay
  rw [if_neg (by rw [hfin]; decide)] at hlay
  have hst := (u_facts hfc hkC (u_lays hts hci.2.1 hk2) hi).1
  have h6 := u_store hfc hkC hkind hlay hi hp hn hf
  refine W.putK h.1.1 h.1.2.1 (f := f) ⟨hown, h.1.2.2.2.2.1 _ hw, ⟨_, _, _, hi⟩, hst⟩ (by rw [q2]; exact h6) q1 q3 (by rw [hsl]; exact k2_hasslot (q4 k hk2)) rfl rfl hd fun H' e1 e2 e3 => ?_
  rw [hsl] at e1 ⊢
  have hl : k < (kfv (σ.2.2 a) (I a) (kft ci) 0).length := by rw [kfv_len]; exact hk1
  have hP1 : va_P g.2.1 vwCl ((kW g σ I).set q (a, .inr (ci, (kfv (σ.2.2 a) (I a) (kft ci) 0).set k (.int x)))) H' := hP.set kD hq ⟨_, hc, t_OB.to (V := updV (vp_V (kfv (σ.2.2 a) (I a) (kft ci) 0)) k (.int x)) ⟨_, e1, q2, q3, t_set q4 hap hk2 _⟩ (fun j _ => vp_updV_set hl _ j)⟩ e3
  have e5 : (kfv (σ.2.2 a) (I a) (kft ci) 0).set k (.int x) = kfv (σ.2.2 a) (upd (I a) k x) (kft ci) 0 := by
    rw [kfv_setI (kft ci) 0 k hk, Nat.zero_add]
  have e4 : kE g.2.2.1 g.2.2.2.1 (σ.2.1 a) (σ.2.2 a) (upd (I a) k x) = .inr (ci, kfv (σ.2.2 a) (upd (I a) k x) (kft ci) 0) := by simp only [kE, hs, if_neg hci.2.2.2.2.2.1, if_neg hci.2.2.2.2.2.2]
  rw [e5, ← e4, kSet ha hq0] at hP1
  exact kk p e s m args below meth c H' _ ls ⟨h.1, h.2.1, ⟨e2.trans h.2.2.1.1, h.2.2.1.2.1, hP1, hK⟩, h.2.2.2.1.put e2 e3 (show kA g a from ha.1), h.2.2.2.2⟩
theorem w_putR {ci i a : Nat} {x : Option Nat} {C : String} {T : u_T} {ty : Nat → FieldType} {N : Nat} (hci : kCI ci C T ty N) (k : Nat) (ha : kB g ≤ a ∧ a < σ.1) (hs : σ.2.1 a = (ci, 0)) (hk : (kft ci)[k]? = some true) (hw : Cond.fieldLink μ.1.cls i (T k).1 (T k).2.1 (T k).2.2.1 ∈ tblG) (hfin : (T k).2.2.2 = false) {fty : FieldType} (hp : parseFieldDescriptor (T k).2.2.1 = some fty) (hn : narrow fty (va_rf x) = va_rf x) (hf : fits fty (va_rf x) = true) (hd : decode μ.2.1 pc = .ok (.putfield i, 3)) (kk : wp g μ R E Q n (σ.1, σ.2.1, kgst σ.2.2 a k x) I (pc + 3) loc st) : wp g μ R E Q n σ I pc loc (va_rf x :: .ref a :: st) := by
  intro p e s m args below meth c H locs ls h
  obtain ⟨q, hq⟩ := kIn (I := I) ha
  have hq0 := hq
  have he0 : kF g σ I a = .inr (ci, kfv (σ.2.2 a) (I a) (kft ci) 0) := by simp only [kF, kE, hs, if_neg hci.2.2.2.2.2.1, if_neg hci.2.2.2.2.2.2]
  rw [he0] at hq
  have hk1 := (List.getElem?_eq_some_iff.mp hk).1
  have hk2 : k < N := by rw [← hci.2.2.2.2.1]; exact hk1
  have hK := h.2.2.1.2.2.2
  have hP := h.2.2.1.2.2.1
  have hts := h.1.2.2.2.2.1
  have hown := h.1.2.2.2.1
  have hc := hci.1
  have hap := va_apart (own := C) hts hci.2.1 ty hci.2.2.1 hci.2.2.2.1 hK hc
  obtain ⟨r, h1, cell, q1, q2, q3, q4⟩ := hP q _ hq
  have hr : r = (C, T, N) := Option.some.inj (h1.symm.trans hc)
  subst hr
  obtain ⟨hS, hfc, kC, hkC, hkind⟩ := hK.1 ci _ hc
  obtain ⟨cf, kf, fi, f, hi, hsl⟩ := hS k hk2
  have hlay := hts _ (hci.2.1 _ (u_in_lay hk2))
  unfold u_lay at hlay
  rw [if_neg (by rw [hfin]; decide)] at hlay
  have hst := (u_facts hfc hkC (u_lays hts hci.2.1 hk2) hi).1
  have h6 := u_store hfc hkC hkind hlay hi hp hn hf
  refine W.putK h.1.1 h.1.2.1 (f := f) ⟨hown, h.1.2.2.2.2.1 _ hw, ⟨_, _, _, hi⟩, hst⟩ (by rw [q2]; exact h6) q1 q3 (by rw [hsl]; exact k2_hasslot (q4 k hk2)) rfl rfl hd fun H' e1 e2 e3 => ?_
  rw [hsl] at e1 ⊢
  have hl : k < (kfv (σ.2.2 a) (I a) (kft ci) 0).length := by rw [kfv_len]; exact hk1
  have hP1 : va_P g.2.1 vwCl ((kW g σ I).set q (a, .inr (ci, (kfv (σ.2.2 a) (I a) (kft ci) 0).set k (va_rf x)))) H' := hP.set kD hq ⟨_, hc, t_OB.to (V := updV (vp_V (kfv (σ.2.2 a) (I a) (kft ci) 0)) k (va_rf x)) ⟨_, e1, q2, q3, t_set q4 hap hk2 _⟩ (fun j _ => vp_updV_set hl _ j)⟩ e3
  have e5 : (kfv (σ.2.2 a) (I a) (kft ci) 0).set k (va_rf x) = kfv (va_up (σ.2.2 a) k x) (I a) (kft ci) 0 := by
    rw [kfv_setR (kft ci) 0 k hk, Nat.zero_add]
  have e4 : kE g.2.2.1 g.2.2.2.1 (σ.2.1 a) (va_up (σ.2.2 a) k x) (I a) = .inr (ci, kfv (va_up (σ.2.2 a) k x) (I a) (kft ci) 0) := by simp only [kE, hs, if_neg hci.2.2.2.2.2.1, if_neg hci.2.2.2.2.2.2]
  rw [e5, ← e4, kSetR ha hq0] at hP1
  exact kk p e s m args below meth c H' _ ls ⟨h.1, h.2.1, ⟨e2.trans h.2.2.1.1, h.2.2.1.2.1, hP1, hK⟩, h.2.2.2.1.put e2 e3 (show kA g a from ha.1), h.2.2.2.2⟩
theorem w_putFR {ci i a : Nat} {x : Option Nat} {C : String} {T : u_T} {ty : Nat → FieldType} {N : Nat} (hci : kCI ci C T ty N) (k : Nat) (ha : kB g ≤ a ∧ a < σ.1) (hs : σ.2.1 a = (ci, 0)) (hk : (kft ci)[k]? = some true) (hw : Cond.fieldLink μ.1.cls i (T k).1 (T k).2.1 (T k).2.2.1 ∈ tblG) (hfin : (T k).2.2.2 = true) (hnm9 : μ.1.name = "<init>") (hdecl : (T k).1 = μ.1.cls) {fty : FieldType} (hp : parseFieldDescriptor (T k).2.2.1 = some fty) (hn : narrow fty (va_rf x) = va_rf x) (hf : fits fty (va_rf x) = true) (hd : decode μ.2.1 pc = .ok (.putfield i, 3)) (kk : wp g μ R E Q n (σ.1, σ.2.1, kgst σ.2.2 a k x) I (pc + 3) loc st) : wp g μ R E Q n σ I pc loc (va_rf x :: .ref a :: st) := by
  intro p e s m args below meth c H locs ls h
  obtain ⟨q, hq⟩ := kIn (I := I) ha
  have hq0 := hq
  have he0 : kF g σ I a = .inr (ci, kfv (σ.2.2 a) (I a) (kft ci) 0) := by simp only [kF, kE, hs, if_neg hci.2.2.2.2.2.1, if_neg hci.2.2.2.2.2.2]
  rw [he0] at hq
  have hk1 := (List.getElem?_eq_some_iff.mp hk).1
  have hk2 : k < N := by rw [← hci.2.2.2.2.1]; exact hk1
  have hK := h.2.2.1.2.2.2
  have hP := h.2.2.1.2.2.1
  have hts := h.1.2.2.2.2.1
  have hown := h.1.2.2.2.1
  have hc := hci.1
  have hap := va_apart (own := C) hts hci.2.1 ty hci.2.2.1 hci.2.2.2.1 hK hc
  obtain ⟨r, h1, cell, q1, q2, q3, q4⟩ := hP q _ hq
  have hr : r = (C, T, N) := Option.some.inj (h1.symm.trans hc)
  subst hr
  obtain ⟨hS, hfc, kC, hkC, hkind⟩ := hK.1 ci _ hc
  obtain ⟨cf, kf, fi, f, hi, hsl⟩ := hS k hk2
  have hlay := hts _ (hci.2.1 _ (u_in_lay hk2))
  unfold u_lay at hlay
  rw [if_pos hfin] at hlay
  have hst := (u_facts hfc hkC (u_lays hts hci.2.1 hk2) hi).1
  have hcf : m.cls = cf := by
    obtain ⟨_, _, c', _, _, _, -, -, hf', -, -, -, hown2, -⟩ := Cond.laysFinal_spec hlay
    have e1 : c' = cf := by have := hi.symm.trans hf'; simp at this; exact this.1.symm
    rw [hdecl] at hown2
    rw [← e1]; exact Option.some.inj (hown.symm.trans hown2)
  have h6 := u_fits hfc hkC hkind (Or.inr hlay) hi hp hn hf
  refine W.putFinK h.1.1 h.1.2.1 hown (h.1.2.2.2.2.1 _ hw) hi hst hcf (h.1.2.2.2.2.2.2.2.1 hnm9) (by rw [q2]; exact h6) q1 q3 (by rw [hsl]; exact k2_hasslot (q4 k hk2)) rfl rfl hd fun H' e1 e2 e3 => ?_
  rw [hsl] at e1 ⊢
  have hl : k < (kfv (σ.2.2 a) (I a) (kft ci) 0).length := by rw [kfv_len]; exact hk1
  have hP1 : va_P g.2.1 vwCl ((kW g σ I).set q (a, .inr (ci, (kfv (σ.2.2 a) (I a) (kft ci) 0).set k (va_rf x)))) H' := hP.set kD hq ⟨_, hc, t_OB.to (V := updV (vp_V (kfv (σ.2.2 a) (I a) (kft ci) 0)) k (va_rf x)) ⟨_, e1, q2, q3, t_set q4 hap hk2 _⟩ (fun j _ => vp_updV_set hl _ j)⟩ e3
  have e5 : (kfv (σ.2.2 a) (I a) (kft ci) 0).set k (va_rf x) = kfv (va_up (σ.2.2 a) k x) (I a) (kft ci) 0 := by
    rw [kfv_setR (kft ci) 0 k hk, Nat.zero_add]
  have e4 : kE g.2.2.1 g.2.2.2.1 (σ.2.1 a) (va_up (σ.2.2 a) k x) (I a) = .inr (ci, kfv (va_up (σ.2.2 a) k x) (I a) (kft ci) 0) := by simp only [kE, hs, if_neg hci.2.2.2.2.2.1, if_neg hci.2.2.2.2.2.2]
  rw [e5, ← e4, kSetR ha hq0] at hP1
  exact kk p e s m args below meth c H' _ ls ⟨h.1, h.2.1, ⟨e2.trans h.2.2.1.1, h.2.2.1.2.1, hP1, hK⟩, h.2.2.2.1.put e2 e3 (show kA g a from ha.1), h.2.2.2.2⟩
theorem kEi {g : kG} {σ : kS} {I : kI} {a N : Nat} (hs : σ.2.1 a = (100, N)) : kF g σ I a = .inl (g.2.2.1, N, .inl (I a)) := by simp only [kF, kE, hs, if_true]
theorem kEc {g : kG} {σ : kS} {I : kI} {a N : Nat} (hs : σ.2.1 a = (101, N)) : kF g σ I a = .inl (g.2.2.2.1, N, .inl (I a)) := by simp only [kF, kE, hs]; rfl
theorem w_iald {a N j : Nat} {x : Int32} (ha : kB g ≤ a ∧ a < σ.1) (hs : σ.2.1 a = (100, N)) (hx : x = nI j) (hj : j < N) (hN : N < 2 ^ 31) (hd : decode μ.2.1 pc = .ok (.iaload, 1)) (kk : wp g μ R E Q n σ I (pc + 1) loc (.int (I a j) :: st)) : wp g μ R E Q n σ I pc loc (.int x :: .ref a :: st) := by
  intro p e s m args below meth c H locs ls h
  obtain ⟨q, hq⟩ := kIn (I := I) ha
  rw [kEi hs] at hq
  subst hx
  have k2 := kk p e s m args below meth c H locs ls h
  rw [show I a j = I a (nI j).toNatClampNeg by rw [nI_clamp (by omega)]] at k2
  exact va_iald h.1.1 h.1.2.1 h.2.2.1.2.2.2 h.2.2.1.2.2.1 q 0 hq rfl (vp_in_nI hj hN) hd k2
theorem w_cald {a N j : Nat} {x : Int32} (ha : kB g ≤ a ∧ a < σ.1) (hs : σ.2.1 a = (101, N)) (hx : x = nI j) (hj : j < N) (hN : N < 2 ^ 31) (hd : decode μ.2.1 pc = .ok (.caload, 1)) (kk : wp g μ R E Q n σ I (pc + 1) loc (.int (I a j) :: st)) : wp g μ R E Q n σ I pc loc (.int x :: .ref a :: st) := by
  intro p e s m args below meth c H locs ls h
  obtain ⟨q, hq⟩ := kIn (I := I) ha
  rw [kEc hs] at hq
  subst hx
  have k2 := kk p e s m args below meth c H locs ls h
  rw [show I a j = I a (nI j).toNatClampNeg by rw [nI_clamp (by omega)]] at k2
  exact va_cald h.1.1 h.1.2.1 h.2.2.1.2.2.2 h.2.2.1.2.2.1 q 1 hq rfl (vp_in_nI hj hN) hd k2
theorem w_alen {a N : Nat} {v : Int32} (ha : kB g ≤ a ∧ a < σ.1) (hs : σ.2.1 a = (100, N)) (hv : Int32.ofNat N = v) (hd : decode μ.2.1 pc = .ok (.arraylength, 1)) (kk : wp g μ R E Q n σ I (pc + 1) loc (.int v :: st)) : wp g μ R E Q n σ I pc loc (.ref a :: st) := by
  intro p e s m args below meth c H locs ls h
  obtain ⟨q, hq⟩ := kIn (I := I) ha
  rw [kEi hs] at hq
  exact va_alen h.1.1 h.1.2.1 h.2.2.1.2.2.2 h.2.2.1.2.2.1 q 0 hq rfl hv hd (kk p e s m args below meth c H locs ls h)
theorem w_iast {a N j : Nat} {x y : Int32} (ha : kB g ≤ a ∧ a < σ.1) (hs : σ.2.1 a = (100, N)) (hy : y = nI j) (hj : j < N) (hN : N < 2 ^ 31) (hd : decode μ.2.1 pc = .ok (.iastore, 1)) (kk : wp g μ R E Q n σ (kst I a j (x)) (pc + 1) loc st) : wp g μ R E Q n σ I pc loc (.int x :: .int y :: .ref a :: st) := by
  intro p e s m args below meth c H locs ls h
  obtain ⟨q, hq⟩ := kIn (I := I) ha
  have hq0 := hq
  rw [kEi hs] at hq
  subst hy
  have hP := h.2.2.1.2.2.1
  have hK := h.2.2.1.2.2.2
  have hcl : (nI j).toNatClampNeg = j := nI_clamp (by omega)
  refine W.iast h.1.1 h.1.2.1 (hP q _ hq) ((hK.2 0 _ rfl).1 N (fun j => .int (I a j))) (fun q => by cases q) (by show ¬ (_ < 0 ∨ (arrV _ _ _).slots.size ≤ _); rw [arrV_size]; exact vp_in_nI hj hN) rfl rfl hd fun H1 e1 z oq => ?_
  have hP1 : va_P g.2.1 vwCl ((kW g σ I).set q (a, kE g.2.2.1 g.2.2.2.1 (σ.2.1 a) (σ.2.2 a) (upd (I a) j (x)))) H1 := by
    have e4 : kE g.2.2.1 g.2.2.2.1 (σ.2.1 a) (σ.2.2 a) (upd (I a) j (x)) = .inl (g.2.2.1, N, .inl (upd (I a) j (x))) := by
      simp only [kE, hs]; rfl
    rw [e4]
    refine hP.set kD hq ?_ oq
    show H1[a]? = some (vp_cell _ _)
    rw [e1]
    rw [vp_cell_i, vp_cell_i, arrV_store]
    congr 2
    funext q
    by_cases hq : q = j
    · subst hq
      simp [updV, upd, hcl]
      try rfl
    · simp [updV, upd, hq, hcl]
  rw [kSet ha hq0] at hP1
  exact kk p e s m args below meth c H1 _ ls ⟨h.1, h.2.1, ⟨z.trans h.2.2.1.1, h.2.2.1.2.1, hP1, hK⟩, h.2.2.2.1.put z oq (show kA g a from ha.1), h.2.2.2.2⟩
theorem w_cast {a N j : Nat} {x y : Int32} (ha : kB g ≤ a ∧ a < σ.1) (hs : σ.2.1 a = (101, N)) (hy : y = nI j) (hj : j < N) (hN : N < 2 ^ 31) (hd : decode μ.2.1 pc = .ok (.castore, 1)) (kk : wp g μ R E Q n σ (kst I a j (vp_nar .char x)) (pc + 1) loc st) : wp g μ R E Q n σ I pc loc (.int x :: .int y :: .ref a :: st) := by
  intro p e s m args below meth c H locs ls h
  obtain ⟨q, hq⟩ := kIn (I := I) ha
  have hq0 := hq
  rw [kEc hs] at hq
  subst hy
  have hP := h.2.2.1.2.2.1
  have hK := h.2.2.1.2.2.2
  have hcl : (nI j).toNatClampNeg = j := nI_clamp (by omega)
  refine W.cast h.1.1 h.1.2.1 (hP q _ hq) ((hK.2 1 _ rfl).1 N (fun j => .int (I a j))) (fun q => by cases q) (by show ¬ (_ < 0 ∨ (arrV _ _ _).slots.size ≤ _); rw [arrV_size]; exact vp_in_nI hj hN) rfl rfl hd fun H1 e1 z oq => ?_
  have hP1 : va_P g.2.1 vwCl ((kW g σ I).set q (a, kE g.2.2.1 g.2.2.2.1 (σ.2.1 a) (σ.2.2 a) (upd (I a) j (vp_nar .char x)))) H1 := by
    have e4 : kE g.2.2.1 g.2.2.2.1 (σ.2.1 a) (σ.2.2 a) (upd (I a) j (vp_nar .char x)) = .inl (g.2.2.2.1, N, .inl (upd (I a) j (vp_nar .char x))) := by
      simp only [kE, hs]; rfl
    rw [e4]
    refine hP.set kD hq ?_ oq
    show H1[a]? = some (vp_cell _ _)
    rw [e1]
    rw [vp_cell_i, vp_cell_i, arrV_store]
    congr 2
    funext q
    by_cases hq : q = j
    · subst hq
      simp [updV, upd, hcl]
      try rfl
    · simp [updV, upd, hq, hcl]
  rw [kSet ha hq0] at hP1
  exact kk p e s m args below meth c H1 _ ls ⟨h.1, h.2.1, ⟨z.trans h.2.2.1.1, h.2.2.1.2.1, hP1, hK⟩, h.2.2.2.1.put z oq (show kA g a from ha.1), h.2.2.2.2⟩
theorem w_iret {x : Int32} (hr : μ.2.2.2 = some .int) (hn1 : n.1 ≤ R.cells ∧ n.2 ≤ R.slots) (hd : decode μ.2.1 pc = .ok (.ireturn, 1)) (hq : Q (some (.int x)) σ I) : wp g μ R E Q n σ I pc loc [.int x] := by
  intro p e s m args below meth c H locs ls h
  refine W.widen hn1.1 hn1.2 ?_
  refine W.iret h.1.1 h.1.2.1 (h.1.2.2.2.2.2.2.1.trans hr) (fun t ht hW => ⟨_, σ, I, rfl, hq, ⟨by rw [ht]; exact h.2.2.1.1, h.2.2.1.2.1, by rw [ht]; exact h.2.2.1.2.2.1, va_K.moved hW.alike h.2.2.1.2.2.2⟩, h.2.2.2.1.F ht⟩) (fun q hq => h.2.2.2.1.2.2 q hq) hd h.1.2.2.2.2.2.1
theorem w_zret {x : Int32} (hr : μ.2.2.2 = some .boolean) (hn : narrow .boolean (.int x) = .int x) (hn1 : n.1 ≤ R.cells ∧ n.2 ≤ R.slots) (hd : decode μ.2.1 pc = .ok (.ireturn, 1)) (hq : Q (some (.int x)) σ I) : wp g μ R E Q n σ I pc loc [.int x] := by
  intro p e s m args below meth c H locs ls h
  refine W.widen hn1.1 hn1.2 ?_
  refine W.zret h.1.1 h.1.2.1 (h.1.2.2.2.2.2.2.1.trans hr) hn (fun t ht hW => ⟨_, σ, I, rfl, hq, ⟨by rw [ht]; exact h.2.2.1.1, h.2.2.1.2.1, by rw [ht]; exact h.2.2.1.2.2.1, va_K.moved hW.alike h.2.2.1.2.2.2⟩, h.2.2.2.1.F ht⟩) (fun q hq => h.2.2.2.1.2.2 q hq) hd h.1.2.2.2.2.2.1
theorem w_vret (hr : μ.2.2.2 = none) (hn1 : n.1 ≤ R.cells ∧ n.2 ≤ R.slots) (hd : decode μ.2.1 pc = .ok (.return_, 1)) (hq : Q (none) σ I) : wp g μ R E Q n σ I pc loc [] := by
  intro p e s m args below meth c H locs ls h
  refine W.widen hn1.1 hn1.2 ?_
  refine W.vret h.1.1 h.1.2.1 (h.1.2.2.2.2.2.2.1.trans hr) (fun t ht hW => ⟨_, σ, I, rfl, hq, ⟨by rw [ht]; exact h.2.2.1.1, h.2.2.1.2.1, by rw [ht]; exact h.2.2.1.2.2.1, va_K.moved hW.alike h.2.2.1.2.2.2⟩, h.2.2.2.1.F ht⟩) (fun q hq => h.2.2.2.1.2.2 q hq) hd h.1.2.2.2.2.2.1
theorem kLh_entry {as : List Value} {nL : Nat} (hcat : ∀ v ∈ as, v.category = 1) (hle : as.length ≤ nL) : kLh ((lg_sl as ++ List.replicate (nL - (lg_sl as).length) Slot.unset).toArray) nL (as.map some ++ List.replicate (nL - as.length) none) := by
  have hsl : (lg_sl as).length = as.length := by
    clear hle
    induction as with
    | nil => rfl
    | cons v r ih =>
      have h1 : v.category = 1 := hcat v List.mem_cons_self
      have h2 := ih (fun w hw => hcat w (List.mem_cons_of_mem _ hw))
      simp only [lg_sl, List.flatMap_cons, List.length_append, List.length_cons] at h2 ⊢
      rw [h2, if_neg (by omega)]
      simp; omega
  have h0 := lv_entry as (n := nL) (by omega)
  refine ⟨h0.1, h0.2.1, by simp; omega, fun i v hi => ?_⟩
  have hlt : i < as.length := by
    rcases Nat.lt_or_ge i as.length with h | h
    · exact h
    · rw [List.getElem?_append_right (by simpa using h)] at hi
      simp [List.getElem?_replicate] at hi
  rw [List.getElem?_append_left (by simpa using hlt), List.getElem?_map] at hi
  have hv : as[i]? = some v := by
    cases hz : as[i]? with
    | none => rw [hz] at hi; cases hi
    | some w => rw [hz] at hi; simp at hi; rw [hi]
  have key : ∀ (vs : List Value) (k j : Nat), (∀ v ∈ vs, v.category = 1) → vs[j]? = some v → (k + j, v) ∈ lv_args k vs := by
    intro vs
    induction vs with
    | nil => intro k j _ h; simp at h
    | cons w r ih =>
      intro k j hc h
      have hw : w.category = 1 := hc w List.mem_cons_self
      simp only [lv_args, if_neg (show ¬ w.category = 2 by omega)]
      cases j with
      | zero => simp at h; subst h; exact List.mem_cons_self
      | succ j =>
        have h' : r[j]? = some v := by simpa using h
        have := ih (k + 1) j (fun z hz => hc z (List.mem_cons_of_mem _ hz)) h'
        rw [show k + (j + 1) = k + 1 + j by omega]
        exact List.mem_cons_of_mem _ this
  have := key as 0 i hcat hv
  rw [Nat.zero_add] at this
  exact h0.2.2 _ this
theorem ct_of {as : List Value} (hy : plainName μ.1.cls = true) (hcat : as.all (fun v => kcat (some v)) = true) (hle : as.length ≤ μ.2.2.1) (hcode : Cond.code μ.1 μ.2.1 μ.2.2.1 μ.2.2.2 ∈ tblG) (hB : True)
    (kk : wp g μ R (fun _ => True) Q (0, 0) σ I 0 (as.map some ++ List.replicate (μ.2.2.1 - as.length) none) []) : ct g μ R as σ I Q := by
  refine Met.ofW (cc := μ.2.1) (maxL := μ.2.2.1) (ret := μ.2.2.2) hy rfl ?_
  intro p e s m args below meth c s₁ B hml hv
  obtain ⟨rfl, hH, hST⟩ := hv
  have hts := atoms_spec (ws := Cond.code μ.1 μ.2.1 μ.2.2.1 μ.2.2.2 :: tblG) B.pre
  have hcat' : ∀ v ∈ as, v.category = 1 := fun v hv => kcat1 (List.all_eq_true.mp hcat v hv)
  rw [lg_entry_eq]
  exact kk p e s m _ below meth c s.heap [] _ ⟨⟨B.exec, B.bytes, hml, findClass_of_methodNamed B.named, fun w hw => hts w (List.mem_cons_of_mem _ hw), B.notSynchronized, B.returns, fun h => (name_of_methodNamed B.named B.method).1.trans h, hST⟩, trivial, hH, va_S.rf, kLh_entry hcat' hle⟩
theorem kST_moved {s U : State} {H : Heap} {locs : List Loc} (hS : va_S (kA g) s.heap H locs) (h : kST g s) (hU : U.heap = H) (hW : s.WarmedH U.vm) : kST g U := by
  refine ⟨fun i hi => ?_, fun w hw => ?_⟩
  · obtain ⟨h1, h2⟩ := h.1 i hi
    refine ⟨va_Z.moved hW.alike (by rw [hU]; exact h1.kept hS.2.1), va_T.moved hW.alike (by rw [hU]; exact h2.kept hS.2.1)⟩
  · have hz := h.2 w hw
    revert hz
    simp only [nestWs, List.mem_cons, List.not_mem_nil, or_false] at hw
    rcases hw with rfl | rfl | rfl | rfl | rfl | rfl | rfl | rfl | rfl | rfl | rfl | rfl | rfl | rfl | rfl | rfl | rfl | rfl | rfl | rfl <;> intro hz <;> first | exact va_Nw.warmM hW hz | exact va_Nw.warmF hW hz
theorem kST_blind {s : State} {f : JFrame} {mk : MethodId} {a : Array Value} (h : kST g s) : kST g (s.calling f mk a) := by
  refine ⟨fun i hi => ?_, fun w hw => ?_⟩
  · obtain ⟨h1, h2⟩ := h.1 i hi
    exact ⟨va_Z.moved (u := s) (U := s.calling f mk a) (Vm.Alike.refl s.vm) h1, va_T.moved (u := s) (U := s.calling f mk a) (Vm.Alike.refl s.vm) h2⟩
  · have hz := h.2 w hw
    revert hz
    simp only [nestWs, List.mem_cons, List.not_mem_nil, or_false] at hw
    rcases hw with rfl | rfl | rfl | rfl | rfl | rfl | rfl | rfl | rfl | rfl | rfl | rfl | rfl | rfl | rfl | rfl | rfl | rfl | rfl | rfl <;> intro hz <;> exact va_Nw.same (u := s) (U := s.calling f mk a) rfl rfl hz
theorem kBlind {as : List Value} {σ : kS} {I : kI} : FrameBlind (va_Pc as (fun U => kHold g σ I U U.heap ∧ kST g U)) := by
  intro a U f mk hh
  obtain ⟨h1, ⟨h2, h3, h4, h5⟩, h6⟩ := hh
  exact ⟨h1, ⟨h2, h3, h4, va_K.moved (u := U) (U := U.calling f mk a) (Vm.Alike.refl U.vm) h5⟩, kST_blind h6⟩
-- behind a call
theorem kCall {σ' : kS} {I' : kI} {μ' : kM} {R' : Room} {as st0 : List Value} {a : Array Value} {Q' : kP} {p : Program} {e : Env} {s : State} {m : MethodId} {args : Array Value} {below : List Frame} {meth : Method} {c : Code} {H : Heap} {locs : List Loc} {ls : Array Slot} {mc ms : Nat} {W' : State → Prop} (h : kAll g μ E σ I loc p s m args meth c H locs ls)
    (hr : va_Run p g.1 e R s m args below meth c H locs n.1 n.2 mc ms (F0 m pc ls st0) st (kQ g Q' a) (kA g))
    (kk : ∀ v σ' I', Q' v σ' I' → wp g μ R E Q (n.1 + mc, n.2 + ms) σ' I' (pc + 3) loc (v.toList ++ st)) : W p g.1 e R s m args below meth c H locs n.1 n.2 (MQ below (kQ g Q) args s R.cells R.slots (kA g)) (F0 m pc ls st0) := by
  intro T hT X
  obtain ⟨v, st₀, t, T', L, h0, X', hL, e1, e2, ⟨v', σ', I', hv, hq, hH, hz, hf⟩, stp⟩ := hr T hT X
  cases hv
  rw [h0] at hz hf
  have hS := h.2.2.2.1
  have hal : t.vm = T'.vm := e2.symm
  obtain ⟨t2, a1, b1⟩ := kk v σ' I' hq p e s m args below meth c t.heap (locs ++ L) ls ⟨h.1, h.2.1, ⟨hH.1, hH.2.1, hH.2.2.1, by
      have := X'.warmed
      rw [e2] at this
      exact ⟨h.2.2.1.2.2.2.1, h.2.2.1.2.2.2.2⟩⟩, ⟨Nat.le_trans hS.1 hz, fun q h1 h2 => by rw [hf q (Nat.lt_of_lt_of_le h1 hS.1) h2]; exact hS.2.1 q h1 h2, fun q hq => by
      rcases List.mem_append.mp hq with h3 | h3
      · exact hS.2.2 q h3
      · exact hL q h3⟩, h.2.2.2.2⟩ T' e1 X'
  exact ⟨t2, stp t2 a1, b1⟩
-- what is known of a method, once: its code row, its class initialised, its count of arguments
def kOK (μ : kM) (k : Nat) : Prop := Cond.code μ.1 μ.2.1 μ.2.2.1 μ.2.2.2 ∈ tblG ∧ Cond.initialized μ.1.cls ∈ tblG ∧ (μ.1.cls ≠ "java/lang/invoke/MethodHandle" ∧ μ.1.cls ≠ "java/lang/invoke/VarHandle") ∧ (parseMethodDescriptor μ.1.desc).map (fun d => d.parameters.length) = some k
theorem kGood {y : Cond} (h : y ∈ tblG) : GoodIn tblG (y :: tblG) := fun w hw => by
  have hm : w ∈ tblG := by
    rcases List.mem_cons.mp hw with rfl | h2
    · exact h
    · exact h2
  exact ⟨hm, good_of_word (List.mem_filter.mp hm).2⟩
theorem kCB {μ' : kM} {R' : Room} {i k : Nat} {p : Program} {s : State} {m : MethodId} {args : Array Value} {meth : Method} {c : Code} (h : kCx g μ p s m args meth c) (hok : kOK μ' k) (hl : Cond.methodLink μ.1.cls i μ'.1 ∈ tblG) (hR : R'.frames + 1 ≤ R.frames ∧ 8 + (μ'.2.2.1 + 11) + R'.locals ≤ R.locals) :
    CallB R s args μ.1.cls i μ'.1 μ'.2.1 μ'.2.2.1 μ'.2.2.2 (Cond.code μ'.1 μ'.2.1 μ'.2.2.1 μ'.2.2.2 :: tblG) R' R'.cells R'.slots k :=
  callB_of k h.2.2.2.2.1 (kGood hok.1) rfl rfl rfl (h.2.2.2.2.1 _ hok.2.1) (h.2.2.2.2.1 _ hl) ⟨hok.2.2.1.1, hok.2.2.1.2, hok.2.2.2⟩ hR
theorem kCBN {μ' : kM} {R' : Room} {i k : Nat} {host : String} {p : Program} {s : State} {m : MethodId} {args : Array Value} {meth : Method} {c : Code} (h : kCx g μ p s m args meth c) (hok : kOK μ' k) (hl : Cond.methodLinkNest μ.1.cls i μ'.1 host ∈ nestWs) (hR : R'.frames + 1 ≤ R.frames ∧ 8 + (μ'.2.2.1 + 11) + R'.locals ≤ R.locals) :
    va_CN R s args μ.1.cls i μ'.1 host μ'.2.1 μ'.2.2.1 μ'.2.2.2 (Cond.code μ'.1 μ'.2.1 μ'.2.2.1 μ'.2.2.2 :: tblG) R' R'.cells R'.slots k :=
  va_cnB k h.2.2.2.2.1 (kGood hok.1) rfl rfl rfl (h.2.2.2.2.2.2.2.2.2 _ hl) (h.2.2.2.2.1 _ hok.2.1) ⟨hok.2.2.1.1, hok.2.2.1.2, hok.2.2.2⟩ hR
theorem kPre {μ' : kM} {as : List Value} {p : Program} {s : State} {m : MethodId} {args : Array Value} {meth : Method} {c : Code} {H : Heap} {locs : List Loc} {ls : Array Slot} (h : kAll g μ E σ I loc p s m args meth c H locs ls) : PreS s H (va_Pc as (fun U => kHold g σ I U U.heap ∧ kST g U)) as :=
  ⟨kBlind, fun U hU hW => ⟨rfl, ⟨by rw [hU]; exact h.2.2.1.1, h.2.2.1.2.1, by rw [hU]; exact h.2.2.1.2.2.1, va_K.moved hW.alike h.2.2.1.2.2.2⟩, kST_moved h.2.2.2.1 h.1.2.2.2.2.2.2.2.2 hU hW⟩⟩
theorem kRecv {b ci : Nat} {C : String} {T : u_T} {ty : Nat → FieldType} {N : Nat} {s : State} {H : Heap} (hci : kCI ci C T ty N) (hb : kB g ≤ b ∧ b < σ.1) (hs : σ.2.1 b = (ci, 0)) (h : kHold g σ I s H) : ∃ cell : Cell, H[b]? = some cell ∧ cell.vm.isStatics = false ∧ s.vm.findClass C = some cell.cls := by
  obtain ⟨q, hq⟩ := kIn (I := I) hb
  have he : kF g σ I b = .inr (ci, kfv (σ.2.2 b) (I b) (kft ci) 0) := by simp only [kF, kE, hs, if_neg hci.2.2.2.2.2.1, if_neg hci.2.2.2.2.2.2]
  rw [he] at hq
  exact va_recv h.2.2.2 h.2.2.1 hci.1 hq
theorem w_callV {μ' : kM} {R' : Room} {as stk : List Value} {b i ci : Nat} {T : u_T} {ty : Nat → FieldType} {N : Nat} {Q' : kP} (hct : ct g μ' R' (.ref b :: as) σ I Q') (hok : kOK μ' as.length) (hin : Cond.instanceMethod μ'.1 ∈ tblG) (hse : Cond.selects μ'.1.cls μ'.1 μ'.1 ∈ tblG) (hci : kCI ci μ'.1.cls T ty N) (hb : kB g ≤ b ∧ b < σ.1) (hs : σ.2.1 b = (ci, 0)) (hl : Cond.methodLink μ.1.cls i μ'.1 ∈ tblG) (hR : (R'.frames + 1 ≤ R.frames ∧ 8 + (μ'.2.2.1 + 11) + R'.locals ≤ R.locals) ∧ n.1 + R'.cells ≤ R.cells ∧ n.2 + R'.slots ≤ R.slots) (hstk : stk = as.reverse ++ .ref b :: st) (hW : (st.map fun v => v.category).sum ≤ 8) (hd : decode μ.2.1 pc = .ok (.invokevirtual i, 3))
    (kk : ∀ v σ' I', Q' v σ' I' → wp g μ R E Q (n.1 + R'.cells, n.2 + R'.slots) σ' I' (pc + 3) loc (v.toList ++ st)) : wp g μ R E Q n σ I pc loc stk := by
  intro p e s m args below meth c H locs ls h
  have S : CallFix p m c μ.2.1 μ.2.2.1 s args tblG μ.1.cls := ⟨h.1.1, h.1.2.1, h.1.2.2.1, h.1.2.2.2.1, h.1.2.2.2.2.1⟩
  have hp := kPre (μ' := μ') (as := .ref b :: as) h
  exact kCall (Q' := Q') (σ' := σ) (I' := I) (μ' := μ') (R' := R') (as := as) (W' := fun _ => True) h (va_runV S hct ⟨kCB h.1 hok hl hR.1, h.1.2.2.2.2.1 _ hin, h.1.2.2.2.2.1 _ hse⟩ ⟨hp.1, kRecv hci hb hs h.2.2.1, hp.2⟩ rfl rfl h.2.2.2.2.1 hstk (by show 2 * 0 + _ ≤ 8; omega) hd hR.2) kk
theorem w_callS {μ' : kM} {R' : Room} {as stk : List Value} {i : Nat} {Q' : kP} (hct : ct g μ' R' as σ I Q') (hok : kOK μ' as.length) (hin : Cond.static μ'.1 ∈ tblG) (hl : Cond.methodLink μ.1.cls i μ'.1 ∈ tblG) (hR : (R'.frames + 1 ≤ R.frames ∧ 8 + (μ'.2.2.1 + 11) + R'.locals ≤ R.locals) ∧ n.1 + R'.cells ≤ R.cells ∧ n.2 + R'.slots ≤ R.slots) (hstk : stk = as.reverse ++ st) (hW : (st.map fun v => v.category).sum ≤ 8) (hd : decode μ.2.1 pc = .ok (.invokestatic i, 3))
    (kk : ∀ v σ' I', Q' v σ' I' → wp g μ R E Q (n.1 + R'.cells, n.2 + R'.slots) σ' I' (pc + 3) loc (v.toList ++ st)) : wp g μ R E Q n σ I pc loc stk := by
  intro p e s m args below meth c H locs ls h
  have S : CallFix p m c μ.2.1 μ.2.2.1 s args tblG μ.1.cls := ⟨h.1.1, h.1.2.1, h.1.2.2.1, h.1.2.2.2.1, h.1.2.2.2.2.1⟩
  exact kCall (Q' := Q') (σ' := σ) (I' := I) (μ' := μ') (R' := R') (as := as) (W' := fun _ => True) h (va_runS S hct ⟨kCB h.1 hok hl hR.1, h.1.2.2.2.2.1 _ hin⟩ (kPre (μ' := μ') h) rfl rfl h.2.2.2.2.1 hstk (by show 2 * 0 + _ ≤ 8; omega) hd hR.2) kk
theorem w_callSN {μ' : kM} {R' : Room} {as stk : List Value} {i : Nat} {host : String} {Q' : kP} (hct : ct g μ' R' as σ I Q') (hok : kOK μ' as.length) (hin : Cond.static μ'.1 ∈ tblG) (hl : Cond.methodLinkNest μ.1.cls i μ'.1 host ∈ nestWs) (hR : (R'.frames + 1 ≤ R.frames ∧ 8 + (μ'.2.2.1 + 11) + R'.locals ≤ R.locals) ∧ n.1 + R'.cells ≤ R.cells ∧ n.2 + R'.slots ≤ R.slots) (hstk : stk = as.reverse ++ st) (hW : (st.map fun v => v.category).sum ≤ 8) (hd : decode μ.2.1 pc = .ok (.invokestatic i, 3))
    (kk : ∀ v σ' I', Q' v σ' I' → wp g μ R E Q (n.1 + R'.cells, n.2 + R'.slots) σ' I' (pc + 3) loc (v.toList ++ st)) : wp g μ R E Q n σ I pc loc stk := by
  intro p e s m args below meth c H locs ls h
  have S : CallFix p m c μ.2.1 μ.2.2.1 s args tblG μ.1.cls := ⟨h.1.1, h.1.2.1, h.1.2.2.1, h.1.2.2.2.1, h.1.2.2.2.2.1⟩
  exact kCall (Q' := Q') (σ' := σ) (I' := I) (μ' := μ') (R' := R') (as := as) (W' := fun _ => True) h (va_runSN S hct ⟨kCBN h.1 hok hl hR.1, h.1.2.2.2.2.1 _ hin, trivial⟩ (kPre (μ' := μ') h) rfl rfl h.2.2.2.2.1 hstk (by show 2 * 0 + _ ≤ 8; omega) hd hR.2) kk
theorem w_callI {μ' : kM} {R' : Room} {as stk : List Value} {b i : Nat} {Q' : kP} (hct : ct g μ' R' (.ref b :: as) σ I Q') (hr : μ'.2.2.2 = none) (hok : kOK μ' as.length) (hnm : μ'.1.name = "<init>") (hin : Cond.instanceMethod μ'.1 ∈ tblG) (hl : Cond.methodLink μ.1.cls i μ'.1 ∈ tblG) (hR : (R'.frames + 1 ≤ R.frames ∧ 8 + (μ'.2.2.1 + 11) + R'.locals ≤ R.locals) ∧ n.1 + R'.cells ≤ R.cells ∧ n.2 + R'.slots ≤ R.slots) (hstk : stk = as.reverse ++ .ref b :: st) (hW : (st.map fun v => v.category).sum ≤ 8) (hd : decode μ.2.1 pc = .ok (.invokespecial i, 3))
    (kk : ∀ v σ' I', Q' v σ' I' → wp g μ R E Q (n.1 + R'.cells, n.2 + R'.slots) σ' I' (pc + 3) loc (v.toList ++ st)) : wp g μ R E Q n σ I pc loc stk := by
  intro p e s m args below meth c H locs ls h
  have S : CallFix p m c μ.2.1 μ.2.2.1 s args tblG μ.1.cls := ⟨h.1.1, h.1.2.1, h.1.2.2.1, h.1.2.2.2.1, h.1.2.2.2.2.1⟩
  have cb := kCB h.1 hok hl hR.1
  rw [hr] at cb
  have hct' := hct
  exact kCall (Q' := Q') (σ' := σ) (I' := I) (μ' := μ') (R' := R') (as := as) (W' := fun _ => True) h (va_runI (ws := Cond.code μ'.1 μ'.2.1 μ'.2.2.1 μ'.2.2.2 :: tblG) S hct ⟨by rw [hr]; exact cb, hnm, h.1.2.2.2.2.1 _ hin⟩ (kPre (μ' := μ') h) rfl rfl h.2.2.2.2.1 hstk (by show 2 * 0 + _ ≤ 8; omega) hd hR.2) kk
theorem w_callIN {μ' : kM} {R' : Room} {as stk : List Value} {b i : Nat} {host : String} {Q' : kP} (hct : ct g μ' R' (.ref b :: as) σ I Q') (hr : μ'.2.2.2 = none) (hok : kOK μ' as.length) (hnm : μ'.1.name = "<init>") (hin : Cond.instanceMethod μ'.1 ∈ tblG) (hl : Cond.methodLinkNest μ.1.cls i μ'.1 host ∈ nestWs) (hR : (R'.frames + 1 ≤ R.frames ∧ 8 + (μ'.2.2.1 + 11) + R'.locals ≤ R.locals) ∧ n.1 + R'.cells ≤ R.cells ∧ n.2 + R'.slots ≤ R.slots) (hstk : stk = as.reverse ++ .ref b :: st) (hW : (st.map fun v => v.category).sum ≤ 8) (hd : decode μ.2.1 pc = .ok (.invokespecial i, 3))
    (kk : ∀ v σ' I', Q' v σ' I' → wp g μ R E Q (n.1 + R'.cells, n.2 + R'.slots) σ' I' (pc + 3) loc (v.toList ++ st)) : wp g μ R E Q n σ I pc loc stk := by
  intro p e s m args below meth c H locs ls h
  have S : CallFix p m c μ.2.1 μ.2.2.1 s args tblG μ.1.cls := ⟨h.1.1, h.1.2.1, h.1.2.2.1, h.1.2.2.2.1, h.1.2.2.2.2.1⟩
  have cb := kCBN h.1 hok hl hR.1
  rw [hr] at cb
  exact kCall (Q' := Q') (σ' := σ) (I' := I) (μ' := μ') (R' := R') (as := as) (W' := fun _ => True) h (va_runIN (ws := Cond.code μ'.1 μ'.2.1 μ'.2.2.1 μ'.2.2.2 :: tblG) S hct ⟨by rw [hr]; exact cb, hnm, h.1.2.2.2.2.1 _ hin⟩ (kPre (μ' := μ') h) rfl rfl h.2.2.2.2.1 hstk (by show 2 * 0 + _ ≤ 8; omega) hd hR.2) kk
end KWP
end
section
section KWQ
variable {g : kG} {μ : kM} {R : Room} {E : State → Prop} {Q : kP} {n : Nat × Nat} {σ : kS} {I : kI} {pc : Nat} {loc : List (Option Value)} {st : List Value}
theorem w_mmin {i : Nat} {x y : Int32} (hl : Cond.methodLink μ.1.cls i Lib.Math.min.name ∈ tblG) (hs : Cond.static Lib.Math.min.name ∈ tblG) (hi : Cond.initialized "java/lang/Math" ∈ tblG) (hc : Cond.code Lib.Math.min.name Lib.Math.min.code 2 (some .int) ∈ tblG) (hR : (1 ≤ R.frames ∧ (st.map fun v => v.category).sum + 13 ≤ R.locals) ∧ n.1 ≤ R.cells ∧ n.2 ≤ R.slots) (hd : decode μ.2.1 pc = .ok (.invokestatic i, 3)) (kk : wp g μ R E Q n σ I (pc + 3) loc (.int (if y < x then y else x) :: st)) : wp g μ R E Q n σ I pc loc (.int y :: .int x :: st) := fun p e s m args below meth c H locs ls h => va_mmin h.1.1 h.1.2.1 (h.1.2.2.1.trans h.2.2.2.2.1.symm) h.1.2.2.2.1 (h.1.2.2.2.2.1 _ hl) (h.1.2.2.2.2.1 _ hs) (h.1.2.2.2.2.1 _ hi) (h.1.2.2.2.2.1 _ hc) hR.1.1 hR.1.2 hR.2.1 hR.2.2 hd (kk p e s m args below meth c H locs ls h)
theorem w_mmax {i : Nat} {x y : Int32} (hl : Cond.methodLink μ.1.cls i Lib.Math.max.name ∈ tblG) (hs : Cond.static Lib.Math.max.name ∈ tblG) (hi : Cond.initialized "java/lang/Math" ∈ tblG) (hc : Cond.code Lib.Math.max.name Lib.Math.max.code 2 (some .int) ∈ tblG) (hR : (1 ≤ R.frames ∧ (st.map fun v => v.category).sum + 13 ≤ R.locals) ∧ n.1 ≤ R.cells ∧ n.2 ≤ R.slots) (hd : decode μ.2.1 pc = .ok (.invokestatic i, 3)) (kk : wp g μ R E Q n σ I (pc + 3) loc (.int (if x < y then y else x) :: st)) : wp g μ R E Q n σ I pc loc (.int y :: .int x :: st) := fun p e s m args below meth c H locs ls h => va_mmax h.1.1 h.1.2.1 (h.1.2.2.1.trans h.2.2.2.2.1.symm) h.1.2.2.2.1 (h.1.2.2.2.2.1 _ hl) (h.1.2.2.2.2.1 _ hs) (h.1.2.2.2.2.1 _ hi) (h.1.2.2.2.2.1 _ hc) hR.1.1 hR.1.2 hR.2.1 hR.2.2 hd (kk p e s m args below meth c H locs ls h)
theorem w_objInit {i a : Nat} (hl : Cond.methodLink μ.1.cls i Lib.objectInit ∈ tblG) (hin : Cond.instanceMethod Lib.objectInit ∈ tblG) (hc : Cond.code Lib.objectInit ⟨#[0xb1]⟩ 1 none ∈ tblG) (hR : 1 ≤ R.frames ∧ (st.map fun v => v.category).sum + 12 ≤ R.locals) (hd : decode μ.2.1 pc = .ok (.invokespecial i, 3)) (kk : wp g μ R E Q n σ I (pc + 3) loc st) : wp g μ R E Q n σ I pc loc (.ref a :: st) := by
  intro p e s m args below meth c H locs ls h
  exact W.objInit h.1.1 h.1.2.1 h.1.2.2.2.1 (h.1.2.2.2.2.1 _ hl) (h.1.2.2.2.2.1 _ hin) (h.1.2.2.2.2.1 _ hc) rfl (by rw [h.1.2.2.1]; exact h.2.2.2.2.1) rfl hd hR.1 (by show 2 * 0 + _ + 12 ≤ _; omega) (kk p e s m args below meth c H locs ls h)
theorem w_getstatic {i j : Nat} (hj : j < 3) (hl : Cond.fieldLinkNest μ.1.cls i "BeltSums" (kSa j) "[I" "BeltSums" ∈ nestWs) (hd : decode μ.2.1 pc = .ok (.getstatic i, 3)) (kk : wp g μ R E Q n σ I (pc + 3) loc (.ref (g.2.2.2.2.2 j) :: st)) : wp g μ R E Q n σ I pc loc st := by
  intro p e s m args below meth c H locs ls h
  have hst := h.1.2.2.2.2.2.2.2.2
  exact va_getsN h.1.1 h.1.2.1 (hst.1 j hj).1 h.2.2.2.1 h.1.2.2.2.1 (va_Nw.use rfl (hst.2 _ hl)) (fun _ h9 => h9) hd (kk p e s m args below meth c H locs ls h)
theorem w_siald {j k : Nat} {x : Int32} (hj : j < 3) (hx : x = nI k) (hk : k < 3) (hd : decode μ.2.1 pc = .ok (.iaload, 1)) (kk : wp g μ R E Q n σ I (pc + 1) loc (.int (kSv j k) :: st)) : wp g μ R E Q n σ I pc loc (.int x :: .ref (g.2.2.2.2.2 j) :: st) := by
  intro p e s m args below meth c H locs ls h
  have hst := h.1.2.2.2.2.2.2.2.2
  subst hx
  exact va_ti h.1.1 h.1.2.1 (hst.1 j hj).2 h.2.2.2.1 (vp_in_nI hk (by decide)) (by rw [nI_clamp (by omega)]) hd (kk p e s m args below meth c H locs ls h)
theorem w_salen {j : Nat} {v : Int32} (hj : j < 3) (hv : Int32.ofNat 3 = v) (hd : decode μ.2.1 pc = .ok (.arraylength, 1)) (kk : wp g μ R E Q n σ I (pc + 1) loc (.int v :: st)) : wp g μ R E Q n σ I pc loc (.ref (g.2.2.2.2.2 j) :: st) := by
  intro p e s m args below meth c H locs ls h
  have hst := h.1.2.2.2.2.2.2.2.2
  exact va_tlen h.1.1 h.1.2.1 (hst.1 j hj).2 h.2.2.2.1 hv hd (kk p e s m args below meth c H locs ls h)
theorem kArrCopyHeap {g : kG} {σ : kS} {I : kI} {a : Nat} {f : Nat → Int32} {q : Nat} (h : kB g ≤ a ∧ a < σ.1) (hq : (kW g σ I)[q]? = some (a, kF g σ I a)) : (kW g σ I).set q (a, kE g.2.2.1 g.2.2.2.1 (σ.2.1 a) (σ.2.2 a) f) = kW g σ (va_up I a f) := by
  have hD : va_D (kA g) ([] ++ va_pl (kL g σ) (kF g σ I)) := kD
  have := va_pl_set (X := []) (a := a) (k := q) (e := kE g.2.2.1 g.2.2.2.1 (σ.2.1 a) (σ.2.2 a) f) hD (by simp only [kL, List.mem_range'_1]; omega) hq
  simp only [List.nil_append] at this
  rw [show kW g σ I = va_pl (kL g σ) (kF g σ I) from rfl, this]
  show va_pl _ _ = va_pl _ _
  congr 1
  funext b
  by_cases h : b = a
  · subst h; simp [va_up, kF]
  · simp [va_up, kF, h]
theorem w_copy {i : Nat} {x : Int32} {a a0 N0 N1 : Nat} {k : Nat} (ha0 : kB g ≤ a0 ∧ a0 < σ.1) (hs0 : σ.2.1 a0 = (100, N0)) (hk0 : k ≤ N0) (hN0 : N0 < 2 ^ 31) (ha : kB g ≤ a ∧ a < σ.1) (hs : σ.2.1 a = (100, N1)) (hk1 : k ≤ N1) (hN1 : N1 < 2 ^ 31) (hx : x = nI k) (hl : Cond.methodLink μ.1.cls i arraycopyName ∈ tblG) (hnat : Cond.native arraycopyName ∈ tblG) (hstat : Cond.static arraycopyName ∈ tblG) (hini : Cond.initialized "java/lang/System" ∈ tblG) (hR : 1 ≤ R.frames ∧ (st.map fun v => v.category).sum + (nativeFrameWords "java/lang/System" "arraycopy" 5 + 11) ≤ R.locals) (hd : decode μ.2.1 pc = .ok (.invokestatic i, 3)) (kk : wp g μ R E Q n σ (va_up I a (va_cpy (I a0) (I a) 0 0 k)) (pc + 3) loc st) : wp g μ R E Q n σ I pc loc (.int x :: .int 0 :: .ref a :: .int 0 :: .ref a0 :: st) := by
  intro p e s m args below meth c H locs ls h
  obtain ⟨q1, hq1⟩ := kIn (I := I) ha
  have hq0 := hq1
  rw [kEi hs] at hq1
  subst hx
  have hP := h.2.2.1.2.2.1
  have hK := h.2.2.1.2.2.2
  have hS := h.2.2.2.1
  have hcl : (nI k).toNatClampNeg = k := nI_clamp (by omega)
  have hcl0 : (0 : Int32).toNatClampNeg = 0 := rfl
  have hti : (nI k).toInt = (k : Int) := nI_toInt (by omega)
  have nk : ¬ nI k < 0 := nI_pos (by omega)
  have z0 : (0 : Int32).toInt = 0 := rfl
  obtain ⟨q2, hq2⟩ := kIn (I := I) ha0
  rw [kEi hs0] at hq2
  have hc0 : H[a0]? = some (vp_cell g.2.2.1 (N0, .inl (I a0))) := hP q2 _ hq2
  have hc1 : H[a]? = some (vp_cell g.2.2.1 (N1, .inl (I a))) := hP q1 _ hq1
  obtain ⟨-, kc0, hkc0, cm0, hkk0⟩ := (hK.2 0 _ rfl).1 N0 (fun j => .int (I a0 j))
  obtain ⟨-, kc1, hkc1, cm1, hkk1⟩ := (hK.2 0 _ rfl).1 N1 (fun j => .int (I a j))
  intro T hT X
  have hb := h.1.2.1
  obtain ⟨vm', X', step⟩ := X.arraycopy h.1.1 h.1.2.2.2.1 (h.1.2.2.2.2.1 _ hl) (h.1.2.2.2.2.1 _ hnat) (h.1.2.2.2.2.1 _ hstat) (h.1.2.2.2.2.1 _ hini) (src := a0) (dst := a) (cs := vp_cell g.2.2.1 (N0, .inl (I a0))) (cd := vp_cell g.2.2.1 (N1, .inl (I a))) (srcPos := 0) (destPos := 0) (n := nI k) (by rw [hT]; exact hc0) (by rw [hT]; exact hc1)
    (fun _ h => by cases h) (fun _ h => by cases h) (fun h => by cases h) (fun h => by cases h) hkc0 hkc1 hkk0 hkk1 (by simp [refKind]) (by decide) (by decide) nk
    (by rw [hti, z0]; show ¬ _ > ((arrV g.2.2.1 N0 (fun j => .int (I a0 j))).slots.size : Int); rw [arrV_size]; omega)
    (by rw [hti, z0]; show ¬ _ > ((arrV g.2.2.1 N1 (fun j => .int (I a j))).slots.size : Int); rw [arrV_size]; omega)
    (fun vm₁ _ i hi => by
      rw [hcl] at hi
      have e : (vp_cell g.2.2.1 (N0, .inl (I a0))).slots.getD ((0 : Int32).toNatClampNeg + i) .null = .int (I a0 i) := by
        show (arrV g.2.2.1 N0 (fun j => .int (I a0 j))).slots.getD _ _ = _
        rw [hcl0, Nat.zero_add, Array.getD_eq_getD_getElem?, arrV_read _ _ (by omega)]
        rfl
      refine ⟨?_, ?_⟩
      · rw [e]; rfl
      · rw [e]; exact trivial)
    (g := F0 m pc ls (.int (nI k) :: .int 0 :: .ref a :: .int 0 :: .ref a0 :: st)) rfl (h.2.2.2.2.1.trans h.1.2.2.1.symm) (rest := st) rfl (by rw [hb]; exact hd) hR.1 (by show 2 * 0 + _ + _ ≤ _; omega)
  have e1 : copied (vp_cell g.2.2.1 (N0, .inl (I a0))) (vp_cell g.2.2.1 (N1, .inl (I a))) 0 0 (nI k) = vp_cell g.2.2.1 (N1, .inl (va_cpy (I a0) (I a) 0 0 k)) := by
    have := va_copied (fun z => .int z) g.2.2.1 g.2.2.1 (I a0) (I a) (n0 := N0) (n1 := N1) (sp := 0) (dp := 0) (n := k) (by omega)
    show (vp_cell g.2.2.1 (N1, .inl (I a))).storeRun (0 : Int32).toNatClampNeg ((vp_cell g.2.2.1 (N0, .inl (I a0))).stretch (0 : Int32).toNatClampNeg (nI k).toNatClampNeg) = _
    rw [hcl0, hcl]
    exact this
  rw [e1] at X' step
  have hlt : a < H.size := (Array.getElem?_eq_some_iff.mp hc1).1
  have hheap : ((T.setVm vm').setCell a (vp_cell g.2.2.1 (N1, .inl (va_cpy (I a0) (I a) 0 0 k)))).heap = H.setIfInBounds a (vp_cell g.2.2.1 (N1, .inl (va_cpy (I a0) (I a) 0 0 k))) := by rw [← hT]; rfl
  have oq : ∀ q : Nat, q ≠ a → (H.setIfInBounds a (vp_cell g.2.2.1 (N1, .inl (va_cpy (I a0) (I a) 0 0 k))))[q]? = H[q]? := fun q hq => by simp [Array.getElem?_setIfInBounds, Ne.symm hq]
  have hP1 : va_P g.2.1 vwCl ((kW g σ I).set q1 (a, kE g.2.2.1 g.2.2.2.1 (σ.2.1 a) (σ.2.2 a) (va_cpy (I a0) (I a) 0 0 k))) (H.setIfInBounds a (vp_cell g.2.2.1 (N1, .inl (va_cpy (I a0) (I a) 0 0 k)))) := by
    have e4 : kE g.2.2.1 g.2.2.2.1 (σ.2.1 a) (σ.2.2 a) (va_cpy (I a0) (I a) 0 0 k) = .inl (g.2.2.1, N1, .inl (va_cpy (I a0) (I a) 0 0 k)) := by simp only [kE, hs]; rfl
    rw [e4]
    exact hP.set kD hq1 (show (H.setIfInBounds a _)[a]? = some _ by simp [Array.getElem?_setIfInBounds, hlt]) oq
  rw [kArrCopyHeap ha hq0] at hP1
  obtain ⟨t, a1, b1⟩ := kk p e s m args below meth c _ _ ls ⟨h.1, h.2.1, ⟨by simpa using h.2.2.1.1, h.2.2.1.2.1, hP1, hK⟩, ⟨by simp; exact hS.1, fun q g1 g2 => by
      rw [oq q (fun e => g2 (by rw [e]; exact ha.1))]
      exact hS.2.1 q g1 g2, fun q hq => by
      rcases List.mem_append.mp hq with h3 | h3
      · exact hS.2.2 q h3
      · obtain ⟨z, -, hz⟩ := List.mem_map.mp h3
        rw [← hz]
        exact ha.1⟩, h.2.2.2.2⟩ _ hheap X'
  exact ⟨t, step t a1, b1⟩
theorem w_copyS {i : Nat} {x : Int32} {a j N1 : Nat} {k : Nat} (hj : j < 3) (hk0 : k ≤ 3) (ha : kB g ≤ a ∧ a < σ.1) (hs : σ.2.1 a = (100, N1)) (hk1 : k ≤ N1) (hN1 : N1 < 2 ^ 31) (hx : x = nI k) (hl : Cond.methodLink μ.1.cls i arraycopyName ∈ tblG) (hnat : Cond.native arraycopyName ∈ tblG) (hstat : Cond.static arraycopyName ∈ tblG) (hini : Cond.initialized "java/lang/System" ∈ tblG) (hR : 1 ≤ R.frames ∧ (st.map fun v => v.category).sum + (nativeFrameWords "java/lang/System" "arraycopy" 5 + 11) ≤ R.locals) (hd : decode μ.2.1 pc = .ok (.invokestatic i, 3)) (kk : wp g μ R E Q n σ (va_up I a (va_cpy (fun z => kSv j z) (I a) 0 0 k)) (pc + 3) loc st) : wp g μ R E Q n σ I pc loc (.int x :: .int 0 :: .ref a :: .int 0 :: .ref (g.2.2.2.2.2 j) :: st) := by
  intro p e s m args below meth c H locs ls h
  obtain ⟨q1, hq1⟩ := kIn (I := I) ha
  have hq0 := hq1
  rw [kEi hs] at hq1
  subst hx
  have hP := h.2.2.1.2.2.1
  have hK := h.2.2.1.2.2.2
  have hS := h.2.2.2.1
  have hcl : (nI k).toNatClampNeg = k := nI_clamp (by omega)
  have hcl0 : (0 : Int32).toNatClampNeg = 0 := rfl
  have hti : (nI k).toInt = (k : Int) := nI_toInt (by omega)
  have nk : ¬ nI k < 0 := nI_pos (by omega)
  have z0 : (0 : Int32).toInt = 0 := rfl
  obtain ⟨cell, t1, t2, t3, t4, t5, t6, t7⟩ := (h.1.2.2.2.2.2.2.2.2.1 j hj).2
  have hc0 : H[g.2.2.2.2.2 j]? = some cell := by rw [hS.2.1 _ (Array.getElem?_eq_some_iff.mp t1).1 t7]; exact t1
  obtain ⟨hk0', kc0, hkc0, cm0, hkk0⟩ := t2
  have hc1 : H[a]? = some (vp_cell g.2.2.1 (N1, .inl (I a))) := hP q1 _ hq1
  obtain ⟨-, kc1, hkc1, cm1, hkk1⟩ := (hK.2 0 _ rfl).1 N1 (fun j => .int (I a j))
  intro T hT X
  have hb := h.1.2.1
  obtain ⟨vm', X', step⟩ := X.arraycopy h.1.1 h.1.2.2.2.1 (h.1.2.2.2.2.1 _ hl) (h.1.2.2.2.2.1 _ hnat) (h.1.2.2.2.2.1 _ hstat) (h.1.2.2.2.2.1 _ hini) (src := g.2.2.2.2.2 j) (dst := a) (cs := cell) (cd := vp_cell g.2.2.1 (N1, .inl (I a))) (srcPos := 0) (destPos := 0) (n := nI k) (by rw [hT]; exact hc0) (by rw [hT]; exact hc1)
    hk0' (fun _ h => by cases h) t3 (fun h => by cases h) hkc0 hkc1 hkk0 hkk1 (by simp [refKind]) (by decide) (by decide) nk
    (by rw [hti, z0]; omega)
    (by rw [hti, z0]; show ¬ _ > ((arrV g.2.2.1 N1 (fun j => .int (I a j))).slots.size : Int); rw [arrV_size]; omega)
    (fun vm₁ _ i hi => by
      rw [hcl] at hi
      have e : cell.slots.getD ((0 : Int32).toNatClampNeg + i) .null = .int (kSv j i) := by
        rw [hcl0, Nat.zero_add, Array.getD_eq_getD_getElem?, t6 i (by omega)]
        rfl
      refine ⟨?_, ?_⟩
      · rw [e]; rfl
      · rw [e]; exact trivial)
    (g := F0 m pc ls (.int (nI k) :: .int 0 :: .ref a :: .int 0 :: .ref (g.2.2.2.2.2 j) :: st)) rfl (h.2.2.2.2.1.trans h.1.2.2.1.symm) (rest := st) rfl (by rw [hb]; exact hd) hR.1 (by show 2 * 0 + _ + _ ≤ _; omega)
  have e1 : copied cell (vp_cell g.2.2.1 (N1, .inl (I a))) 0 0 (nI k) = vp_cell g.2.2.1 (N1, .inl (va_cpy (fun z => kSv j z) (I a) 0 0 k)) := by
    have e0 : copied cell (vp_cell g.2.2.1 (N1, .inl (I a))) 0 0 (nI k) = copied (vp_cell g.2.2.1 (3, .inl (fun z => kSv j z))) (vp_cell g.2.2.1 (N1, .inl (I a))) 0 0 (nI k) := by
      show (vp_cell g.2.2.1 (N1, .inl (I a))).storeRun (0 : Int32).toNatClampNeg (cell.stretch (0 : Int32).toNatClampNeg (nI k).toNatClampNeg) = (vp_cell g.2.2.1 (N1, .inl (I a))).storeRun (0 : Int32).toNatClampNeg ((vp_cell g.2.2.1 (3, .inl (fun z => kSv j z))).stretch (0 : Int32).toNatClampNeg (nI k).toNatClampNeg)
      congr 1
      rw [hcl0, hcl]
      unfold Cell.stretch
      apply List.map_congr_left
      intro i hi
      have hi' : i < k := List.mem_range.mp hi
      rw [Nat.zero_add, Array.getD_eq_getD_getElem?, t6 i (by omega), Array.getD_eq_getD_getElem?]
      show _ = ((arrV g.2.2.1 3 (fun z => .int (kSv j z))).slots[i]?).getD .null
      rw [arrV_read _ _ (by omega)]
    rw [e0]
    have := va_copied (fun z => .int z) g.2.2.1 g.2.2.1 (fun z => kSv j z) (I a) (n0 := 3) (n1 := N1) (sp := 0) (dp := 0) (n := k) (by omega)
    show (vp_cell g.2.2.1 (N1, .inl (I a))).storeRun (0 : Int32).toNatClampNeg ((vp_cell g.2.2.1 (3, .inl (fun z => kSv j z))).stretch (0 : Int32).toNatClampNeg (nI k).toNatClampNeg) = _
    rw [hcl0, hcl]
    exact this
  rw [e1] at X' step
  have hlt : a < H.size := (Array.getElem?_eq_some_iff.mp hc1).1
  have hheap : ((T.setVm vm').setCell a (vp_cell g.2.2.1 (N1, .inl (va_cpy (fun z => kSv j z) (I a) 0 0 k)))).heap = H.setIfInBounds a (vp_cell g.2.2.1 (N1, .inl (va_cpy (fun z => kSv j z) (I a) 0 0 k))) := by rw [← hT]; rfl
  have oq : ∀ q : Nat, q ≠ a → (H.setIfInBounds a (vp_cell g.2.2.1 (N1, .inl (va_cpy (fun z => kSv j z) (I a) 0 0 k))))[q]? = H[q]? := fun q hq => by simp [Array.getElem?_setIfInBounds, Ne.symm hq]
  have hP1 : va_P g.2.1 vwCl ((kW g σ I).set q1 (a, kE g.2.2.1 g.2.2.2.1 (σ.2.1 a) (σ.2.2 a) (va_cpy (fun z => kSv j z) (I a) 0 0 k))) (H.setIfInBounds a (vp_cell g.2.2.1 (N1, .inl (va_cpy (fun z => kSv j z) (I a) 0 0 k)))) := by
    have e4 : kE g.2.2.1 g.2.2.2.1 (σ.2.1 a) (σ.2.2 a) (va_cpy (fun z => kSv j z) (I a) 0 0 k) = .inl (g.2.2.1, N1, .inl (va_cpy (fun z => kSv j z) (I a) 0 0 k)) := by simp only [kE, hs]; rfl
    rw [e4]
    exact hP.set kD hq1 (show (H.setIfInBounds a _)[a]? = some _ by simp [Array.getElem?_setIfInBounds, hlt]) oq
  rw [kArrCopyHeap ha hq0] at hP1
  obtain ⟨t, a1, b1⟩ := kk p e s m args below meth c _ _ ls ⟨h.1, h.2.1, ⟨by simpa using h.2.2.1.1, h.2.2.1.2.1, hP1, hK⟩, ⟨by simp; exact hS.1, fun q g1 g2 => by
      rw [oq q (fun e => g2 (by rw [e]; exact ha.1))]
      exact hS.2.1 q g1 g2, fun q hq => by
      rcases List.mem_append.mp hq with h3 | h3
      · exact hS.2.2 q h3
      · obtain ⟨z, -, hz⟩ := List.mem_map.mp h3
        rw [← hz]
        exact ha.1⟩, h.2.2.2.2⟩ _ hheap X'
  exact ⟨t, step t a1, b1⟩
theorem kW_push {g : kG} {N : Nat} {sh : Nat → Nat × Nat} {G : Nat → Nat → Option Nat} {I : kI} {h9 : Nat × Nat} {r : Nat → Option Nat} {i : Nat → Int32} (hN : kB g ≤ N) : kW g (N, sh, G) I ++ [(N, kE g.2.2.1 g.2.2.2.1 h9 r i)] = kW g (N + 1, va_up sh N h9, va_up G N r) (va_up I N i) := by
  have hno : N ∉ kL g (N, sh, G) := by simp only [kL, List.mem_range'_1]; omega
  simp only [kW]
  rw [va_pl_push hno]
  have hL : kL g (N, sh, G) ++ [N] = kL g (N + 1, va_up sh N h9, va_up G N r) := by
    simp only [kL]
    rw [show N + 1 - kB g = (N - kB g) + 1 by omega, List.range'_1_concat, show kB g + (N - kB g) = N by omega]
  rw [hL]
  congr 1
  funext b
  by_cases h : b = N
  · subst h; simp [va_up, kF]
  · simp [va_up, kF, h]
theorem w_new {ci i k : Nat} {sh : Nat → Nat × Nat} {G : Nat → Nat → Option Nat} {N : Nat} {C : String} {T : u_T} {ty : Nat → FieldType} (hci : kCI ci C T ty k) (hz : kfv (fun _ => none) (fun _ => 0) (kft ci) 0 = (List.range k).map (fun j => defaultValue (ty j))) (hcl : Cond.classLink μ.1.cls i C ∈ tblG) (hins : Cond.instantiable C k ∈ tblG) (hini : Cond.initialized C ∈ tblG) (hn : n.1 + 1 ≤ R.cells ∧ n.2 + k ≤ R.slots) (hd : decode μ.2.1 pc = .ok (.new i, 3)) (kk : wp g μ R E Q (n.1 + 1, n.2 + k) (N + 1, va_up sh N (ci, 0), va_up G N (fun _ => none)) (va_up I N (fun _ => 0)) (pc + 3) loc (.ref N :: st)) : wp g μ R E Q n (N, sh, G) I pc loc st := by
  intro p e s m args below meth c H locs ls h
  have hK := h.2.2.1.2.2.2
  have hP := h.2.2.1.2.2.1
  have hts := h.1.2.2.2.2.1
  have hS := h.2.2.2.1
  have hKn := hK.1 ci _ hci.1
  have hsz : H.size = N := h.2.2.1.1
  have hBN : kB g ≤ N := h.2.2.1.2.1
  refine W.newcK h.1.1 h.1.2.1 h.1.2.2.2.1 (hts _ hcl) (hts _ hins) (hts _ hini) rfl hd hn.1 hn.2 hKn.2.1 rfl fun H1 kC hkC e1 z1 o1 => ?_
  rw [hsz] at e1 z1 o1 ⊢
  have hk : ∀ (k : Nat) (x : Nat × va_E), (kW g (N, sh, G) I)[k]? = some x → H1[x.1]? = H[x.1]? := fun k x hx => o1 x.1 (hsz ▸ (hP k x hx).lt)
  have hP1 : va_P g.2.1 vwCl (kW g (N, sh, G) I ++ [(N, kE g.2.2.1 g.2.2.2.1 (ci, 0) (fun _ => none) (fun _ => 0))]) H1 := (hP.kept hk).app (fun k' x hx => by
    have hz2 : k' < 1 := (List.getElem?_eq_some_iff.mp hx).1
    rw [show k' = 0 by omega] at hx
    cases hx
    have e4 : kE g.2.2.1 g.2.2.2.1 (ci, 0) (fun _ => none) (fun _ => 0) = .inr (ci, kfv (fun _ => none) (fun _ => 0) (kft ci) 0) := by simp only [kE, if_neg hci.2.2.2.2.2.1, if_neg hci.2.2.2.2.2.2]
    rw [e4]
    refine ⟨_, hci.1, (u_born ty hts hci.2.1 hKn hkC e1 hci.2.2.1).to (fun j hj => ?_)⟩
    show defaultValue (ty j) = vp_V _ j
    unfold vp_V
    rw [hz]
    have hj' : j < k := hj
    simp [hj'])
  rw [kW_push hBN] at hP1
  exact kk p e s m args below meth c H1 locs ls ⟨h.1, h.2.1, ⟨z1, Nat.le_succ_of_le hBN, hP1, hK⟩, ⟨Nat.le_trans hS.1 (by omega), fun x h1 h2 => (o1 x (by have := hS.1; omega)).trans (hS.2.1 x h1 h2), hS.2.2⟩, h.2.2.2.2⟩
theorem w_newai {k : Nat} {x : Int32} {sh : Nat → Nat × Nat} {G : Nat → Nat → Option Nat} {N : Nat} (hx : x = nI k) (hk : k < 2 ^ 20) (ha : Cond.arrayClass .int ∈ tblG) (hn : n.1 + 1 ≤ R.cells ∧ n.2 + k ≤ R.slots) (hd : decode μ.2.1 pc = .ok (.newarray .int, 2)) (kk : wp g μ R E Q (n.1 + 1, n.2 + k) (N + 1, va_up sh N (100, k), va_up G N (fun _ => none)) (va_up I N (fun _ => 0)) (pc + 2) loc (.ref N :: st)) : wp g μ R E Q n (N, sh, G) I pc loc (.int x :: st) := by
  intro p e s m args below meth c H locs ls h
  have hK := h.2.2.1.2.2.2
  have hP := h.2.2.1.2.2.1
  have hts := h.1.2.2.2.2.1
  have hS := h.2.2.2.1
  have hsz : H.size = N := h.2.2.1.1
  have hBN : kB g ≤ N := h.2.2.1.2.1
  subst hx
  have hcl : (nI k).toNatClampNeg = k := nI_clamp (by omega)
  have hbt : k * componentBytes (newarray.typeOf .int) ≤ 536870912 := by
    have h4 : componentBytes (newarray.typeOf .int) ≤ 4 := by decide
    have := Nat.mul_le_mul_left k h4
    omega
  refine va_newaK (atype := .int) h.1.1 h.1.2.1 (hts _ ha) rfl hd rfl (nI_pos (by omega)) hcl hbt hn.1 hn.2 rfl fun H1 cA e1 z1 o1 hAr hNm => ?_
  rw [hsz] at e1 z1 o1 ⊢
  have hcA : cA = g.2.2.1 := by
    have h2 := (hK.2 0 _ rfl).2
    have h3 : s.vm.findClass ("[" ++ (newarray.typeOf .int).toString) = some g.2.2.1 := h2
    exact Option.some.inj (hNm.symm.trans h3)
  subst hcA
  have hk : ∀ (k : Nat) (x : Nat × va_E), (kW g (N, sh, G) I)[k]? = some x → H1[x.1]? = H[x.1]? := fun k x hx => o1 x.1 (hsz ▸ (hP k x hx).lt)
  have hP1 : va_P g.2.1 vwCl (kW g (N, sh, G) I ++ [(N, kE g.2.2.1 g.2.2.2.1 (100, k) (fun _ => none) (fun _ => 0))]) H1 := (hP.kept hk).app (fun k' x hx => by
    have hz : k' < 1 := (List.getElem?_eq_some_iff.mp hx).1
    rw [show k' = 0 by omega] at hx
    cases hx
    show H1[N]? = some (vp_cell _ _)
    exact e1)
  rw [kW_push hBN] at hP1
  exact kk p e s m args below meth c H1 locs ls ⟨h.1, h.2.1, ⟨z1, Nat.le_succ_of_le hBN, hP1, hK⟩, ⟨Nat.le_trans hS.1 (by omega), fun x h1 h2 => (o1 x (by have := hS.1; omega)).trans (hS.2.1 x h1 h2), hS.2.2⟩, h.2.2.2.2⟩
theorem w_newac {k : Nat} {x : Int32} {sh : Nat → Nat × Nat} {G : Nat → Nat → Option Nat} {N : Nat} (hx : x = nI k) (hk : k < 2 ^ 20) (ha : Cond.arrayClass .char ∈ tblG) (hn : n.1 + 1 ≤ R.cells ∧ n.2 + k ≤ R.slots) (hd : decode μ.2.1 pc = .ok (.newarray .char, 2)) (kk : wp g μ R E Q (n.1 + 1, n.2 + k) (N + 1, va_up sh N (101, k), va_up G N (fun _ => none)) (va_up I N (fun _ => 0)) (pc + 2) loc (.ref N :: st)) : wp g μ R E Q n (N, sh, G) I pc loc (.int x :: st) := by
  intro p e s m args below meth c H locs ls h
  have hK := h.2.2.1.2.2.2
  have hP := h.2.2.1.2.2.1
  have hts := h.1.2.2.2.2.1
  have hS := h.2.2.2.1
  have hsz : H.size = N := h.2.2.1.1
  have hBN : kB g ≤ N := h.2.2.1.2.1
  subst hx
  have hcl : (nI k).toNatClampNeg = k := nI_clamp (by omega)
  have hbt : k * componentBytes (newarray.typeOf .char) ≤ 536870912 := by
    have h4 : componentBytes (newarray.typeOf .char) ≤ 4 := by decide
    have := Nat.mul_le_mul_left k h4
    omega
  refine va_newaK (atype := .char) h.1.1 h.1.2.1 (hts _ ha) rfl hd rfl (nI_pos (by omega)) hcl hbt hn.1 hn.2 rfl fun H1 cA e1 z1 o1 hAr hNm => ?_
  rw [hsz] at e1 z1 o1 ⊢
  have hcA : cA = g.2.2.2.1 := by
    have h2 := (hK.2 1 _ rfl).2
    have h3 : s.vm.findClass ("[" ++ (newarray.typeOf .char).toString) = some g.2.2.2.1 := h2
    exact Option.some.inj (hNm.symm.trans h3)
  subst hcA
  have hk : ∀ (k : Nat) (x : Nat × va_E), (kW g (N, sh, G) I)[k]? = some x → H1[x.1]? = H[x.1]? := fun k x hx => o1 x.1 (hsz ▸ (hP k x hx).lt)
  have hP1 : va_P g.2.1 vwCl (kW g (N, sh, G) I ++ [(N, kE g.2.2.1 g.2.2.2.1 (101, k) (fun _ => none) (fun _ => 0))]) H1 := (hP.kept hk).app (fun k' x hx => by
    have hz : k' < 1 := (List.getElem?_eq_some_iff.mp hx).1
    rw [show k' = 0 by omega] at hx
    cases hx
    show H1[N]? = some (vp_cell _ _)
    exact e1)
  rw [kW_push hBN] at hP1
  exact kk p e s m args below meth c H1 locs ls ⟨h.1, h.2.1, ⟨z1, Nat.le_succ_of_le hBN, hP1, hK⟩, ⟨Nat.le_trans hS.1 (by omega), fun x h1 h2 => (o1 x (by have := hS.1; omega)).trans (hS.2.1 x h1 h2), hS.2.2⟩, h.2.2.2.2⟩
def kX (b L : Nat) (xs : Nat → Int32) (B : Nat) (s : State) : Prop := va_X b L xs s s.heap ∧ b < s.heap.size ∧ b < B
theorem w_sld {b L j : Nat} {xs : Nat → Int32} {x : Int32} (hE : ∀ s, E s → kX b L xs (kB g) s) (hx : x = nI j) (hj : j < L) (hL : L < 2 ^ 31) (hd : decode μ.2.1 pc = .ok (.iaload, 1)) (kk : wp g μ R E Q n σ I (pc + 1) loc (.int (xs j) :: st)) : wp g μ R E Q n σ I pc loc (.int x :: .ref b :: st) := by
  intro p e s m args below meth c H locs ls h
  obtain ⟨h1, h2, h3⟩ := hE s h.2.1
  subst hx
  have k2 := kk p e s m args below meth c H locs ls h
  rw [show xs j = xs (nI j).toNatClampNeg by rw [nI_clamp (by omega)]] at k2
  exact va_sld h.1.1 h.1.2.1 h1 h2 (by simp [kA]; exact h3) h.2.2.2.1 (vp_in_nI hj hL) hd k2
theorem w_slen {b L : Nat} {xs : Nat → Int32} (hE : ∀ s, E s → kX b L xs (kB g) s) (hd : decode μ.2.1 pc = .ok (.arraylength, 1)) (kk : wp g μ R E Q n σ I (pc + 1) loc (.int (nI L) :: st)) : wp g μ R E Q n σ I pc loc (.ref b :: st) := by
  intro p e s m args below meth c H locs ls h
  obtain ⟨h1, h2, h3⟩ := hE s h.2.1
  exact va_slen h.1.1 h.1.2.1 h1 h2 (by simp [kA]; exact h3) h.2.2.2.1 hd (kk p e s m args below meth c H locs ls h)
end KWQ
end
