section
-- ===== PART A: goes FIRST, ahead of the names: the tables' words, and 'selects' of the private methods out of them =====
/-- a private method of a class that the tables say can be made, by its rows of tables_1 -/
def lw_okq (q : MethodName × Nat) : Prop := (q.1.cls ≠ "java/lang/invoke/MethodHandle" ∧ q.1.cls ≠ "java/lang/invoke/VarHandle") ∧ Cond.instantiable q.1.cls q.2 ∈ tables_1 ∧ Cond.privateMethod q.1 ∈ tables_1 ∧ Cond.instanceMethod q.1 ∈ tables_1
theorem lw_p0 : lw_okq (⟨"CandleStatute$Stubs", "copyStub", "(ILCandleStatute$Stubs;I)V"⟩, 9) := ⟨⟨by decide +kernel, by decide +kernel⟩, List.mem_of_getElem? (i := 36) (by decide +kernel), List.mem_of_getElem? (i := 298) (by decide +kernel), List.mem_of_getElem? (i := 299) (by decide +kernel)⟩
theorem lw_p1 : lw_okq (⟨"CandleStatute", "bringStub", "(III)I"⟩, 9) := ⟨⟨by decide +kernel, by decide +kernel⟩, List.mem_of_getElem? (i := 22) (by decide +kernel), List.mem_of_getElem? (i := 302) (by decide +kernel), List.mem_of_getElem? (i := 303) (by decide +kernel)⟩
theorem lw_p2 : lw_okq (⟨"CandleStatute", "refuse", "(II)I"⟩, 9) := ⟨⟨by decide +kernel, by decide +kernel⟩, List.mem_of_getElem? (i := 22) (by decide +kernel), List.mem_of_getElem? (i := 312) (by decide +kernel), List.mem_of_getElem? (i := 313) (by decide +kernel)⟩
theorem lw_p3 : lw_okq (⟨"CandleStatute", "hasRoomFor", "(II)Z"⟩, 9) := ⟨⟨by decide +kernel, by decide +kernel⟩, List.mem_of_getElem? (i := 22) (by decide +kernel), List.mem_of_getElem? (i := 324) (by decide +kernel), List.mem_of_getElem? (i := 325) (by decide +kernel)⟩
theorem lw_p4 : lw_okq (⟨"CandleStatute", "settle", "(I)I"⟩, 9) := ⟨⟨by decide +kernel, by decide +kernel⟩, List.mem_of_getElem? (i := 22) (by decide +kernel), List.mem_of_getElem? (i := 344) (by decide +kernel), List.mem_of_getElem? (i := 345) (by decide +kernel)⟩
theorem lw_p5 : lw_okq (⟨"CandleStatute", "burnStub", "(II)I"⟩, 9) := ⟨⟨by decide +kernel, by decide +kernel⟩, List.mem_of_getElem? (i := 22) (by decide +kernel), List.mem_of_getElem? (i := 359) (by decide +kernel), List.mem_of_getElem? (i := 360) (by decide +kernel)⟩
theorem lw_p6 : lw_okq (⟨"CandleStatute", "isStub", "(I)Z"⟩, 9) := ⟨⟨by decide +kernel, by decide +kernel⟩, List.mem_of_getElem? (i := 22) (by decide +kernel), List.mem_of_getElem? (i := 363) (by decide +kernel), List.mem_of_getElem? (i := 364) (by decide +kernel)⟩
theorem lw_p7 : lw_okq (⟨"CandleStatute", "sharePool", "()I"⟩, 9) := ⟨⟨by decide +kernel, by decide +kernel⟩, List.mem_of_getElem? (i := 22) (by decide +kernel), List.mem_of_getElem? (i := 388) (by decide +kernel), List.mem_of_getElem? (i := 389) (by decide +kernel)⟩
theorem lw_p8 : lw_okq (⟨"CandleStatute$Sharing", "giveOneByRest", "()V"⟩, 3) := ⟨⟨by decide +kernel, by decide +kernel⟩, List.mem_of_getElem? (i := 203) (by decide +kernel), List.mem_of_getElem? (i := 410) (by decide +kernel), List.mem_of_getElem? (i := 411) (by decide +kernel)⟩
theorem lw_p9 : lw_okq (⟨"CandleStatute", "mouldStub", "(III)I"⟩, 9) := ⟨⟨by decide +kernel, by decide +kernel⟩, List.mem_of_getElem? (i := 22) (by decide +kernel), List.mem_of_getElem? (i := 421) (by decide +kernel), List.mem_of_getElem? (i := 422) (by decide +kernel)⟩
theorem lw_p10 : lw_okq (⟨"CandleStatute", "tellHeir", "(II)I"⟩, 9) := ⟨⟨by decide +kernel, by decide +kernel⟩, List.mem_of_getElem? (i := 22) (by decide +kernel), List.mem_of_getElem? (i := 429) (by decide +kernel), List.mem_of_getElem? (i := 430) (by decide +kernel)⟩
theorem lw_p11 : lw_okq (⟨"CandleStatute", "passHours", "(I)I"⟩, 9) := ⟨⟨by decide +kernel, by decide +kernel⟩, List.mem_of_getElem? (i := 22) (by decide +kernel), List.mem_of_getElem? (i := 437) (by decide +kernel), List.mem_of_getElem? (i := 438) (by decide +kernel)⟩
theorem lw_p12 : lw_okq (⟨"CandleStatute$Orders", "isOrderRead", "(Ljava/lang/StringBuilder;I)Z"⟩, 6) := ⟨⟨by decide +kernel, by decide +kernel⟩, List.mem_of_getElem? (i := 173) (by decide +kernel), List.mem_of_getElem? (i := 464) (by decide +kernel), List.mem_of_getElem? (i := 465) (by decide +kernel)⟩
theorem lw_p13 : lw_okq (⟨"CandleStatute$Orders", "hasDigit", "(Ljava/lang/StringBuilder;)Z"⟩, 6) := ⟨⟨by decide +kernel, by decide +kernel⟩, List.mem_of_getElem? (i := 173) (by decide +kernel), List.mem_of_getElem? (i := 602) (by decide +kernel), List.mem_of_getElem? (i := 603) (by decide +kernel)⟩
theorem lw_p14 : lw_okq (⟨"CandleStatute$Orders", "readNumber", "(Ljava/lang/StringBuilder;C)I"⟩, 6) := ⟨⟨by decide +kernel, by decide +kernel⟩, List.mem_of_getElem? (i := 173) (by decide +kernel), List.mem_of_getElem? (i := 606) (by decide +kernel), List.mem_of_getElem? (i := 607) (by decide +kernel)⟩
theorem lw_p15 : lw_okq (⟨"CandleStatute$Orders", "keepNumber", "(III)V"⟩, 6) := ⟨⟨by decide +kernel, by decide +kernel⟩, List.mem_of_getElem? (i := 173) (by decide +kernel), List.mem_of_getElem? (i := 610) (by decide +kernel), List.mem_of_getElem? (i := 611) (by decide +kernel)⟩
def lw_privs_1 : List (MethodName × Nat) := [(⟨"CandleStatute$Stubs", "copyStub", "(ILCandleStatute$Stubs;I)V"⟩, 9), (⟨"CandleStatute", "bringStub", "(III)I"⟩, 9), (⟨"CandleStatute", "refuse", "(II)I"⟩, 9), (⟨"CandleStatute", "hasRoomFor", "(II)Z"⟩, 9), (⟨"CandleStatute", "settle", "(I)I"⟩, 9), (⟨"CandleStatute", "burnStub", "(II)I"⟩, 9), (⟨"CandleStatute", "isStub", "(I)Z"⟩, 9), (⟨"CandleStatute", "sharePool", "()I"⟩, 9), (⟨"CandleStatute$Sharing", "giveOneByRest", "()V"⟩, 3), (⟨"CandleStatute", "mouldStub", "(III)I"⟩, 9), (⟨"CandleStatute", "tellHeir", "(II)I"⟩, 9), (⟨"CandleStatute", "passHours", "(I)I"⟩, 9), (⟨"CandleStatute$Orders", "isOrderRead", "(Ljava/lang/StringBuilder;I)Z"⟩, 6), (⟨"CandleStatute$Orders", "hasDigit", "(Ljava/lang/StringBuilder;)Z"⟩, 6), (⟨"CandleStatute$Orders", "readNumber", "(Ljava/lang/StringBuilder;C)I"⟩, 6), (⟨"CandleStatute$Orders", "keepNumber", "(III)V"⟩, 6)]
theorem lw_r1 : ∀ q ∈ lw_privs_1, lw_okq q := List.forall_mem_cons.mpr ⟨lw_p0, List.forall_mem_cons.mpr ⟨lw_p1, List.forall_mem_cons.mpr ⟨lw_p2, List.forall_mem_cons.mpr ⟨lw_p3, List.forall_mem_cons.mpr ⟨lw_p4, List.forall_mem_cons.mpr ⟨lw_p5, List.forall_mem_cons.mpr ⟨lw_p6, List.forall_mem_cons.mpr ⟨lw_p7, List.forall_mem_cons.mpr ⟨lw_p8, List.forall_mem_cons.mpr ⟨lw_p9, List.forall_mem_cons.mpr ⟨lw_p10, List.forall_mem_cons.mpr ⟨lw_p11, List.forall_mem_cons.mpr ⟨lw_p12, List.forall_mem_cons.mpr ⟨lw_p13, List.forall_mem_cons.mpr ⟨lw_p14, List.forall_mem_cons.mpr ⟨lw_p15, fun _ h => absurd h List.not_mem_nil⟩⟩⟩⟩⟩⟩⟩⟩⟩⟩⟩⟩⟩⟩⟩⟩
theorem lw_p16 : lw_okq (⟨"CandleStatute$Orders", "isSignRead", "(Ljava/lang/StringBuilder;C)Z"⟩, 6) := ⟨⟨by decide +kernel, by decide +kernel⟩, List.mem_of_getElem? (i := 173) (by decide +kernel), List.mem_of_getElem? (i := 614) (by decide +kernel), List.mem_of_getElem? (i := 615) (by decide +kernel)⟩
theorem lw_p17 : lw_okq (⟨"CandleStatute", "carryOut", "(I)I"⟩, 9) := ⟨⟨by decide +kernel, by decide +kernel⟩, List.mem_of_getElem? (i := 22) (by decide +kernel), List.mem_of_getElem? (i := 674) (by decide +kernel), List.mem_of_getElem? (i := 675) (by decide +kernel)⟩
theorem lw_p18 : lw_okq (⟨"CandleStatute", "oweLight", "(III)I"⟩, 9) := ⟨⟨by decide +kernel, by decide +kernel⟩, List.mem_of_getElem? (i := 22) (by decide +kernel), List.mem_of_getElem? (i := 678) (by decide +kernel), List.mem_of_getElem? (i := 679) (by decide +kernel)⟩
theorem lw_p19 : lw_okq (⟨"CandleStatute", "snuffStub", "(III)I"⟩, 9) := ⟨⟨by decide +kernel, by decide +kernel⟩, List.mem_of_getElem? (i := 22) (by decide +kernel), List.mem_of_getElem? (i := 683) (by decide +kernel), List.mem_of_getElem? (i := 684) (by decide +kernel)⟩
theorem lw_p20 : lw_okq (⟨"CandleStatute", "poolWax", "(II)I"⟩, 9) := ⟨⟨by decide +kernel, by decide +kernel⟩, List.mem_of_getElem? (i := 22) (by decide +kernel), List.mem_of_getElem? (i := 695) (by decide +kernel), List.mem_of_getElem? (i := 696) (by decide +kernel)⟩
theorem lw_p21 : lw_okq (⟨"CandleStatute", "endHouse", "(I)I"⟩, 9) := ⟨⟨by decide +kernel, by decide +kernel⟩, List.mem_of_getElem? (i := 22) (by decide +kernel), List.mem_of_getElem? (i := 700) (by decide +kernel), List.mem_of_getElem? (i := 701) (by decide +kernel)⟩
theorem lw_p22 : lw_okq (⟨"CandleStatute$State", "handOverRights", "(II)V"⟩, 11) := ⟨⟨by decide +kernel, by decide +kernel⟩, List.mem_of_getElem? (i := 30) (by decide +kernel), List.mem_of_getElem? (i := 708) (by decide +kernel), List.mem_of_getElem? (i := 709) (by decide +kernel)⟩
theorem lw_p23 : lw_okq (⟨"CandleStatute$State", "handOverStubs", "(II)V"⟩, 11) := ⟨⟨by decide +kernel, by decide +kernel⟩, List.mem_of_getElem? (i := 30) (by decide +kernel), List.mem_of_getElem? (i := 713) (by decide +kernel), List.mem_of_getElem? (i := 714) (by decide +kernel)⟩
theorem lw_p24 : lw_okq (⟨"CandleStatute$State", "dropWhatIsOwn", "()V"⟩, 11) := ⟨⟨by decide +kernel, by decide +kernel⟩, List.mem_of_getElem? (i := 30) (by decide +kernel), List.mem_of_getElem? (i := 719) (by decide +kernel), List.mem_of_getElem? (i := 720) (by decide +kernel)⟩
theorem lw_p25 : lw_okq (⟨"CandleStatute", "refuseOrder", "(II)I"⟩, 9) := ⟨⟨by decide +kernel, by decide +kernel⟩, List.mem_of_getElem? (i := 22) (by decide +kernel), List.mem_of_getElem? (i := 728) (by decide +kernel), List.mem_of_getElem? (i := 729) (by decide +kernel)⟩
theorem lw_p26 : lw_okq (⟨"CandleStatute", "isWaxAccountedFor", "()Z"⟩, 9) := ⟨⟨by decide +kernel, by decide +kernel⟩, List.mem_of_getElem? (i := 22) (by decide +kernel), List.mem_of_getElem? (i := 771) (by decide +kernel), List.mem_of_getElem? (i := 772) (by decide +kernel)⟩
theorem lw_p27 : lw_okq (⟨"CandleStatute", "areSharesSame", "()Z"⟩, 9) := ⟨⟨by decide +kernel, by decide +kernel⟩, List.mem_of_getElem? (i := 22) (by decide +kernel), List.mem_of_getElem? (i := 779) (by decide +kernel), List.mem_of_getElem? (i := 780) (by decide +kernel)⟩
theorem lw_p28 : lw_okq (⟨"CandleStatute", "areWeightsSame", "()Z"⟩, 9) := ⟨⟨by decide +kernel, by decide +kernel⟩, List.mem_of_getElem? (i := 22) (by decide +kernel), List.mem_of_getElem? (i := 787) (by decide +kernel), List.mem_of_getElem? (i := 788) (by decide +kernel)⟩
theorem lw_p29 : lw_okq (⟨"CandleStatute", "writeHouse", "(I)V"⟩, 9) := ⟨⟨by decide +kernel, by decide +kernel⟩, List.mem_of_getElem? (i := 22) (by decide +kernel), List.mem_of_getElem? (i := 907) (by decide +kernel), List.mem_of_getElem? (i := 908) (by decide +kernel)⟩
theorem lw_p30 : lw_okq (⟨"CandleStatute$Stubs", "isAhead", "(II)Z"⟩, 9) := ⟨⟨by decide +kernel, by decide +kernel⟩, List.mem_of_getElem? (i := 36) (by decide +kernel), List.mem_of_getElem? (i := 1077) (by decide +kernel), List.mem_of_getElem? (i := 1078) (by decide +kernel)⟩
theorem lw_p31 : lw_okq (⟨"CandleStatute$State", "isAhead", "(II)Z"⟩, 11) := ⟨⟨by decide +kernel, by decide +kernel⟩, List.mem_of_getElem? (i := 30) (by decide +kernel), List.mem_of_getElem? (i := 1103) (by decide +kernel), List.mem_of_getElem? (i := 1104) (by decide +kernel)⟩
def lw_privs_2 : List (MethodName × Nat) := [(⟨"CandleStatute$Orders", "isSignRead", "(Ljava/lang/StringBuilder;C)Z"⟩, 6), (⟨"CandleStatute", "carryOut", "(I)I"⟩, 9), (⟨"CandleStatute", "oweLight", "(III)I"⟩, 9), (⟨"CandleStatute", "snuffStub", "(III)I"⟩, 9), (⟨"CandleStatute", "poolWax", "(II)I"⟩, 9), (⟨"CandleStatute", "endHouse", "(I)I"⟩, 9), (⟨"CandleStatute$State", "handOverRights", "(II)V"⟩, 11), (⟨"CandleStatute$State", "handOverStubs", "(II)V"⟩, 11), (⟨"CandleStatute$State", "dropWhatIsOwn", "()V"⟩, 11), (⟨"CandleStatute", "refuseOrder", "(II)I"⟩, 9), (⟨"CandleStatute", "isWaxAccountedFor", "()Z"⟩, 9), (⟨"CandleStatute", "areSharesSame", "()Z"⟩, 9), (⟨"CandleStatute", "areWeightsSame", "()Z"⟩, 9), (⟨"CandleStatute", "writeHouse", "(I)V"⟩, 9), (⟨"CandleStatute$Stubs", "isAhead", "(II)Z"⟩, 9), (⟨"CandleStatute$State", "isAhead", "(II)Z"⟩, 11)]
theorem lw_r2 : ∀ q ∈ lw_privs_2, lw_okq q := List.forall_mem_cons.mpr ⟨lw_p16, List.forall_mem_cons.mpr ⟨lw_p17, List.forall_mem_cons.mpr ⟨lw_p18, List.forall_mem_cons.mpr ⟨lw_p19, List.forall_mem_cons.mpr ⟨lw_p20, List.forall_mem_cons.mpr ⟨lw_p21, List.forall_mem_cons.mpr ⟨lw_p22, List.forall_mem_cons.mpr ⟨lw_p23, List.forall_mem_cons.mpr ⟨lw_p24, List.forall_mem_cons.mpr ⟨lw_p25, List.forall_mem_cons.mpr ⟨lw_p26, List.forall_mem_cons.mpr ⟨lw_p27, List.forall_mem_cons.mpr ⟨lw_p28, List.forall_mem_cons.mpr ⟨lw_p29, List.forall_mem_cons.mpr ⟨lw_p30, List.forall_mem_cons.mpr ⟨lw_p31, fun _ h => absurd h List.not_mem_nil⟩⟩⟩⟩⟩⟩⟩⟩⟩⟩⟩⟩⟩⟩⟩⟩
def lw_privs : List (MethodName × Nat) := lw_privs_1 ++ (lw_privs_2)
def lw_tbl : List Cond := k2_sels lw_privs ++ tables_1
theorem lw_privs_ok : ∀ q ∈ lw_privs, lw_okq q := by
  show ∀ q ∈ lw_privs_1 ++ (lw_privs_2), lw_okq q
  exact List.forall_mem_append.mpr ⟨lw_r1, lw_r2⟩
/-- the streams that the claim lets the run draw from -/
abbrev lw_cs : List Choice := [Jvm.Choice.named "NaN.bits"]
theorem lw_bits : nanBits ∈ lw_cs := by first | decide | exact List.mem_cons_self | simp [lw_cs, nanBits]
-- ===== end of PART A; then your names; then what follows =====
def RX0 : String := "CandleStatute$History"
def TX0 : u_T := fun k => match k with
  | 0 => ("CandleStatute$History", "rows", "[LCandleStatute$State;", true)
  | 1 => ("CandleStatute$History", "next", "I", false)
  | _ => ("CandleStatute$History", "count", "I", false)
def tyX0 : Nat → FieldType := fun k => match k with
  | 0 => .array (.object "CandleStatute$State")
  | 1 => .int
  | _ => .int
abbrev wsX00 : List Cond := u_ws RX0 TX0 3
theorem nmX0 : ∀ a, a < 3 → ∀ b, b < 3 → a ≠ b → (TX0 a).2.1 ≠ (TX0 b).2.1 := by decide +kernel
theorem tyX0_ok : ∀ k, k < 3 → parseFieldDescriptor (TX0 k).2.2.1 = some (tyX0 k) := by decide +kernel
abbrev cX0_init : ByteArray := prog_2_method_1_code
def yX0_init : MethodName := ⟨RX0, "<init>", "()V"⟩
abbrev cX0_begin : ByteArray := prog_2_method_2_code
def yX0_begin : MethodName := ⟨RX0, "begin", "(LCandleStatute$State;)V"⟩
abbrev cX0_takeBack : ByteArray := prog_2_method_3_code
def yX0_takeBack : MethodName := ⟨RX0, "takeBack", "(LCandleStatute$State;)V"⟩
abbrev cX0_keep : ByteArray := prog_2_method_4_code
def yX0_keep : MethodName := ⟨RX0, "keep", "()V"⟩
abbrev cX0_stepBack : ByteArray := prog_2_method_5_code
def yX0_stepBack : MethodName := ⟨RX0, "stepBack", "(LCandleStatute$State;)Z"⟩
abbrev cX0_forget : ByteArray := prog_2_method_6_code
def yX0_forget : MethodName := ⟨RX0, "forget", "()V"⟩
def RX1 : String := "CandleStatute$Orders"
def TX1 : u_T := fun k => match k with
  | 0 => ("CandleStatute$Orders", "kinds", "[I", true)
  | 1 => ("CandleStatute$Orders", "firsts", "[I", true)
  | 2 => ("CandleStatute$Orders", "seconds", "[I", true)
  | 3 => ("CandleStatute$Orders", "thirds", "[I", true)
  | 4 => ("CandleStatute$Orders", "count", "I", false)
  | _ => ("CandleStatute$Orders", "at", "I", false)
def tyX1 : Nat → FieldType := fun k => match k with
  | 0 => .array .int
  | 1 => .array .int
  | 2 => .array .int
  | 3 => .array .int
  | 4 => .int
  | _ => .int
abbrev wsX10 : List Cond := u_ws RX1 TX1 6
theorem nmX1 : ∀ a, a < 6 → ∀ b, b < 6 → a ≠ b → (TX1 a).2.1 ≠ (TX1 b).2.1 := by decide +kernel
theorem tyX1_ok : ∀ k, k < 6 → parseFieldDescriptor (TX1 k).2.2.1 = some (tyX1 k) := by decide +kernel
abbrev cX1_init : ByteArray := prog_3_method_1_code
def yX1_init : MethodName := ⟨RX1, "<init>", "()V"⟩
abbrev cX1_read : ByteArray := prog_3_method_2_code
def yX1_read : MethodName := ⟨RX1, "read", "(Ljava/lang/StringBuilder;)I"⟩
abbrev cX1_isOrderRead : ByteArray := prog_3_method_3_code
def yX1_isOrderRead : MethodName := ⟨RX1, "isOrderRead", "(Ljava/lang/StringBuilder;I)Z"⟩
abbrev cX1_patternOf : ByteArray := prog_3_method_4_code
def yX1_patternOf : MethodName := ⟨RX1, "patternOf", "(C)Ljava/lang/String;"⟩
abbrev cX1_isSignRead : ByteArray := prog_3_method_5_code
def yX1_isSignRead : MethodName := ⟨RX1, "isSignRead", "(Ljava/lang/StringBuilder;C)Z"⟩
abbrev cX1_hasDigit : ByteArray := prog_3_method_6_code
def yX1_hasDigit : MethodName := ⟨RX1, "hasDigit", "(Ljava/lang/StringBuilder;)Z"⟩
abbrev cX1_readNumber : ByteArray := prog_3_method_7_code
def yX1_readNumber : MethodName := ⟨RX1, "readNumber", "(Ljava/lang/StringBuilder;C)I"⟩
abbrev cX1_keepNumber : ByteArray := prog_3_method_8_code
def yX1_keepNumber : MethodName := ⟨RX1, "keepNumber", "(III)V"⟩
def RX2 : String := "CandleStatute$Reasons"
def TX2 : u_T := fun k => match k with
  | 0 => ("CandleStatute$Reasons", "codes", "[I", true)
  | 1 => ("CandleStatute$Reasons", "details", "[I", true)
  | _ => ("CandleStatute$Reasons", "count", "I", false)
def tyX2 : Nat → FieldType := fun k => match k with
  | 0 => .array .int
  | 1 => .array .int
  | _ => .int
abbrev wsX20 : List Cond := u_ws RX2 TX2 3
theorem nmX2 : ∀ a, a < 3 → ∀ b, b < 3 → a ≠ b → (TX2 a).2.1 ≠ (TX2 b).2.1 := by decide +kernel
theorem tyX2_ok : ∀ k, k < 3 → parseFieldDescriptor (TX2 k).2.2.1 = some (tyX2 k) := by decide +kernel
abbrev cX2_init : ByteArray := prog_4_method_1_code
def yX2_init : MethodName := ⟨RX2, "<init>", "()V"⟩
abbrev cX2_clear : ByteArray := prog_4_method_2_code
def yX2_clear : MethodName := ⟨RX2, "clear", "()V"⟩
abbrev cX2_putBehind : ByteArray := prog_4_method_3_code
def yX2_putBehind : MethodName := ⟨RX2, "putBehind", "(II)V"⟩
abbrev cX2_putAhead : ByteArray := prog_4_method_4_code
def yX2_putAhead : MethodName := ⟨RX2, "putAhead", "(II)V"⟩
def RX3 : String := "CandleStatute$Sharing"
def TX3 : u_T := fun k => match k with
  | 0 => ("CandleStatute$Sharing", "parts", "[I", true)
  | 1 => ("CandleStatute$Sharing", "pieces", "[I", true)
  | _ => ("CandleStatute$Sharing", "rests", "[I", true)
def tyX3 : Nat → FieldType := fun k => match k with
  | 0 => .array .int
  | 1 => .array .int
  | _ => .array .int
abbrev wsX30 : List Cond := u_ws RX3 TX3 3
theorem nmX3 : ∀ a, a < 3 → ∀ b, b < 3 → a ≠ b → (TX3 a).2.1 ≠ (TX3 b).2.1 := by decide +kernel
theorem tyX3_ok : ∀ k, k < 3 → parseFieldDescriptor (TX3 k).2.2.1 = some (tyX3 k) := by decide +kernel
abbrev cX3_init : ByteArray := prog_5_method_1_code
def yX3_init : MethodName := ⟨RX3, "<init>", "()V"⟩
abbrev cX3_divide : ByteArray := prog_5_method_2_code
def yX3_divide : MethodName := ⟨RX3, "divide", "(LCandleStatute$State;)V"⟩
abbrev cX3_giveOneByRest : ByteArray := prog_5_method_3_code
def yX3_giveOneByRest : MethodName := ⟨RX3, "giveOneByRest", "()V"⟩
abbrev cX3_deal : ByteArray := prog_5_method_4_code
def yX3_deal : MethodName := ⟨RX3, "deal", "(LCandleStatute$State;)V"⟩
abbrev cX3_greatest : ByteArray := prog_5_method_5_code
def yX3_greatest : MethodName := ⟨RX3, "greatest", "([I)I"⟩
def RX4 : String := "CandleStatute$State"
def TX4 : u_T := fun k => match k with
  | 0 => ("CandleStatute$State", "stubs", "LCandleStatute$Stubs;", true)
  | 1 => ("CandleStatute$State", "isOpen", "[Z", true)
  | 2 => ("CandleStatute$State", "heir", "[I", true)
  | 3 => ("CandleStatute$State", "store", "[I", true)
  | 4 => ("CandleStatute$State", "pooled", "[I", true)
  | 5 => ("CandleStatute$State", "pool", "I", false)
  | 6 => ("CandleStatute$State", "brought", "I", false)
  | 7 => ("CandleStatute$State", "burnt", "I", false)
  | 8 => ("CandleStatute$State", "given", "I", false)
  | 9 => ("CandleStatute$State", "paid", "I", false)
  | _ => ("CandleStatute$State", "hours", "I", false)
def tyX4 : Nat → FieldType := fun k => match k with
  | 0 => .object "CandleStatute$Stubs"
  | 1 => .array .boolean
  | 2 => .array .int
  | 3 => .array .int
  | 4 => .array .int
  | 5 => .int
  | 6 => .int
  | 7 => .int
  | 8 => .int
  | 9 => .int
  | _ => .int
abbrev wsX40 : List Cond := u_ws RX4 TX4 11
theorem nmX4 : ∀ a, a < 11 → ∀ b, b < 11 → a ≠ b → (TX4 a).2.1 ≠ (TX4 b).2.1 := by decide +kernel
theorem tyX4_ok : ∀ k, k < 11 → parseFieldDescriptor (TX4 k).2.2.1 = some (tyX4 k) := by decide +kernel
abbrev cX4_init : ByteArray := prog_6_method_1_code
def yX4_init : MethodName := ⟨RX4, "<init>", "()V"⟩
abbrev cX4_copyFrom : ByteArray := prog_6_method_2_code
def yX4_copyFrom : MethodName := ⟨RX4, "copyFrom", "(LCandleStatute$State;)V"⟩
abbrev cX4_burnDown : ByteArray := prog_6_method_3_code
def yX4_burnDown : MethodName := ⟨RX4, "burnDown", "(II)I"⟩
abbrev cX4_claimOf : ByteArray := prog_6_method_4_code
def yX4_claimOf : MethodName := ⟨RX4, "claimOf", "(I)I"⟩
abbrev cX4_allClaims : ByteArray := prog_6_method_5_code
def yX4_allClaims : MethodName := ⟨RX4, "allClaims", "()I"⟩
abbrev cX4_allStores : ByteArray := prog_6_method_6_code
def yX4_allStores : MethodName := ⟨RX4, "allStores", "()I"⟩
abbrev cX4_allPooled : ByteArray := prog_6_method_7_code
def yX4_allPooled : MethodName := ⟨RX4, "allPooled", "()I"⟩
abbrev cX4_openHouses : ByteArray := prog_6_method_8_code
def yX4_openHouses : MethodName := ⟨RX4, "openHouses", "()I"⟩
abbrev cX4_successorOf : ByteArray := prog_6_method_9_code
def yX4_successorOf : MethodName := ⟨RX4, "successorOf", "(I)I"⟩
abbrev cX4_handOver : ByteArray := prog_6_method_10_code
def yX4_handOver : MethodName := ⟨RX4, "handOver", "(II)V"⟩
abbrev cX4_handOverRights : ByteArray := prog_6_method_11_code
def yX4_handOverRights : MethodName := ⟨RX4, "handOverRights", "(II)V"⟩
abbrev cX4_handOverStubs : ByteArray := prog_6_method_12_code
def yX4_handOverStubs : MethodName := ⟨RX4, "handOverStubs", "(II)V"⟩
abbrev cX4_dropWhatIsOwn : ByteArray := prog_6_method_13_code
def yX4_dropWhatIsOwn : MethodName := ⟨RX4, "dropWhatIsOwn", "()V"⟩
abbrev cX4_housesAheadOf : ByteArray := prog_6_method_14_code
def yX4_housesAheadOf : MethodName := ⟨RX4, "housesAheadOf", "(I)I"⟩
abbrev cX4_isAhead : ByteArray := prog_6_method_15_code
def yX4_isAhead : MethodName := ⟨RX4, "isAhead", "(II)Z"⟩
def RX5 : String := "CandleStatute$Stubs"
def TX5 : u_T := fun k => match k with
  | 0 => ("CandleStatute$Stubs", "house", "[I", true)
  | 1 => ("CandleStatute$Stubs", "wax", "[I", true)
  | 2 => ("CandleStatute$Stubs", "wick", "[I", true)
  | 3 => ("CandleStatute$Stubs", "creditor", "[I", true)
  | 4 => ("CandleStatute$Stubs", "debt", "[I", true)
  | 5 => ("CandleStatute$Stubs", "snuffer", "[I", true)
  | 6 => ("CandleStatute$Stubs", "snuffed", "[I", true)
  | 7 => ("CandleStatute$Stubs", "gave", "[I", true)
  | _ => ("CandleStatute$Stubs", "count", "I", false)
def tyX5 : Nat → FieldType := fun k => match k with
  | 0 => .array .int
  | 1 => .array .int
  | 2 => .array .int
  | 3 => .array .int
  | 4 => .array .int
  | 5 => .array .int
  | 6 => .array .int
  | 7 => .array .int
  | _ => .int
abbrev wsX50 : List Cond := u_ws RX5 TX5 9
theorem nmX5 : ∀ a, a < 9 → ∀ b, b < 9 → a ≠ b → (TX5 a).2.1 ≠ (TX5 b).2.1 := by decide +kernel
theorem tyX5_ok : ∀ k, k < 9 → parseFieldDescriptor (TX5 k).2.2.1 = some (tyX5 k) := by decide +kernel
abbrev cX5_init : ByteArray := prog_7_method_1_code
def yX5_init : MethodName := ⟨RX5, "<init>", "()V"⟩
abbrev cX5_copyFrom : ByteArray := prog_7_method_2_code
def yX5_copyFrom : MethodName := ⟨RX5, "copyFrom", "(LCandleStatute$Stubs;)V"⟩
abbrev cX5_copyStub : ByteArray := prog_7_method_3_code
def yX5_copyStub : MethodName := ⟨RX5, "copyStub", "(ILCandleStatute$Stubs;I)V"⟩
abbrev cX5_put : ByteArray := prog_7_method_4_code
def yX5_put : MethodName := ⟨RX5, "put", "(III)I"⟩
abbrev cX5_remove : ByteArray := prog_7_method_5_code
def yX5_remove : MethodName := ⟨RX5, "remove", "(I)V"⟩
abbrev cX5_takeWax : ByteArray := prog_7_method_6_code
def yX5_takeWax : MethodName := ⟨RX5, "takeWax", "(II)V"⟩
abbrev cX5_forgive : ByteArray := prog_7_method_7_code
def yX5_forgive : MethodName := ⟨RX5, "forgive", "(I)V"⟩
abbrev cX5_release : ByteArray := prog_7_method_8_code
def yX5_release : MethodName := ⟨RX5, "release", "(I)V"⟩
abbrev cX5_payBack : ByteArray := prog_7_method_9_code
def yX5_payBack : MethodName := ⟨RX5, "payBack", "(II)I"⟩
abbrev cX5_shortenWrits : ByteArray := prog_7_method_10_code
def yX5_shortenWrits : MethodName := ⟨RX5, "shortenWrits", "(I)I"⟩
abbrev cX5_countOn : ByteArray := prog_7_method_11_code
def yX5_countOn : MethodName := ⟨RX5, "countOn", "(I)I"⟩
abbrev cX5_weightOn : ByteArray := prog_7_method_12_code
def yX5_weightOn : MethodName := ⟨RX5, "weightOn", "(I)I"⟩
abbrev cX5_weightBesideOthers : ByteArray := prog_7_method_13_code
def yX5_weightBesideOthers : MethodName := ⟨RX5, "weightBesideOthers", "(I)I"⟩
abbrev cX5_tooManyFor : ByteArray := prog_7_method_14_code
def yX5_tooManyFor : MethodName := ⟨RX5, "tooManyFor", "(II)I"⟩
abbrev cX5_writsBy : ByteArray := prog_7_method_15_code
def yX5_writsBy : MethodName := ⟨RX5, "writsBy", "(I)I"⟩
abbrev cX5_owedTo : ByteArray := prog_7_method_16_code
def yX5_owedTo : MethodName := ⟨RX5, "owedTo", "(I)I"⟩
abbrev cX5_owedBy : ByteArray := prog_7_method_17_code
def yX5_owedBy : MethodName := ⟨RX5, "owedBy", "(I)I"⟩
abbrev cX5_allWrits : ByteArray := prog_7_method_18_code
def yX5_allWrits : MethodName := ⟨RX5, "allWrits", "()I"⟩
abbrev cX5_allWax : ByteArray := prog_7_method_19_code
def yX5_allWax : MethodName := ⟨RX5, "allWax", "()I"⟩
abbrev cX5_allDebts : ByteArray := prog_7_method_20_code
def yX5_allDebts : MethodName := ⟨RX5, "allDebts", "()I"⟩
abbrev cX5_stubsAheadOf : ByteArray := prog_7_method_21_code
def yX5_stubsAheadOf : MethodName := ⟨RX5, "stubsAheadOf", "(I)I"⟩
abbrev cX5_isAhead : ByteArray := prog_7_method_22_code
def yX5_isAhead : MethodName := ⟨RX5, "isAhead", "(II)Z"⟩
def RX6 : String := "CandleStatute"
def TX6 : u_T := fun k => match k with
  | 0 => ("CandleStatute", "now", "LCandleStatute$State;", true)
  | 1 => ("CandleStatute", "snapshot", "LCandleStatute$State;", true)
  | 2 => ("CandleStatute", "hasSnapshot", "Z", false)
  | 3 => ("CandleStatute", "history", "LCandleStatute$History;", true)
  | 4 => ("CandleStatute", "reasons", "LCandleStatute$Reasons;", true)
  | 5 => ("CandleStatute", "orders", "LCandleStatute$Orders;", true)
  | 6 => ("CandleStatute", "sharing", "LCandleStatute$Sharing;", true)
  | 7 => ("CandleStatute", "text", "Ljava/lang/StringBuilder;", true)
  | _ => ("CandleStatute", "line", "Ljava/lang/StringBuilder;", true)
def tyX6 : Nat → FieldType := fun k => match k with
  | 0 => .object "CandleStatute$State"
  | 1 => .object "CandleStatute$State"
  | 2 => .boolean
  | 3 => .object "CandleStatute$History"
  | 4 => .object "CandleStatute$Reasons"
  | 5 => .object "CandleStatute$Orders"
  | 6 => .object "CandleStatute$Sharing"
  | 7 => .object "java/lang/StringBuilder"
  | _ => .object "java/lang/StringBuilder"
abbrev wsX60 : List Cond := u_ws RX6 TX6 9
theorem nmX6 : ∀ a, a < 9 → ∀ b, b < 9 → a ≠ b → (TX6 a).2.1 ≠ (TX6 b).2.1 := by decide +kernel
theorem tyX6_ok : ∀ k, k < 9 → parseFieldDescriptor (TX6 k).2.2.1 = some (tyX6 k) := by decide +kernel
abbrev cX6_init : ByteArray := prog_1_method_1_code
def yX6_init : MethodName := ⟨RX6, "<init>", "()V"⟩
abbrev cX6_stub : ByteArray := prog_1_method_2_code
def yX6_stub : MethodName := ⟨RX6, "stub", "(III)I"⟩
abbrev cX6_burn : ByteArray := prog_1_method_3_code
def yX6_burn : MethodName := ⟨RX6, "burn", "(II)I"⟩
abbrev cX6_owe : ByteArray := prog_1_method_4_code
def yX6_owe : MethodName := ⟨RX6, "owe", "(III)I"⟩
abbrev cX6_writ : ByteArray := prog_1_method_5_code
def yX6_writ : MethodName := ⟨RX6, "writ", "(III)I"⟩
abbrev cX6_stubOf : ByteArray := prog_1_method_6_code
def yX6_stubOf : MethodName := ⟨RX6, "stubOf", "(II)I"⟩
abbrev cX6_pool : ByteArray := prog_1_method_7_code
def yX6_pool : MethodName := ⟨RX6, "pool", "(II)I"⟩
abbrev cX6_share : ByteArray := prog_1_method_8_code
def yX6_share : MethodName := ⟨RX6, "share", "()I"⟩
abbrev cX6_part : ByteArray := prog_1_method_9_code
def yX6_part : MethodName := ⟨RX6, "part", "(I)I"⟩
abbrev cX6_partAgain : ByteArray := prog_1_method_10_code
def yX6_partAgain : MethodName := ⟨RX6, "partAgain", "(I)I"⟩
abbrev cX6_mould : ByteArray := prog_1_method_11_code
def yX6_mould : MethodName := ⟨RX6, "mould", "(III)I"⟩
abbrev cX6_heir : ByteArray := prog_1_method_12_code
def yX6_heir : MethodName := ⟨RX6, "heir", "(II)I"⟩
abbrev cX6_end : ByteArray := prog_1_method_13_code
def yX6_end : MethodName := ⟨RX6, "end", "(I)I"⟩
abbrev cX6_pass : ByteArray := prog_1_method_14_code
def yX6_pass : MethodName := ⟨RX6, "pass", "(I)I"⟩
abbrev cX6_houseOf : ByteArray := prog_1_method_15_code
def yX6_houseOf : MethodName := ⟨RX6, "houseOf", "(II)I"⟩
abbrev cX6_inherits : ByteArray := prog_1_method_16_code
def yX6_inherits : MethodName := ⟨RX6, "inherits", "(I)I"⟩
abbrev cX6_wouldMelt : ByteArray := prog_1_method_17_code
def yX6_wouldMelt : MethodName := ⟨RX6, "wouldMelt", "(I)I"⟩
abbrev cX6_weight : ByteArray := prog_1_method_18_code
def yX6_weight : MethodName := ⟨RX6, "weight", "(I)I"⟩
abbrev cX6_weightAgain : ByteArray := prog_1_method_19_code
def yX6_weightAgain : MethodName := ⟨RX6, "weightAgain", "(I)I"⟩
abbrev cX6_ranked : ByteArray := prog_1_method_20_code
def yX6_ranked : MethodName := ⟨RX6, "ranked", "(I)I"⟩
abbrev cX6_brightest : ByteArray := prog_1_method_21_code
def yX6_brightest : MethodName := ⟨RX6, "brightest", "(I)I"⟩
abbrev cX6_run : ByteArray := prog_1_method_23_code
def yX6_run : MethodName := ⟨RX6, "run", "()I"⟩
abbrev cX6_tell : ByteArray := prog_1_method_24_code
def yX6_tell : MethodName := ⟨RX6, "tell", "(I)I"⟩
abbrev cX6_tellHouses : ByteArray := prog_1_method_25_code
def yX6_tellHouses : MethodName := ⟨RX6, "tellHouses", "()I"⟩
abbrev cX6_character : ByteArray := prog_1_method_26_code
def yX6_character : MethodName := ⟨RX6, "character", "(I)I"⟩
abbrev cX6_reason : ByteArray := prog_1_method_27_code
def yX6_reason : MethodName := ⟨RX6, "reason", "(IZ)I"⟩
abbrev cX6_account : ByteArray := prog_1_method_28_code
def yX6_account : MethodName := ⟨RX6, "account", "(I)I"⟩
abbrev cX6_isBalanced : ByteArray := prog_1_method_29_code
def yX6_isBalanced : MethodName := ⟨RX6, "isBalanced", "()I"⟩
abbrev cX6_meanWax : ByteArray := prog_1_method_30_code
def yX6_meanWax : MethodName := ⟨RX6, "meanWax", "()D"⟩
abbrev cX6_snuffedShare : ByteArray := prog_1_method_31_code
def yX6_snuffedShare : MethodName := ⟨RX6, "snuffedShare", "()F"⟩
abbrev cX6_undo : ByteArray := prog_1_method_32_code
def yX6_undo : MethodName := ⟨RX6, "undo", "()I"⟩
abbrev cX6_save : ByteArray := prog_1_method_33_code
def yX6_save : MethodName := ⟨RX6, "save", "()I"⟩
abbrev cX6_restore : ByteArray := prog_1_method_34_code
def yX6_restore : MethodName := ⟨RX6, "restore", "()I"⟩
abbrev cX6_settle : ByteArray := prog_1_method_35_code
def yX6_settle : MethodName := ⟨RX6, "settle", "(I)I"⟩
abbrev cX6_bringStub : ByteArray := prog_1_method_36_code
def yX6_bringStub : MethodName := ⟨RX6, "bringStub", "(III)I"⟩
abbrev cX6_mouldStub : ByteArray := prog_1_method_37_code
def yX6_mouldStub : MethodName := ⟨RX6, "mouldStub", "(III)I"⟩
abbrev cX6_hasRoomFor : ByteArray := prog_1_method_38_code
def yX6_hasRoomFor : MethodName := ⟨RX6, "hasRoomFor", "(II)Z"⟩
abbrev cX6_burnStub : ByteArray := prog_1_method_39_code
def yX6_burnStub : MethodName := ⟨RX6, "burnStub", "(II)I"⟩
abbrev cX6_oweLight : ByteArray := prog_1_method_40_code
def yX6_oweLight : MethodName := ⟨RX6, "oweLight", "(III)I"⟩
abbrev cX6_snuffStub : ByteArray := prog_1_method_41_code
def yX6_snuffStub : MethodName := ⟨RX6, "snuffStub", "(III)I"⟩
abbrev cX6_poolWax : ByteArray := prog_1_method_42_code
def yX6_poolWax : MethodName := ⟨RX6, "poolWax", "(II)I"⟩
abbrev cX6_sharePool : ByteArray := prog_1_method_43_code
def yX6_sharePool : MethodName := ⟨RX6, "sharePool", "()I"⟩
abbrev cX6_tellHeir : ByteArray := prog_1_method_44_code
def yX6_tellHeir : MethodName := ⟨RX6, "tellHeir", "(II)I"⟩
abbrev cX6_endHouse : ByteArray := prog_1_method_45_code
def yX6_endHouse : MethodName := ⟨RX6, "endHouse", "(I)I"⟩
abbrev cX6_passHours : ByteArray := prog_1_method_46_code
def yX6_passHours : MethodName := ⟨RX6, "passHours", "(I)I"⟩
abbrev cX6_carryOut : ByteArray := prog_1_method_47_code
def yX6_carryOut : MethodName := ⟨RX6, "carryOut", "(I)I"⟩
abbrev cX6_isFrom : ByteArray := prog_1_method_48_code
def yX6_isFrom : MethodName := ⟨RX6, "isFrom", "(III)Z"⟩
abbrev cX6_isHouse : ByteArray := prog_1_method_49_code
def yX6_isHouse : MethodName := ⟨RX6, "isHouse", "(I)Z"⟩
abbrev cX6_isStub : ByteArray := prog_1_method_50_code
def yX6_isStub : MethodName := ⟨RX6, "isStub", "(I)Z"⟩
abbrev cX6_orNothing : ByteArray := prog_1_method_51_code
def yX6_orNothing : MethodName := ⟨RX6, "orNothing", "(I)I"⟩
abbrev cX6_refuse : ByteArray := prog_1_method_52_code
def yX6_refuse : MethodName := ⟨RX6, "refuse", "(II)I"⟩
abbrev cX6_refuseOrder : ByteArray := prog_1_method_53_code
def yX6_refuseOrder : MethodName := ⟨RX6, "refuseOrder", "(II)I"⟩
abbrev cX6_writeHouse : ByteArray := prog_1_method_54_code
def yX6_writeHouse : MethodName := ⟨RX6, "writeHouse", "(I)V"⟩
abbrev cX6_isWaxAccountedFor : ByteArray := prog_1_method_55_code
def yX6_isWaxAccountedFor : MethodName := ⟨RX6, "isWaxAccountedFor", "()Z"⟩
abbrev cX6_areSharesSame : ByteArray := prog_1_method_56_code
def yX6_areSharesSame : MethodName := ⟨RX6, "areSharesSame", "()Z"⟩
abbrev cX6_areWeightsSame : ByteArray := prog_1_method_57_code
def yX6_areWeightsSame : MethodName := ⟨RX6, "areWeightsSame", "()Z"⟩
def RX7 : String := "CandleStatuteLaw$Bits"
def TX7 : u_T := fun k => match k with
  | _ => ("CandleStatuteLaw$Bits", "bits", "I", false)
def tyX7 : Nat → FieldType := fun k => match k with
  | _ => .int
abbrev wsX70 : List Cond := u_ws RX7 TX7 1
theorem nmX7 : ∀ a, a < 1 → ∀ b, b < 1 → a ≠ b → (TX7 a).2.1 ≠ (TX7 b).2.1 := by decide +kernel
theorem tyX7_ok : ∀ k, k < 1 → parseFieldDescriptor (TX7 k).2.2.1 = some (tyX7 k) := by decide +kernel
abbrev cX7_init : ByteArray := prog_9_method_1_code
def yX7_init : MethodName := ⟨RX7, "<init>", "(I)V"⟩
abbrev cX7_next : ByteArray := prog_9_method_2_code
def yX7_next : MethodName := ⟨RX7, "next", "(I)I"⟩
def RX8 : String := "CandleStatuteModel"
def RJ5 : String := "java/lang/AbstractStringBuilder"
abbrev cJ5_init_d00df : ByteArray := prog_11_method_2_code
def yJ5_init_d00df : MethodName := ⟨RJ5, "<init>", "(I)V"⟩
abbrev cJ5_init_a7421 : ByteArray := prog_11_method_3_code
def yJ5_init_a7421 : MethodName := ⟨RJ5, "<init>", "(Ljava/lang/String;)V"⟩
abbrev cJ5_length_8abf5 : ByteArray := prog_11_method_6_code
def yJ5_length_8abf5 : MethodName := ⟨RJ5, "length", "()I"⟩
abbrev cJ5_ensureCapacityInternal_d00df : ByteArray := prog_11_method_9_code
def yJ5_ensureCapacityInternal_d00df : MethodName := ⟨RJ5, "ensureCapacityInternal", "(I)V"⟩
abbrev cJ5_newCapacity_0f7a4 : ByteArray := prog_11_method_10_code
def yJ5_newCapacity_0f7a4 : MethodName := ⟨RJ5, "newCapacity", "(I)I"⟩
abbrev cJ5_inflate_da8c8 : ByteArray := prog_11_method_11_code
def yJ5_inflate_da8c8 : MethodName := ⟨RJ5, "inflate", "()V"⟩
abbrev cJ5_setLength_d00df : ByteArray := prog_11_method_13_code
def yJ5_setLength_d00df : MethodName := ⟨RJ5, "setLength", "(I)V"⟩
abbrev cJ5_charAt_5068e : ByteArray := prog_11_method_14_code
def yJ5_charAt_5068e : MethodName := ⟨RJ5, "charAt", "(I)C"⟩
abbrev cJ5_append_cf1ce : ByteArray := prog_11_method_22_code
def yJ5_append_cf1ce : MethodName := ⟨RJ5, "append", "(Ljava/lang/String;)Ljava/lang/AbstractStringBuilder;"⟩
abbrev cJ5_appendNull_278bc : ByteArray := prog_11_method_26_code
def yJ5_appendNull_278bc : MethodName := ⟨RJ5, "appendNull", "()Ljava/lang/AbstractStringBuilder;"⟩
abbrev cJ5_append_3fe6f : ByteArray := prog_11_method_31_code
def yJ5_append_3fe6f : MethodName := ⟨RJ5, "append", "(C)Ljava/lang/AbstractStringBuilder;"⟩
abbrev cJ5_append_c97b9 : ByteArray := prog_11_method_32_code
def yJ5_append_c97b9 : MethodName := ⟨RJ5, "append", "(I)Ljava/lang/AbstractStringBuilder;"⟩
abbrev cJ5_getValue_6d5f1 : ByteArray := prog_11_method_64_code
def yJ5_getValue_6d5f1 : MethodName := ⟨RJ5, "getValue", "()[B"⟩
abbrev cJ5_isLatin1_aae02 : ByteArray := prog_11_method_68_code
def yJ5_isLatin1_aae02 : MethodName := ⟨RJ5, "isLatin1", "()Z"⟩
abbrev cJ5_inflateIfNeededFor_a7421 : ByteArray := prog_11_method_71_code
def yJ5_inflateIfNeededFor_a7421 : MethodName := ⟨RJ5, "inflateIfNeededFor", "(Ljava/lang/String;)V"⟩
abbrev cJ5_putStringAt_47b60 : ByteArray := prog_11_method_73_code
def yJ5_putStringAt_47b60 : MethodName := ⟨RJ5, "putStringAt", "(ILjava/lang/String;)V"⟩
def RJ11 : String := "java/lang/Character"
abbrev cJ11_isValidCodePoint_9a6ad : ByteArray := prog_12_method_11_code
def yJ11_isValidCodePoint_9a6ad : MethodName := ⟨RJ11, "isValidCodePoint", "(I)Z"⟩
abbrev cJ11_highSurrogate_5068e : ByteArray := prog_12_method_28_code
def yJ11_highSurrogate_5068e : MethodName := ⟨RJ11, "highSurrogate", "(I)C"⟩
abbrev cJ11_lowSurrogate_5068e : ByteArray := prog_12_method_29_code
def yJ11_lowSurrogate_5068e : MethodName := ⟨RJ11, "lowSurrogate", "(I)C"⟩
def RJ6 : String := "java/lang/Integer"
abbrev cJ6_getChars_ba4f3 : ByteArray := prog_14_method_12_code
def yJ6_getChars_ba4f3 : MethodName := ⟨RJ6, "getChars", "(II[B)I"⟩
abbrev cJ6_stringSize_0f7a4 : ByteArray := prog_14_method_13_code
def yJ6_stringSize_0f7a4 : MethodName := ⟨RJ6, "stringSize", "(I)I"⟩
def RJ9 : String := "java/lang/Math"
abbrev cJ9_max_7cf53 : ByteArray := prog_15_method_65_code
def yJ9_max_7cf53 : MethodName := ⟨RJ9, "max", "(II)I"⟩
abbrev cJ9_min_7cf53 : ByteArray := prog_15_method_69_code
def yJ9_min_7cf53 : MethodName := ⟨RJ9, "min", "(II)I"⟩
def RJ0 : String := "java/lang/String"
def TJ0 : u_T := fun k => match k with
  | 0 => ("java/lang/String", "value", "[B", true)
  | 1 => ("java/lang/String", "coder", "B", true)
  | 2 => ("java/lang/String", "hash", "I", false)
  | _ => ("java/lang/String", "hashIsZero", "Z", false)
def tyJ0 : Nat → FieldType := fun k => match k with
  | 0 => .array .byte
  | 1 => .byte
  | 2 => .int
  | _ => .boolean
abbrev wsJ00 : List Cond := u_ws RJ0 TJ0 4
theorem nmJ0 : ∀ a, a < 4 → ∀ b, b < 4 → a ≠ b → (TJ0 a).2.1 ≠ (TJ0 b).2.1 := by decide +kernel
theorem tyJ0_ok : ∀ k, k < 4 → parseFieldDescriptor (TJ0 k).2.2.1 = some (tyJ0 k) := by decide +kernel
abbrev cJ0_init_81219 : ByteArray := prog_16_method_53_code
def yJ0_init_81219 : MethodName := ⟨RJ0, "<init>", "(Ljava/lang/StringBuilder;)V"⟩
abbrev cJ0_length_8abf5 : ByteArray := prog_16_method_54_code
def yJ0_length_8abf5 : MethodName := ⟨RJ0, "length", "()I"⟩
abbrev cJ0_charAt_5068e : ByteArray := prog_16_method_56_code
def yJ0_charAt_5068e : MethodName := ⟨RJ0, "charAt", "(I)C"⟩
abbrev cJ0_equals_9ea2d : ByteArray := prog_16_method_66_code
def yJ0_equals_9ea2d : MethodName := ⟨RJ0, "equals", "(Ljava/lang/Object;)Z"⟩
abbrev cJ0_indexOf_0f7a4 : ByteArray := prog_16_method_79_code
def yJ0_indexOf_0f7a4 : MethodName := ⟨RJ0, "indexOf", "(I)I"⟩
abbrev cJ0_indexOf_7cf53 : ByteArray := prog_16_method_80_code
def yJ0_indexOf_7cf53 : MethodName := ⟨RJ0, "indexOf", "(II)I"⟩
abbrev cJ0_getBytes_840e7 : ByteArray := prog_16_method_147_code
def yJ0_getBytes_840e7 : MethodName := ⟨RJ0, "getBytes", "([BIB)V"⟩
abbrev cJ0_init_db425 : ByteArray := prog_16_method_150_code
def yJ0_init_db425 : MethodName := ⟨RJ0, "<init>", "(Ljava/lang/AbstractStringBuilder;Ljava/lang/Void;)V"⟩
abbrev cJ0_coder_7d493 : ByteArray := prog_16_method_152_code
def yJ0_coder_7d493 : MethodName := ⟨RJ0, "coder", "()B"⟩
abbrev cJ0_isLatin1_aae02 : ByteArray := prog_16_method_154_code
def yJ0_isLatin1_aae02 : MethodName := ⟨RJ0, "isLatin1", "()Z"⟩
abbrev cJ0_checkIndex_df160 : ByteArray := prog_16_method_155_code
def yJ0_checkIndex_df160 : MethodName := ⟨RJ0, "checkIndex", "(II)V"⟩
abbrev cJ0_checkBoundsOffCount_cabcc : ByteArray := prog_16_method_157_code
def yJ0_checkBoundsOffCount_cabcc : MethodName := ⟨RJ0, "checkBoundsOffCount", "(III)I"⟩
abbrev cJ0_checkBoundsBeginEnd_23922 : ByteArray := prog_16_method_158_code
def yJ0_checkBoundsBeginEnd_23922 : MethodName := ⟨RJ0, "checkBoundsBeginEnd", "(III)V"⟩
def RJ4 : String := "java/lang/StringBuilder"
def TJ4 : u_T := fun k => match k with
  | 0 => ("java/lang/AbstractStringBuilder", "value", "[B", false)
  | 1 => ("java/lang/AbstractStringBuilder", "coder", "B", false)
  | 2 => ("java/lang/AbstractStringBuilder", "maybeLatin1", "Z", false)
  | _ => ("java/lang/AbstractStringBuilder", "count", "I", false)
def tyJ4 : Nat → FieldType := fun k => match k with
  | 0 => .array .byte
  | 1 => .byte
  | 2 => .boolean
  | _ => .int
abbrev wsJ40 : List Cond := u_ws RJ4 TJ4 4
theorem nmJ4 : ∀ a, a < 4 → ∀ b, b < 4 → a ≠ b → (TJ4 a).2.1 ≠ (TJ4 b).2.1 := by decide +kernel
theorem tyJ4_ok : ∀ k, k < 4 → parseFieldDescriptor (TJ4 k).2.2.1 = some (tyJ4 k) := by decide +kernel
abbrev cJ4_init_da8c8 : ByteArray := prog_17_method_1_code
def yJ4_init_da8c8 : MethodName := ⟨RJ4, "<init>", "()V"⟩
abbrev cJ4_init_a7421 : ByteArray := prog_17_method_3_code
def yJ4_init_a7421 : MethodName := ⟨RJ4, "<init>", "(Ljava/lang/String;)V"⟩
abbrev cJ4_append_15ec4 : ByteArray := prog_17_method_7_code
def yJ4_append_15ec4 : MethodName := ⟨RJ4, "append", "(Ljava/lang/String;)Ljava/lang/StringBuilder;"⟩
abbrev cJ4_append_cf468 : ByteArray := prog_17_method_14_code
def yJ4_append_cf468 : MethodName := ⟨RJ4, "append", "(C)Ljava/lang/StringBuilder;"⟩
abbrev cJ4_append_bf812 : ByteArray := prog_17_method_15_code
def yJ4_append_bf812 : MethodName := ⟨RJ4, "append", "(I)Ljava/lang/StringBuilder;"⟩
abbrev cJ4_toString_0e30d : ByteArray := prog_17_method_42_code
def yJ4_toString_0e30d : MethodName := ⟨RJ4, "toString", "()Ljava/lang/String;"⟩
abbrev cJ4_append_cf1ce : ByteArray := prog_17_method_80_code
def yJ4_append_cf1ce : MethodName := ⟨RJ4, "append", "(Ljava/lang/String;)Ljava/lang/AbstractStringBuilder;"⟩
abbrev cJ4_charAt_5068e : ByteArray := prog_17_method_88_code
def yJ4_charAt_5068e : MethodName := ⟨RJ4, "charAt", "(I)C"⟩
abbrev cJ4_setLength_d00df : ByteArray := prog_17_method_89_code
def yJ4_setLength_d00df : MethodName := ⟨RJ4, "setLength", "(I)V"⟩
abbrev cJ4_length_8abf5 : ByteArray := prog_17_method_93_code
def yJ4_length_8abf5 : MethodName := ⟨RJ4, "length", "()I"⟩
def RJ1 : String := "java/lang/StringLatin1"
abbrev cJ1_charAt_3b067 : ByteArray := prog_18_method_2_code
def yJ1_charAt_3b067 : MethodName := ⟨RJ1, "charAt", "([BI)C"⟩
abbrev cJ1_canEncode_fc78d : ByteArray := prog_18_method_3_code
def yJ1_canEncode_fc78d : MethodName := ⟨RJ1, "canEncode", "(C)Z"⟩
abbrev cJ1_canEncode_9a6ad : ByteArray := prog_18_method_4_code
def yJ1_canEncode_9a6ad : MethodName := ⟨RJ1, "canEncode", "(I)Z"⟩
abbrev cJ1_equals_b5fdf : ByteArray := prog_18_method_13_code
def yJ1_equals_b5fdf : MethodName := ⟨RJ1, "equals", "([B[B)Z"⟩
abbrev cJ1_indexOf_4cfef : ByteArray := prog_18_method_22_code
def yJ1_indexOf_4cfef : MethodName := ⟨RJ1, "indexOf", "([BIII)I"⟩
abbrev cJ1_indexOfChar_4cfef : ByteArray := prog_18_method_23_code
def yJ1_indexOfChar_4cfef : MethodName := ⟨RJ1, "indexOfChar", "([BIII)I"⟩
abbrev cJ1_fillNull_b72d1 : ByteArray := prog_18_method_48_code
def yJ1_fillNull_b72d1 : MethodName := ⟨RJ1, "fillNull", "([BII)V"⟩
abbrev cJ1_inflate_0e8fd : ByteArray := prog_18_method_50_code
def yJ1_inflate_0e8fd : MethodName := ⟨RJ1, "inflate", "([BI[BII)V"⟩
def RJ2 : String := "java/lang/StringUTF16"
abbrev cJ2_newBytesFor_77867 : ByteArray := prog_19_method_2_code
def yJ2_newBytesFor_77867 : MethodName := ⟨RJ2, "newBytesFor", "(I)[B"⟩
abbrev cJ2_newBytesLength_0f7a4 : ByteArray := prog_19_method_3_code
def yJ2_newBytesLength_0f7a4 : MethodName := ⟨RJ2, "newBytesLength", "(I)I"⟩
abbrev cJ2_putChar_b72d1 : ByteArray := prog_19_method_4_code
def yJ2_putChar_b72d1 : MethodName := ⟨RJ2, "putChar", "([BII)V"⟩
abbrev cJ2_getChar_3b067 : ByteArray := prog_19_method_5_code
def yJ2_getChar_3b067 : MethodName := ⟨RJ2, "getChar", "([BI)C"⟩
abbrev cJ2_length_9d52b : ByteArray := prog_19_method_6_code
def yJ2_length_9d52b : MethodName := ⟨RJ2, "length", "([B)I"⟩
abbrev cJ2_coderFromArrayLen_85cad : ByteArray := prog_19_method_15_code
def yJ2_coderFromArrayLen_85cad : MethodName := ⟨RJ2, "coderFromArrayLen", "([BI)B"⟩
abbrev cJ2_compress_39247 : ByteArray := prog_19_method_17_code
def yJ2_compress_39247 : MethodName := ⟨RJ2, "compress", "([BII)[B"⟩
abbrev cJ2_compress_5af95 : ByteArray := prog_19_method_22_code
def yJ2_compress_5af95 : MethodName := ⟨RJ2, "compress", "([BI[BII)I"⟩
abbrev cJ2_indexOf_4cfef : ByteArray := prog_19_method_40_code
def yJ2_indexOf_4cfef : MethodName := ⟨RJ2, "indexOf", "([BIII)I"⟩
abbrev cJ2_indexOfChar_4cfef : ByteArray := prog_19_method_47_code
def yJ2_indexOfChar_4cfef : MethodName := ⟨RJ2, "indexOfChar", "([BIII)I"⟩
abbrev cJ2_indexOfCharUnsafe_4cfef : ByteArray := prog_19_method_48_code
def yJ2_indexOfCharUnsafe_4cfef : MethodName := ⟨RJ2, "indexOfCharUnsafe", "([BIII)I"⟩
abbrev cJ2_indexOfSupplementary_4cfef : ByteArray := prog_19_method_49_code
def yJ2_indexOfSupplementary_4cfef : MethodName := ⟨RJ2, "indexOfSupplementary", "([BIII)I"⟩
abbrev cJ2_fillNull_b72d1 : ByteArray := prog_19_method_70_code
def yJ2_fillNull_b72d1 : MethodName := ⟨RJ2, "fillNull", "([BII)V"⟩
abbrev cJ2_putCharSB_b72d1 : ByteArray := prog_19_method_71_code
def yJ2_putCharSB_b72d1 : MethodName := ⟨RJ2, "putCharSB", "([BII)V"⟩
abbrev cJ2_getChars_46870 : ByteArray := prog_19_method_77_code
def yJ2_getChars_46870 : MethodName := ⟨RJ2, "getChars", "(III[B)I"⟩
abbrev cJ2_putCharsAt_cd4e5 : ByteArray := prog_19_method_81_code
def yJ2_putCharsAt_cd4e5 : MethodName := ⟨RJ2, "putCharsAt", "([BICCCC)I"⟩
abbrev cJ2_charAt_3b067 : ByteArray := prog_19_method_83_code
def yJ2_charAt_3b067 : MethodName := ⟨RJ2, "charAt", "([BI)C"⟩
abbrev cJ2_inflate_0e8fd : ByteArray := prog_19_method_86_code
def yJ2_inflate_0e8fd : MethodName := ⟨RJ2, "inflate", "([BI[BII)V"⟩
abbrev cJ2_getChars_ba4f3 : ByteArray := prog_19_method_89_code
def yJ2_getChars_ba4f3 : MethodName := ⟨RJ2, "getChars", "(II[B)I"⟩
abbrev cJ2_checkIndex_2214a : ByteArray := prog_19_method_91_code
def yJ2_checkIndex_2214a : MethodName := ⟨RJ2, "checkIndex", "(I[B)V"⟩
abbrev cJ2_checkBoundsBeginEnd_d044e : ByteArray := prog_19_method_93_code
def yJ2_checkBoundsBeginEnd_d044e : MethodName := ⟨RJ2, "checkBoundsBeginEnd", "(II[B)V"⟩
abbrev cJ2_checkBoundsOffCount_d044e : ByteArray := prog_19_method_94_code
def yJ2_checkBoundsOffCount_d044e : MethodName := ⟨RJ2, "checkBoundsOffCount", "(II[B)V"⟩
def RJ10 : String := "java/lang/System"
def RJ7 : String := "java/util/Arrays"
abbrev cJ7_rangeCheck_23922 : ByteArray := prog_21_method_30_code
def yJ7_rangeCheck_23922 : MethodName := ⟨RJ7, "rangeCheck", "(III)V"⟩
abbrev cJ7_fill_eb02e : ByteArray := prog_21_method_110_code
def yJ7_fill_eb02e : MethodName := ⟨RJ7, "fill", "([BIIB)V"⟩
abbrev cJ7_copyOf_9075b : ByteArray := prog_21_method_121_code
def yJ7_copyOf_9075b : MethodName := ⟨RJ7, "copyOf", "([BI)[B"⟩
abbrev cJ7_checkLength_df160 : ByteArray := prog_21_method_131_code
def yJ7_checkLength_df160 : MethodName := ⟨RJ7, "checkLength", "(II)V"⟩
abbrev cJ7_copyOfRange_39247 : ByteArray := prog_21_method_132_code
def yJ7_copyOfRange_39247 : MethodName := ⟨RJ7, "copyOfRange", "([BII)[B"⟩
abbrev cJ7_copyOfRangeByte_39247 : ByteArray := prog_21_method_133_code
def yJ7_copyOfRangeByte_39247 : MethodName := ⟨RJ7, "copyOfRangeByte", "([BII)[B"⟩
def RJ8 : String := "jdk/internal/util/ArraysSupport"
abbrev cJ8_newLength_cabcc : ByteArray := prog_22_method_27_code
def yJ8_newLength_cabcc : MethodName := ⟨RJ8, "newLength", "(III)I"⟩
abbrev cJ8_hugeLength_7cf53 : ByteArray := prog_22_method_28_code
def yJ8_hugeLength_7cf53 : MethodName := ⟨RJ8, "hugeLength", "(II)I"⟩
def RJ3 : String := "jdk/internal/util/Preconditions"
abbrev cJ3_checkIndex_8e157 : ByteArray := prog_23_method_11_code
def yJ3_checkIndex_8e157 : MethodName := ⟨RJ3, "checkIndex", "(IILjava/util/function/BiFunction;)I"⟩
abbrev cJ3_checkFromToIndex_8c36e : ByteArray := prog_23_method_12_code
def yJ3_checkFromToIndex_8c36e : MethodName := ⟨RJ3, "checkFromToIndex", "(IIILjava/util/function/BiFunction;)I"⟩
abbrev cJ3_checkFromIndexSize_8c36e : ByteArray := prog_23_method_13_code
def yJ3_checkFromIndexSize_8c36e : MethodName := ⟨RJ3, "checkFromIndexSize", "(IIILjava/util/function/BiFunction;)I"⟩
def RL : String := "CandleStatuteLaw"
abbrev cL_cell : ByteArray := method_2_code
def yL_cell : MethodName := ⟨RL, "cell", "([II)I"⟩
abbrev cL_some : ByteArray := method_4_code
def yL_some : MethodName := ⟨RL, "some", "(LCandleStatuteLaw$Bits;I)I"⟩
abbrev cL_acts : ByteArray := method_5_code
def yL_acts : MethodName := ⟨RL, "acts", "(LCandleStatute;ILCandleStatuteLaw$Bits;)I"⟩
abbrev cL_line : ByteArray := method_6_code
def yL_line : MethodName := ⟨RL, "line", "(LCandleStatute;I)Ljava/lang/String;"⟩
abbrev cL_told : ByteArray := method_7_code
def yL_told : MethodName := ⟨RL, "told", "(LCandleStatute;)Ljava/lang/String;"⟩
abbrev cL_stock : ByteArray := method_8_code
def yL_stock : MethodName := ⟨RL, "stock", "(LCandleStatute;)I"⟩
abbrev cL_stubs : ByteArray := method_9_code
def yL_stubs : MethodName := ⟨RL, "stubs", "(LCandleStatute;)Z"⟩
abbrev cL_houses : ByteArray := method_10_code
def yL_houses : MethodName := ⟨RL, "houses", "(LCandleStatute;)Z"⟩
abbrev cL_parts : ByteArray := method_11_code
def yL_parts : MethodName := ⟨RL, "parts", "(LCandleStatute;II)Z"⟩
abbrev cL_heirs : ByteArray := method_12_code
def yL_heirs : MethodName := ⟨RL, "heirs", "(LCandleStatute;I)Z"⟩
abbrev cL_foretold : ByteArray := method_13_code
def yL_foretold : MethodName := ⟨RL, "foretold", "(LCandleStatute;LCandleStatuteLaw$Bits;)Z"⟩
abbrev cL_law : ByteArray := code
def yL_law : MethodName := ⟨RL, "law", "([I)Z"⟩
abbrev vwCl : List vw_C := [(RJ4, TJ4, 4), (RX0, TX0, 3), (RX1, TX1, 6), (RX2, TX2, 3), (RX3, TX3, 3), (RX4, TX4, 11), (RX5, TX5, 9), (RX6, TX6, 9), (RX7, TX7, 1), (RJ0, TJ0, 4)]
end
section
/-! resolved code of the interpreted methods, as the tables name them -/
def sbX : List Cond := [.selects "java/lang/StringBuilder" ⟨"java/lang/AbstractStringBuilder", "ensureCapacityInternal", "(I)V"⟩ ⟨"java/lang/AbstractStringBuilder", "ensureCapacityInternal", "(I)V"⟩, .selects "java/lang/StringBuilder" ⟨"java/lang/AbstractStringBuilder", "newCapacity", "(I)I"⟩ ⟨"java/lang/AbstractStringBuilder", "newCapacity", "(I)I"⟩, .selects "java/lang/StringBuilder" ⟨"java/lang/AbstractStringBuilder", "putStringAt", "(ILjava/lang/String;)V"⟩ ⟨"java/lang/AbstractStringBuilder", "putStringAt", "(ILjava/lang/String;)V"⟩, .selects "java/lang/StringBuilder" ⟨"java/lang/AbstractStringBuilder", "inflateIfNeededFor", "(Ljava/lang/String;)V"⟩ ⟨"java/lang/AbstractStringBuilder", "inflateIfNeededFor", "(Ljava/lang/String;)V"⟩]
def TT : List Cond := sbX ++ lw_tbl
def Tall : List Cond := TT.filter goodWord
def TTs (j : Nat) : List Cond := match j with
  | 0 => sbX
  | 1 => k2_sels lw_privs_1
  | 2 => k2_sels lw_privs_2
  | 3 => tables_1_1
  | 4 => tables_1_2
  | 5 => tables_1_3
  | 6 => tables_1_4
  | 7 => tables_1_5
  | _ => []
theorem TTs_in {j : Nat} {w : Cond} (h : w ∈ TTs j) : w ∈ TT := by
  unfold TT lw_tbl lw_privs tables_1
  simp only [k2_sels, List.map_append, List.mem_append]
  match j, h with
  | 0, h => simp only [TTs, k2_sels] at h; simp only [h, true_or, or_true]
  | 1, h => simp only [TTs, k2_sels] at h; simp only [h, true_or, or_true]
  | 2, h => simp only [TTs, k2_sels] at h; simp only [h, true_or, or_true]
  | 3, h => simp only [TTs, k2_sels] at h; simp only [h, true_or, or_true]
  | 4, h => simp only [TTs, k2_sels] at h; simp only [h, true_or, or_true]
  | 5, h => simp only [TTs, k2_sels] at h; simp only [h, true_or, or_true]
  | 6, h => simp only [TTs, k2_sels] at h; simp only [h, true_or, or_true]
  | 7, h => simp only [TTs, k2_sels] at h; simp only [h, true_or, or_true]
  | n + 8, h => cases h
def atT (p : Nat) (w : Cond) : Bool := match (TTs (p / 1000))[p % 1000]? with
  | some w2 => decide (w2 = w) && goodWord w
  | none => false
theorem atT_in {i : Nat} {w : Cond} (h : atT i w = true) : w ∈ Tall := by
  unfold atT at h
  cases hq : (TTs (i / 1000))[i % 1000]? with
  | none => rw [hq] at h; cases h
  | some w2 =>
    rw [hq] at h
    simp only [Bool.and_eq_true, decide_eq_true_eq] at h
    obtain ⟨rfl, hg⟩ := h
    exact List.mem_filter.mpr ⟨TTs_in (List.mem_of_getElem? hq), hg⟩
theorem goodTall : GoodIn Tall Tall := fun w h => ⟨h, good_of_word (List.mem_filter.mp h).2⟩
abbrev Ent : Type := Nat × Instr × Nat × Nat × Nat × Nat
def clsN : List String := ["CandleStatute$History", "CandleStatute$Orders", "CandleStatute$Reasons", "CandleStatute$Sharing", "CandleStatute$State", "CandleStatute$Stubs", "CandleStatute", "CandleStatuteLaw$Bits", "CandleStatuteLaw", "", "java/lang/String", "java/lang/StringLatin1", "java/lang/StringUTF16", "jdk/internal/util/Preconditions", "java/lang/StringBuilder", "java/lang/AbstractStringBuilder", "java/lang/Integer", "java/util/Arrays", "jdk/internal/util/ArraysSupport", "java/lang/Math", "java/lang/System", "java/lang/Character"]
def e_X0_begin : List Ent := [(0, .aload_n 0, 0, 0, 0, 0), (1, .getfield 11, 0, 1, 0, 3), (4, .aload_n 0, 0, 0, 0, 0), (5, .getfield 18, 1, 1, 1, 0), (8, .aaload, 0, 0, 0, 0), (9, .aload_n 1, 0, 0, 0, 0), (10, .invokevirtual 22, 0, 19, 0, 0), (13, .return_, 0, 0, 0, 0)]
def e_X0_takeBack : List Ent := [(0, .aload_n 1, 0, 0, 0, 0), (1, .aload_n 0, 0, 0, 0, 0), (2, .getfield 11, 0, 1, 0, 3), (5, .aload_n 0, 0, 0, 0, 0), (6, .getfield 18, 1, 1, 1, 0), (9, .aaload, 0, 0, 0, 0), (10, .invokevirtual 22, 0, 19, 0, 0), (13, .return_, 0, 0, 0, 0)]
def e_X0_keep : List Ent := [(0, .aload_n 0, 0, 0, 0, 0), (1, .aload_n 0, 0, 0, 0, 0), (2, .getfield 18, 1, 1, 1, 0), (5, .bipush 8, 0, 0, 0, 0), (7, .if_icmp .ge 12, 0, 0, 0, 0), (10, .aload_n 0, 0, 0, 0, 0), (11, .getfield 18, 1, 1, 1, 0), (14, .iconst 1, 0, 0, 0, 0), (15, .iadd, 0, 0, 0, 0), (16, .goto 4, 0, 0, 0, 0), (19, .iconst 0, 0, 0, 0, 0), (20, .putfield 18, 1, 1, 1, 0), (23, .aload_n 0, 0, 0, 0, 0), (24, .aload_n 0, 0, 0, 0, 0), (25, .getfield 26, 2, 1, 2, 0), (28, .iconst 1, 0, 0, 0, 0), (29, .iadd, 0, 0, 0, 0), (30, .bipush 8, 0, 0, 0, 0), (32, .invokestatic 29, 1, 202, 1, 0), (35, .putfield 26, 2, 1, 2, 0), (38, .return_, 0, 0, 0, 0)]
def e_X0_stepBack : List Ent := [(0, .aload_n 0, 0, 0, 0, 0), (1, .getfield 26, 2, 1, 2, 0), (4, .ifCond .ne 5, 0, 0, 0, 0), (7, .iconst 0, 0, 0, 0, 0), (8, .ireturn, 0, 0, 0, 0), (9, .aload_n 0, 0, 0, 0, 0), (10, .dup, 0, 0, 0, 0), (11, .getfield 26, 2, 1, 2, 0), (14, .iconst 1, 0, 0, 0, 0), (15, .isub, 0, 0, 0, 0), (16, .putfield 26, 2, 1, 2, 0), (19, .aload_n 0, 0, 0, 0, 0), (20, .aload_n 0, 0, 0, 0, 0), (21, .getfield 18, 1, 1, 1, 0), (24, .ifCond .le 12, 0, 0, 0, 0), (27, .aload_n 0, 0, 0, 0, 0), (28, .getfield 18, 1, 1, 1, 0), (31, .iconst 1, 0, 0, 0, 0), (32, .isub, 0, 0, 0, 0), (33, .goto 5, 0, 0, 0, 0), (36, .bipush 8, 0, 0, 0, 0), (38, .putfield 18, 1, 1, 1, 0), (41, .aload_n 0, 0, 0, 0, 0), (42, .aload_n 1, 0, 0, 0, 0), (43, .invokevirtual 35, 2, 1, 0, 0), (46, .iconst 1, 0, 0, 0, 0), (47, .ireturn, 0, 0, 0, 0)]
def e_X0_forget : List Ent := [(0, .aload_n 0, 0, 0, 0, 0), (1, .iconst 0, 0, 0, 0, 0), (2, .putfield 26, 2, 1, 2, 0), (5, .return_, 0, 0, 0, 0)]
def e_X1_read : List Ent := [(0, .aload_n 0, 0, 0, 0, 0), (1, .iconst 0, 0, 0, 0, 0), (2, .putfield 24, 3, 2, 4, 0), (5, .aload_n 0, 0, 0, 0, 0), (6, .iconst 0, 0, 0, 0, 0), (7, .putfield 28, 4, 2, 5, 0), (10, .iconst 0, 0, 0, 0, 0), (11, .istore_n 2, 0, 0, 0, 0), (12, .iload_n 2, 0, 0, 0, 0), (13, .bipush 60, 0, 0, 0, 0), (15, .if_icmp .ge 58, 0, 0, 0, 0), (18, .aload_n 0, 0, 0, 0, 0), (19, .aload_n 1, 0, 0, 0, 0), (20, .iload_n 2, 0, 0, 0, 0), (21, .invokevirtual 31, 3, 6, 0, 0), (24, .ifCond .ne 8, 0, 0, 0, 0), (27, .aload_n 0, 0, 0, 0, 0), (28, .getfield 28, 4, 2, 5, 0), (31, .ireturn, 0, 0, 0, 0), (32, .aload_n 0, 0, 0, 0, 0), (33, .iload_n 2, 0, 0, 0, 0), (34, .iconst 1, 0, 0, 0, 0), (35, .iadd, 0, 0, 0, 0), (36, .putfield 24, 3, 2, 4, 0), (39, .aload_n 0, 0, 0, 0, 0), (40, .getfield 28, 4, 2, 5, 0), (43, .aload_n 1, 0, 0, 0, 0), (44, .invokevirtual 35, 4, 193, 0, 0), (47, .if_icmp .lt 5, 0, 0, 0, 0), (50, .iconst (-1), 0, 0, 0, 0), (51, .ireturn, 0, 0, 0, 0), (52, .aload_n 0, 0, 0, 0, 0), (53, .aload_n 1, 0, 0, 0, 0), (54, .bipush 59, 0, 0, 0, 0), (56, .invokevirtual 41, 5, 8, 0, 0), (59, .ifCond .ne 8, 0, 0, 0, 0), (62, .aload_n 0, 0, 0, 0, 0), (63, .getfield 28, 4, 2, 5, 0), (66, .ireturn, 0, 0, 0, 0), (67, .iinc 2 1, 0, 0, 0, 0), (70, .goto (-58), 0, 0, 0, 0), (73, .aload_n 0, 0, 0, 0, 0), (74, .getfield 28, 4, 2, 5, 0), (77, .ireturn, 0, 0, 0, 0)]
def e_X1_isOrderRead : List Ent := [(0, .aload_n 0, 0, 0, 0, 0), (1, .getfield 28, 4, 2, 5, 0), (4, .aload_n 1, 0, 0, 0, 0), (5, .invokevirtual 35, 4, 193, 0, 0), (8, .if_icmp .ge 19, 0, 0, 0, 0), (11, .ldc 45, 0, 1, 0, 0), (13, .aload_n 1, 0, 0, 0, 0), (14, .aload_n 0, 0, 0, 0, 0), (15, .getfield 28, 4, 2, 5, 0), (18, .invokevirtual 47, 6, 191, 0, 0), (21, .invokevirtual 51, 7, 206, 0, 0), (24, .ifCond .ge 5, 0, 0, 0, 0), (27, .iconst 0, 0, 0, 0, 0), (28, .ireturn, 0, 0, 0, 0), (29, .aload_n 1, 0, 0, 0, 0), (30, .aload_n 0, 0, 0, 0, 0), (31, .getfield 28, 4, 2, 5, 0), (34, .invokevirtual 47, 6, 191, 0, 0), (37, .istore_n 3, 0, 0, 0, 0), (38, .iload_n 3, 0, 0, 0, 0), (39, .invokestatic 57, 8, 7, 1, 0), (42, .astore 4, 0, 0, 0, 0), (44, .aload_n 0, 0, 0, 0, 0), (45, .getfield 9, 5, 2, 0, 3), (48, .iload_n 2, 0, 0, 0, 0), (49, .iload_n 3, 0, 0, 0, 0), (50, .iastore, 0, 0, 0, 0), (51, .aload_n 0, 0, 0, 0, 0), (52, .dup, 0, 0, 0, 0), (53, .getfield 28, 4, 2, 5, 0), (56, .iconst 1, 0, 0, 0, 0), (57, .iadd, 0, 0, 0, 0), (58, .putfield 28, 4, 2, 5, 0), (61, .iconst 0, 0, 0, 0, 0), (62, .istore 5, 0, 0, 0, 0), (64, .iconst 0, 0, 0, 0, 0), (65, .istore 6, 0, 0, 0, 0), (67, .iload 6, 0, 0, 0, 0), (69, .aload 4, 0, 0, 0, 0), (71, .invokevirtual 61, 9, 204, 0, 0), (74, .if_icmp .ge 74, 0, 0, 0, 0), (77, .aload 4, 0, 0, 0, 0), (79, .iload 6, 0, 0, 0, 0), (81, .invokevirtual 62, 10, 205, 0, 0), (84, .istore 7, 0, 0, 0, 0), (86, .iload 7, 0, 0, 0, 0), (88, .bipush 49, 0, 0, 0, 0), (90, .if_icmp .eq 10, 0, 0, 0, 0), (93, .iload 7, 0, 0, 0, 0), (95, .bipush 50, 0, 0, 0, 0), (97, .if_icmp .ne 33, 0, 0, 0, 0), (100, .aload_n 0, 0, 0, 0, 0), (101, .aload_n 1, 0, 0, 0, 0), (102, .invokevirtual 63, 11, 9, 0, 0), (105, .ifCond .ne 5, 0, 0, 0, 0), (108, .iconst 0, 0, 0, 0, 0), (109, .ireturn, 0, 0, 0, 0), (110, .aload_n 0, 0, 0, 0, 0), (111, .iload_n 2, 0, 0, 0, 0), (112, .iload 5, 0, 0, 0, 0), (114, .aload_n 0, 0, 0, 0, 0), (115, .aload_n 1, 0, 0, 0, 0), (116, .iload 7, 0, 0, 0, 0), (118, .invokevirtual 67, 12, 10, 0, 0), (121, .invokevirtual 71, 13, 11, 0, 0), (124, .iinc 5 1, 0, 0, 0, 0), (127, .goto 15, 0, 0, 0, 0), (130, .aload_n 0, 0, 0, 0, 0), (131, .aload_n 1, 0, 0, 0, 0), (132, .iload 7, 0, 0, 0, 0), (134, .invokevirtual 41, 5, 8, 0, 0), (137, .ifCond .ne 5, 0, 0, 0, 0), (140, .iconst 0, 0, 0, 0, 0), (141, .ireturn, 0, 0, 0, 0), (142, .iinc 6 1, 0, 0, 0, 0), (145, .goto (-78), 0, 0, 0, 0), (148, .iconst 1, 0, 0, 0, 0), (149, .ireturn, 0, 0, 0, 0)]
def e_X1_patternOf : List Ent := [(0, .iload_n 0, 0, 0, 0, 0), (1, .tableswitch 130 98 119 #[106, 130, 130, 124, 130, 130, 121, 130, 130, 130, 130, 118, 130, 109, 115, 130, 130, 103, 127, 130, 130, 112], 0, 0, 0, 0), (104, .ldc 75, 1, 1, 1, 0), (106, .areturn, 0, 0, 0, 0), (107, .ldc 77, 2, 1, 2, 0), (109, .areturn, 0, 0, 0, 0), (110, .ldc 79, 3, 1, 3, 0), (112, .areturn, 0, 0, 0, 0), (113, .ldc 81, 4, 1, 4, 0), (115, .areturn, 0, 0, 0, 0), (116, .ldc 83, 5, 1, 5, 0), (118, .areturn, 0, 0, 0, 0), (119, .ldc 75, 1, 1, 1, 0), (121, .areturn, 0, 0, 0, 0), (122, .ldc 85, 6, 1, 6, 0), (124, .areturn, 0, 0, 0, 0), (125, .ldc 87, 7, 1, 7, 0), (127, .areturn, 0, 0, 0, 0), (128, .ldc 89, 8, 1, 8, 0), (130, .areturn, 0, 0, 0, 0), (131, .ldc 91, 9, 1, 9, 0), (133, .areturn, 0, 0, 0, 0)]
def e_X1_isSignRead : List Ent := [(0, .aload_n 0, 0, 0, 0, 0), (1, .getfield 28, 4, 2, 5, 0), (4, .aload_n 1, 0, 0, 0, 0), (5, .invokevirtual 35, 4, 193, 0, 0), (8, .if_icmp .ge 15, 0, 0, 0, 0), (11, .aload_n 1, 0, 0, 0, 0), (12, .aload_n 0, 0, 0, 0, 0), (13, .getfield 28, 4, 2, 5, 0), (16, .invokevirtual 47, 6, 191, 0, 0), (19, .iload_n 2, 0, 0, 0, 0), (20, .if_icmp .eq 5, 0, 0, 0, 0), (23, .iconst 0, 0, 0, 0, 0), (24, .ireturn, 0, 0, 0, 0), (25, .aload_n 0, 0, 0, 0, 0), (26, .dup, 0, 0, 0, 0), (27, .getfield 28, 4, 2, 5, 0), (30, .iconst 1, 0, 0, 0, 0), (31, .iadd, 0, 0, 0, 0), (32, .putfield 28, 4, 2, 5, 0), (35, .iconst 1, 0, 0, 0, 0), (36, .ireturn, 0, 0, 0, 0)]
def e_X1_hasDigit : List Ent := [(0, .aload_n 0, 0, 0, 0, 0), (1, .getfield 28, 4, 2, 5, 0), (4, .aload_n 1, 0, 0, 0, 0), (5, .invokevirtual 35, 4, 193, 0, 0), (8, .if_icmp .ge 33, 0, 0, 0, 0), (11, .aload_n 1, 0, 0, 0, 0), (12, .aload_n 0, 0, 0, 0, 0), (13, .getfield 28, 4, 2, 5, 0), (16, .invokevirtual 47, 6, 191, 0, 0), (19, .bipush 48, 0, 0, 0, 0), (21, .if_icmp .lt 20, 0, 0, 0, 0), (24, .aload_n 1, 0, 0, 0, 0), (25, .aload_n 0, 0, 0, 0, 0), (26, .getfield 28, 4, 2, 5, 0), (29, .invokevirtual 47, 6, 191, 0, 0), (32, .bipush 57, 0, 0, 0, 0), (34, .if_icmp .gt 7, 0, 0, 0, 0), (37, .iconst 1, 0, 0, 0, 0), (38, .goto 4, 0, 0, 0, 0), (41, .iconst 0, 0, 0, 0, 0), (42, .ireturn, 0, 0, 0, 0)]
def e_X1_readNumber : List Ent := [(0, .iconst 0, 0, 0, 0, 0), (1, .istore_n 3, 0, 0, 0, 0), (2, .iload_n 2, 0, 0, 0, 0), (3, .bipush 49, 0, 0, 0, 0), (5, .if_icmp .ne 7, 0, 0, 0, 0), (8, .iconst 1, 0, 0, 0, 0), (9, .goto 4, 0, 0, 0, 0), (12, .iconst 2, 0, 0, 0, 0), (13, .istore 4, 0, 0, 0, 0), (15, .iconst 0, 0, 0, 0, 0), (16, .istore 5, 0, 0, 0, 0), (18, .iload 5, 0, 0, 0, 0), (20, .iload 4, 0, 0, 0, 0), (22, .if_icmp .ge 44, 0, 0, 0, 0), (25, .aload_n 0, 0, 0, 0, 0), (26, .aload_n 1, 0, 0, 0, 0), (27, .invokevirtual 63, 11, 9, 0, 0), (30, .ifCond .eq 36, 0, 0, 0, 0), (33, .iload_n 3, 0, 0, 0, 0), (34, .bipush 10, 0, 0, 0, 0), (36, .imul, 0, 0, 0, 0), (37, .aload_n 1, 0, 0, 0, 0), (38, .aload_n 0, 0, 0, 0, 0), (39, .getfield 28, 4, 2, 5, 0), (42, .invokevirtual 47, 6, 191, 0, 0), (45, .bipush 48, 0, 0, 0, 0), (47, .isub, 0, 0, 0, 0), (48, .iadd, 0, 0, 0, 0), (49, .istore_n 3, 0, 0, 0, 0), (50, .aload_n 0, 0, 0, 0, 0), (51, .dup, 0, 0, 0, 0), (52, .getfield 28, 4, 2, 5, 0), (55, .iconst 1, 0, 0, 0, 0), (56, .iadd, 0, 0, 0, 0), (57, .putfield 28, 4, 2, 5, 0), (60, .iinc 5 1, 0, 0, 0, 0), (63, .goto (-45), 0, 0, 0, 0), (66, .iload_n 3, 0, 0, 0, 0), (67, .ireturn, 0, 0, 0, 0)]
def e_X1_keepNumber : List Ent := [(0, .iload_n 2, 0, 0, 0, 0), (1, .ifCond .ne 13, 0, 0, 0, 0), (4, .aload_n 0, 0, 0, 0, 0), (5, .getfield 15, 6, 2, 1, 3), (8, .iload_n 1, 0, 0, 0, 0), (9, .iload_n 3, 0, 0, 0, 0), (10, .iastore, 0, 0, 0, 0), (11, .goto 25, 0, 0, 0, 0), (14, .iload_n 2, 0, 0, 0, 0), (15, .iconst 1, 0, 0, 0, 0), (16, .if_icmp .ne 13, 0, 0, 0, 0), (19, .aload_n 0, 0, 0, 0, 0), (20, .getfield 18, 7, 2, 2, 3), (23, .iload_n 1, 0, 0, 0, 0), (24, .iload_n 3, 0, 0, 0, 0), (25, .iastore, 0, 0, 0, 0), (26, .goto 10, 0, 0, 0, 0), (29, .aload_n 0, 0, 0, 0, 0), (30, .getfield 21, 8, 2, 3, 3), (33, .iload_n 1, 0, 0, 0, 0), (34, .iload_n 3, 0, 0, 0, 0), (35, .iastore, 0, 0, 0, 0), (36, .return_, 0, 0, 0, 0)]
def e_X2_clear : List Ent := [(0, .aload_n 0, 0, 0, 0, 0), (1, .iconst 0, 0, 0, 0, 0), (2, .putfield 18, 9, 3, 2, 0), (5, .return_, 0, 0, 0, 0)]
def e_X2_putBehind : List Ent := [(0, .aload_n 0, 0, 0, 0, 0), (1, .getfield 18, 9, 3, 2, 0), (4, .iconst 3, 0, 0, 0, 0), (5, .if_icmp .ge 33, 0, 0, 0, 0), (8, .aload_n 0, 0, 0, 0, 0), (9, .getfield 9, 10, 3, 0, 3), (12, .aload_n 0, 0, 0, 0, 0), (13, .getfield 18, 9, 3, 2, 0), (16, .iload_n 1, 0, 0, 0, 0), (17, .iastore, 0, 0, 0, 0), (18, .aload_n 0, 0, 0, 0, 0), (19, .getfield 15, 11, 3, 1, 3), (22, .aload_n 0, 0, 0, 0, 0), (23, .getfield 18, 9, 3, 2, 0), (26, .iload_n 2, 0, 0, 0, 0), (27, .iastore, 0, 0, 0, 0), (28, .aload_n 0, 0, 0, 0, 0), (29, .dup, 0, 0, 0, 0), (30, .getfield 18, 9, 3, 2, 0), (33, .iconst 1, 0, 0, 0, 0), (34, .iadd, 0, 0, 0, 0), (35, .putfield 18, 9, 3, 2, 0), (38, .return_, 0, 0, 0, 0)]
def e_X2_putAhead : List Ent := [(0, .aload_n 0, 0, 0, 0, 0), (1, .aload_n 0, 0, 0, 0, 0), (2, .getfield 18, 9, 3, 2, 0), (5, .iconst 1, 0, 0, 0, 0), (6, .iadd, 0, 0, 0, 0), (7, .iconst 3, 0, 0, 0, 0), (8, .invokestatic 22, 14, 202, 1, 0), (11, .putfield 18, 9, 3, 2, 0), (14, .aload_n 0, 0, 0, 0, 0), (15, .getfield 18, 9, 3, 2, 0), (18, .iconst 1, 0, 0, 0, 0), (19, .isub, 0, 0, 0, 0), (20, .istore_n 3, 0, 0, 0, 0), (21, .iload_n 3, 0, 0, 0, 0), (22, .ifCond .le 37, 0, 0, 0, 0), (25, .aload_n 0, 0, 0, 0, 0), (26, .getfield 9, 10, 3, 0, 3), (29, .iload_n 3, 0, 0, 0, 0), (30, .aload_n 0, 0, 0, 0, 0), (31, .getfield 9, 10, 3, 0, 3), (34, .iload_n 3, 0, 0, 0, 0), (35, .iconst 1, 0, 0, 0, 0), (36, .isub, 0, 0, 0, 0), (37, .iaload, 0, 0, 0, 0), (38, .iastore, 0, 0, 0, 0), (39, .aload_n 0, 0, 0, 0, 0), (40, .getfield 15, 11, 3, 1, 3), (43, .iload_n 3, 0, 0, 0, 0), (44, .aload_n 0, 0, 0, 0, 0), (45, .getfield 15, 11, 3, 1, 3), (48, .iload_n 3, 0, 0, 0, 0), (49, .iconst 1, 0, 0, 0, 0), (50, .isub, 0, 0, 0, 0), (51, .iaload, 0, 0, 0, 0), (52, .iastore, 0, 0, 0, 0), (53, .iinc 3 (-1), 0, 0, 0, 0), (56, .goto (-35), 0, 0, 0, 0), (59, .aload_n 0, 0, 0, 0, 0), (60, .getfield 9, 10, 3, 0, 3), (63, .iconst 0, 0, 0, 0, 0), (64, .iload_n 1, 0, 0, 0, 0), (65, .iastore, 0, 0, 0, 0), (66, .aload_n 0, 0, 0, 0, 0), (67, .getfield 15, 11, 3, 1, 3), (70, .iconst 0, 0, 0, 0, 0), (71, .iload_n 2, 0, 0, 0, 0), (72, .iastore, 0, 0, 0, 0), (73, .return_, 0, 0, 0, 0)]
def e_X3_divide : List Ent := [(0, .aload_n 1, 0, 0, 0, 0), (1, .invokevirtual 21, 15, 22, 0, 0), (4, .istore_n 2, 0, 0, 0, 0), (5, .iload_n 2, 0, 0, 0, 0), (6, .ifCond .ne 7, 0, 0, 0, 0), (9, .iconst 0, 0, 0, 0, 0), (10, .goto 7, 0, 0, 0, 0), (13, .aload_n 1, 0, 0, 0, 0), (14, .getfield 27, 12, 5, 5, 0), (17, .istore_n 3, 0, 0, 0, 0), (18, .iconst 0, 0, 0, 0, 0), (19, .istore 4, 0, 0, 0, 0), (21, .iload 4, 0, 0, 0, 0), (23, .bipush 6, 0, 0, 0, 0), (25, .if_icmp .ge 70, 0, 0, 0, 0), (28, .aload_n 1, 0, 0, 0, 0), (29, .getfield 27, 12, 5, 5, 0), (32, .aload_n 1, 0, 0, 0, 0), (33, .iload 4, 0, 0, 0, 0), (35, .invokevirtual 31, 16, 21, 0, 0), (38, .imul, 0, 0, 0, 0), (39, .istore 5, 0, 0, 0, 0), (41, .aload_n 0, 0, 0, 0, 0), (42, .getfield 9, 13, 4, 0, 3), (45, .iload 4, 0, 0, 0, 0), (47, .iload_n 2, 0, 0, 0, 0), (48, .ifCond .ne 7, 0, 0, 0, 0), (51, .iconst 0, 0, 0, 0, 0), (52, .goto 7, 0, 0, 0, 0), (55, .iload 5, 0, 0, 0, 0), (57, .iload_n 2, 0, 0, 0, 0), (58, .idiv, 0, 0, 0, 0), (59, .iastore, 0, 0, 0, 0), (60, .aload_n 0, 0, 0, 0, 0), (61, .getfield 18, 14, 4, 2, 3), (64, .iload 4, 0, 0, 0, 0), (66, .iload_n 2, 0, 0, 0, 0), (67, .ifCond .ne 7, 0, 0, 0, 0), (70, .iconst 0, 0, 0, 0, 0), (71, .goto 7, 0, 0, 0, 0), (74, .iload 5, 0, 0, 0, 0), (76, .iload_n 2, 0, 0, 0, 0), (77, .irem, 0, 0, 0, 0), (78, .iastore, 0, 0, 0, 0), (79, .iload_n 3, 0, 0, 0, 0), (80, .aload_n 0, 0, 0, 0, 0), (81, .getfield 9, 13, 4, 0, 3), (84, .iload 4, 0, 0, 0, 0), (86, .iaload, 0, 0, 0, 0), (87, .isub, 0, 0, 0, 0), (88, .istore_n 3, 0, 0, 0, 0), (89, .iinc 4 1, 0, 0, 0, 0), (92, .goto (-71), 0, 0, 0, 0), (95, .iconst 0, 0, 0, 0, 0), (96, .istore 4, 0, 0, 0, 0), (98, .iload 4, 0, 0, 0, 0), (100, .bipush 6, 0, 0, 0, 0), (102, .if_icmp .ge 19, 0, 0, 0, 0), (105, .iload 4, 0, 0, 0, 0), (107, .iload_n 3, 0, 0, 0, 0), (108, .if_icmp .ge 13, 0, 0, 0, 0), (111, .aload_n 0, 0, 0, 0, 0), (112, .invokevirtual 35, 17, 16, 0, 0), (115, .iinc 4 1, 0, 0, 0, 0), (118, .goto (-20), 0, 0, 0, 0), (121, .return_, 0, 0, 0, 0)]
def e_X3_giveOneByRest : List Ent := [(0, .aload_n 0, 0, 0, 0, 0), (1, .getfield 18, 14, 4, 2, 3), (4, .invokestatic 38, 18, 18, 1, 0), (7, .istore_n 1, 0, 0, 0, 0), (8, .aload_n 0, 0, 0, 0, 0), (9, .getfield 18, 14, 4, 2, 3), (12, .iload_n 1, 0, 0, 0, 0), (13, .iaload, 0, 0, 0, 0), (14, .ifCond .le 20, 0, 0, 0, 0), (17, .aload_n 0, 0, 0, 0, 0), (18, .getfield 9, 13, 4, 0, 3), (21, .iload_n 1, 0, 0, 0, 0), (22, .dup2, 0, 0, 0, 0), (23, .iaload, 0, 0, 0, 0), (24, .iconst 1, 0, 0, 0, 0), (25, .iadd, 0, 0, 0, 0), (26, .iastore, 0, 0, 0, 0), (27, .aload_n 0, 0, 0, 0, 0), (28, .getfield 18, 14, 4, 2, 3), (31, .iload_n 1, 0, 0, 0, 0), (32, .iconst 0, 0, 0, 0, 0), (33, .iastore, 0, 0, 0, 0), (34, .return_, 0, 0, 0, 0)]
def e_X3_deal : List Ent := [(0, .aload_n 1, 0, 0, 0, 0), (1, .invokevirtual 21, 15, 22, 0, 0), (4, .istore_n 2, 0, 0, 0, 0), (5, .iconst 0, 0, 0, 0, 0), (6, .istore_n 3, 0, 0, 0, 0), (7, .iload_n 3, 0, 0, 0, 0), (8, .bipush 6, 0, 0, 0, 0), (10, .if_icmp .ge 32, 0, 0, 0, 0), (13, .aload_n 0, 0, 0, 0, 0), (14, .getfield 15, 15, 4, 1, 3), (17, .iload_n 3, 0, 0, 0, 0), (18, .iconst 0, 0, 0, 0, 0), (19, .iastore, 0, 0, 0, 0), (20, .aload_n 0, 0, 0, 0, 0), (21, .getfield 18, 14, 4, 2, 3), (24, .iload_n 3, 0, 0, 0, 0), (25, .aload_n 1, 0, 0, 0, 0), (26, .getfield 27, 12, 5, 5, 0), (29, .aload_n 1, 0, 0, 0, 0), (30, .iload_n 3, 0, 0, 0, 0), (31, .invokevirtual 31, 16, 21, 0, 0), (34, .imul, 0, 0, 0, 0), (35, .iastore, 0, 0, 0, 0), (36, .iinc 3 1, 0, 0, 0, 0), (39, .goto (-32), 0, 0, 0, 0), (42, .iload_n 2, 0, 0, 0, 0), (43, .ifCond .ne 7, 0, 0, 0, 0), (46, .iconst 0, 0, 0, 0, 0), (47, .goto 7, 0, 0, 0, 0), (50, .aload_n 1, 0, 0, 0, 0), (51, .getfield 27, 12, 5, 5, 0), (54, .istore_n 3, 0, 0, 0, 0), (55, .iconst 0, 0, 0, 0, 0), (56, .istore 4, 0, 0, 0, 0), (58, .iload 4, 0, 0, 0, 0), (60, .iload_n 3, 0, 0, 0, 0), (61, .if_icmp .ge 40, 0, 0, 0, 0), (64, .aload_n 0, 0, 0, 0, 0), (65, .getfield 18, 14, 4, 2, 3), (68, .invokestatic 38, 18, 18, 1, 0), (71, .istore 5, 0, 0, 0, 0), (73, .aload_n 0, 0, 0, 0, 0), (74, .getfield 15, 15, 4, 1, 3), (77, .iload 5, 0, 0, 0, 0), (79, .dup2, 0, 0, 0, 0), (80, .iaload, 0, 0, 0, 0), (81, .iconst 1, 0, 0, 0, 0), (82, .iadd, 0, 0, 0, 0), (83, .iastore, 0, 0, 0, 0), (84, .aload_n 0, 0, 0, 0, 0), (85, .getfield 18, 14, 4, 2, 3), (88, .iload 5, 0, 0, 0, 0), (90, .dup2, 0, 0, 0, 0), (91, .iaload, 0, 0, 0, 0), (92, .iload_n 2, 0, 0, 0, 0), (93, .isub, 0, 0, 0, 0), (94, .iastore, 0, 0, 0, 0), (95, .iinc 4 1, 0, 0, 0, 0), (98, .goto (-40), 0, 0, 0, 0), (101, .return_, 0, 0, 0, 0)]
def e_X3_greatest : List Ent := [(0, .iconst 0, 0, 0, 0, 0), (1, .istore_n 1, 0, 0, 0, 0), (2, .iconst 1, 0, 0, 0, 0), (3, .istore_n 2, 0, 0, 0, 0), (4, .iload_n 2, 0, 0, 0, 0), (5, .bipush 6, 0, 0, 0, 0), (7, .if_icmp .ge 20, 0, 0, 0, 0), (10, .aload_n 0, 0, 0, 0, 0), (11, .iload_n 2, 0, 0, 0, 0), (12, .iaload, 0, 0, 0, 0), (13, .aload_n 0, 0, 0, 0, 0), (14, .iload_n 1, 0, 0, 0, 0), (15, .iaload, 0, 0, 0, 0), (16, .if_icmp .le 5, 0, 0, 0, 0), (19, .iload_n 2, 0, 0, 0, 0), (20, .istore_n 1, 0, 0, 0, 0), (21, .iinc 2 1, 0, 0, 0, 0), (24, .goto (-20), 0, 0, 0, 0), (27, .iload_n 1, 0, 0, 0, 0), (28, .ireturn, 0, 0, 0, 0)]
def e_X4_copyFrom : List Ent := [(0, .aload_n 0, 0, 0, 0, 0), (1, .getfield 12, 16, 5, 0, 3), (4, .aload_n 1, 0, 0, 0, 0), (5, .getfield 12, 16, 5, 0, 3), (8, .invokevirtual 32, 19, 33, 0, 0), (11, .iconst 0, 0, 0, 0, 0), (12, .istore_n 2, 0, 0, 0, 0), (13, .iload_n 2, 0, 0, 0, 0), (14, .bipush 6, 0, 0, 0, 0), (16, .if_icmp .ge 57, 0, 0, 0, 0), (19, .aload_n 0, 0, 0, 0, 0), (20, .getfield 18, 17, 5, 1, 3), (23, .iload_n 2, 0, 0, 0, 0), (24, .aload_n 1, 0, 0, 0, 0), (25, .getfield 18, 17, 5, 1, 3), (28, .iload_n 2, 0, 0, 0, 0), (29, .baload, 0, 0, 0, 0), (30, .bastore, 0, 0, 0, 0), (31, .aload_n 0, 0, 0, 0, 0), (32, .getfield 22, 18, 5, 2, 3), (35, .iload_n 2, 0, 0, 0, 0), (36, .aload_n 1, 0, 0, 0, 0), (37, .getfield 22, 18, 5, 2, 3), (40, .iload_n 2, 0, 0, 0, 0), (41, .iaload, 0, 0, 0, 0), (42, .iastore, 0, 0, 0, 0), (43, .aload_n 0, 0, 0, 0, 0), (44, .getfield 26, 19, 5, 3, 3), (47, .iload_n 2, 0, 0, 0, 0), (48, .aload_n 1, 0, 0, 0, 0), (49, .getfield 26, 19, 5, 3, 3), (52, .iload_n 2, 0, 0, 0, 0), (53, .iaload, 0, 0, 0, 0), (54, .iastore, 0, 0, 0, 0), (55, .aload_n 0, 0, 0, 0, 0), (56, .getfield 29, 20, 5, 4, 3), (59, .iload_n 2, 0, 0, 0, 0), (60, .aload_n 1, 0, 0, 0, 0), (61, .getfield 29, 20, 5, 4, 3), (64, .iload_n 2, 0, 0, 0, 0), (65, .iaload, 0, 0, 0, 0), (66, .iastore, 0, 0, 0, 0), (67, .iinc 2 1, 0, 0, 0, 0), (70, .goto (-57), 0, 0, 0, 0), (73, .aload_n 0, 0, 0, 0, 0), (74, .aload_n 1, 0, 0, 0, 0), (75, .getfield 36, 21, 5, 5, 0), (78, .putfield 36, 21, 5, 5, 0), (81, .aload_n 0, 0, 0, 0, 0), (82, .aload_n 1, 0, 0, 0, 0), (83, .getfield 40, 22, 5, 6, 0), (86, .putfield 40, 22, 5, 6, 0), (89, .aload_n 0, 0, 0, 0, 0), (90, .aload_n 1, 0, 0, 0, 0), (91, .getfield 43, 23, 5, 7, 0), (94, .putfield 43, 23, 5, 7, 0), (97, .aload_n 0, 0, 0, 0, 0), (98, .aload_n 1, 0, 0, 0, 0), (99, .getfield 46, 24, 5, 8, 0), (102, .putfield 46, 24, 5, 8, 0), (105, .aload_n 0, 0, 0, 0, 0), (106, .aload_n 1, 0, 0, 0, 0), (107, .getfield 49, 25, 5, 9, 0), (110, .putfield 49, 25, 5, 9, 0), (113, .aload_n 0, 0, 0, 0, 0), (114, .aload_n 1, 0, 0, 0, 0), (115, .getfield 52, 26, 5, 10, 0), (118, .putfield 52, 26, 5, 10, 0), (121, .return_, 0, 0, 0, 0)]
def e_X4_burnDown : List Ent := [(0, .iload_n 2, 0, 0, 0, 0), (1, .aload_n 0, 0, 0, 0, 0), (2, .getfield 12, 16, 5, 0, 3), (5, .getfield 55, 27, 6, 2, 3), (8, .iload_n 1, 0, 0, 0, 0), (9, .iaload, 0, 0, 0, 0), (10, .imul, 0, 0, 0, 0), (11, .istore_n 3, 0, 0, 0, 0), (12, .aload_n 0, 0, 0, 0, 0), (13, .getfield 12, 16, 5, 0, 3), (16, .iload_n 1, 0, 0, 0, 0), (17, .iload_n 3, 0, 0, 0, 0), (18, .invokevirtual 58, 20, 40, 0, 0), (21, .istore 4, 0, 0, 0, 0), (23, .aload_n 0, 0, 0, 0, 0), (24, .getfield 12, 16, 5, 0, 3), (27, .getfield 62, 28, 6, 7, 3), (30, .iload_n 1, 0, 0, 0, 0), (31, .dup2, 0, 0, 0, 0), (32, .iaload, 0, 0, 0, 0), (33, .iload_n 3, 0, 0, 0, 0), (34, .iadd, 0, 0, 0, 0), (35, .iastore, 0, 0, 0, 0), (36, .aload_n 0, 0, 0, 0, 0), (37, .dup, 0, 0, 0, 0), (38, .getfield 46, 24, 5, 8, 0), (41, .iload_n 3, 0, 0, 0, 0), (42, .iadd, 0, 0, 0, 0), (43, .putfield 46, 24, 5, 8, 0), (46, .aload_n 0, 0, 0, 0, 0), (47, .dup, 0, 0, 0, 0), (48, .getfield 49, 25, 5, 9, 0), (51, .iload 4, 0, 0, 0, 0), (53, .iadd, 0, 0, 0, 0), (54, .putfield 49, 25, 5, 9, 0), (57, .aload_n 0, 0, 0, 0, 0), (58, .dup, 0, 0, 0, 0), (59, .getfield 43, 23, 5, 7, 0), (62, .iload_n 2, 0, 0, 0, 0), (63, .iadd, 0, 0, 0, 0), (64, .putfield 43, 23, 5, 7, 0), (67, .aload_n 0, 0, 0, 0, 0), (68, .getfield 12, 16, 5, 0, 3), (71, .iload_n 1, 0, 0, 0, 0), (72, .iload_n 2, 0, 0, 0, 0), (73, .invokevirtual 65, 21, 37, 0, 0), (76, .iload 4, 0, 0, 0, 0), (78, .ireturn, 0, 0, 0, 0)]
def e_X4_claimOf : List Ent := [(0, .aload_n 0, 0, 0, 0, 0), (1, .getfield 18, 17, 5, 1, 3), (4, .iload_n 1, 0, 0, 0, 0), (5, .baload, 0, 0, 0, 0), (6, .ifCond .eq 21, 0, 0, 0, 0), (9, .aload_n 0, 0, 0, 0, 0), (10, .getfield 29, 20, 5, 4, 3), (13, .iload_n 1, 0, 0, 0, 0), (14, .iaload, 0, 0, 0, 0), (15, .aload_n 0, 0, 0, 0, 0), (16, .getfield 12, 16, 5, 0, 3), (19, .iload_n 1, 0, 0, 0, 0), (20, .invokevirtual 69, 22, 47, 0, 0), (23, .iadd, 0, 0, 0, 0), (24, .goto 4, 0, 0, 0, 0), (27, .iconst 0, 0, 0, 0, 0), (28, .ireturn, 0, 0, 0, 0)]
def e_X4_allClaims : List Ent := [(0, .iconst 0, 0, 0, 0, 0), (1, .istore_n 1, 0, 0, 0, 0), (2, .iconst 0, 0, 0, 0, 0), (3, .istore_n 2, 0, 0, 0, 0), (4, .iload_n 2, 0, 0, 0, 0), (5, .bipush 6, 0, 0, 0, 0), (7, .if_icmp .ge 17, 0, 0, 0, 0), (10, .iload_n 1, 0, 0, 0, 0), (11, .aload_n 0, 0, 0, 0, 0), (12, .iload_n 2, 0, 0, 0, 0), (13, .invokevirtual 73, 23, 21, 0, 0), (16, .iadd, 0, 0, 0, 0), (17, .istore_n 1, 0, 0, 0, 0), (18, .iinc 2 1, 0, 0, 0, 0), (21, .goto (-17), 0, 0, 0, 0), (24, .iload_n 1, 0, 0, 0, 0), (25, .ireturn, 0, 0, 0, 0)]
def e_X4_allStores : List Ent := [(0, .iconst 0, 0, 0, 0, 0), (1, .istore_n 1, 0, 0, 0, 0), (2, .iconst 0, 0, 0, 0, 0), (3, .istore_n 2, 0, 0, 0, 0), (4, .iload_n 2, 0, 0, 0, 0), (5, .bipush 6, 0, 0, 0, 0), (7, .if_icmp .ge 18, 0, 0, 0, 0), (10, .iload_n 1, 0, 0, 0, 0), (11, .aload_n 0, 0, 0, 0, 0), (12, .getfield 26, 19, 5, 3, 3), (15, .iload_n 2, 0, 0, 0, 0), (16, .iaload, 0, 0, 0, 0), (17, .iadd, 0, 0, 0, 0), (18, .istore_n 1, 0, 0, 0, 0), (19, .iinc 2 1, 0, 0, 0, 0), (22, .goto (-18), 0, 0, 0, 0), (25, .iload_n 1, 0, 0, 0, 0), (26, .ireturn, 0, 0, 0, 0)]
def e_X4_allPooled : List Ent := [(0, .iconst 0, 0, 0, 0, 0), (1, .istore_n 1, 0, 0, 0, 0), (2, .iconst 0, 0, 0, 0, 0), (3, .istore_n 2, 0, 0, 0, 0), (4, .iload_n 2, 0, 0, 0, 0), (5, .bipush 6, 0, 0, 0, 0), (7, .if_icmp .ge 18, 0, 0, 0, 0), (10, .iload_n 1, 0, 0, 0, 0), (11, .aload_n 0, 0, 0, 0, 0), (12, .getfield 29, 20, 5, 4, 3), (15, .iload_n 2, 0, 0, 0, 0), (16, .iaload, 0, 0, 0, 0), (17, .iadd, 0, 0, 0, 0), (18, .istore_n 1, 0, 0, 0, 0), (19, .iinc 2 1, 0, 0, 0, 0), (22, .goto (-18), 0, 0, 0, 0), (25, .iload_n 1, 0, 0, 0, 0), (26, .ireturn, 0, 0, 0, 0)]
def e_X4_openHouses : List Ent := [(0, .iconst 0, 0, 0, 0, 0), (1, .istore_n 1, 0, 0, 0, 0), (2, .iconst 0, 0, 0, 0, 0), (3, .istore_n 2, 0, 0, 0, 0), (4, .iload_n 2, 0, 0, 0, 0), (5, .bipush 6, 0, 0, 0, 0), (7, .if_icmp .ge 26, 0, 0, 0, 0), (10, .iload_n 1, 0, 0, 0, 0), (11, .aload_n 0, 0, 0, 0, 0), (12, .getfield 18, 17, 5, 1, 3), (15, .iload_n 2, 0, 0, 0, 0), (16, .baload, 0, 0, 0, 0), (17, .ifCond .eq 7, 0, 0, 0, 0), (20, .iconst 1, 0, 0, 0, 0), (21, .goto 4, 0, 0, 0, 0), (24, .iconst 0, 0, 0, 0, 0), (25, .iadd, 0, 0, 0, 0), (26, .istore_n 1, 0, 0, 0, 0), (27, .iinc 2 1, 0, 0, 0, 0), (30, .goto (-26), 0, 0, 0, 0), (33, .iload_n 1, 0, 0, 0, 0), (34, .ireturn, 0, 0, 0, 0)]
def e_X4_successorOf : List Ent := [(0, .aload_n 0, 0, 0, 0, 0), (1, .getfield 18, 17, 5, 1, 3), (4, .iload_n 1, 0, 0, 0, 0), (5, .baload, 0, 0, 0, 0), (6, .ifCond .ne 5, 0, 0, 0, 0), (9, .iconst (-1), 0, 0, 0, 0), (10, .ireturn, 0, 0, 0, 0), (11, .aload_n 0, 0, 0, 0, 0), (12, .getfield 22, 18, 5, 2, 3), (15, .iload_n 1, 0, 0, 0, 0), (16, .iaload, 0, 0, 0, 0), (17, .istore_n 2, 0, 0, 0, 0), (18, .iconst 0, 0, 0, 0, 0), (19, .istore_n 3, 0, 0, 0, 0), (20, .iload_n 3, 0, 0, 0, 0), (21, .bipush 6, 0, 0, 0, 0), (23, .if_icmp .ge 32, 0, 0, 0, 0), (26, .iload_n 2, 0, 0, 0, 0), (27, .iload_n 1, 0, 0, 0, 0), (28, .if_icmp .eq 14, 0, 0, 0, 0), (31, .aload_n 0, 0, 0, 0, 0), (32, .getfield 18, 17, 5, 1, 3), (35, .iload_n 2, 0, 0, 0, 0), (36, .baload, 0, 0, 0, 0), (37, .ifCond .eq 5, 0, 0, 0, 0), (40, .iload_n 2, 0, 0, 0, 0), (41, .ireturn, 0, 0, 0, 0), (42, .aload_n 0, 0, 0, 0, 0), (43, .getfield 22, 18, 5, 2, 3), (46, .iload_n 2, 0, 0, 0, 0), (47, .iaload, 0, 0, 0, 0), (48, .istore_n 2, 0, 0, 0, 0), (49, .iinc 3 1, 0, 0, 0, 0), (52, .goto (-32), 0, 0, 0, 0), (55, .iconst 0, 0, 0, 0, 0), (56, .istore_n 3, 0, 0, 0, 0), (57, .iload_n 3, 0, 0, 0, 0), (58, .bipush 6, 0, 0, 0, 0), (60, .if_icmp .ge 25, 0, 0, 0, 0), (63, .iload_n 3, 0, 0, 0, 0), (64, .iload_n 1, 0, 0, 0, 0), (65, .if_icmp .eq 14, 0, 0, 0, 0), (68, .aload_n 0, 0, 0, 0, 0), (69, .getfield 18, 17, 5, 1, 3), (72, .iload_n 3, 0, 0, 0, 0), (73, .baload, 0, 0, 0, 0), (74, .ifCond .eq 5, 0, 0, 0, 0), (77, .iload_n 3, 0, 0, 0, 0), (78, .ireturn, 0, 0, 0, 0), (79, .iinc 3 1, 0, 0, 0, 0), (82, .goto (-25), 0, 0, 0, 0), (85, .iconst (-1), 0, 0, 0, 0), (86, .ireturn, 0, 0, 0, 0)]
def e_X4_handOver : List Ent := [(0, .aload_n 0, 0, 0, 0, 0), (1, .getfield 18, 17, 5, 1, 3), (4, .iload_n 1, 0, 0, 0, 0), (5, .iconst 0, 0, 0, 0, 0), (6, .bastore, 0, 0, 0, 0), (7, .aload_n 0, 0, 0, 0, 0), (8, .getfield 26, 19, 5, 3, 3), (11, .iload_n 2, 0, 0, 0, 0), (12, .dup2, 0, 0, 0, 0), (13, .iaload, 0, 0, 0, 0), (14, .aload_n 0, 0, 0, 0, 0), (15, .getfield 26, 19, 5, 3, 3), (18, .iload_n 1, 0, 0, 0, 0), (19, .iaload, 0, 0, 0, 0), (20, .iadd, 0, 0, 0, 0), (21, .iastore, 0, 0, 0, 0), (22, .aload_n 0, 0, 0, 0, 0), (23, .getfield 26, 19, 5, 3, 3), (26, .iload_n 1, 0, 0, 0, 0), (27, .iconst 0, 0, 0, 0, 0), (28, .iastore, 0, 0, 0, 0), (29, .aload_n 0, 0, 0, 0, 0), (30, .getfield 29, 20, 5, 4, 3), (33, .iload_n 2, 0, 0, 0, 0), (34, .dup2, 0, 0, 0, 0), (35, .iaload, 0, 0, 0, 0), (36, .aload_n 0, 0, 0, 0, 0), (37, .getfield 29, 20, 5, 4, 3), (40, .iload_n 1, 0, 0, 0, 0), (41, .iaload, 0, 0, 0, 0), (42, .iadd, 0, 0, 0, 0), (43, .iastore, 0, 0, 0, 0), (44, .aload_n 0, 0, 0, 0, 0), (45, .getfield 29, 20, 5, 4, 3), (48, .iload_n 1, 0, 0, 0, 0), (49, .iconst 0, 0, 0, 0, 0), (50, .iastore, 0, 0, 0, 0), (51, .aload_n 0, 0, 0, 0, 0), (52, .iload_n 1, 0, 0, 0, 0), (53, .iload_n 2, 0, 0, 0, 0), (54, .invokevirtual 76, 24, 28, 0, 0), (57, .aload_n 0, 0, 0, 0, 0), (58, .iload_n 1, 0, 0, 0, 0), (59, .iload_n 2, 0, 0, 0, 0), (60, .invokevirtual 79, 25, 29, 0, 0), (63, .aload_n 0, 0, 0, 0, 0), (64, .invokevirtual 82, 26, 30, 0, 0), (67, .return_, 0, 0, 0, 0)]
def e_X4_handOverRights : List Ent := [(0, .iconst 0, 0, 0, 0, 0), (1, .istore_n 3, 0, 0, 0, 0), (2, .iload_n 3, 0, 0, 0, 0), (3, .aload_n 0, 0, 0, 0, 0), (4, .getfield 12, 16, 5, 0, 3), (7, .getfield 85, 29, 6, 8, 0), (10, .if_icmp .ge 53, 0, 0, 0, 0), (13, .aload_n 0, 0, 0, 0, 0), (14, .getfield 12, 16, 5, 0, 3), (17, .getfield 88, 30, 6, 3, 3), (20, .iload_n 3, 0, 0, 0, 0), (21, .iaload, 0, 0, 0, 0), (22, .iload_n 1, 0, 0, 0, 0), (23, .if_icmp .ne 13, 0, 0, 0, 0), (26, .aload_n 0, 0, 0, 0, 0), (27, .getfield 12, 16, 5, 0, 3), (30, .getfield 88, 30, 6, 3, 3), (33, .iload_n 3, 0, 0, 0, 0), (34, .iload_n 2, 0, 0, 0, 0), (35, .iastore, 0, 0, 0, 0), (36, .aload_n 0, 0, 0, 0, 0), (37, .getfield 12, 16, 5, 0, 3), (40, .getfield 91, 31, 6, 5, 3), (43, .iload_n 3, 0, 0, 0, 0), (44, .iaload, 0, 0, 0, 0), (45, .iload_n 1, 0, 0, 0, 0), (46, .if_icmp .ne 11, 0, 0, 0, 0), (49, .aload_n 0, 0, 0, 0, 0), (50, .getfield 12, 16, 5, 0, 3), (53, .iload_n 3, 0, 0, 0, 0), (54, .invokevirtual 94, 27, 39, 0, 0), (57, .iinc 3 1, 0, 0, 0, 0), (60, .goto (-58), 0, 0, 0, 0), (63, .return_, 0, 0, 0, 0)]
def e_X4_handOverStubs : List Ent := [(0, .aload_n 0, 0, 0, 0, 0), (1, .getfield 12, 16, 5, 0, 3), (4, .iload_n 2, 0, 0, 0, 0), (5, .invokevirtual 98, 28, 43, 0, 0), (8, .istore_n 3, 0, 0, 0, 0), (9, .iconst 0, 0, 0, 0, 0), (10, .istore 4, 0, 0, 0, 0), (12, .aload_n 0, 0, 0, 0, 0), (13, .getfield 12, 16, 5, 0, 3), (16, .getfield 85, 29, 6, 8, 0), (19, .istore 5, 0, 0, 0, 0), (21, .iload 5, 0, 0, 0, 0), (23, .ifCond .le 102, 0, 0, 0, 0), (26, .aload_n 0, 0, 0, 0, 0), (27, .getfield 12, 16, 5, 0, 3), (30, .getfield 101, 32, 6, 1, 3), (33, .iload 4, 0, 0, 0, 0), (35, .iaload, 0, 0, 0, 0), (36, .iconst 1, 0, 0, 0, 0), (37, .iadd, 0, 0, 0, 0), (38, .istore 6, 0, 0, 0, 0), (40, .aload_n 0, 0, 0, 0, 0), (41, .getfield 12, 16, 5, 0, 3), (44, .getfield 104, 33, 6, 0, 3), (47, .iload 4, 0, 0, 0, 0), (49, .iaload, 0, 0, 0, 0), (50, .iload_n 1, 0, 0, 0, 0), (51, .if_icmp .eq 9, 0, 0, 0, 0), (54, .iinc 4 1, 0, 0, 0, 0), (57, .goto 62, 0, 0, 0, 0), (60, .iload_n 3, 0, 0, 0, 0), (61, .iload 6, 0, 0, 0, 0), (63, .iadd, 0, 0, 0, 0), (64, .bipush 60, 0, 0, 0, 0), (66, .if_icmp .gt 25, 0, 0, 0, 0), (69, .aload_n 0, 0, 0, 0, 0), (70, .getfield 12, 16, 5, 0, 3), (73, .getfield 104, 33, 6, 0, 3), (76, .iload 4, 0, 0, 0, 0), (78, .iload_n 2, 0, 0, 0, 0), (79, .iastore, 0, 0, 0, 0), (80, .iload_n 3, 0, 0, 0, 0), (81, .iload 6, 0, 0, 0, 0), (83, .iadd, 0, 0, 0, 0), (84, .istore_n 3, 0, 0, 0, 0), (85, .iinc 4 1, 0, 0, 0, 0), (88, .goto 31, 0, 0, 0, 0), (91, .aload_n 0, 0, 0, 0, 0), (92, .getfield 26, 19, 5, 3, 3), (95, .iload_n 2, 0, 0, 0, 0), (96, .dup2, 0, 0, 0, 0), (97, .iaload, 0, 0, 0, 0), (98, .aload_n 0, 0, 0, 0, 0), (99, .getfield 12, 16, 5, 0, 3), (102, .getfield 101, 32, 6, 1, 3), (105, .iload 4, 0, 0, 0, 0), (107, .iaload, 0, 0, 0, 0), (108, .iadd, 0, 0, 0, 0), (109, .iastore, 0, 0, 0, 0), (110, .aload_n 0, 0, 0, 0, 0), (111, .getfield 12, 16, 5, 0, 3), (114, .iload 4, 0, 0, 0, 0), (116, .invokevirtual 107, 29, 36, 0, 0), (119, .iinc 5 (-1), 0, 0, 0, 0), (122, .goto (-101), 0, 0, 0, 0), (125, .return_, 0, 0, 0, 0)]
def e_X4_dropWhatIsOwn : List Ent := [(0, .iconst 0, 0, 0, 0, 0), (1, .istore_n 1, 0, 0, 0, 0), (2, .iload_n 1, 0, 0, 0, 0), (3, .aload_n 0, 0, 0, 0, 0), (4, .getfield 12, 16, 5, 0, 3), (7, .getfield 85, 29, 6, 8, 0), (10, .if_icmp .ge 67, 0, 0, 0, 0), (13, .aload_n 0, 0, 0, 0, 0), (14, .getfield 12, 16, 5, 0, 3), (17, .getfield 88, 30, 6, 3, 3), (20, .iload_n 1, 0, 0, 0, 0), (21, .iaload, 0, 0, 0, 0), (22, .aload_n 0, 0, 0, 0, 0), (23, .getfield 12, 16, 5, 0, 3), (26, .getfield 104, 33, 6, 0, 3), (29, .iload_n 1, 0, 0, 0, 0), (30, .iaload, 0, 0, 0, 0), (31, .if_icmp .ne 11, 0, 0, 0, 0), (34, .aload_n 0, 0, 0, 0, 0), (35, .getfield 12, 16, 5, 0, 3), (38, .iload_n 1, 0, 0, 0, 0), (39, .invokevirtual 110, 30, 38, 0, 0), (42, .aload_n 0, 0, 0, 0, 0), (43, .getfield 12, 16, 5, 0, 3), (46, .getfield 91, 31, 6, 5, 3), (49, .iload_n 1, 0, 0, 0, 0), (50, .iaload, 0, 0, 0, 0), (51, .aload_n 0, 0, 0, 0, 0), (52, .getfield 12, 16, 5, 0, 3), (55, .getfield 104, 33, 6, 0, 3), (58, .iload_n 1, 0, 0, 0, 0), (59, .iaload, 0, 0, 0, 0), (60, .if_icmp .ne 11, 0, 0, 0, 0), (63, .aload_n 0, 0, 0, 0, 0), (64, .getfield 12, 16, 5, 0, 3), (67, .iload_n 1, 0, 0, 0, 0), (68, .invokevirtual 94, 27, 39, 0, 0), (71, .iinc 1 1, 0, 0, 0, 0), (74, .goto (-72), 0, 0, 0, 0), (77, .return_, 0, 0, 0, 0)]
def e_X4_housesAheadOf : List Ent := [(0, .iconst 0, 0, 0, 0, 0), (1, .istore_n 2, 0, 0, 0, 0), (2, .iconst 0, 0, 0, 0, 0), (3, .istore_n 3, 0, 0, 0, 0), (4, .iload_n 3, 0, 0, 0, 0), (5, .bipush 6, 0, 0, 0, 0), (7, .if_icmp .ge 26, 0, 0, 0, 0), (10, .iload_n 2, 0, 0, 0, 0), (11, .aload_n 0, 0, 0, 0, 0), (12, .iload_n 3, 0, 0, 0, 0), (13, .iload_n 1, 0, 0, 0, 0), (14, .invokevirtual 113, 31, 32, 0, 0), (17, .ifCond .eq 7, 0, 0, 0, 0), (20, .iconst 1, 0, 0, 0, 0), (21, .goto 4, 0, 0, 0, 0), (24, .iconst 0, 0, 0, 0, 0), (25, .iadd, 0, 0, 0, 0), (26, .istore_n 2, 0, 0, 0, 0), (27, .iinc 3 1, 0, 0, 0, 0), (30, .goto (-26), 0, 0, 0, 0), (33, .iload_n 2, 0, 0, 0, 0), (34, .ireturn, 0, 0, 0, 0)]
def e_X4_isAhead : List Ent := [(0, .aload_n 0, 0, 0, 0, 0), (1, .iload_n 1, 0, 0, 0, 0), (2, .invokevirtual 73, 23, 21, 0, 0), (5, .istore_n 3, 0, 0, 0, 0), (6, .aload_n 0, 0, 0, 0, 0), (7, .iload_n 2, 0, 0, 0, 0), (8, .invokevirtual 73, 23, 21, 0, 0), (11, .istore 4, 0, 0, 0, 0), (13, .iload_n 3, 0, 0, 0, 0), (14, .iload 4, 0, 0, 0, 0), (16, .if_icmp .eq 15, 0, 0, 0, 0), (19, .iload_n 3, 0, 0, 0, 0), (20, .iload 4, 0, 0, 0, 0), (22, .if_icmp .le 7, 0, 0, 0, 0), (25, .iconst 1, 0, 0, 0, 0), (26, .goto 4, 0, 0, 0, 0), (29, .iconst 0, 0, 0, 0, 0), (30, .ireturn, 0, 0, 0, 0), (31, .aload_n 0, 0, 0, 0, 0), (32, .getfield 26, 19, 5, 3, 3), (35, .iload_n 1, 0, 0, 0, 0), (36, .iaload, 0, 0, 0, 0), (37, .aload_n 0, 0, 0, 0, 0), (38, .getfield 26, 19, 5, 3, 3), (41, .iload_n 2, 0, 0, 0, 0), (42, .iaload, 0, 0, 0, 0), (43, .if_icmp .eq 24, 0, 0, 0, 0), (46, .aload_n 0, 0, 0, 0, 0), (47, .getfield 26, 19, 5, 3, 3), (50, .iload_n 1, 0, 0, 0, 0), (51, .iaload, 0, 0, 0, 0), (52, .aload_n 0, 0, 0, 0, 0), (53, .getfield 26, 19, 5, 3, 3), (56, .iload_n 2, 0, 0, 0, 0), (57, .iaload, 0, 0, 0, 0), (58, .if_icmp .le 7, 0, 0, 0, 0), (61, .iconst 1, 0, 0, 0, 0), (62, .goto 4, 0, 0, 0, 0), (65, .iconst 0, 0, 0, 0, 0), (66, .ireturn, 0, 0, 0, 0), (67, .iload_n 1, 0, 0, 0, 0), (68, .iload_n 2, 0, 0, 0, 0), (69, .if_icmp .ge 7, 0, 0, 0, 0), (72, .iconst 1, 0, 0, 0, 0), (73, .goto 4, 0, 0, 0, 0), (76, .iconst 0, 0, 0, 0, 0), (77, .ireturn, 0, 0, 0, 0)]
def e_X5_copyFrom : List Ent := [(0, .aload_n 0, 0, 0, 0, 0), (1, .aload_n 1, 0, 0, 0, 0), (2, .getfield 36, 34, 6, 8, 0), (5, .putfield 36, 34, 6, 8, 0), (8, .iconst 0, 0, 0, 0, 0), (9, .istore_n 2, 0, 0, 0, 0), (10, .iload_n 2, 0, 0, 0, 0), (11, .bipush 12, 0, 0, 0, 0), (13, .if_icmp .ge 16, 0, 0, 0, 0), (16, .aload_n 0, 0, 0, 0, 0), (17, .iload_n 2, 0, 0, 0, 0), (18, .aload_n 1, 0, 0, 0, 0), (19, .iload_n 2, 0, 0, 0, 0), (20, .invokevirtual 40, 32, 34, 0, 0), (23, .iinc 2 1, 0, 0, 0, 0), (26, .goto (-16), 0, 0, 0, 0), (29, .return_, 0, 0, 0, 0)]
def e_X5_copyStub : List Ent := [(0, .aload_n 0, 0, 0, 0, 0), (1, .getfield 9, 35, 6, 0, 3), (4, .iload_n 1, 0, 0, 0, 0), (5, .aload_n 2, 0, 0, 0, 0), (6, .getfield 9, 35, 6, 0, 3), (9, .iload_n 3, 0, 0, 0, 0), (10, .iaload, 0, 0, 0, 0), (11, .iastore, 0, 0, 0, 0), (12, .aload_n 0, 0, 0, 0, 0), (13, .getfield 15, 36, 6, 1, 3), (16, .iload_n 1, 0, 0, 0, 0), (17, .aload_n 2, 0, 0, 0, 0), (18, .getfield 15, 36, 6, 1, 3), (21, .iload_n 3, 0, 0, 0, 0), (22, .iaload, 0, 0, 0, 0), (23, .iastore, 0, 0, 0, 0), (24, .aload_n 0, 0, 0, 0, 0), (25, .getfield 18, 37, 6, 2, 3), (28, .iload_n 1, 0, 0, 0, 0), (29, .aload_n 2, 0, 0, 0, 0), (30, .getfield 18, 37, 6, 2, 3), (33, .iload_n 3, 0, 0, 0, 0), (34, .iaload, 0, 0, 0, 0), (35, .iastore, 0, 0, 0, 0), (36, .aload_n 0, 0, 0, 0, 0), (37, .getfield 21, 38, 6, 3, 3), (40, .iload_n 1, 0, 0, 0, 0), (41, .aload_n 2, 0, 0, 0, 0), (42, .getfield 21, 38, 6, 3, 3), (45, .iload_n 3, 0, 0, 0, 0), (46, .iaload, 0, 0, 0, 0), (47, .iastore, 0, 0, 0, 0), (48, .aload_n 0, 0, 0, 0, 0), (49, .getfield 24, 39, 6, 4, 3), (52, .iload_n 1, 0, 0, 0, 0), (53, .aload_n 2, 0, 0, 0, 0), (54, .getfield 24, 39, 6, 4, 3), (57, .iload_n 3, 0, 0, 0, 0), (58, .iaload, 0, 0, 0, 0), (59, .iastore, 0, 0, 0, 0), (60, .aload_n 0, 0, 0, 0, 0), (61, .getfield 27, 40, 6, 5, 3), (64, .iload_n 1, 0, 0, 0, 0), (65, .aload_n 2, 0, 0, 0, 0), (66, .getfield 27, 40, 6, 5, 3), (69, .iload_n 3, 0, 0, 0, 0), (70, .iaload, 0, 0, 0, 0), (71, .iastore, 0, 0, 0, 0), (72, .aload_n 0, 0, 0, 0, 0), (73, .getfield 30, 41, 6, 6, 3), (76, .iload_n 1, 0, 0, 0, 0), (77, .aload_n 2, 0, 0, 0, 0), (78, .getfield 30, 41, 6, 6, 3), (81, .iload_n 3, 0, 0, 0, 0), (82, .iaload, 0, 0, 0, 0), (83, .iastore, 0, 0, 0, 0), (84, .aload_n 0, 0, 0, 0, 0), (85, .getfield 33, 42, 6, 7, 3), (88, .iload_n 1, 0, 0, 0, 0), (89, .aload_n 2, 0, 0, 0, 0), (90, .getfield 33, 42, 6, 7, 3), (93, .iload_n 3, 0, 0, 0, 0), (94, .iaload, 0, 0, 0, 0), (95, .iastore, 0, 0, 0, 0), (96, .return_, 0, 0, 0, 0)]
def e_X5_put : List Ent := [(0, .aload_n 0, 0, 0, 0, 0), (1, .getfield 36, 34, 6, 8, 0), (4, .istore 4, 0, 0, 0, 0), (6, .aload_n 0, 0, 0, 0, 0), (7, .getfield 9, 35, 6, 0, 3), (10, .iload 4, 0, 0, 0, 0), (12, .iload_n 1, 0, 0, 0, 0), (13, .iastore, 0, 0, 0, 0), (14, .aload_n 0, 0, 0, 0, 0), (15, .getfield 15, 36, 6, 1, 3), (18, .iload 4, 0, 0, 0, 0), (20, .iload_n 2, 0, 0, 0, 0), (21, .iastore, 0, 0, 0, 0), (22, .aload_n 0, 0, 0, 0, 0), (23, .getfield 18, 37, 6, 2, 3), (26, .iload 4, 0, 0, 0, 0), (28, .iload_n 3, 0, 0, 0, 0), (29, .iastore, 0, 0, 0, 0), (30, .aload_n 0, 0, 0, 0, 0), (31, .iload 4, 0, 0, 0, 0), (33, .invokevirtual 44, 33, 38, 0, 0), (36, .aload_n 0, 0, 0, 0, 0), (37, .iload 4, 0, 0, 0, 0), (39, .invokevirtual 48, 34, 39, 0, 0), (42, .aload_n 0, 0, 0, 0, 0), (43, .getfield 33, 42, 6, 7, 3), (46, .iload 4, 0, 0, 0, 0), (48, .iconst 0, 0, 0, 0, 0), (49, .iastore, 0, 0, 0, 0), (50, .aload_n 0, 0, 0, 0, 0), (51, .dup, 0, 0, 0, 0), (52, .getfield 36, 34, 6, 8, 0), (55, .iconst 1, 0, 0, 0, 0), (56, .iadd, 0, 0, 0, 0), (57, .putfield 36, 34, 6, 8, 0), (60, .iload 4, 0, 0, 0, 0), (62, .ireturn, 0, 0, 0, 0)]
def e_X5_remove : List Ent := [(0, .aload_n 0, 0, 0, 0, 0), (1, .dup, 0, 0, 0, 0), (2, .getfield 36, 34, 6, 8, 0), (5, .iconst 1, 0, 0, 0, 0), (6, .isub, 0, 0, 0, 0), (7, .putfield 36, 34, 6, 8, 0), (10, .iload_n 1, 0, 0, 0, 0), (11, .istore_n 2, 0, 0, 0, 0), (12, .iload_n 2, 0, 0, 0, 0), (13, .aload_n 0, 0, 0, 0, 0), (14, .getfield 36, 34, 6, 8, 0), (17, .if_icmp .ge 18, 0, 0, 0, 0), (20, .aload_n 0, 0, 0, 0, 0), (21, .iload_n 2, 0, 0, 0, 0), (22, .aload_n 0, 0, 0, 0, 0), (23, .iload_n 2, 0, 0, 0, 0), (24, .iconst 1, 0, 0, 0, 0), (25, .iadd, 0, 0, 0, 0), (26, .invokevirtual 40, 32, 34, 0, 0), (29, .iinc 2 1, 0, 0, 0, 0), (32, .goto (-20), 0, 0, 0, 0), (35, .return_, 0, 0, 0, 0)]
def e_X5_takeWax : List Ent := [(0, .aload_n 0, 0, 0, 0, 0), (1, .getfield 15, 36, 6, 1, 3), (4, .iload_n 1, 0, 0, 0, 0), (5, .dup2, 0, 0, 0, 0), (6, .iaload, 0, 0, 0, 0), (7, .iload_n 2, 0, 0, 0, 0), (8, .isub, 0, 0, 0, 0), (9, .iastore, 0, 0, 0, 0), (10, .aload_n 0, 0, 0, 0, 0), (11, .getfield 15, 36, 6, 1, 3), (14, .iload_n 1, 0, 0, 0, 0), (15, .iaload, 0, 0, 0, 0), (16, .ifCond .ne 8, 0, 0, 0, 0), (19, .aload_n 0, 0, 0, 0, 0), (20, .iload_n 1, 0, 0, 0, 0), (21, .invokevirtual 51, 35, 36, 0, 0), (24, .return_, 0, 0, 0, 0)]
def e_X5_forgive : List Ent := [(0, .aload_n 0, 0, 0, 0, 0), (1, .getfield 21, 38, 6, 3, 3), (4, .iload_n 1, 0, 0, 0, 0), (5, .iconst (-1), 0, 0, 0, 0), (6, .iastore, 0, 0, 0, 0), (7, .aload_n 0, 0, 0, 0, 0), (8, .getfield 24, 39, 6, 4, 3), (11, .iload_n 1, 0, 0, 0, 0), (12, .iconst 0, 0, 0, 0, 0), (13, .iastore, 0, 0, 0, 0), (14, .return_, 0, 0, 0, 0)]
def e_X5_release : List Ent := [(0, .aload_n 0, 0, 0, 0, 0), (1, .getfield 27, 40, 6, 5, 3), (4, .iload_n 1, 0, 0, 0, 0), (5, .iconst (-1), 0, 0, 0, 0), (6, .iastore, 0, 0, 0, 0), (7, .aload_n 0, 0, 0, 0, 0), (8, .getfield 30, 41, 6, 6, 3), (11, .iload_n 1, 0, 0, 0, 0), (12, .iconst 0, 0, 0, 0, 0), (13, .iastore, 0, 0, 0, 0), (14, .return_, 0, 0, 0, 0)]
def e_X5_payBack : List Ent := [(0, .iload_n 2, 0, 0, 0, 0), (1, .aload_n 0, 0, 0, 0, 0), (2, .getfield 24, 39, 6, 4, 3), (5, .iload_n 1, 0, 0, 0, 0), (6, .iaload, 0, 0, 0, 0), (7, .invokestatic 54, 36, 202, 1, 0), (10, .istore_n 3, 0, 0, 0, 0), (11, .aload_n 0, 0, 0, 0, 0), (12, .getfield 24, 39, 6, 4, 3), (15, .iload_n 1, 0, 0, 0, 0), (16, .dup2, 0, 0, 0, 0), (17, .iaload, 0, 0, 0, 0), (18, .iload_n 3, 0, 0, 0, 0), (19, .isub, 0, 0, 0, 0), (20, .iastore, 0, 0, 0, 0), (21, .aload_n 0, 0, 0, 0, 0), (22, .getfield 24, 39, 6, 4, 3), (25, .iload_n 1, 0, 0, 0, 0), (26, .iaload, 0, 0, 0, 0), (27, .ifCond .ne 8, 0, 0, 0, 0), (30, .aload_n 0, 0, 0, 0, 0), (31, .iload_n 1, 0, 0, 0, 0), (32, .invokevirtual 44, 33, 38, 0, 0), (35, .iload_n 3, 0, 0, 0, 0), (36, .ireturn, 0, 0, 0, 0)]
def e_X5_shortenWrits : List Ent := [(0, .iconst 0, 0, 0, 0, 0), (1, .istore_n 2, 0, 0, 0, 0), (2, .iconst 0, 0, 0, 0, 0), (3, .istore_n 3, 0, 0, 0, 0), (4, .iload_n 3, 0, 0, 0, 0), (5, .aload_n 0, 0, 0, 0, 0), (6, .getfield 36, 34, 6, 8, 0), (9, .if_icmp .ge 46, 0, 0, 0, 0), (12, .aload_n 0, 0, 0, 0, 0), (13, .getfield 27, 40, 6, 5, 3), (16, .iload_n 3, 0, 0, 0, 0), (17, .iaload, 0, 0, 0, 0), (18, .iconst (-1), 0, 0, 0, 0), (19, .if_icmp .eq 30, 0, 0, 0, 0), (22, .aload_n 0, 0, 0, 0, 0), (23, .getfield 30, 41, 6, 6, 3), (26, .iload_n 3, 0, 0, 0, 0), (27, .dup2, 0, 0, 0, 0), (28, .iaload, 0, 0, 0, 0), (29, .iload_n 1, 0, 0, 0, 0), (30, .isub, 0, 0, 0, 0), (31, .iastore, 0, 0, 0, 0), (32, .aload_n 0, 0, 0, 0, 0), (33, .getfield 30, 41, 6, 6, 3), (36, .iload_n 3, 0, 0, 0, 0), (37, .iaload, 0, 0, 0, 0), (38, .ifCond .gt 11, 0, 0, 0, 0), (41, .aload_n 0, 0, 0, 0, 0), (42, .iload_n 3, 0, 0, 0, 0), (43, .invokevirtual 48, 34, 39, 0, 0), (46, .iinc 2 1, 0, 0, 0, 0), (49, .iinc 3 1, 0, 0, 0, 0), (52, .goto (-48), 0, 0, 0, 0), (55, .iload_n 2, 0, 0, 0, 0), (56, .ireturn, 0, 0, 0, 0)]
def e_X5_countOn : List Ent := [(0, .iconst 0, 0, 0, 0, 0), (1, .istore_n 2, 0, 0, 0, 0), (2, .iconst 0, 0, 0, 0, 0), (3, .istore_n 3, 0, 0, 0, 0), (4, .iload_n 3, 0, 0, 0, 0), (5, .aload_n 0, 0, 0, 0, 0), (6, .getfield 36, 34, 6, 8, 0), (9, .if_icmp .ge 27, 0, 0, 0, 0), (12, .iload_n 2, 0, 0, 0, 0), (13, .aload_n 0, 0, 0, 0, 0), (14, .getfield 9, 35, 6, 0, 3), (17, .iload_n 3, 0, 0, 0, 0), (18, .iaload, 0, 0, 0, 0), (19, .iload_n 1, 0, 0, 0, 0), (20, .if_icmp .ne 7, 0, 0, 0, 0), (23, .iconst 1, 0, 0, 0, 0), (24, .goto 4, 0, 0, 0, 0), (27, .iconst 0, 0, 0, 0, 0), (28, .iadd, 0, 0, 0, 0), (29, .istore_n 2, 0, 0, 0, 0), (30, .iinc 3 1, 0, 0, 0, 0), (33, .goto (-29), 0, 0, 0, 0), (36, .iload_n 2, 0, 0, 0, 0), (37, .ireturn, 0, 0, 0, 0)]
def e_X5_weightOn : List Ent := [(0, .iconst 0, 0, 0, 0, 0), (1, .istore_n 2, 0, 0, 0, 0), (2, .iconst 0, 0, 0, 0, 0), (3, .istore_n 3, 0, 0, 0, 0), (4, .iload_n 3, 0, 0, 0, 0), (5, .aload_n 0, 0, 0, 0, 0), (6, .getfield 36, 34, 6, 8, 0), (9, .if_icmp .ge 34, 0, 0, 0, 0), (12, .iload_n 2, 0, 0, 0, 0), (13, .aload_n 0, 0, 0, 0, 0), (14, .getfield 9, 35, 6, 0, 3), (17, .iload_n 3, 0, 0, 0, 0), (18, .iaload, 0, 0, 0, 0), (19, .iload_n 1, 0, 0, 0, 0), (20, .if_icmp .ne 14, 0, 0, 0, 0), (23, .aload_n 0, 0, 0, 0, 0), (24, .getfield 15, 36, 6, 1, 3), (27, .iload_n 3, 0, 0, 0, 0), (28, .iaload, 0, 0, 0, 0), (29, .iconst 1, 0, 0, 0, 0), (30, .iadd, 0, 0, 0, 0), (31, .goto 4, 0, 0, 0, 0), (34, .iconst 0, 0, 0, 0, 0), (35, .iadd, 0, 0, 0, 0), (36, .istore_n 2, 0, 0, 0, 0), (37, .iinc 3 1, 0, 0, 0, 0), (40, .goto (-36), 0, 0, 0, 0), (43, .iload_n 2, 0, 0, 0, 0), (44, .ireturn, 0, 0, 0, 0)]
def e_X5_weightBesideOthers : List Ent := [(0, .aload_n 0, 0, 0, 0, 0), (1, .invokevirtual 60, 37, 50, 0, 0), (4, .aload_n 0, 0, 0, 0, 0), (5, .getfield 36, 34, 6, 8, 0), (8, .iconst 1, 0, 0, 0, 0), (9, .imul, 0, 0, 0, 0), (10, .iadd, 0, 0, 0, 0), (11, .istore_n 2, 0, 0, 0, 0), (12, .iconst 0, 0, 0, 0, 0), (13, .istore_n 3, 0, 0, 0, 0), (14, .iload_n 3, 0, 0, 0, 0), (15, .bipush 6, 0, 0, 0, 0), (17, .if_icmp .ge 26, 0, 0, 0, 0), (20, .iload_n 2, 0, 0, 0, 0), (21, .iload_n 3, 0, 0, 0, 0), (22, .iload_n 1, 0, 0, 0, 0), (23, .if_icmp .ne 7, 0, 0, 0, 0), (26, .iconst 0, 0, 0, 0, 0), (27, .goto 8, 0, 0, 0, 0), (30, .aload_n 0, 0, 0, 0, 0), (31, .iload_n 3, 0, 0, 0, 0), (32, .invokevirtual 64, 38, 43, 0, 0), (35, .isub, 0, 0, 0, 0), (36, .istore_n 2, 0, 0, 0, 0), (37, .iinc 3 1, 0, 0, 0, 0), (40, .goto (-26), 0, 0, 0, 0), (43, .iload_n 2, 0, 0, 0, 0), (44, .ireturn, 0, 0, 0, 0)]
def e_X5_tooManyFor : List Ent := [(0, .aload_n 0, 0, 0, 0, 0), (1, .iload_n 2, 0, 0, 0, 0), (2, .invokevirtual 64, 38, 43, 0, 0), (5, .istore_n 3, 0, 0, 0, 0), (6, .iconst 0, 0, 0, 0, 0), (7, .istore 4, 0, 0, 0, 0), (9, .iconst 0, 0, 0, 0, 0), (10, .istore 5, 0, 0, 0, 0), (12, .iload 5, 0, 0, 0, 0), (14, .aload_n 0, 0, 0, 0, 0), (15, .getfield 36, 34, 6, 8, 0), (18, .if_icmp .ge 51, 0, 0, 0, 0), (21, .aload_n 0, 0, 0, 0, 0), (22, .getfield 9, 35, 6, 0, 3), (25, .iload 5, 0, 0, 0, 0), (27, .iaload, 0, 0, 0, 0), (28, .iload_n 1, 0, 0, 0, 0), (29, .if_icmp .ne 34, 0, 0, 0, 0), (32, .aload_n 0, 0, 0, 0, 0), (33, .getfield 15, 36, 6, 1, 3), (36, .iload 5, 0, 0, 0, 0), (38, .iaload, 0, 0, 0, 0), (39, .iconst 1, 0, 0, 0, 0), (40, .iadd, 0, 0, 0, 0), (41, .istore 6, 0, 0, 0, 0), (43, .iload_n 3, 0, 0, 0, 0), (44, .iload 6, 0, 0, 0, 0), (46, .iadd, 0, 0, 0, 0), (47, .bipush 60, 0, 0, 0, 0), (49, .if_icmp .gt 11, 0, 0, 0, 0), (52, .iload_n 3, 0, 0, 0, 0), (53, .iload 6, 0, 0, 0, 0), (55, .iadd, 0, 0, 0, 0), (56, .istore_n 3, 0, 0, 0, 0), (57, .goto 6, 0, 0, 0, 0), (60, .iinc 4 1, 0, 0, 0, 0), (63, .iinc 5 1, 0, 0, 0, 0), (66, .goto (-54), 0, 0, 0, 0), (69, .iload 4, 0, 0, 0, 0), (71, .ireturn, 0, 0, 0, 0)]
def e_X5_writsBy : List Ent := [(0, .iconst 0, 0, 0, 0, 0), (1, .istore_n 2, 0, 0, 0, 0), (2, .iconst 0, 0, 0, 0, 0), (3, .istore_n 3, 0, 0, 0, 0), (4, .iload_n 3, 0, 0, 0, 0), (5, .aload_n 0, 0, 0, 0, 0), (6, .getfield 36, 34, 6, 8, 0), (9, .if_icmp .ge 27, 0, 0, 0, 0), (12, .iload_n 2, 0, 0, 0, 0), (13, .aload_n 0, 0, 0, 0, 0), (14, .getfield 27, 40, 6, 5, 3), (17, .iload_n 3, 0, 0, 0, 0), (18, .iaload, 0, 0, 0, 0), (19, .iload_n 1, 0, 0, 0, 0), (20, .if_icmp .ne 7, 0, 0, 0, 0), (23, .iconst 1, 0, 0, 0, 0), (24, .goto 4, 0, 0, 0, 0), (27, .iconst 0, 0, 0, 0, 0), (28, .iadd, 0, 0, 0, 0), (29, .istore_n 2, 0, 0, 0, 0), (30, .iinc 3 1, 0, 0, 0, 0), (33, .goto (-29), 0, 0, 0, 0), (36, .iload_n 2, 0, 0, 0, 0), (37, .ireturn, 0, 0, 0, 0)]
def e_X5_owedTo : List Ent := [(0, .iconst 0, 0, 0, 0, 0), (1, .istore_n 2, 0, 0, 0, 0), (2, .iconst 0, 0, 0, 0, 0), (3, .istore_n 3, 0, 0, 0, 0), (4, .iload_n 3, 0, 0, 0, 0), (5, .aload_n 0, 0, 0, 0, 0), (6, .getfield 36, 34, 6, 8, 0), (9, .if_icmp .ge 32, 0, 0, 0, 0), (12, .iload_n 2, 0, 0, 0, 0), (13, .aload_n 0, 0, 0, 0, 0), (14, .getfield 21, 38, 6, 3, 3), (17, .iload_n 3, 0, 0, 0, 0), (18, .iaload, 0, 0, 0, 0), (19, .iload_n 1, 0, 0, 0, 0), (20, .if_icmp .ne 12, 0, 0, 0, 0), (23, .aload_n 0, 0, 0, 0, 0), (24, .getfield 24, 39, 6, 4, 3), (27, .iload_n 3, 0, 0, 0, 0), (28, .iaload, 0, 0, 0, 0), (29, .goto 4, 0, 0, 0, 0), (32, .iconst 0, 0, 0, 0, 0), (33, .iadd, 0, 0, 0, 0), (34, .istore_n 2, 0, 0, 0, 0), (35, .iinc 3 1, 0, 0, 0, 0), (38, .goto (-34), 0, 0, 0, 0), (41, .iload_n 2, 0, 0, 0, 0), (42, .ireturn, 0, 0, 0, 0)]
def e_X5_owedBy : List Ent := [(0, .iconst 0, 0, 0, 0, 0), (1, .istore_n 2, 0, 0, 0, 0), (2, .iconst 0, 0, 0, 0, 0), (3, .istore_n 3, 0, 0, 0, 0), (4, .iload_n 3, 0, 0, 0, 0), (5, .aload_n 0, 0, 0, 0, 0), (6, .getfield 36, 34, 6, 8, 0), (9, .if_icmp .ge 32, 0, 0, 0, 0), (12, .iload_n 2, 0, 0, 0, 0), (13, .aload_n 0, 0, 0, 0, 0), (14, .getfield 9, 35, 6, 0, 3), (17, .iload_n 3, 0, 0, 0, 0), (18, .iaload, 0, 0, 0, 0), (19, .iload_n 1, 0, 0, 0, 0), (20, .if_icmp .ne 12, 0, 0, 0, 0), (23, .aload_n 0, 0, 0, 0, 0), (24, .getfield 24, 39, 6, 4, 3), (27, .iload_n 3, 0, 0, 0, 0), (28, .iaload, 0, 0, 0, 0), (29, .goto 4, 0, 0, 0, 0), (32, .iconst 0, 0, 0, 0, 0), (33, .iadd, 0, 0, 0, 0), (34, .istore_n 2, 0, 0, 0, 0), (35, .iinc 3 1, 0, 0, 0, 0), (38, .goto (-34), 0, 0, 0, 0), (41, .iload_n 2, 0, 0, 0, 0), (42, .ireturn, 0, 0, 0, 0)]
def e_X5_allWrits : List Ent := [(0, .iconst 0, 0, 0, 0, 0), (1, .istore_n 1, 0, 0, 0, 0), (2, .iconst 0, 0, 0, 0, 0), (3, .istore_n 2, 0, 0, 0, 0), (4, .iload_n 2, 0, 0, 0, 0), (5, .aload_n 0, 0, 0, 0, 0), (6, .getfield 36, 34, 6, 8, 0), (9, .if_icmp .ge 27, 0, 0, 0, 0), (12, .iload_n 1, 0, 0, 0, 0), (13, .aload_n 0, 0, 0, 0, 0), (14, .getfield 27, 40, 6, 5, 3), (17, .iload_n 2, 0, 0, 0, 0), (18, .iaload, 0, 0, 0, 0), (19, .iconst (-1), 0, 0, 0, 0), (20, .if_icmp .ne 7, 0, 0, 0, 0), (23, .iconst 0, 0, 0, 0, 0), (24, .goto 4, 0, 0, 0, 0), (27, .iconst 1, 0, 0, 0, 0), (28, .iadd, 0, 0, 0, 0), (29, .istore_n 1, 0, 0, 0, 0), (30, .iinc 2 1, 0, 0, 0, 0), (33, .goto (-29), 0, 0, 0, 0), (36, .iload_n 1, 0, 0, 0, 0), (37, .ireturn, 0, 0, 0, 0)]
def e_X5_allWax : List Ent := [(0, .iconst 0, 0, 0, 0, 0), (1, .istore_n 1, 0, 0, 0, 0), (2, .iconst 0, 0, 0, 0, 0), (3, .istore_n 2, 0, 0, 0, 0), (4, .iload_n 2, 0, 0, 0, 0), (5, .aload_n 0, 0, 0, 0, 0), (6, .getfield 36, 34, 6, 8, 0), (9, .if_icmp .ge 18, 0, 0, 0, 0), (12, .iload_n 1, 0, 0, 0, 0), (13, .aload_n 0, 0, 0, 0, 0), (14, .getfield 15, 36, 6, 1, 3), (17, .iload_n 2, 0, 0, 0, 0), (18, .iaload, 0, 0, 0, 0), (19, .iadd, 0, 0, 0, 0), (20, .istore_n 1, 0, 0, 0, 0), (21, .iinc 2 1, 0, 0, 0, 0), (24, .goto (-20), 0, 0, 0, 0), (27, .iload_n 1, 0, 0, 0, 0), (28, .ireturn, 0, 0, 0, 0)]
def e_X5_allDebts : List Ent := [(0, .iconst 0, 0, 0, 0, 0), (1, .istore_n 1, 0, 0, 0, 0), (2, .iconst 0, 0, 0, 0, 0), (3, .istore_n 2, 0, 0, 0, 0), (4, .iload_n 2, 0, 0, 0, 0), (5, .aload_n 0, 0, 0, 0, 0), (6, .getfield 36, 34, 6, 8, 0), (9, .if_icmp .ge 18, 0, 0, 0, 0), (12, .iload_n 1, 0, 0, 0, 0), (13, .aload_n 0, 0, 0, 0, 0), (14, .getfield 24, 39, 6, 4, 3), (17, .iload_n 2, 0, 0, 0, 0), (18, .iaload, 0, 0, 0, 0), (19, .iadd, 0, 0, 0, 0), (20, .istore_n 1, 0, 0, 0, 0), (21, .iinc 2 1, 0, 0, 0, 0), (24, .goto (-20), 0, 0, 0, 0), (27, .iload_n 1, 0, 0, 0, 0), (28, .ireturn, 0, 0, 0, 0)]
def e_X5_stubsAheadOf : List Ent := [(0, .iconst 0, 0, 0, 0, 0), (1, .istore_n 2, 0, 0, 0, 0), (2, .iconst 0, 0, 0, 0, 0), (3, .istore_n 3, 0, 0, 0, 0), (4, .iload_n 3, 0, 0, 0, 0), (5, .aload_n 0, 0, 0, 0, 0), (6, .getfield 36, 34, 6, 8, 0), (9, .if_icmp .ge 26, 0, 0, 0, 0), (12, .iload_n 2, 0, 0, 0, 0), (13, .aload_n 0, 0, 0, 0, 0), (14, .iload_n 3, 0, 0, 0, 0), (15, .iload_n 1, 0, 0, 0, 0), (16, .invokevirtual 68, 39, 53, 0, 0), (19, .ifCond .eq 7, 0, 0, 0, 0), (22, .iconst 1, 0, 0, 0, 0), (23, .goto 4, 0, 0, 0, 0), (26, .iconst 0, 0, 0, 0, 0), (27, .iadd, 0, 0, 0, 0), (28, .istore_n 2, 0, 0, 0, 0), (29, .iinc 3 1, 0, 0, 0, 0), (32, .goto (-28), 0, 0, 0, 0), (35, .iload_n 2, 0, 0, 0, 0), (36, .ireturn, 0, 0, 0, 0)]
def e_X5_isAhead : List Ent := [(0, .aload_n 0, 0, 0, 0, 0), (1, .getfield 15, 36, 6, 1, 3), (4, .iload_n 1, 0, 0, 0, 0), (5, .iaload, 0, 0, 0, 0), (6, .aload_n 0, 0, 0, 0, 0), (7, .getfield 18, 37, 6, 2, 3), (10, .iload_n 1, 0, 0, 0, 0), (11, .iaload, 0, 0, 0, 0), (12, .imul, 0, 0, 0, 0), (13, .istore_n 3, 0, 0, 0, 0), (14, .aload_n 0, 0, 0, 0, 0), (15, .getfield 15, 36, 6, 1, 3), (18, .iload_n 2, 0, 0, 0, 0), (19, .iaload, 0, 0, 0, 0), (20, .aload_n 0, 0, 0, 0, 0), (21, .getfield 18, 37, 6, 2, 3), (24, .iload_n 2, 0, 0, 0, 0), (25, .iaload, 0, 0, 0, 0), (26, .imul, 0, 0, 0, 0), (27, .istore 4, 0, 0, 0, 0), (29, .iload_n 3, 0, 0, 0, 0), (30, .iload 4, 0, 0, 0, 0), (32, .if_icmp .eq 15, 0, 0, 0, 0), (35, .iload_n 3, 0, 0, 0, 0), (36, .iload 4, 0, 0, 0, 0), (38, .if_icmp .le 7, 0, 0, 0, 0), (41, .iconst 1, 0, 0, 0, 0), (42, .goto 4, 0, 0, 0, 0), (45, .iconst 0, 0, 0, 0, 0), (46, .ireturn, 0, 0, 0, 0), (47, .aload_n 0, 0, 0, 0, 0), (48, .getfield 24, 39, 6, 4, 3), (51, .iload_n 1, 0, 0, 0, 0), (52, .iaload, 0, 0, 0, 0), (53, .aload_n 0, 0, 0, 0, 0), (54, .getfield 24, 39, 6, 4, 3), (57, .iload_n 2, 0, 0, 0, 0), (58, .iaload, 0, 0, 0, 0), (59, .if_icmp .eq 24, 0, 0, 0, 0), (62, .aload_n 0, 0, 0, 0, 0), (63, .getfield 24, 39, 6, 4, 3), (66, .iload_n 1, 0, 0, 0, 0), (67, .iaload, 0, 0, 0, 0), (68, .aload_n 0, 0, 0, 0, 0), (69, .getfield 24, 39, 6, 4, 3), (72, .iload_n 2, 0, 0, 0, 0), (73, .iaload, 0, 0, 0, 0), (74, .if_icmp .ge 7, 0, 0, 0, 0), (77, .iconst 1, 0, 0, 0, 0), (78, .goto 4, 0, 0, 0, 0), (81, .iconst 0, 0, 0, 0, 0), (82, .ireturn, 0, 0, 0, 0), (83, .iload_n 1, 0, 0, 0, 0), (84, .iload_n 2, 0, 0, 0, 0), (85, .if_icmp .ge 7, 0, 0, 0, 0), (88, .iconst 1, 0, 0, 0, 0), (89, .goto 4, 0, 0, 0, 0), (92, .iconst 0, 0, 0, 0, 0), (93, .ireturn, 0, 0, 0, 0)]
def e_X6_stub : List Ent := [(0, .aload_n 0, 0, 0, 0, 0), (1, .getfield 26, 43, 7, 3, 3), (4, .aload_n 0, 0, 0, 0, 0), (5, .getfield 10, 44, 7, 0, 3), (8, .invokevirtual 61, 40, 0, 0, 0), (11, .aload_n 0, 0, 0, 0, 0), (12, .aload_n 0, 0, 0, 0, 0), (13, .iload_n 1, 0, 0, 0, 0), (14, .iload_n 2, 0, 0, 0, 0), (15, .iload_n 3, 0, 0, 0, 0), (16, .invokevirtual 65, 41, 86, 0, 0), (19, .invokevirtual 69, 42, 85, 0, 0), (22, .ireturn, 0, 0, 0, 0)]
def e_X6_burn : List Ent := [(0, .aload_n 0, 0, 0, 0, 0), (1, .getfield 26, 43, 7, 3, 3), (4, .aload_n 0, 0, 0, 0, 0), (5, .getfield 10, 44, 7, 0, 3), (8, .invokevirtual 61, 40, 0, 0, 0), (11, .aload_n 0, 0, 0, 0, 0), (12, .aload_n 0, 0, 0, 0, 0), (13, .iload_n 1, 0, 0, 0, 0), (14, .iload_n 2, 0, 0, 0, 0), (15, .invokevirtual 73, 43, 89, 0, 0), (18, .invokevirtual 69, 42, 85, 0, 0), (21, .ireturn, 0, 0, 0, 0)]
def e_X6_owe : List Ent := [(0, .aload_n 0, 0, 0, 0, 0), (1, .getfield 26, 43, 7, 3, 3), (4, .aload_n 0, 0, 0, 0, 0), (5, .getfield 10, 44, 7, 0, 3), (8, .invokevirtual 61, 40, 0, 0, 0), (11, .aload_n 0, 0, 0, 0, 0), (12, .aload_n 0, 0, 0, 0, 0), (13, .iload_n 1, 0, 0, 0, 0), (14, .iload_n 2, 0, 0, 0, 0), (15, .iload_n 3, 0, 0, 0, 0), (16, .invokevirtual 77, 44, 90, 0, 0), (19, .invokevirtual 69, 42, 85, 0, 0), (22, .ireturn, 0, 0, 0, 0)]
def e_X6_writ : List Ent := [(0, .aload_n 0, 0, 0, 0, 0), (1, .getfield 26, 43, 7, 3, 3), (4, .aload_n 0, 0, 0, 0, 0), (5, .getfield 10, 44, 7, 0, 3), (8, .invokevirtual 61, 40, 0, 0, 0), (11, .aload_n 0, 0, 0, 0, 0), (12, .aload_n 0, 0, 0, 0, 0), (13, .iload_n 1, 0, 0, 0, 0), (14, .iload_n 2, 0, 0, 0, 0), (15, .iload_n 3, 0, 0, 0, 0), (16, .invokevirtual 80, 45, 91, 0, 0), (19, .invokevirtual 69, 42, 85, 0, 0), (22, .ireturn, 0, 0, 0, 0)]
def e_X6_stubOf : List Ent := [(0, .aload_n 0, 0, 0, 0, 0), (1, .iload_n 1, 0, 0, 0, 0), (2, .invokevirtual 83, 46, 100, 0, 0), (5, .ifCond .ne 7, 0, 0, 0, 0), (8, .sipush (-1011), 0, 0, 0, 0), (11, .ireturn, 0, 0, 0, 0), (12, .aload_n 0, 0, 0, 0, 0), (13, .getfield 10, 44, 7, 0, 3), (16, .getfield 87, 45, 5, 0, 3), (19, .astore_n 3, 0, 0, 0, 0), (20, .iload_n 2, 0, 0, 0, 0), (21, .tableswitch 109 0 7 #[47, 54, 61, 68, 78, 85, 92, 102], 0, 0, 0, 0), (68, .aload_n 3, 0, 0, 0, 0), (69, .getfield 91, 46, 6, 0, 3), (72, .iload_n 1, 0, 0, 0, 0), (73, .iaload, 0, 0, 0, 0), (74, .ireturn, 0, 0, 0, 0), (75, .aload_n 3, 0, 0, 0, 0), (76, .getfield 97, 47, 6, 1, 3), (79, .iload_n 1, 0, 0, 0, 0), (80, .iaload, 0, 0, 0, 0), (81, .ireturn, 0, 0, 0, 0), (82, .aload_n 3, 0, 0, 0, 0), (83, .getfield 100, 48, 6, 2, 3), (86, .iload_n 1, 0, 0, 0, 0), (87, .iaload, 0, 0, 0, 0), (88, .ireturn, 0, 0, 0, 0), (89, .aload_n 3, 0, 0, 0, 0), (90, .getfield 103, 49, 6, 3, 3), (93, .iload_n 1, 0, 0, 0, 0), (94, .iaload, 0, 0, 0, 0), (95, .invokestatic 106, 47, 101, 1, 0), (98, .ireturn, 0, 0, 0, 0), (99, .aload_n 3, 0, 0, 0, 0), (100, .getfield 109, 50, 6, 4, 3), (103, .iload_n 1, 0, 0, 0, 0), (104, .iaload, 0, 0, 0, 0), (105, .ireturn, 0, 0, 0, 0), (106, .aload_n 3, 0, 0, 0, 0), (107, .getfield 112, 51, 6, 6, 3), (110, .iload_n 1, 0, 0, 0, 0), (111, .iaload, 0, 0, 0, 0), (112, .ireturn, 0, 0, 0, 0), (113, .aload_n 3, 0, 0, 0, 0), (114, .getfield 115, 52, 6, 5, 3), (117, .iload_n 1, 0, 0, 0, 0), (118, .iaload, 0, 0, 0, 0), (119, .invokestatic 106, 47, 101, 1, 0), (122, .ireturn, 0, 0, 0, 0), (123, .aload_n 3, 0, 0, 0, 0), (124, .getfield 118, 53, 6, 7, 3), (127, .iload_n 1, 0, 0, 0, 0), (128, .iaload, 0, 0, 0, 0), (129, .ireturn, 0, 0, 0, 0), (130, .sipush (-1012), 0, 0, 0, 0), (133, .ireturn, 0, 0, 0, 0)]
def e_X6_pool : List Ent := [(0, .aload_n 0, 0, 0, 0, 0), (1, .getfield 26, 43, 7, 3, 3), (4, .aload_n 0, 0, 0, 0, 0), (5, .getfield 10, 44, 7, 0, 3), (8, .invokevirtual 61, 40, 0, 0, 0), (11, .aload_n 0, 0, 0, 0, 0), (12, .aload_n 0, 0, 0, 0, 0), (13, .iload_n 1, 0, 0, 0, 0), (14, .iload_n 2, 0, 0, 0, 0), (15, .invokevirtual 121, 48, 92, 0, 0), (18, .invokevirtual 69, 42, 85, 0, 0), (21, .ireturn, 0, 0, 0, 0)]
def e_X6_share : List Ent := [(0, .aload_n 0, 0, 0, 0, 0), (1, .getfield 26, 43, 7, 3, 3), (4, .aload_n 0, 0, 0, 0, 0), (5, .getfield 10, 44, 7, 0, 3), (8, .invokevirtual 61, 40, 0, 0, 0), (11, .aload_n 0, 0, 0, 0, 0), (12, .aload_n 0, 0, 0, 0, 0), (13, .invokevirtual 124, 49, 93, 0, 0), (16, .invokevirtual 69, 42, 85, 0, 0), (19, .ireturn, 0, 0, 0, 0)]
def e_X6_part : List Ent := [(0, .iload_n 1, 0, 0, 0, 0), (1, .invokestatic 128, 50, 99, 1, 0), (4, .ifCond .ne 7, 0, 0, 0, 0), (7, .sipush (-1011), 0, 0, 0, 0), (10, .ireturn, 0, 0, 0, 0), (11, .aload_n 0, 0, 0, 0, 0), (12, .getfield 47, 54, 7, 6, 3), (15, .aload_n 0, 0, 0, 0, 0), (16, .getfield 10, 44, 7, 0, 3), (19, .invokevirtual 131, 51, 15, 0, 0), (22, .aload_n 0, 0, 0, 0, 0), (23, .getfield 47, 54, 7, 6, 3), (26, .getfield 134, 55, 4, 0, 3), (29, .iload_n 1, 0, 0, 0, 0), (30, .iaload, 0, 0, 0, 0), (31, .ireturn, 0, 0, 0, 0)]
def e_X6_partAgain : List Ent := [(0, .iload_n 1, 0, 0, 0, 0), (1, .invokestatic 128, 50, 99, 1, 0), (4, .ifCond .ne 7, 0, 0, 0, 0), (7, .sipush (-1011), 0, 0, 0, 0), (10, .ireturn, 0, 0, 0, 0), (11, .aload_n 0, 0, 0, 0, 0), (12, .getfield 47, 54, 7, 6, 3), (15, .aload_n 0, 0, 0, 0, 0), (16, .getfield 10, 44, 7, 0, 3), (19, .invokevirtual 137, 52, 17, 0, 0), (22, .aload_n 0, 0, 0, 0, 0), (23, .getfield 47, 54, 7, 6, 3), (26, .getfield 140, 56, 4, 1, 3), (29, .iload_n 1, 0, 0, 0, 0), (30, .iaload, 0, 0, 0, 0), (31, .ireturn, 0, 0, 0, 0)]
def e_X6_mould : List Ent := [(0, .aload_n 0, 0, 0, 0, 0), (1, .getfield 26, 43, 7, 3, 3), (4, .aload_n 0, 0, 0, 0, 0), (5, .getfield 10, 44, 7, 0, 3), (8, .invokevirtual 61, 40, 0, 0, 0), (11, .aload_n 0, 0, 0, 0, 0), (12, .aload_n 0, 0, 0, 0, 0), (13, .iload_n 1, 0, 0, 0, 0), (14, .iload_n 2, 0, 0, 0, 0), (15, .iload_n 3, 0, 0, 0, 0), (16, .invokevirtual 143, 53, 87, 0, 0), (19, .invokevirtual 69, 42, 85, 0, 0), (22, .ireturn, 0, 0, 0, 0)]
def e_X6_heir : List Ent := [(0, .aload_n 0, 0, 0, 0, 0), (1, .getfield 26, 43, 7, 3, 3), (4, .aload_n 0, 0, 0, 0, 0), (5, .getfield 10, 44, 7, 0, 3), (8, .invokevirtual 61, 40, 0, 0, 0), (11, .aload_n 0, 0, 0, 0, 0), (12, .aload_n 0, 0, 0, 0, 0), (13, .iload_n 1, 0, 0, 0, 0), (14, .iload_n 2, 0, 0, 0, 0), (15, .invokevirtual 146, 54, 94, 0, 0), (18, .invokevirtual 69, 42, 85, 0, 0), (21, .ireturn, 0, 0, 0, 0)]
def e_X6_end : List Ent := [(0, .aload_n 0, 0, 0, 0, 0), (1, .getfield 26, 43, 7, 3, 3), (4, .aload_n 0, 0, 0, 0, 0), (5, .getfield 10, 44, 7, 0, 3), (8, .invokevirtual 61, 40, 0, 0, 0), (11, .aload_n 0, 0, 0, 0, 0), (12, .aload_n 0, 0, 0, 0, 0), (13, .iload_n 1, 0, 0, 0, 0), (14, .invokevirtual 149, 55, 95, 0, 0), (17, .invokevirtual 69, 42, 85, 0, 0), (20, .ireturn, 0, 0, 0, 0)]
def e_X6_pass : List Ent := [(0, .aload_n 0, 0, 0, 0, 0), (1, .getfield 26, 43, 7, 3, 3), (4, .aload_n 0, 0, 0, 0, 0), (5, .getfield 10, 44, 7, 0, 3), (8, .invokevirtual 61, 40, 0, 0, 0), (11, .aload_n 0, 0, 0, 0, 0), (12, .aload_n 0, 0, 0, 0, 0), (13, .iload_n 1, 0, 0, 0, 0), (14, .invokevirtual 152, 56, 96, 0, 0), (17, .invokevirtual 69, 42, 85, 0, 0), (20, .ireturn, 0, 0, 0, 0)]
def e_X6_houseOf : List Ent := [(0, .iload_n 1, 0, 0, 0, 0), (1, .invokestatic 128, 50, 99, 1, 0), (4, .ifCond .ne 7, 0, 0, 0, 0), (7, .sipush (-1011), 0, 0, 0, 0), (10, .ireturn, 0, 0, 0, 0), (11, .iload_n 2, 0, 0, 0, 0), (12, .tableswitch 141 0 7 #[48, 66, 76, 86, 96, 105, 117, 129], 0, 0, 0, 0), (60, .aload_n 0, 0, 0, 0, 0), (61, .getfield 10, 44, 7, 0, 3), (64, .getfield 155, 57, 5, 1, 3), (67, .iload_n 1, 0, 0, 0, 0), (68, .baload, 0, 0, 0, 0), (69, .ifCond .eq 7, 0, 0, 0, 0), (72, .iconst 1, 0, 0, 0, 0), (73, .goto 4, 0, 0, 0, 0), (76, .iconst 0, 0, 0, 0, 0), (77, .ireturn, 0, 0, 0, 0), (78, .aload_n 0, 0, 0, 0, 0), (79, .getfield 10, 44, 7, 0, 3), (82, .getfield 159, 58, 5, 2, 3), (85, .iload_n 1, 0, 0, 0, 0), (86, .iaload, 0, 0, 0, 0), (87, .ireturn, 0, 0, 0, 0), (88, .aload_n 0, 0, 0, 0, 0), (89, .getfield 10, 44, 7, 0, 3), (92, .getfield 162, 59, 5, 3, 3), (95, .iload_n 1, 0, 0, 0, 0), (96, .iaload, 0, 0, 0, 0), (97, .ireturn, 0, 0, 0, 0), (98, .aload_n 0, 0, 0, 0, 0), (99, .getfield 10, 44, 7, 0, 3), (102, .getfield 165, 60, 5, 4, 3), (105, .iload_n 1, 0, 0, 0, 0), (106, .iaload, 0, 0, 0, 0), (107, .ireturn, 0, 0, 0, 0), (108, .aload_n 0, 0, 0, 0, 0), (109, .getfield 10, 44, 7, 0, 3), (112, .iload_n 1, 0, 0, 0, 0), (113, .invokevirtual 168, 57, 21, 0, 0), (116, .ireturn, 0, 0, 0, 0), (117, .aload_n 0, 0, 0, 0, 0), (118, .getfield 10, 44, 7, 0, 3), (121, .getfield 87, 45, 5, 0, 3), (124, .iload_n 1, 0, 0, 0, 0), (125, .invokevirtual 171, 58, 42, 0, 0), (128, .ireturn, 0, 0, 0, 0), (129, .aload_n 0, 0, 0, 0, 0), (130, .getfield 10, 44, 7, 0, 3), (133, .getfield 87, 45, 5, 0, 3), (136, .iload_n 1, 0, 0, 0, 0), (137, .invokevirtual 174, 59, 46, 0, 0), (140, .ireturn, 0, 0, 0, 0), (141, .aload_n 0, 0, 0, 0, 0), (142, .getfield 10, 44, 7, 0, 3), (145, .getfield 87, 45, 5, 0, 3), (148, .iload_n 1, 0, 0, 0, 0), (149, .invokevirtual 177, 60, 48, 0, 0), (152, .ireturn, 0, 0, 0, 0), (153, .sipush (-1012), 0, 0, 0, 0), (156, .ireturn, 0, 0, 0, 0)]
def e_X6_inherits : List Ent := [(0, .iload_n 1, 0, 0, 0, 0), (1, .invokestatic 128, 50, 99, 1, 0), (4, .ifCond .ne 7, 0, 0, 0, 0), (7, .sipush (-1011), 0, 0, 0, 0), (10, .ireturn, 0, 0, 0, 0), (11, .aload_n 0, 0, 0, 0, 0), (12, .getfield 10, 44, 7, 0, 3), (15, .iload_n 1, 0, 0, 0, 0), (16, .invokevirtual 180, 61, 26, 0, 0), (19, .invokestatic 106, 47, 101, 1, 0), (22, .ireturn, 0, 0, 0, 0)]
def e_X6_wouldMelt : List Ent := [(0, .iload_n 1, 0, 0, 0, 0), (1, .invokestatic 128, 50, 99, 1, 0), (4, .ifCond .ne 7, 0, 0, 0, 0), (7, .sipush (-1011), 0, 0, 0, 0), (10, .ireturn, 0, 0, 0, 0), (11, .aload_n 0, 0, 0, 0, 0), (12, .getfield 10, 44, 7, 0, 3), (15, .iload_n 1, 0, 0, 0, 0), (16, .invokevirtual 180, 61, 26, 0, 0), (19, .istore_n 2, 0, 0, 0, 0), (20, .iload_n 2, 0, 0, 0, 0), (21, .iconst (-1), 0, 0, 0, 0), (22, .if_icmp .ne 9, 0, 0, 0, 0), (25, .sipush (-1015), 0, 0, 0, 0), (28, .goto 15, 0, 0, 0, 0), (31, .aload_n 0, 0, 0, 0, 0), (32, .getfield 10, 44, 7, 0, 3), (35, .getfield 87, 45, 5, 0, 3), (38, .iload_n 1, 0, 0, 0, 0), (39, .iload_n 2, 0, 0, 0, 0), (40, .invokevirtual 183, 62, 45, 0, 0), (43, .ireturn, 0, 0, 0, 0)]
def e_X6_weight : List Ent := [(0, .iload_n 1, 0, 0, 0, 0), (1, .invokestatic 128, 50, 99, 1, 0), (4, .ifCond .eq 17, 0, 0, 0, 0), (7, .aload_n 0, 0, 0, 0, 0), (8, .getfield 10, 44, 7, 0, 3), (11, .getfield 87, 45, 5, 0, 3), (14, .iload_n 1, 0, 0, 0, 0), (15, .invokevirtual 186, 63, 43, 0, 0), (18, .goto 6, 0, 0, 0, 0), (21, .sipush (-1011), 0, 0, 0, 0), (24, .ireturn, 0, 0, 0, 0)]
def e_X6_weightAgain : List Ent := [(0, .iload_n 1, 0, 0, 0, 0), (1, .invokestatic 128, 50, 99, 1, 0), (4, .ifCond .eq 17, 0, 0, 0, 0), (7, .aload_n 0, 0, 0, 0, 0), (8, .getfield 10, 44, 7, 0, 3), (11, .getfield 87, 45, 5, 0, 3), (14, .iload_n 1, 0, 0, 0, 0), (15, .invokevirtual 189, 64, 44, 0, 0), (18, .goto 6, 0, 0, 0, 0), (21, .sipush (-1011), 0, 0, 0, 0), (24, .ireturn, 0, 0, 0, 0)]
def e_X6_ranked : List Ent := [(0, .iconst 0, 0, 0, 0, 0), (1, .istore_n 2, 0, 0, 0, 0), (2, .iload_n 2, 0, 0, 0, 0), (3, .bipush 6, 0, 0, 0, 0), (5, .if_icmp .ge 23, 0, 0, 0, 0), (8, .aload_n 0, 0, 0, 0, 0), (9, .getfield 10, 44, 7, 0, 3), (12, .iload_n 2, 0, 0, 0, 0), (13, .invokevirtual 192, 65, 31, 0, 0), (16, .iload_n 1, 0, 0, 0, 0), (17, .if_icmp .ne 5, 0, 0, 0, 0), (20, .iload_n 2, 0, 0, 0, 0), (21, .ireturn, 0, 0, 0, 0), (22, .iinc 2 1, 0, 0, 0, 0), (25, .goto (-23), 0, 0, 0, 0), (28, .sipush (-1011), 0, 0, 0, 0), (31, .ireturn, 0, 0, 0, 0)]
def e_X6_brightest : List Ent := [(0, .iconst 0, 0, 0, 0, 0), (1, .istore_n 2, 0, 0, 0, 0), (2, .iload_n 2, 0, 0, 0, 0), (3, .aload_n 0, 0, 0, 0, 0), (4, .getfield 10, 44, 7, 0, 3), (7, .getfield 87, 45, 5, 0, 3), (10, .getfield 195, 61, 6, 8, 0), (13, .if_icmp .ge 26, 0, 0, 0, 0), (16, .aload_n 0, 0, 0, 0, 0), (17, .getfield 10, 44, 7, 0, 3), (20, .getfield 87, 45, 5, 0, 3), (23, .iload_n 2, 0, 0, 0, 0), (24, .invokevirtual 199, 66, 52, 0, 0), (27, .iload_n 1, 0, 0, 0, 0), (28, .if_icmp .ne 5, 0, 0, 0, 0), (31, .iload_n 2, 0, 0, 0, 0), (32, .ireturn, 0, 0, 0, 0), (33, .iinc 2 1, 0, 0, 0, 0), (36, .goto (-34), 0, 0, 0, 0), (39, .sipush (-1011), 0, 0, 0, 0), (42, .ireturn, 0, 0, 0, 0)]
def e_L_cell : List Ent := [(0, .aload_n 0, 0, 0, 0, 0), (1, .arraylength, 0, 0, 0, 0), (2, .ifCond .ne 13, 0, 0, 0, 0), (5, .bipush 71, 0, 0, 0, 0), (7, .iload_n 1, 0, 0, 0, 0), (8, .imul, 0, 0, 0, 0), (9, .bipush 13, 0, 0, 0, 0), (11, .iadd, 0, 0, 0, 0), (12, .goto 19, 0, 0, 0, 0), (15, .aload_n 0, 0, 0, 0, 0), (16, .iload_n 1, 0, 0, 0, 0), (17, .aload_n 0, 0, 0, 0, 0), (18, .arraylength, 0, 0, 0, 0), (19, .irem, 0, 0, 0, 0), (20, .iaload, 0, 0, 0, 0), (21, .iconst 5, 0, 0, 0, 0), (22, .iload_n 1, 0, 0, 0, 0), (23, .aload_n 0, 0, 0, 0, 0), (24, .arraylength, 0, 0, 0, 0), (25, .idiv, 0, 0, 0, 0), (26, .imul, 0, 0, 0, 0), (27, .bipush 17, 0, 0, 0, 0), (29, .irem, 0, 0, 0, 0), (30, .iushr, 0, 0, 0, 0), (31, .ireturn, 0, 0, 0, 0)]
def e_X6_run : List Ent := [(0, .aload_n 0, 0, 0, 0, 0), (1, .getfield 40, 62, 7, 5, 3), (4, .aload_n 0, 0, 0, 0, 0), (5, .getfield 54, 63, 7, 7, 3), (8, .invokevirtual 213, 67, 5, 0, 0), (11, .istore_n 1, 0, 0, 0, 0), (12, .aload_n 0, 0, 0, 0, 0), (13, .getfield 54, 63, 7, 7, 3), (16, .iconst 0, 0, 0, 0, 0), (17, .invokevirtual 217, 68, 192, 0, 0), (20, .iload_n 1, 0, 0, 0, 0), (21, .iconst (-1), 0, 0, 0, 0), (22, .if_icmp .eq 9, 0, 0, 0, 0), (25, .sipush (-2000), 0, 0, 0, 0), (28, .iload_n 1, 0, 0, 0, 0), (29, .isub, 0, 0, 0, 0), (30, .ireturn, 0, 0, 0, 0), (31, .aload_n 0, 0, 0, 0, 0), (32, .getfield 26, 43, 7, 3, 3), (35, .aload_n 0, 0, 0, 0, 0), (36, .getfield 10, 44, 7, 0, 3), (39, .invokevirtual 61, 40, 0, 0, 0), (42, .iconst 0, 0, 0, 0, 0), (43, .istore_n 2, 0, 0, 0, 0), (44, .iload_n 2, 0, 0, 0, 0), (45, .aload_n 0, 0, 0, 0, 0), (46, .getfield 40, 62, 7, 5, 3), (49, .getfield 221, 64, 2, 4, 0), (52, .if_icmp .ge 37, 0, 0, 0, 0), (55, .aload_n 0, 0, 0, 0, 0), (56, .iload_n 2, 0, 0, 0, 0), (57, .invokevirtual 222, 69, 97, 0, 0), (60, .istore_n 3, 0, 0, 0, 0), (61, .iload_n 3, 0, 0, 0, 0), (62, .ifCond .ge 21, 0, 0, 0, 0), (65, .aload_n 0, 0, 0, 0, 0), (66, .getfield 26, 43, 7, 3, 3), (69, .aload_n 0, 0, 0, 0, 0), (70, .getfield 10, 44, 7, 0, 3), (73, .invokevirtual 225, 70, 1, 0, 0), (76, .aload_n 0, 0, 0, 0, 0), (77, .iload_n 2, 0, 0, 0, 0), (78, .iload_n 3, 0, 0, 0, 0), (79, .invokevirtual 228, 71, 103, 0, 0), (82, .ireturn, 0, 0, 0, 0), (83, .iinc 2 1, 0, 0, 0, 0), (86, .goto (-42), 0, 0, 0, 0), (89, .aload_n 0, 0, 0, 0, 0), (90, .aload_n 0, 0, 0, 0, 0), (91, .getfield 40, 62, 7, 5, 3), (94, .getfield 221, 64, 2, 4, 0), (97, .invokevirtual 69, 42, 85, 0, 0), (100, .ireturn, 0, 0, 0, 0)]
def e_X6_tell : List Ent := [(0, .aload_n 0, 0, 0, 0, 0), (1, .iload_n 1, 0, 0, 0, 0), (2, .invokevirtual 83, 46, 100, 0, 0), (5, .ifCond .ne 7, 0, 0, 0, 0), (8, .sipush (-1011), 0, 0, 0, 0), (11, .ireturn, 0, 0, 0, 0), (12, .aload_n 0, 0, 0, 0, 0), (13, .getfield 10, 44, 7, 0, 3), (16, .getfield 87, 45, 5, 0, 3), (19, .astore_n 2, 0, 0, 0, 0), (20, .aload_n 0, 0, 0, 0, 0), (21, .getfield 58, 65, 7, 8, 3), (24, .iconst 0, 0, 0, 0, 0), (25, .invokevirtual 217, 68, 192, 0, 0), (28, .aload_n 0, 0, 0, 0, 0), (29, .getfield 58, 65, 7, 8, 3), (32, .iload_n 1, 0, 0, 0, 0), (33, .invokevirtual 231, 72, 190, 0, 0), (36, .bipush 64, 0, 0, 0, 0), (38, .invokevirtual 209, 73, 189, 0, 0), (41, .aload_n 2, 0, 0, 0, 0), (42, .getfield 91, 46, 6, 0, 3), (45, .iload_n 1, 0, 0, 0, 0), (46, .iaload, 0, 0, 0, 0), (47, .invokevirtual 231, 72, 190, 0, 0), (50, .pop, 0, 0, 0, 0), (51, .aload_n 0, 0, 0, 0, 0), (52, .getfield 58, 65, 7, 8, 3), (55, .bipush 58, 0, 0, 0, 0), (57, .invokevirtual 209, 73, 189, 0, 0), (60, .aload_n 2, 0, 0, 0, 0), (61, .getfield 97, 47, 6, 1, 3), (64, .iload_n 1, 0, 0, 0, 0), (65, .iaload, 0, 0, 0, 0), (66, .invokevirtual 231, 72, 190, 0, 0), (69, .pop, 0, 0, 0, 0), (70, .aload_n 0, 0, 0, 0, 0), (71, .getfield 58, 65, 7, 8, 3), (74, .bipush 47, 0, 0, 0, 0), (76, .invokevirtual 209, 73, 189, 0, 0), (79, .aload_n 2, 0, 0, 0, 0), (80, .getfield 100, 48, 6, 2, 3), (83, .iload_n 1, 0, 0, 0, 0), (84, .iaload, 0, 0, 0, 0), (85, .invokevirtual 231, 72, 190, 0, 0), (88, .pop, 0, 0, 0, 0), (89, .aload_n 2, 0, 0, 0, 0), (90, .getfield 103, 49, 6, 3, 3), (93, .iload_n 1, 0, 0, 0, 0), (94, .iaload, 0, 0, 0, 0), (95, .iconst (-1), 0, 0, 0, 0), (96, .if_icmp .eq 41, 0, 0, 0, 0), (99, .aload_n 0, 0, 0, 0, 0), (100, .getfield 58, 65, 7, 8, 3), (103, .bipush 62, 0, 0, 0, 0), (105, .invokevirtual 209, 73, 189, 0, 0), (108, .aload_n 2, 0, 0, 0, 0), (109, .getfield 103, 49, 6, 3, 3), (112, .iload_n 1, 0, 0, 0, 0), (113, .iaload, 0, 0, 0, 0), (114, .invokevirtual 231, 72, 190, 0, 0), (117, .pop, 0, 0, 0, 0), (118, .aload_n 0, 0, 0, 0, 0), (119, .getfield 58, 65, 7, 8, 3), (122, .bipush 61, 0, 0, 0, 0), (124, .invokevirtual 209, 73, 189, 0, 0), (127, .aload_n 2, 0, 0, 0, 0), (128, .getfield 109, 50, 6, 4, 3), (131, .iload_n 1, 0, 0, 0, 0), (132, .iaload, 0, 0, 0, 0), (133, .invokevirtual 231, 72, 190, 0, 0), (136, .pop, 0, 0, 0, 0), (137, .aload_n 2, 0, 0, 0, 0), (138, .getfield 115, 52, 6, 5, 3), (141, .iload_n 1, 0, 0, 0, 0), (142, .iaload, 0, 0, 0, 0), (143, .iconst (-1), 0, 0, 0, 0), (144, .if_icmp .eq 22, 0, 0, 0, 0), (147, .aload_n 0, 0, 0, 0, 0), (148, .getfield 58, 65, 7, 8, 3), (151, .bipush 33, 0, 0, 0, 0), (153, .invokevirtual 209, 73, 189, 0, 0), (156, .aload_n 2, 0, 0, 0, 0), (157, .getfield 112, 51, 6, 6, 3), (160, .iload_n 1, 0, 0, 0, 0), (161, .iaload, 0, 0, 0, 0), (162, .invokevirtual 231, 72, 190, 0, 0), (165, .pop, 0, 0, 0, 0), (166, .aload_n 0, 0, 0, 0, 0), (167, .getfield 58, 65, 7, 8, 3), (170, .invokevirtual 206, 74, 193, 0, 0), (173, .ireturn, 0, 0, 0, 0)]
def e_X6_tellHouses : List Ent := [(0, .aload_n 0, 0, 0, 0, 0), (1, .getfield 58, 65, 7, 8, 3), (4, .iconst 0, 0, 0, 0, 0), (5, .invokevirtual 217, 68, 192, 0, 0), (8, .iconst 0, 0, 0, 0, 0), (9, .istore_n 1, 0, 0, 0, 0), (10, .iload_n 1, 0, 0, 0, 0), (11, .bipush 6, 0, 0, 0, 0), (13, .if_icmp .ge 28, 0, 0, 0, 0), (16, .iload_n 1, 0, 0, 0, 0), (17, .ifCond .le 13, 0, 0, 0, 0), (20, .aload_n 0, 0, 0, 0, 0), (21, .getfield 58, 65, 7, 8, 3), (24, .bipush 32, 0, 0, 0, 0), (26, .invokevirtual 209, 73, 189, 0, 0), (29, .pop, 0, 0, 0, 0), (30, .aload_n 0, 0, 0, 0, 0), (31, .iload_n 1, 0, 0, 0, 0), (32, .invokevirtual 234, 75, 104, 0, 0), (35, .iinc 1 1, 0, 0, 0, 0), (38, .goto (-28), 0, 0, 0, 0), (41, .aload_n 0, 0, 0, 0, 0), (42, .getfield 58, 65, 7, 8, 3), (45, .invokevirtual 206, 74, 193, 0, 0), (48, .ireturn, 0, 0, 0, 0)]
def e_X6_character : List Ent := [(0, .iload_n 1, 0, 0, 0, 0), (1, .iconst 0, 0, 0, 0, 0), (2, .aload_n 0, 0, 0, 0, 0), (3, .getfield 58, 65, 7, 8, 3), (6, .invokevirtual 206, 74, 193, 0, 0), (9, .iconst 1, 0, 0, 0, 0), (10, .isub, 0, 0, 0, 0), (11, .invokestatic 202, 76, 98, 1, 0), (14, .ifCond .eq 14, 0, 0, 0, 0), (17, .aload_n 0, 0, 0, 0, 0), (18, .getfield 58, 65, 7, 8, 3), (21, .iload_n 1, 0, 0, 0, 0), (22, .invokevirtual 237, 77, 191, 0, 0), (25, .goto 6, 0, 0, 0, 0), (28, .sipush (-1011), 0, 0, 0, 0), (31, .ireturn, 0, 0, 0, 0)]
def e_X6_reason : List Ent := [(0, .iload_n 1, 0, 0, 0, 0), (1, .iconst 0, 0, 0, 0, 0), (2, .iconst 2, 0, 0, 0, 0), (3, .invokestatic 202, 76, 98, 1, 0), (6, .ifCond .ne 7, 0, 0, 0, 0), (9, .sipush (-1012), 0, 0, 0, 0), (12, .ireturn, 0, 0, 0, 0), (13, .iload_n 1, 0, 0, 0, 0), (14, .aload_n 0, 0, 0, 0, 0), (15, .getfield 33, 66, 7, 4, 3), (18, .getfield 241, 67, 3, 2, 0), (21, .if_icmp .lt 7, 0, 0, 0, 0), (24, .sipush (-1015), 0, 0, 0, 0), (27, .ireturn, 0, 0, 0, 0), (28, .iload_n 2, 0, 0, 0, 0), (29, .ifCond .eq 15, 0, 0, 0, 0), (32, .aload_n 0, 0, 0, 0, 0), (33, .getfield 33, 66, 7, 4, 3), (36, .getfield 242, 68, 3, 1, 3), (39, .iload_n 1, 0, 0, 0, 0), (40, .iaload, 0, 0, 0, 0), (41, .goto 12, 0, 0, 0, 0), (44, .aload_n 0, 0, 0, 0, 0), (45, .getfield 33, 66, 7, 4, 3), (48, .getfield 245, 69, 3, 0, 3), (51, .iload_n 1, 0, 0, 0, 0), (52, .iaload, 0, 0, 0, 0), (53, .ireturn, 0, 0, 0, 0)]
def e_X6_account : List Ent := [(0, .iload_n 1, 0, 0, 0, 0), (1, .tableswitch 195 0 13 #[71, 82, 90, 101, 112, 120, 128, 136, 144, 152, 160, 171, 179, 187], 0, 0, 0, 0), (72, .aload_n 0, 0, 0, 0, 0), (73, .getfield 10, 44, 7, 0, 3), (76, .getfield 87, 45, 5, 0, 3), (79, .getfield 195, 61, 6, 8, 0), (82, .ireturn, 0, 0, 0, 0), (83, .aload_n 0, 0, 0, 0, 0), (84, .getfield 10, 44, 7, 0, 3), (87, .invokevirtual 248, 78, 25, 0, 0), (90, .ireturn, 0, 0, 0, 0), (91, .aload_n 0, 0, 0, 0, 0), (92, .getfield 10, 44, 7, 0, 3), (95, .getfield 87, 45, 5, 0, 3), (98, .invokevirtual 251, 79, 49, 0, 0), (101, .ireturn, 0, 0, 0, 0), (102, .aload_n 0, 0, 0, 0, 0), (103, .getfield 10, 44, 7, 0, 3), (106, .getfield 87, 45, 5, 0, 3), (109, .invokevirtual 254, 80, 50, 0, 0), (112, .ireturn, 0, 0, 0, 0), (113, .aload_n 0, 0, 0, 0, 0), (114, .getfield 10, 44, 7, 0, 3), (117, .invokevirtual 257, 81, 23, 0, 0), (120, .ireturn, 0, 0, 0, 0), (121, .aload_n 0, 0, 0, 0, 0), (122, .getfield 10, 44, 7, 0, 3), (125, .getfield 260, 70, 5, 5, 0), (128, .ireturn, 0, 0, 0, 0), (129, .aload_n 0, 0, 0, 0, 0), (130, .getfield 10, 44, 7, 0, 3), (133, .getfield 263, 71, 5, 6, 0), (136, .ireturn, 0, 0, 0, 0), (137, .aload_n 0, 0, 0, 0, 0), (138, .getfield 10, 44, 7, 0, 3), (141, .getfield 266, 72, 5, 7, 0), (144, .ireturn, 0, 0, 0, 0), (145, .aload_n 0, 0, 0, 0, 0), (146, .getfield 10, 44, 7, 0, 3), (149, .getfield 269, 73, 5, 8, 0), (152, .ireturn, 0, 0, 0, 0), (153, .aload_n 0, 0, 0, 0, 0), (154, .getfield 10, 44, 7, 0, 3), (157, .getfield 272, 74, 5, 9, 0), (160, .ireturn, 0, 0, 0, 0), (161, .aload_n 0, 0, 0, 0, 0), (162, .getfield 10, 44, 7, 0, 3), (165, .getfield 87, 45, 5, 0, 3), (168, .invokevirtual 275, 82, 51, 0, 0), (171, .ireturn, 0, 0, 0, 0), (172, .aload_n 0, 0, 0, 0, 0), (173, .getfield 10, 44, 7, 0, 3), (176, .getfield 278, 75, 5, 10, 0), (179, .ireturn, 0, 0, 0, 0), (180, .aload_n 0, 0, 0, 0, 0), (181, .getfield 54, 63, 7, 7, 3), (184, .invokevirtual 206, 74, 193, 0, 0), (187, .ireturn, 0, 0, 0, 0), (188, .aload_n 0, 0, 0, 0, 0), (189, .getfield 26, 43, 7, 3, 3), (192, .getfield 281, 76, 1, 2, 0), (195, .ireturn, 0, 0, 0, 0), (196, .sipush (-1012), 0, 0, 0, 0), (199, .ireturn, 0, 0, 0, 0)]
def e_X6_isBalanced : List Ent := [(0, .aload_n 0, 0, 0, 0, 0), (1, .invokevirtual 282, 83, 105, 0, 0), (4, .ifCond .eq 21, 0, 0, 0, 0), (7, .aload_n 0, 0, 0, 0, 0), (8, .invokevirtual 286, 84, 106, 0, 0), (11, .ifCond .eq 14, 0, 0, 0, 0), (14, .aload_n 0, 0, 0, 0, 0), (15, .invokevirtual 289, 85, 107, 0, 0), (18, .ifCond .eq 7, 0, 0, 0, 0), (21, .iconst 1, 0, 0, 0, 0), (22, .goto 4, 0, 0, 0, 0), (25, .iconst 0, 0, 0, 0, 0), (26, .ireturn, 0, 0, 0, 0)]
def e_X6_undo : List Ent := [(0, .aload_n 0, 0, 0, 0, 0), (1, .getfield 26, 43, 7, 3, 3), (4, .aload_n 0, 0, 0, 0, 0), (5, .getfield 10, 44, 7, 0, 3), (8, .invokevirtual 292, 86, 3, 0, 0), (11, .ifCond .eq 13, 0, 0, 0, 0), (14, .aload_n 0, 0, 0, 0, 0), (15, .getfield 26, 43, 7, 3, 3), (18, .getfield 281, 76, 1, 2, 0), (21, .goto 6, 0, 0, 0, 0), (24, .sipush (-1015), 0, 0, 0, 0), (27, .ireturn, 0, 0, 0, 0)]
def e_X6_save : List Ent := [(0, .aload_n 0, 0, 0, 0, 0), (1, .getfield 16, 77, 7, 1, 3), (4, .aload_n 0, 0, 0, 0, 0), (5, .getfield 10, 44, 7, 0, 3), (8, .invokevirtual 296, 87, 19, 0, 0), (11, .aload_n 0, 0, 0, 0, 0), (12, .iconst 1, 0, 0, 0, 0), (13, .putfield 19, 78, 7, 2, 1), (16, .aload_n 0, 0, 0, 0, 0), (17, .getfield 10, 44, 7, 0, 3), (20, .getfield 87, 45, 5, 0, 3), (23, .getfield 195, 61, 6, 8, 0), (26, .ireturn, 0, 0, 0, 0)]
def e_X6_restore : List Ent := [(0, .aload_n 0, 0, 0, 0, 0), (1, .getfield 19, 78, 7, 2, 1), (4, .ifCond .ne 7, 0, 0, 0, 0), (7, .sipush (-1015), 0, 0, 0, 0), (10, .ireturn, 0, 0, 0, 0), (11, .aload_n 0, 0, 0, 0, 0), (12, .getfield 10, 44, 7, 0, 3), (15, .aload_n 0, 0, 0, 0, 0), (16, .getfield 16, 77, 7, 1, 3), (19, .invokevirtual 296, 87, 19, 0, 0), (22, .aload_n 0, 0, 0, 0, 0), (23, .getfield 26, 43, 7, 3, 3), (26, .invokevirtual 299, 88, 4, 0, 0), (29, .aload_n 0, 0, 0, 0, 0), (30, .getfield 10, 44, 7, 0, 3), (33, .getfield 87, 45, 5, 0, 3), (36, .getfield 195, 61, 6, 8, 0), (39, .ireturn, 0, 0, 0, 0)]
def e_X6_settle : List Ent := [(0, .iload_n 1, 0, 0, 0, 0), (1, .ifCond .lt 10, 0, 0, 0, 0), (4, .aload_n 0, 0, 0, 0, 0), (5, .getfield 26, 43, 7, 3, 3), (8, .invokevirtual 302, 89, 2, 0, 0), (11, .iload_n 1, 0, 0, 0, 0), (12, .ireturn, 0, 0, 0, 0)]
def e_X6_bringStub : List Ent := [(0, .iload_n 1, 0, 0, 0, 0), (1, .invokestatic 128, 50, 99, 1, 0), (4, .ifCond .ne 7, 0, 0, 0, 0), (7, .sipush (-1011), 0, 0, 0, 0), (10, .ireturn, 0, 0, 0, 0), (11, .iload_n 2, 0, 0, 0, 0), (12, .iconst 1, 0, 0, 0, 0), (13, .bipush 30, 0, 0, 0, 0), (15, .invokestatic 202, 76, 98, 1, 0), (18, .ifCond .eq 13, 0, 0, 0, 0), (21, .iload_n 3, 0, 0, 0, 0), (22, .iconst 1, 0, 0, 0, 0), (23, .bipush 9, 0, 0, 0, 0), (25, .invokestatic 202, 76, 98, 1, 0), (28, .ifCond .ne 7, 0, 0, 0, 0), (31, .sipush (-1012), 0, 0, 0, 0), (34, .ireturn, 0, 0, 0, 0), (35, .aload_n 0, 0, 0, 0, 0), (36, .getfield 10, 44, 7, 0, 3), (39, .getfield 155, 57, 5, 1, 3), (42, .iload_n 1, 0, 0, 0, 0), (43, .baload, 0, 0, 0, 0), (44, .ifCond .ne 10, 0, 0, 0, 0), (47, .aload_n 0, 0, 0, 0, 0), (48, .iconst 2, 0, 0, 0, 0), (49, .iload_n 1, 0, 0, 0, 0), (50, .invokevirtual 305, 90, 102, 0, 0), (53, .ireturn, 0, 0, 0, 0), (54, .aload_n 0, 0, 0, 0, 0), (55, .iload_n 1, 0, 0, 0, 0), (56, .iload_n 2, 0, 0, 0, 0), (57, .invokevirtual 308, 91, 88, 0, 0), (60, .ifCond .ne 7, 0, 0, 0, 0), (63, .sipush (-1014), 0, 0, 0, 0), (66, .ireturn, 0, 0, 0, 0), (67, .aload_n 0, 0, 0, 0, 0), (68, .getfield 10, 44, 7, 0, 3), (71, .dup, 0, 0, 0, 0), (72, .getfield 263, 71, 5, 6, 0), (75, .iload_n 2, 0, 0, 0, 0), (76, .iadd, 0, 0, 0, 0), (77, .putfield 263, 71, 5, 6, 0), (80, .aload_n 0, 0, 0, 0, 0), (81, .getfield 10, 44, 7, 0, 3), (84, .getfield 87, 45, 5, 0, 3), (87, .iload_n 1, 0, 0, 0, 0), (88, .iload_n 2, 0, 0, 0, 0), (89, .iload_n 3, 0, 0, 0, 0), (90, .invokevirtual 312, 92, 35, 0, 0), (93, .ireturn, 0, 0, 0, 0)]
def e_X6_mouldStub : List Ent := [(0, .iload_n 1, 0, 0, 0, 0), (1, .invokestatic 128, 50, 99, 1, 0), (4, .ifCond .ne 7, 0, 0, 0, 0), (7, .sipush (-1011), 0, 0, 0, 0), (10, .ireturn, 0, 0, 0, 0), (11, .iload_n 2, 0, 0, 0, 0), (12, .iconst 1, 0, 0, 0, 0), (13, .bipush 30, 0, 0, 0, 0), (15, .invokestatic 202, 76, 98, 1, 0), (18, .ifCond .eq 13, 0, 0, 0, 0), (21, .iload_n 3, 0, 0, 0, 0), (22, .iconst 1, 0, 0, 0, 0), (23, .bipush 9, 0, 0, 0, 0), (25, .invokestatic 202, 76, 98, 1, 0), (28, .ifCond .ne 7, 0, 0, 0, 0), (31, .sipush (-1012), 0, 0, 0, 0), (34, .ireturn, 0, 0, 0, 0), (35, .aload_n 0, 0, 0, 0, 0), (36, .getfield 10, 44, 7, 0, 3), (39, .getfield 155, 57, 5, 1, 3), (42, .iload_n 1, 0, 0, 0, 0), (43, .baload, 0, 0, 0, 0), (44, .ifCond .ne 10, 0, 0, 0, 0), (47, .aload_n 0, 0, 0, 0, 0), (48, .iconst 2, 0, 0, 0, 0), (49, .iload_n 1, 0, 0, 0, 0), (50, .invokevirtual 305, 90, 102, 0, 0), (53, .ireturn, 0, 0, 0, 0), (54, .aload_n 0, 0, 0, 0, 0), (55, .getfield 10, 44, 7, 0, 3), (58, .getfield 162, 59, 5, 3, 3), (61, .iload_n 1, 0, 0, 0, 0), (62, .iaload, 0, 0, 0, 0), (63, .iload_n 2, 0, 0, 0, 0), (64, .if_icmp .ge 19, 0, 0, 0, 0), (67, .aload_n 0, 0, 0, 0, 0), (68, .bipush 13, 0, 0, 0, 0), (70, .aload_n 0, 0, 0, 0, 0), (71, .getfield 10, 44, 7, 0, 3), (74, .getfield 162, 59, 5, 3, 3), (77, .iload_n 1, 0, 0, 0, 0), (78, .iaload, 0, 0, 0, 0), (79, .invokevirtual 305, 90, 102, 0, 0), (82, .ireturn, 0, 0, 0, 0), (83, .aload_n 0, 0, 0, 0, 0), (84, .iload_n 1, 0, 0, 0, 0), (85, .iload_n 2, 0, 0, 0, 0), (86, .invokevirtual 308, 91, 88, 0, 0), (89, .ifCond .ne 7, 0, 0, 0, 0), (92, .sipush (-1014), 0, 0, 0, 0), (95, .ireturn, 0, 0, 0, 0), (96, .aload_n 0, 0, 0, 0, 0), (97, .getfield 10, 44, 7, 0, 3), (100, .getfield 162, 59, 5, 3, 3), (103, .iload_n 1, 0, 0, 0, 0), (104, .dup2, 0, 0, 0, 0), (105, .iaload, 0, 0, 0, 0), (106, .iload_n 2, 0, 0, 0, 0), (107, .isub, 0, 0, 0, 0), (108, .iastore, 0, 0, 0, 0), (109, .aload_n 0, 0, 0, 0, 0), (110, .getfield 10, 44, 7, 0, 3), (113, .getfield 87, 45, 5, 0, 3), (116, .iload_n 1, 0, 0, 0, 0), (117, .iload_n 2, 0, 0, 0, 0), (118, .iload_n 3, 0, 0, 0, 0), (119, .invokevirtual 312, 92, 35, 0, 0), (122, .ireturn, 0, 0, 0, 0)]
def e_X6_hasRoomFor : List Ent := [(0, .aload_n 0, 0, 0, 0, 0), (1, .getfield 10, 44, 7, 0, 3), (4, .getfield 87, 45, 5, 0, 3), (7, .iload_n 1, 0, 0, 0, 0), (8, .invokevirtual 186, 63, 43, 0, 0), (11, .iload_n 2, 0, 0, 0, 0), (12, .iadd, 0, 0, 0, 0), (13, .iconst 1, 0, 0, 0, 0), (14, .iadd, 0, 0, 0, 0), (15, .istore_n 3, 0, 0, 0, 0), (16, .iload_n 3, 0, 0, 0, 0), (17, .bipush 60, 0, 0, 0, 0), (19, .if_icmp .le 12, 0, 0, 0, 0), (22, .aload_n 0, 0, 0, 0, 0), (23, .iconst 3, 0, 0, 0, 0), (24, .iload_n 3, 0, 0, 0, 0), (25, .invokevirtual 305, 90, 102, 0, 0), (28, .pop, 0, 0, 0, 0), (29, .iconst 0, 0, 0, 0, 0), (30, .ireturn, 0, 0, 0, 0), (31, .aload_n 0, 0, 0, 0, 0), (32, .getfield 10, 44, 7, 0, 3), (35, .getfield 87, 45, 5, 0, 3), (38, .getfield 195, 61, 6, 8, 0), (41, .bipush 12, 0, 0, 0, 0), (43, .if_icmp .lt 21, 0, 0, 0, 0), (46, .aload_n 0, 0, 0, 0, 0), (47, .iconst 1, 0, 0, 0, 0), (48, .aload_n 0, 0, 0, 0, 0), (49, .getfield 10, 44, 7, 0, 3), (52, .getfield 87, 45, 5, 0, 3), (55, .getfield 195, 61, 6, 8, 0), (58, .invokevirtual 305, 90, 102, 0, 0), (61, .pop, 0, 0, 0, 0), (62, .iconst 0, 0, 0, 0, 0), (63, .ireturn, 0, 0, 0, 0), (64, .iconst 1, 0, 0, 0, 0), (65, .ireturn, 0, 0, 0, 0)]
def e_X6_burnStub : List Ent := [(0, .aload_n 0, 0, 0, 0, 0), (1, .iload_n 1, 0, 0, 0, 0), (2, .invokevirtual 83, 46, 100, 0, 0), (5, .ifCond .ne 7, 0, 0, 0, 0), (8, .sipush (-1011), 0, 0, 0, 0), (11, .ireturn, 0, 0, 0, 0), (12, .iload_n 2, 0, 0, 0, 0), (13, .iconst 1, 0, 0, 0, 0), (14, .bipush 30, 0, 0, 0, 0), (16, .invokestatic 202, 76, 98, 1, 0), (19, .ifCond .ne 7, 0, 0, 0, 0), (22, .sipush (-1012), 0, 0, 0, 0), (25, .ireturn, 0, 0, 0, 0), (26, .aload_n 0, 0, 0, 0, 0), (27, .getfield 10, 44, 7, 0, 3), (30, .getfield 87, 45, 5, 0, 3), (33, .astore_n 3, 0, 0, 0, 0), (34, .aload_n 3, 0, 0, 0, 0), (35, .getfield 115, 52, 6, 5, 3), (38, .iload_n 1, 0, 0, 0, 0), (39, .iaload, 0, 0, 0, 0), (40, .iconst (-1), 0, 0, 0, 0), (41, .if_icmp .eq 28, 0, 0, 0, 0), (44, .aload_n 0, 0, 0, 0, 0), (45, .iconst 4, 0, 0, 0, 0), (46, .iload_n 1, 0, 0, 0, 0), (47, .invokevirtual 305, 90, 102, 0, 0), (50, .pop, 0, 0, 0, 0), (51, .aload_n 0, 0, 0, 0, 0), (52, .getfield 33, 66, 7, 4, 3), (55, .iconst 5, 0, 0, 0, 0), (56, .aload_n 3, 0, 0, 0, 0), (57, .getfield 112, 51, 6, 6, 3), (60, .iload_n 1, 0, 0, 0, 0), (61, .iaload, 0, 0, 0, 0), (62, .invokevirtual 315, 93, 13, 0, 0), (65, .sipush (-1014), 0, 0, 0, 0), (68, .ireturn, 0, 0, 0, 0), (69, .aload_n 3, 0, 0, 0, 0), (70, .getfield 97, 47, 6, 1, 3), (73, .iload_n 1, 0, 0, 0, 0), (74, .iaload, 0, 0, 0, 0), (75, .iload_n 2, 0, 0, 0, 0), (76, .if_icmp .ge 29, 0, 0, 0, 0), (79, .aload_n 0, 0, 0, 0, 0), (80, .iconst 4, 0, 0, 0, 0), (81, .iload_n 1, 0, 0, 0, 0), (82, .invokevirtual 305, 90, 102, 0, 0), (85, .pop, 0, 0, 0, 0), (86, .aload_n 0, 0, 0, 0, 0), (87, .getfield 33, 66, 7, 4, 3), (90, .bipush 6, 0, 0, 0, 0), (92, .aload_n 3, 0, 0, 0, 0), (93, .getfield 97, 47, 6, 1, 3), (96, .iload_n 1, 0, 0, 0, 0), (97, .iaload, 0, 0, 0, 0), (98, .invokevirtual 315, 93, 13, 0, 0), (101, .sipush (-1014), 0, 0, 0, 0), (104, .ireturn, 0, 0, 0, 0), (105, .aload_n 0, 0, 0, 0, 0), (106, .getfield 10, 44, 7, 0, 3), (109, .iload_n 1, 0, 0, 0, 0), (110, .iload_n 2, 0, 0, 0, 0), (111, .invokevirtual 319, 94, 20, 0, 0), (114, .ireturn, 0, 0, 0, 0)]
def e_X6_oweLight : List Ent := [(0, .aload_n 0, 0, 0, 0, 0), (1, .iload_n 1, 0, 0, 0, 0), (2, .invokevirtual 83, 46, 100, 0, 0), (5, .ifCond .eq 10, 0, 0, 0, 0), (8, .iload_n 2, 0, 0, 0, 0), (9, .invokestatic 128, 50, 99, 1, 0), (12, .ifCond .ne 7, 0, 0, 0, 0), (15, .sipush (-1011), 0, 0, 0, 0), (18, .ireturn, 0, 0, 0, 0), (19, .iload_n 3, 0, 0, 0, 0), (20, .iconst 1, 0, 0, 0, 0), (21, .bipush 90, 0, 0, 0, 0), (23, .invokestatic 202, 76, 98, 1, 0), (26, .ifCond .ne 7, 0, 0, 0, 0), (29, .sipush (-1012), 0, 0, 0, 0), (32, .ireturn, 0, 0, 0, 0), (33, .aload_n 0, 0, 0, 0, 0), (34, .getfield 10, 44, 7, 0, 3), (37, .getfield 87, 45, 5, 0, 3), (40, .astore 4, 0, 0, 0, 0), (42, .aload_n 0, 0, 0, 0, 0), (43, .getfield 10, 44, 7, 0, 3), (46, .getfield 155, 57, 5, 1, 3), (49, .iload_n 2, 0, 0, 0, 0), (50, .baload, 0, 0, 0, 0), (51, .ifCond .ne 10, 0, 0, 0, 0), (54, .aload_n 0, 0, 0, 0, 0), (55, .iconst 2, 0, 0, 0, 0), (56, .iload_n 2, 0, 0, 0, 0), (57, .invokevirtual 305, 90, 102, 0, 0), (60, .ireturn, 0, 0, 0, 0), (61, .aload 4, 0, 0, 0, 0), (63, .getfield 91, 46, 6, 0, 3), (66, .iload_n 1, 0, 0, 0, 0), (67, .iaload, 0, 0, 0, 0), (68, .iload_n 2, 0, 0, 0, 0), (69, .if_icmp .ne 11, 0, 0, 0, 0), (72, .aload_n 0, 0, 0, 0, 0), (73, .bipush 8, 0, 0, 0, 0), (75, .iload_n 2, 0, 0, 0, 0), (76, .invokevirtual 305, 90, 102, 0, 0), (79, .ireturn, 0, 0, 0, 0), (80, .aload 4, 0, 0, 0, 0), (82, .getfield 103, 49, 6, 3, 3), (85, .iload_n 1, 0, 0, 0, 0), (86, .iaload, 0, 0, 0, 0), (87, .iconst (-1), 0, 0, 0, 0), (88, .if_icmp .eq 17, 0, 0, 0, 0), (91, .aload_n 0, 0, 0, 0, 0), (92, .bipush 7, 0, 0, 0, 0), (94, .aload 4, 0, 0, 0, 0), (96, .getfield 103, 49, 6, 3, 3), (99, .iload_n 1, 0, 0, 0, 0), (100, .iaload, 0, 0, 0, 0), (101, .invokevirtual 305, 90, 102, 0, 0), (104, .ireturn, 0, 0, 0, 0), (105, .aload 4, 0, 0, 0, 0), (107, .getfield 103, 49, 6, 3, 3), (110, .iload_n 1, 0, 0, 0, 0), (111, .iload_n 2, 0, 0, 0, 0), (112, .iastore, 0, 0, 0, 0), (113, .aload 4, 0, 0, 0, 0), (115, .getfield 109, 50, 6, 4, 3), (118, .iload_n 1, 0, 0, 0, 0), (119, .iload_n 3, 0, 0, 0, 0), (120, .iastore, 0, 0, 0, 0), (121, .aload 4, 0, 0, 0, 0), (123, .iload_n 2, 0, 0, 0, 0), (124, .invokevirtual 322, 95, 47, 0, 0), (127, .ireturn, 0, 0, 0, 0)]
def e_X6_snuffStub : List Ent := [(0, .iload_n 1, 0, 0, 0, 0), (1, .invokestatic 128, 50, 99, 1, 0), (4, .ifCond .eq 11, 0, 0, 0, 0), (7, .aload_n 0, 0, 0, 0, 0), (8, .iload_n 2, 0, 0, 0, 0), (9, .invokevirtual 83, 46, 100, 0, 0), (12, .ifCond .ne 7, 0, 0, 0, 0), (15, .sipush (-1011), 0, 0, 0, 0), (18, .ireturn, 0, 0, 0, 0), (19, .iload_n 3, 0, 0, 0, 0), (20, .iconst 1, 0, 0, 0, 0), (21, .bipush 24, 0, 0, 0, 0), (23, .invokestatic 202, 76, 98, 1, 0), (26, .ifCond .ne 7, 0, 0, 0, 0), (29, .sipush (-1012), 0, 0, 0, 0), (32, .ireturn, 0, 0, 0, 0), (33, .aload_n 0, 0, 0, 0, 0), (34, .getfield 10, 44, 7, 0, 3), (37, .getfield 87, 45, 5, 0, 3), (40, .astore 4, 0, 0, 0, 0), (42, .aload_n 0, 0, 0, 0, 0), (43, .getfield 10, 44, 7, 0, 3), (46, .getfield 155, 57, 5, 1, 3), (49, .iload_n 1, 0, 0, 0, 0), (50, .baload, 0, 0, 0, 0), (51, .ifCond .ne 10, 0, 0, 0, 0), (54, .aload_n 0, 0, 0, 0, 0), (55, .iconst 2, 0, 0, 0, 0), (56, .iload_n 1, 0, 0, 0, 0), (57, .invokevirtual 305, 90, 102, 0, 0), (60, .ireturn, 0, 0, 0, 0), (61, .aload 4, 0, 0, 0, 0), (63, .getfield 91, 46, 6, 0, 3), (66, .iload_n 2, 0, 0, 0, 0), (67, .iaload, 0, 0, 0, 0), (68, .iload_n 1, 0, 0, 0, 0), (69, .if_icmp .ne 11, 0, 0, 0, 0), (72, .aload_n 0, 0, 0, 0, 0), (73, .bipush 8, 0, 0, 0, 0), (75, .iload_n 1, 0, 0, 0, 0), (76, .invokevirtual 305, 90, 102, 0, 0), (79, .ireturn, 0, 0, 0, 0), (80, .aload 4, 0, 0, 0, 0), (82, .getfield 115, 52, 6, 5, 3), (85, .iload_n 2, 0, 0, 0, 0), (86, .iaload, 0, 0, 0, 0), (87, .iconst (-1), 0, 0, 0, 0), (88, .if_icmp .eq 17, 0, 0, 0, 0), (91, .aload_n 0, 0, 0, 0, 0), (92, .bipush 9, 0, 0, 0, 0), (94, .aload 4, 0, 0, 0, 0), (96, .getfield 112, 51, 6, 6, 3), (99, .iload_n 2, 0, 0, 0, 0), (100, .iaload, 0, 0, 0, 0), (101, .invokevirtual 305, 90, 102, 0, 0), (104, .ireturn, 0, 0, 0, 0), (105, .aload 4, 0, 0, 0, 0), (107, .iload_n 1, 0, 0, 0, 0), (108, .invokevirtual 174, 59, 46, 0, 0), (111, .iconst 2, 0, 0, 0, 0), (112, .if_icmp .lt 15, 0, 0, 0, 0), (115, .aload_n 0, 0, 0, 0, 0), (116, .iconst 1, 0, 0, 0, 0), (117, .aload 4, 0, 0, 0, 0), (119, .iload_n 1, 0, 0, 0, 0), (120, .invokevirtual 174, 59, 46, 0, 0), (123, .invokevirtual 305, 90, 102, 0, 0), (126, .ireturn, 0, 0, 0, 0), (127, .aload 4, 0, 0, 0, 0), (129, .getfield 115, 52, 6, 5, 3), (132, .iload_n 2, 0, 0, 0, 0), (133, .iload_n 1, 0, 0, 0, 0), (134, .iastore, 0, 0, 0, 0), (135, .aload 4, 0, 0, 0, 0), (137, .getfield 112, 51, 6, 6, 3), (140, .iload_n 2, 0, 0, 0, 0), (141, .iload_n 3, 0, 0, 0, 0), (142, .iastore, 0, 0, 0, 0), (143, .aload 4, 0, 0, 0, 0), (145, .invokevirtual 251, 79, 49, 0, 0), (148, .ireturn, 0, 0, 0, 0)]
def e_X6_poolWax : List Ent := [(0, .aload_n 0, 0, 0, 0, 0), (1, .iload_n 1, 0, 0, 0, 0), (2, .invokevirtual 83, 46, 100, 0, 0), (5, .ifCond .ne 7, 0, 0, 0, 0), (8, .sipush (-1011), 0, 0, 0, 0), (11, .ireturn, 0, 0, 0, 0), (12, .iload_n 2, 0, 0, 0, 0), (13, .iconst 1, 0, 0, 0, 0), (14, .bipush 30, 0, 0, 0, 0), (16, .invokestatic 202, 76, 98, 1, 0), (19, .ifCond .ne 7, 0, 0, 0, 0), (22, .sipush (-1012), 0, 0, 0, 0), (25, .ireturn, 0, 0, 0, 0), (26, .aload_n 0, 0, 0, 0, 0), (27, .getfield 10, 44, 7, 0, 3), (30, .getfield 87, 45, 5, 0, 3), (33, .getfield 97, 47, 6, 1, 3), (36, .iload_n 1, 0, 0, 0, 0), (37, .iaload, 0, 0, 0, 0), (38, .iload_n 2, 0, 0, 0, 0), (39, .if_icmp .ge 22, 0, 0, 0, 0), (42, .aload_n 0, 0, 0, 0, 0), (43, .bipush 10, 0, 0, 0, 0), (45, .aload_n 0, 0, 0, 0, 0), (46, .getfield 10, 44, 7, 0, 3), (49, .getfield 87, 45, 5, 0, 3), (52, .getfield 97, 47, 6, 1, 3), (55, .iload_n 1, 0, 0, 0, 0), (56, .iaload, 0, 0, 0, 0), (57, .invokevirtual 305, 90, 102, 0, 0), (60, .ireturn, 0, 0, 0, 0), (61, .aload_n 0, 0, 0, 0, 0), (62, .getfield 10, 44, 7, 0, 3), (65, .getfield 165, 60, 5, 4, 3), (68, .aload_n 0, 0, 0, 0, 0), (69, .getfield 10, 44, 7, 0, 3), (72, .getfield 87, 45, 5, 0, 3), (75, .getfield 91, 46, 6, 0, 3), (78, .iload_n 1, 0, 0, 0, 0), (79, .iaload, 0, 0, 0, 0), (80, .dup2, 0, 0, 0, 0), (81, .iaload, 0, 0, 0, 0), (82, .iload_n 2, 0, 0, 0, 0), (83, .iadd, 0, 0, 0, 0), (84, .iastore, 0, 0, 0, 0), (85, .aload_n 0, 0, 0, 0, 0), (86, .getfield 10, 44, 7, 0, 3), (89, .dup, 0, 0, 0, 0), (90, .getfield 260, 70, 5, 5, 0), (93, .iload_n 2, 0, 0, 0, 0), (94, .iadd, 0, 0, 0, 0), (95, .putfield 260, 70, 5, 5, 0), (98, .aload_n 0, 0, 0, 0, 0), (99, .getfield 10, 44, 7, 0, 3), (102, .getfield 87, 45, 5, 0, 3), (105, .iload_n 1, 0, 0, 0, 0), (106, .iload_n 2, 0, 0, 0, 0), (107, .invokevirtual 325, 96, 37, 0, 0), (110, .aload_n 0, 0, 0, 0, 0), (111, .getfield 10, 44, 7, 0, 3), (114, .getfield 260, 70, 5, 5, 0), (117, .ireturn, 0, 0, 0, 0)]
def e_X6_sharePool : List Ent := [(0, .aload_n 0, 0, 0, 0, 0), (1, .getfield 10, 44, 7, 0, 3), (4, .getfield 260, 70, 5, 5, 0), (7, .ifCond .ne 20, 0, 0, 0, 0), (10, .aload_n 0, 0, 0, 0, 0), (11, .bipush 11, 0, 0, 0, 0), (13, .aload_n 0, 0, 0, 0, 0), (14, .getfield 10, 44, 7, 0, 3), (17, .getfield 87, 45, 5, 0, 3), (20, .getfield 195, 61, 6, 8, 0), (23, .invokevirtual 305, 90, 102, 0, 0), (26, .ireturn, 0, 0, 0, 0), (27, .aload_n 0, 0, 0, 0, 0), (28, .getfield 10, 44, 7, 0, 3), (31, .invokevirtual 328, 97, 22, 0, 0), (34, .ifCond .ne 17, 0, 0, 0, 0), (37, .aload_n 0, 0, 0, 0, 0), (38, .bipush 12, 0, 0, 0, 0), (40, .aload_n 0, 0, 0, 0, 0), (41, .getfield 10, 44, 7, 0, 3), (44, .getfield 260, 70, 5, 5, 0), (47, .invokevirtual 305, 90, 102, 0, 0), (50, .ireturn, 0, 0, 0, 0), (51, .aload_n 0, 0, 0, 0, 0), (52, .getfield 47, 54, 7, 6, 3), (55, .aload_n 0, 0, 0, 0, 0), (56, .getfield 10, 44, 7, 0, 3), (59, .invokevirtual 131, 51, 15, 0, 0), (62, .iconst 0, 0, 0, 0, 0), (63, .istore_n 1, 0, 0, 0, 0), (64, .iconst 0, 0, 0, 0, 0), (65, .istore_n 2, 0, 0, 0, 0), (66, .iload_n 2, 0, 0, 0, 0), (67, .bipush 6, 0, 0, 0, 0), (69, .if_icmp .ge 60, 0, 0, 0, 0), (72, .aload_n 0, 0, 0, 0, 0), (73, .getfield 10, 44, 7, 0, 3), (76, .getfield 162, 59, 5, 3, 3), (79, .iload_n 2, 0, 0, 0, 0), (80, .dup2, 0, 0, 0, 0), (81, .iaload, 0, 0, 0, 0), (82, .aload_n 0, 0, 0, 0, 0), (83, .getfield 47, 54, 7, 6, 3), (86, .getfield 134, 55, 4, 0, 3), (89, .iload_n 2, 0, 0, 0, 0), (90, .iaload, 0, 0, 0, 0), (91, .iadd, 0, 0, 0, 0), (92, .iastore, 0, 0, 0, 0), (93, .aload_n 0, 0, 0, 0, 0), (94, .getfield 10, 44, 7, 0, 3), (97, .getfield 165, 60, 5, 4, 3), (100, .iload_n 2, 0, 0, 0, 0), (101, .iconst 0, 0, 0, 0, 0), (102, .iastore, 0, 0, 0, 0), (103, .iload_n 1, 0, 0, 0, 0), (104, .aload_n 0, 0, 0, 0, 0), (105, .getfield 47, 54, 7, 6, 3), (108, .getfield 134, 55, 4, 0, 3), (111, .iload_n 2, 0, 0, 0, 0), (112, .iaload, 0, 0, 0, 0), (113, .ifCond .le 7, 0, 0, 0, 0), (116, .iconst 1, 0, 0, 0, 0), (117, .goto 4, 0, 0, 0, 0), (120, .iconst 0, 0, 0, 0, 0), (121, .iadd, 0, 0, 0, 0), (122, .istore_n 1, 0, 0, 0, 0), (123, .iinc 2 1, 0, 0, 0, 0), (126, .goto (-60), 0, 0, 0, 0), (129, .aload_n 0, 0, 0, 0, 0), (130, .getfield 10, 44, 7, 0, 3), (133, .iconst 0, 0, 0, 0, 0), (134, .putfield 260, 70, 5, 5, 0), (137, .iload_n 1, 0, 0, 0, 0), (138, .ireturn, 0, 0, 0, 0)]
def e_X6_tellHeir : List Ent := [(0, .iload_n 1, 0, 0, 0, 0), (1, .invokestatic 128, 50, 99, 1, 0), (4, .ifCond .eq 10, 0, 0, 0, 0), (7, .iload_n 2, 0, 0, 0, 0), (8, .invokestatic 128, 50, 99, 1, 0), (11, .ifCond .ne 7, 0, 0, 0, 0), (14, .sipush (-1011), 0, 0, 0, 0), (17, .ireturn, 0, 0, 0, 0), (18, .aload_n 0, 0, 0, 0, 0), (19, .getfield 10, 44, 7, 0, 3), (22, .getfield 159, 58, 5, 2, 3), (25, .iload_n 1, 0, 0, 0, 0), (26, .iaload, 0, 0, 0, 0), (27, .istore_n 3, 0, 0, 0, 0), (28, .iload_n 3, 0, 0, 0, 0), (29, .iload_n 2, 0, 0, 0, 0), (30, .if_icmp .ne 11, 0, 0, 0, 0), (33, .aload_n 0, 0, 0, 0, 0), (34, .bipush 14, 0, 0, 0, 0), (36, .iload_n 2, 0, 0, 0, 0), (37, .invokevirtual 305, 90, 102, 0, 0), (40, .ireturn, 0, 0, 0, 0), (41, .aload_n 0, 0, 0, 0, 0), (42, .getfield 10, 44, 7, 0, 3), (45, .getfield 159, 58, 5, 2, 3), (48, .iload_n 1, 0, 0, 0, 0), (49, .iload_n 2, 0, 0, 0, 0), (50, .iastore, 0, 0, 0, 0), (51, .iload_n 3, 0, 0, 0, 0), (52, .ireturn, 0, 0, 0, 0)]
def e_X6_endHouse : List Ent := [(0, .iload_n 1, 0, 0, 0, 0), (1, .invokestatic 128, 50, 99, 1, 0), (4, .ifCond .ne 7, 0, 0, 0, 0), (7, .sipush (-1011), 0, 0, 0, 0), (10, .ireturn, 0, 0, 0, 0), (11, .aload_n 0, 0, 0, 0, 0), (12, .getfield 10, 44, 7, 0, 3), (15, .getfield 155, 57, 5, 1, 3), (18, .iload_n 1, 0, 0, 0, 0), (19, .baload, 0, 0, 0, 0), (20, .ifCond .ne 10, 0, 0, 0, 0), (23, .aload_n 0, 0, 0, 0, 0), (24, .iconst 2, 0, 0, 0, 0), (25, .iload_n 1, 0, 0, 0, 0), (26, .invokevirtual 305, 90, 102, 0, 0), (29, .ireturn, 0, 0, 0, 0), (30, .aload_n 0, 0, 0, 0, 0), (31, .getfield 10, 44, 7, 0, 3), (34, .iload_n 1, 0, 0, 0, 0), (35, .invokevirtual 180, 61, 26, 0, 0), (38, .istore_n 2, 0, 0, 0, 0), (39, .iload_n 2, 0, 0, 0, 0), (40, .iconst (-1), 0, 0, 0, 0), (41, .if_icmp .ne 11, 0, 0, 0, 0), (44, .aload_n 0, 0, 0, 0, 0), (45, .bipush 15, 0, 0, 0, 0), (47, .iload_n 1, 0, 0, 0, 0), (48, .invokevirtual 305, 90, 102, 0, 0), (51, .ireturn, 0, 0, 0, 0), (52, .aload_n 0, 0, 0, 0, 0), (53, .getfield 10, 44, 7, 0, 3), (56, .iload_n 1, 0, 0, 0, 0), (57, .iload_n 2, 0, 0, 0, 0), (58, .invokevirtual 331, 98, 27, 0, 0), (61, .iload_n 2, 0, 0, 0, 0), (62, .ireturn, 0, 0, 0, 0)]
def e_X6_passHours : List Ent := [(0, .iload_n 1, 0, 0, 0, 0), (1, .iconst 1, 0, 0, 0, 0), (2, .bipush 24, 0, 0, 0, 0), (4, .invokestatic 202, 76, 98, 1, 0), (7, .ifCond .ne 7, 0, 0, 0, 0), (10, .sipush (-1012), 0, 0, 0, 0), (13, .ireturn, 0, 0, 0, 0), (14, .aload_n 0, 0, 0, 0, 0), (15, .getfield 10, 44, 7, 0, 3), (18, .dup, 0, 0, 0, 0), (19, .getfield 278, 75, 5, 10, 0), (22, .iload_n 1, 0, 0, 0, 0), (23, .iadd, 0, 0, 0, 0), (24, .putfield 278, 75, 5, 10, 0), (27, .aload_n 0, 0, 0, 0, 0), (28, .getfield 10, 44, 7, 0, 3), (31, .getfield 87, 45, 5, 0, 3), (34, .iload_n 1, 0, 0, 0, 0), (35, .invokevirtual 334, 99, 41, 0, 0), (38, .ireturn, 0, 0, 0, 0)]
def e_X6_carryOut : List Ent := [(0, .aload_n 0, 0, 0, 0, 0), (1, .getfield 40, 62, 7, 5, 3), (4, .getfield 337, 79, 2, 1, 3), (7, .iload_n 1, 0, 0, 0, 0), (8, .iaload, 0, 0, 0, 0), (9, .istore_n 2, 0, 0, 0, 0), (10, .aload_n 0, 0, 0, 0, 0), (11, .getfield 40, 62, 7, 5, 3), (14, .getfield 340, 80, 2, 2, 3), (17, .iload_n 1, 0, 0, 0, 0), (18, .iaload, 0, 0, 0, 0), (19, .istore_n 3, 0, 0, 0, 0), (20, .aload_n 0, 0, 0, 0, 0), (21, .getfield 40, 62, 7, 5, 3), (24, .getfield 343, 81, 2, 3, 3), (27, .iload_n 1, 0, 0, 0, 0), (28, .iaload, 0, 0, 0, 0), (29, .istore 4, 0, 0, 0, 0), (31, .aload_n 0, 0, 0, 0, 0), (32, .getfield 40, 62, 7, 5, 3), (35, .getfield 346, 82, 2, 0, 3), (38, .iload_n 1, 0, 0, 0, 0), (39, .iaload, 0, 0, 0, 0), (40, .tableswitch 178 98 119 #[113, 178, 145, 166, 178, 178, 159, 178, 178, 178, 178, 150, 178, 120, 138, 178, 178, 104, 172, 178, 178, 129], 0, 0, 0, 0), (144, .aload_n 0, 0, 0, 0, 0), (145, .iload_n 2, 0, 0, 0, 0), (146, .iload_n 3, 0, 0, 0, 0), (147, .iload 4, 0, 0, 0, 0), (149, .invokevirtual 65, 41, 86, 0, 0), (152, .ireturn, 0, 0, 0, 0), (153, .aload_n 0, 0, 0, 0, 0), (154, .iload_n 2, 0, 0, 0, 0), (155, .iload_n 3, 0, 0, 0, 0), (156, .invokevirtual 73, 43, 89, 0, 0), (159, .ireturn, 0, 0, 0, 0), (160, .aload_n 0, 0, 0, 0, 0), (161, .iload_n 2, 0, 0, 0, 0), (162, .iload_n 3, 0, 0, 0, 0), (163, .iload 4, 0, 0, 0, 0), (165, .invokevirtual 77, 44, 90, 0, 0), (168, .ireturn, 0, 0, 0, 0), (169, .aload_n 0, 0, 0, 0, 0), (170, .iload_n 2, 0, 0, 0, 0), (171, .iload_n 3, 0, 0, 0, 0), (172, .iload 4, 0, 0, 0, 0), (174, .invokevirtual 80, 45, 91, 0, 0), (177, .ireturn, 0, 0, 0, 0), (178, .aload_n 0, 0, 0, 0, 0), (179, .iload_n 2, 0, 0, 0, 0), (180, .iload_n 3, 0, 0, 0, 0), (181, .invokevirtual 121, 48, 92, 0, 0), (184, .ireturn, 0, 0, 0, 0), (185, .aload_n 0, 0, 0, 0, 0), (186, .invokevirtual 124, 49, 93, 0, 0), (189, .ireturn, 0, 0, 0, 0), (190, .aload_n 0, 0, 0, 0, 0), (191, .iload_n 2, 0, 0, 0, 0), (192, .iload_n 3, 0, 0, 0, 0), (193, .iload 4, 0, 0, 0, 0), (195, .invokevirtual 143, 53, 87, 0, 0), (198, .ireturn, 0, 0, 0, 0), (199, .aload_n 0, 0, 0, 0, 0), (200, .iload_n 2, 0, 0, 0, 0), (201, .iload_n 3, 0, 0, 0, 0), (202, .invokevirtual 146, 54, 94, 0, 0), (205, .ireturn, 0, 0, 0, 0), (206, .aload_n 0, 0, 0, 0, 0), (207, .iload_n 2, 0, 0, 0, 0), (208, .invokevirtual 149, 55, 95, 0, 0), (211, .ireturn, 0, 0, 0, 0), (212, .aload_n 0, 0, 0, 0, 0), (213, .iload_n 2, 0, 0, 0, 0), (214, .invokevirtual 152, 56, 96, 0, 0), (217, .ireturn, 0, 0, 0, 0), (218, .sipush (-1012), 0, 0, 0, 0), (221, .ireturn, 0, 0, 0, 0)]
def e_X6_isFrom : List Ent := [(0, .iload_n 0, 0, 0, 0, 0), (1, .iload_n 1, 0, 0, 0, 0), (2, .if_icmp .lt 12, 0, 0, 0, 0), (5, .iload_n 0, 0, 0, 0, 0), (6, .iload_n 2, 0, 0, 0, 0), (7, .if_icmp .gt 7, 0, 0, 0, 0), (10, .iconst 1, 0, 0, 0, 0), (11, .goto 4, 0, 0, 0, 0), (14, .iconst 0, 0, 0, 0, 0), (15, .ireturn, 0, 0, 0, 0)]
def e_X6_isHouse : List Ent := [(0, .iload_n 0, 0, 0, 0, 0), (1, .iconst 0, 0, 0, 0, 0), (2, .iconst 5, 0, 0, 0, 0), (3, .invokestatic 202, 76, 98, 1, 0), (6, .ireturn, 0, 0, 0, 0)]
def e_X6_isStub : List Ent := [(0, .iload_n 1, 0, 0, 0, 0), (1, .iconst 0, 0, 0, 0, 0), (2, .aload_n 0, 0, 0, 0, 0), (3, .getfield 10, 44, 7, 0, 3), (6, .getfield 87, 45, 5, 0, 3), (9, .getfield 195, 61, 6, 8, 0), (12, .iconst 1, 0, 0, 0, 0), (13, .isub, 0, 0, 0, 0), (14, .invokestatic 202, 76, 98, 1, 0), (17, .ireturn, 0, 0, 0, 0)]
def e_X6_orNothing : List Ent := [(0, .iload_n 0, 0, 0, 0, 0), (1, .iconst (-1), 0, 0, 0, 0), (2, .if_icmp .ne 9, 0, 0, 0, 0), (5, .sipush (-1015), 0, 0, 0, 0), (8, .goto 4, 0, 0, 0, 0), (11, .iload_n 0, 0, 0, 0, 0), (12, .ireturn, 0, 0, 0, 0)]
def e_X6_refuse : List Ent := [(0, .aload_n 0, 0, 0, 0, 0), (1, .getfield 33, 66, 7, 4, 3), (4, .invokevirtual 349, 100, 12, 0, 0), (7, .aload_n 0, 0, 0, 0, 0), (8, .getfield 33, 66, 7, 4, 3), (11, .iload_n 1, 0, 0, 0, 0), (12, .iload_n 2, 0, 0, 0, 0), (13, .invokevirtual 315, 93, 13, 0, 0), (16, .sipush (-1014), 0, 0, 0, 0), (19, .ireturn, 0, 0, 0, 0)]
def e_X6_refuseOrder : List Ent := [(0, .iload_n 2, 0, 0, 0, 0), (1, .sipush (-1014), 0, 0, 0, 0), (4, .if_icmp .eq 10, 0, 0, 0, 0), (7, .aload_n 0, 0, 0, 0, 0), (8, .getfield 33, 66, 7, 4, 3), (11, .invokevirtual 349, 100, 12, 0, 0), (14, .aload_n 0, 0, 0, 0, 0), (15, .getfield 33, 66, 7, 4, 3), (18, .bipush 16, 0, 0, 0, 0), (20, .iload_n 1, 0, 0, 0, 0), (21, .invokevirtual 352, 101, 14, 0, 0), (24, .sipush (-1014), 0, 0, 0, 0), (27, .ireturn, 0, 0, 0, 0)]
def e_X6_writeHouse : List Ent := [(0, .aload_n 0, 0, 0, 0, 0), (1, .getfield 10, 44, 7, 0, 3), (4, .getfield 155, 57, 5, 1, 3), (7, .iload_n 1, 0, 0, 0, 0), (8, .baload, 0, 0, 0, 0), (9, .ifCond .ne 14, 0, 0, 0, 0), (12, .aload_n 0, 0, 0, 0, 0), (13, .getfield 58, 65, 7, 8, 3), (16, .bipush 120, 0, 0, 0, 0), (18, .invokevirtual 209, 73, 189, 0, 0), (21, .pop, 0, 0, 0, 0), (22, .return_, 0, 0, 0, 0), (23, .aload_n 0, 0, 0, 0, 0), (24, .getfield 58, 65, 7, 8, 3), (27, .aload_n 0, 0, 0, 0, 0), (28, .getfield 10, 44, 7, 0, 3), (31, .getfield 162, 59, 5, 3, 3), (34, .iload_n 1, 0, 0, 0, 0), (35, .iaload, 0, 0, 0, 0), (36, .invokevirtual 231, 72, 190, 0, 0), (39, .pop, 0, 0, 0, 0), (40, .aload_n 0, 0, 0, 0, 0), (41, .getfield 10, 44, 7, 0, 3), (44, .getfield 165, 60, 5, 4, 3), (47, .iload_n 1, 0, 0, 0, 0), (48, .iaload, 0, 0, 0, 0), (49, .ifCond .le 25, 0, 0, 0, 0), (52, .aload_n 0, 0, 0, 0, 0), (53, .getfield 58, 65, 7, 8, 3), (56, .bipush 43, 0, 0, 0, 0), (58, .invokevirtual 209, 73, 189, 0, 0), (61, .aload_n 0, 0, 0, 0, 0), (62, .getfield 10, 44, 7, 0, 3), (65, .getfield 165, 60, 5, 4, 3), (68, .iload_n 1, 0, 0, 0, 0), (69, .iaload, 0, 0, 0, 0), (70, .invokevirtual 231, 72, 190, 0, 0), (73, .pop, 0, 0, 0, 0), (74, .return_, 0, 0, 0, 0)]
def e_X6_isWaxAccountedFor : List Ent := [(0, .aload_n 0, 0, 0, 0, 0), (1, .getfield 10, 44, 7, 0, 3), (4, .getfield 87, 45, 5, 0, 3), (7, .invokevirtual 254, 80, 50, 0, 0), (10, .aload_n 0, 0, 0, 0, 0), (11, .getfield 10, 44, 7, 0, 3), (14, .invokevirtual 257, 81, 23, 0, 0), (17, .iadd, 0, 0, 0, 0), (18, .aload_n 0, 0, 0, 0, 0), (19, .getfield 10, 44, 7, 0, 3), (22, .getfield 260, 70, 5, 5, 0), (25, .iadd, 0, 0, 0, 0), (26, .istore_n 1, 0, 0, 0, 0), (27, .aload_n 0, 0, 0, 0, 0), (28, .getfield 10, 44, 7, 0, 3), (31, .getfield 263, 71, 5, 6, 0), (34, .iload_n 1, 0, 0, 0, 0), (35, .aload_n 0, 0, 0, 0, 0), (36, .getfield 10, 44, 7, 0, 3), (39, .getfield 266, 72, 5, 7, 0), (42, .iadd, 0, 0, 0, 0), (43, .if_icmp .ne 24, 0, 0, 0, 0), (46, .aload_n 0, 0, 0, 0, 0), (47, .getfield 10, 44, 7, 0, 3), (50, .getfield 260, 70, 5, 5, 0), (53, .aload_n 0, 0, 0, 0, 0), (54, .getfield 10, 44, 7, 0, 3), (57, .invokevirtual 355, 102, 24, 0, 0), (60, .if_icmp .ne 7, 0, 0, 0, 0), (63, .iconst 1, 0, 0, 0, 0), (64, .goto 4, 0, 0, 0, 0), (67, .iconst 0, 0, 0, 0, 0), (68, .ireturn, 0, 0, 0, 0)]
def e_X6_areSharesSame : List Ent := [(0, .aload_n 0, 0, 0, 0, 0), (1, .getfield 47, 54, 7, 6, 3), (4, .aload_n 0, 0, 0, 0, 0), (5, .getfield 10, 44, 7, 0, 3), (8, .invokevirtual 131, 51, 15, 0, 0), (11, .aload_n 0, 0, 0, 0, 0), (12, .getfield 47, 54, 7, 6, 3), (15, .aload_n 0, 0, 0, 0, 0), (16, .getfield 10, 44, 7, 0, 3), (19, .invokevirtual 137, 52, 17, 0, 0), (22, .iconst 0, 0, 0, 0, 0), (23, .istore_n 1, 0, 0, 0, 0), (24, .iconst 0, 0, 0, 0, 0), (25, .istore_n 2, 0, 0, 0, 0), (26, .iload_n 2, 0, 0, 0, 0), (27, .bipush 6, 0, 0, 0, 0), (29, .if_icmp .ge 44, 0, 0, 0, 0), (32, .aload_n 0, 0, 0, 0, 0), (33, .getfield 47, 54, 7, 6, 3), (36, .getfield 134, 55, 4, 0, 3), (39, .iload_n 2, 0, 0, 0, 0), (40, .iaload, 0, 0, 0, 0), (41, .aload_n 0, 0, 0, 0, 0), (42, .getfield 47, 54, 7, 6, 3), (45, .getfield 140, 56, 4, 1, 3), (48, .iload_n 2, 0, 0, 0, 0), (49, .iaload, 0, 0, 0, 0), (50, .if_icmp .eq 5, 0, 0, 0, 0), (53, .iconst 0, 0, 0, 0, 0), (54, .ireturn, 0, 0, 0, 0), (55, .iload_n 1, 0, 0, 0, 0), (56, .aload_n 0, 0, 0, 0, 0), (57, .getfield 47, 54, 7, 6, 3), (60, .getfield 134, 55, 4, 0, 3), (63, .iload_n 2, 0, 0, 0, 0), (64, .iaload, 0, 0, 0, 0), (65, .iadd, 0, 0, 0, 0), (66, .istore_n 1, 0, 0, 0, 0), (67, .iinc 2 1, 0, 0, 0, 0), (70, .goto (-44), 0, 0, 0, 0), (73, .aload_n 0, 0, 0, 0, 0), (74, .getfield 10, 44, 7, 0, 3), (77, .invokevirtual 328, 97, 22, 0, 0), (80, .ifCond .eq 14, 0, 0, 0, 0), (83, .iload_n 1, 0, 0, 0, 0), (84, .aload_n 0, 0, 0, 0, 0), (85, .getfield 10, 44, 7, 0, 3), (88, .getfield 260, 70, 5, 5, 0), (91, .if_icmp .ne 7, 0, 0, 0, 0), (94, .iconst 1, 0, 0, 0, 0), (95, .goto 4, 0, 0, 0, 0), (98, .iconst 0, 0, 0, 0, 0), (99, .ireturn, 0, 0, 0, 0)]
def e_X6_areWeightsSame : List Ent := [(0, .iconst 0, 0, 0, 0, 0), (1, .istore_n 1, 0, 0, 0, 0), (2, .iload_n 1, 0, 0, 0, 0), (3, .bipush 6, 0, 0, 0, 0), (5, .if_icmp .ge 36, 0, 0, 0, 0), (8, .aload_n 0, 0, 0, 0, 0), (9, .getfield 10, 44, 7, 0, 3), (12, .getfield 87, 45, 5, 0, 3), (15, .iload_n 1, 0, 0, 0, 0), (16, .invokevirtual 186, 63, 43, 0, 0), (19, .aload_n 0, 0, 0, 0, 0), (20, .getfield 10, 44, 7, 0, 3), (23, .getfield 87, 45, 5, 0, 3), (26, .iload_n 1, 0, 0, 0, 0), (27, .invokevirtual 189, 64, 44, 0, 0), (30, .if_icmp .eq 5, 0, 0, 0, 0), (33, .iconst 0, 0, 0, 0, 0), (34, .ireturn, 0, 0, 0, 0), (35, .iinc 1 1, 0, 0, 0, 0), (38, .goto (-36), 0, 0, 0, 0), (41, .iconst 1, 0, 0, 0, 0), (42, .ireturn, 0, 0, 0, 0)]
def e_L_some : List Ent := [(0, .aload_n 0, 0, 0, 0, 0), (1, .bipush 25, 0, 0, 0, 0), (3, .invokevirtual 23, 103, 119, 0, 0), (6, .ifCond .ne 7, 0, 0, 0, 0), (9, .iload_n 1, 0, 0, 0, 0), (10, .goto 12, 0, 0, 0, 0), (13, .aload_n 0, 0, 0, 0, 0), (14, .iconst 1, 0, 0, 0, 0), (15, .iload_n 1, 0, 0, 0, 0), (16, .invokestatic 28, 104, 203, 1, 0), (19, .invokevirtual 23, 103, 119, 0, 0), (22, .ireturn, 0, 0, 0, 0)]
def e_L_acts : List Ent := [(0, .aload_n 2, 0, 0, 0, 0), (1, .bipush 6, 0, 0, 0, 0), (3, .invokestatic 34, 105, 108, 1, 0), (6, .istore_n 3, 0, 0, 0, 0), (7, .aload_n 2, 0, 0, 0, 0), (8, .aload_n 0, 0, 0, 0, 0), (9, .iconst 0, 0, 0, 0, 0), (10, .invokevirtual 40, 106, 80, 0, 0), (13, .invokestatic 34, 105, 108, 1, 0), (16, .istore 4, 0, 0, 0, 0), (18, .iload_n 1, 0, 0, 0, 0), (19, .bipush 34, 0, 0, 0, 0), (21, .irem, 0, 0, 0, 0), (22, .tableswitch 413 0 30 #[138, 138, 138, 138, 138, 201, 201, 201, 201, 201, 242, 242, 242, 242, 285, 285, 285, 327, 327, 327, 327, 368, 368, 368, 373, 373, 373, 395, 395, 395, 407], 0, 0, 0, 0), (160, .aload_n 0, 0, 0, 0, 0), (161, .iload_n 3, 0, 0, 0, 0), (162, .aload_n 2, 0, 0, 0, 0), (163, .bipush 20, 0, 0, 0, 0), (165, .invokevirtual 23, 103, 119, 0, 0), (168, .ifCond .ne 8, 0, 0, 0, 0), (171, .bipush 31, 0, 0, 0, 0), (173, .goto 24, 0, 0, 0, 0), (176, .iconst 1, 0, 0, 0, 0), (177, .aload_n 2, 0, 0, 0, 0), (178, .aload_n 2, 0, 0, 0, 0), (179, .iconst 3, 0, 0, 0, 0), (180, .invokevirtual 23, 103, 119, 0, 0), (183, .ifCond .ne 8, 0, 0, 0, 0), (186, .bipush 30, 0, 0, 0, 0), (188, .goto 5, 0, 0, 0, 0), (191, .bipush 9, 0, 0, 0, 0), (193, .invokevirtual 23, 103, 119, 0, 0), (196, .iadd, 0, 0, 0, 0), (197, .aload_n 2, 0, 0, 0, 0), (198, .bipush 20, 0, 0, 0, 0), (200, .invokevirtual 23, 103, 119, 0, 0), (203, .ifCond .ne 8, 0, 0, 0, 0), (206, .bipush 10, 0, 0, 0, 0), (208, .goto 11, 0, 0, 0, 0), (211, .iconst 1, 0, 0, 0, 0), (212, .aload_n 2, 0, 0, 0, 0), (213, .bipush 9, 0, 0, 0, 0), (215, .invokevirtual 23, 103, 119, 0, 0), (218, .iadd, 0, 0, 0, 0), (219, .invokevirtual 43, 107, 54, 0, 0), (222, .ireturn, 0, 0, 0, 0), (223, .aload_n 0, 0, 0, 0, 0), (224, .iload 4, 0, 0, 0, 0), (226, .aload_n 2, 0, 0, 0, 0), (227, .bipush 20, 0, 0, 0, 0), (229, .invokevirtual 23, 103, 119, 0, 0), (232, .ifCond .ne 8, 0, 0, 0, 0), (235, .bipush 31, 0, 0, 0, 0), (237, .goto 23, 0, 0, 0, 0), (240, .iconst 1, 0, 0, 0, 0), (241, .aload_n 2, 0, 0, 0, 0), (242, .aload_n 2, 0, 0, 0, 0), (243, .iconst 4, 0, 0, 0, 0), (244, .invokevirtual 23, 103, 119, 0, 0), (247, .ifCond .ne 8, 0, 0, 0, 0), (250, .bipush 20, 0, 0, 0, 0), (252, .goto 4, 0, 0, 0, 0), (255, .iconst 4, 0, 0, 0, 0), (256, .invokevirtual 23, 103, 119, 0, 0), (259, .iadd, 0, 0, 0, 0), (260, .invokevirtual 47, 108, 55, 0, 0), (263, .ireturn, 0, 0, 0, 0), (264, .aload_n 0, 0, 0, 0, 0), (265, .iload 4, 0, 0, 0, 0), (267, .iload_n 3, 0, 0, 0, 0), (268, .aload_n 2, 0, 0, 0, 0), (269, .bipush 20, 0, 0, 0, 0), (271, .invokevirtual 23, 103, 119, 0, 0), (274, .ifCond .ne 8, 0, 0, 0, 0), (277, .bipush 91, 0, 0, 0, 0), (279, .goto 24, 0, 0, 0, 0), (282, .iconst 1, 0, 0, 0, 0), (283, .aload_n 2, 0, 0, 0, 0), (284, .aload_n 2, 0, 0, 0, 0), (285, .iconst 3, 0, 0, 0, 0), (286, .invokevirtual 23, 103, 119, 0, 0), (289, .ifCond .ne 8, 0, 0, 0, 0), (292, .bipush 90, 0, 0, 0, 0), (294, .goto 5, 0, 0, 0, 0), (297, .bipush 20, 0, 0, 0, 0), (299, .invokevirtual 23, 103, 119, 0, 0), (302, .iadd, 0, 0, 0, 0), (303, .invokevirtual 50, 109, 56, 0, 0), (306, .ireturn, 0, 0, 0, 0), (307, .aload_n 0, 0, 0, 0, 0), (308, .iload_n 3, 0, 0, 0, 0), (309, .iload 4, 0, 0, 0, 0), (311, .aload_n 2, 0, 0, 0, 0), (312, .bipush 20, 0, 0, 0, 0), (314, .invokevirtual 23, 103, 119, 0, 0), (317, .ifCond .ne 8, 0, 0, 0, 0), (320, .bipush 25, 0, 0, 0, 0), (322, .goto 23, 0, 0, 0, 0), (325, .iconst 1, 0, 0, 0, 0), (326, .aload_n 2, 0, 0, 0, 0), (327, .aload_n 2, 0, 0, 0, 0), (328, .iconst 3, 0, 0, 0, 0), (329, .invokevirtual 23, 103, 119, 0, 0), (332, .ifCond .ne 8, 0, 0, 0, 0), (335, .bipush 24, 0, 0, 0, 0), (337, .goto 4, 0, 0, 0, 0), (340, .iconst 5, 0, 0, 0, 0), (341, .invokevirtual 23, 103, 119, 0, 0), (344, .iadd, 0, 0, 0, 0), (345, .invokevirtual 53, 110, 57, 0, 0), (348, .ireturn, 0, 0, 0, 0), (349, .aload_n 0, 0, 0, 0, 0), (350, .iload 4, 0, 0, 0, 0), (352, .aload_n 2, 0, 0, 0, 0), (353, .bipush 20, 0, 0, 0, 0), (355, .invokevirtual 23, 103, 119, 0, 0), (358, .ifCond .ne 8, 0, 0, 0, 0), (361, .bipush 31, 0, 0, 0, 0), (363, .goto 23, 0, 0, 0, 0), (366, .iconst 1, 0, 0, 0, 0), (367, .aload_n 2, 0, 0, 0, 0), (368, .aload_n 2, 0, 0, 0, 0), (369, .iconst 3, 0, 0, 0, 0), (370, .invokevirtual 23, 103, 119, 0, 0), (373, .ifCond .ne 8, 0, 0, 0, 0), (376, .bipush 12, 0, 0, 0, 0), (378, .goto 4, 0, 0, 0, 0), (381, .iconst 4, 0, 0, 0, 0), (382, .invokevirtual 23, 103, 119, 0, 0), (385, .iadd, 0, 0, 0, 0), (386, .invokevirtual 56, 111, 59, 0, 0), (389, .ireturn, 0, 0, 0, 0), (390, .aload_n 0, 0, 0, 0, 0), (391, .invokevirtual 59, 112, 60, 0, 0), (394, .ireturn, 0, 0, 0, 0), (395, .aload_n 0, 0, 0, 0, 0), (396, .iload_n 3, 0, 0, 0, 0), (397, .iconst 1, 0, 0, 0, 0), (398, .aload_n 2, 0, 0, 0, 0), (399, .bipush 6, 0, 0, 0, 0), (401, .invokevirtual 23, 103, 119, 0, 0), (404, .iadd, 0, 0, 0, 0), (405, .iconst 1, 0, 0, 0, 0), (406, .aload_n 2, 0, 0, 0, 0), (407, .bipush 9, 0, 0, 0, 0), (409, .invokevirtual 23, 103, 119, 0, 0), (412, .iadd, 0, 0, 0, 0), (413, .invokevirtual 62, 113, 63, 0, 0), (416, .ireturn, 0, 0, 0, 0), (417, .aload_n 0, 0, 0, 0, 0), (418, .iload_n 3, 0, 0, 0, 0), (419, .aload_n 2, 0, 0, 0, 0), (420, .bipush 6, 0, 0, 0, 0), (422, .invokestatic 34, 105, 108, 1, 0), (425, .invokevirtual 65, 114, 64, 0, 0), (428, .ireturn, 0, 0, 0, 0), (429, .aload_n 0, 0, 0, 0, 0), (430, .iload_n 3, 0, 0, 0, 0), (431, .invokevirtual 68, 115, 65, 0, 0), (434, .ireturn, 0, 0, 0, 0), (435, .aload_n 0, 0, 0, 0, 0), (436, .aload_n 2, 0, 0, 0, 0), (437, .bipush 20, 0, 0, 0, 0), (439, .invokevirtual 23, 103, 119, 0, 0), (442, .ifCond .ne 8, 0, 0, 0, 0), (445, .bipush 25, 0, 0, 0, 0), (447, .goto 10, 0, 0, 0, 0), (450, .iconst 1, 0, 0, 0, 0), (451, .aload_n 2, 0, 0, 0, 0), (452, .iconst 5, 0, 0, 0, 0), (453, .invokevirtual 23, 103, 119, 0, 0), (456, .iadd, 0, 0, 0, 0), (457, .invokevirtual 71, 116, 66, 0, 0), (460, .ireturn, 0, 0, 0, 0)]
def e_L_line : List Ent := [(0, .new 74, 0, 0, 0, 0), (3, .dup, 0, 0, 0, 0), (4, .invokespecial 76, 117, 122, 4, 0), (7, .astore_n 2, 0, 0, 0, 0), (8, .iconst 0, 0, 0, 0, 0), (9, .istore_n 3, 0, 0, 0, 0), (10, .iload_n 3, 0, 0, 0, 0), (11, .iload_n 1, 0, 0, 0, 0), (12, .if_icmp .ge 20, 0, 0, 0, 0), (15, .aload_n 2, 0, 0, 0, 0), (16, .aload_n 0, 0, 0, 0, 0), (17, .iload_n 3, 0, 0, 0, 0), (18, .invokevirtual 77, 118, 78, 0, 0), (21, .i2c, 0, 0, 0, 0), (22, .invokevirtual 80, 119, 189, 0, 0), (25, .pop, 0, 0, 0, 0), (26, .iinc 3 1, 0, 0, 0, 0), (29, .goto (-19), 0, 0, 0, 0), (32, .aload_n 2, 0, 0, 0, 0), (33, .invokevirtual 83, 120, 135, 0, 0), (36, .areturn, 0, 0, 0, 0)]
def e_L_told : List Ent := [(0, .new 74, 0, 0, 0, 0), (3, .dup, 0, 0, 0, 0), (4, .aload_n 0, 0, 0, 0, 0), (5, .aload_n 0, 0, 0, 0, 0), (6, .invokevirtual 87, 121, 77, 0, 0), (9, .invokestatic 90, 122, 110, 1, 0), (12, .invokespecial 94, 123, 123, 4, 0), (15, .astore_n 1, 0, 0, 0, 0), (16, .iconst 0, 0, 0, 0, 0), (17, .istore_n 2, 0, 0, 0, 0), (18, .iload_n 2, 0, 0, 0, 0), (19, .bipush 12, 0, 0, 0, 0), (21, .if_icmp .ge 24, 0, 0, 0, 0), (24, .aload_n 1, 0, 0, 0, 0), (25, .bipush 44, 0, 0, 0, 0), (27, .invokevirtual 80, 119, 189, 0, 0), (30, .aload_n 0, 0, 0, 0, 0), (31, .iload_n 2, 0, 0, 0, 0), (32, .invokevirtual 40, 106, 80, 0, 0), (35, .invokevirtual 97, 124, 190, 0, 0), (38, .pop, 0, 0, 0, 0), (39, .iinc 2 1, 0, 0, 0, 0), (42, .goto (-24), 0, 0, 0, 0), (45, .iconst 0, 0, 0, 0, 0), (46, .istore_n 2, 0, 0, 0, 0), (47, .iload_n 2, 0, 0, 0, 0), (48, .aload_n 0, 0, 0, 0, 0), (49, .iconst 0, 0, 0, 0, 0), (50, .invokevirtual 40, 106, 80, 0, 0), (53, .if_icmp .ge 58, 0, 0, 0, 0), (56, .aload_n 1, 0, 0, 0, 0), (57, .bipush 59, 0, 0, 0, 0), (59, .invokevirtual 80, 119, 189, 0, 0), (62, .aload_n 0, 0, 0, 0, 0), (63, .aload_n 0, 0, 0, 0, 0), (64, .iload_n 2, 0, 0, 0, 0), (65, .invokevirtual 100, 125, 76, 0, 0), (68, .invokestatic 90, 122, 110, 1, 0), (71, .invokevirtual 103, 126, 126, 0, 0), (74, .bipush 47, 0, 0, 0, 0), (76, .invokevirtual 80, 119, 189, 0, 0), (79, .aload_n 0, 0, 0, 0, 0), (80, .iload_n 2, 0, 0, 0, 0), (81, .bipush 6, 0, 0, 0, 0), (83, .invokevirtual 106, 127, 58, 0, 0), (86, .invokevirtual 97, 124, 190, 0, 0), (89, .bipush 44, 0, 0, 0, 0), (91, .invokevirtual 80, 119, 189, 0, 0), (94, .aload_n 0, 0, 0, 0, 0), (95, .iload_n 2, 0, 0, 0, 0), (96, .bipush 7, 0, 0, 0, 0), (98, .invokevirtual 106, 127, 58, 0, 0), (101, .invokevirtual 97, 124, 190, 0, 0), (104, .pop, 0, 0, 0, 0), (105, .iinc 2 1, 0, 0, 0, 0), (108, .goto (-61), 0, 0, 0, 0), (111, .iconst 0, 0, 0, 0, 0), (112, .istore_n 2, 0, 0, 0, 0), (113, .iload_n 2, 0, 0, 0, 0), (114, .bipush 6, 0, 0, 0, 0), (116, .if_icmp .ge 25, 0, 0, 0, 0), (119, .aload_n 1, 0, 0, 0, 0), (120, .bipush 59, 0, 0, 0, 0), (122, .invokevirtual 80, 119, 189, 0, 0), (125, .aload_n 0, 0, 0, 0, 0), (126, .iload_n 2, 0, 0, 0, 0), (127, .iconst 1, 0, 0, 0, 0), (128, .invokevirtual 109, 128, 67, 0, 0), (131, .invokevirtual 97, 124, 190, 0, 0), (134, .pop, 0, 0, 0, 0), (135, .iinc 2 1, 0, 0, 0, 0), (138, .goto (-25), 0, 0, 0, 0), (141, .aload_n 1, 0, 0, 0, 0), (142, .invokevirtual 83, 120, 135, 0, 0), (145, .areturn, 0, 0, 0, 0)]
def e_L_stock : List Ent := [(0, .aload_n 0, 0, 0, 0, 0), (1, .iconst 0, 0, 0, 0, 0), (2, .bipush 20, 0, 0, 0, 0), (4, .iconst 3, 0, 0, 0, 0), (5, .invokevirtual 43, 107, 54, 0, 0), (8, .aload_n 0, 0, 0, 0, 0), (9, .iconst 0, 0, 0, 0, 0), (10, .bipush 9, 0, 0, 0, 0), (12, .iconst 2, 0, 0, 0, 0), (13, .invokevirtual 43, 107, 54, 0, 0), (16, .iadd, 0, 0, 0, 0), (17, .aload_n 0, 0, 0, 0, 0), (18, .iconst 1, 0, 0, 0, 0), (19, .bipush 30, 0, 0, 0, 0), (21, .iconst 5, 0, 0, 0, 0), (22, .invokevirtual 43, 107, 54, 0, 0), (25, .iadd, 0, 0, 0, 0), (26, .aload_n 0, 0, 0, 0, 0), (27, .iconst 2, 0, 0, 0, 0), (28, .bipush 12, 0, 0, 0, 0), (30, .iconst 1, 0, 0, 0, 0), (31, .invokevirtual 43, 107, 54, 0, 0), (34, .iadd, 0, 0, 0, 0), (35, .aload_n 0, 0, 0, 0, 0), (36, .iconst 1, 0, 0, 0, 0), (37, .bipush 6, 0, 0, 0, 0), (39, .bipush 9, 0, 0, 0, 0), (41, .invokevirtual 43, 107, 54, 0, 0), (44, .iadd, 0, 0, 0, 0), (45, .istore_n 1, 0, 0, 0, 0), (46, .iload_n 1, 0, 0, 0, 0), (47, .aload_n 0, 0, 0, 0, 0), (48, .iconst 0, 0, 0, 0, 0), (49, .iconst 1, 0, 0, 0, 0), (50, .bipush 40, 0, 0, 0, 0), (52, .invokevirtual 50, 109, 56, 0, 0), (55, .aload_n 0, 0, 0, 0, 0), (56, .iconst 2, 0, 0, 0, 0), (57, .iconst 0, 0, 0, 0, 0), (58, .bipush 7, 0, 0, 0, 0), (60, .invokevirtual 50, 109, 56, 0, 0), (63, .iadd, 0, 0, 0, 0), (64, .aload_n 0, 0, 0, 0, 0), (65, .iconst 3, 0, 0, 0, 0), (66, .iconst 1, 0, 0, 0, 0), (67, .iconst 5, 0, 0, 0, 0), (68, .invokevirtual 50, 109, 56, 0, 0), (71, .iadd, 0, 0, 0, 0), (72, .aload_n 0, 0, 0, 0, 0), (73, .iconst 2, 0, 0, 0, 0), (74, .iconst 1, 0, 0, 0, 0), (75, .iconst 4, 0, 0, 0, 0), (76, .invokevirtual 53, 110, 57, 0, 0), (79, .iadd, 0, 0, 0, 0), (80, .aload_n 0, 0, 0, 0, 0), (81, .iconst 2, 0, 0, 0, 0), (82, .bipush 11, 0, 0, 0, 0), (84, .invokevirtual 56, 111, 59, 0, 0), (87, .iadd, 0, 0, 0, 0), (88, .aload_n 0, 0, 0, 0, 0), (89, .iconst 3, 0, 0, 0, 0), (90, .iconst 2, 0, 0, 0, 0), (91, .invokevirtual 56, 111, 59, 0, 0), (94, .iadd, 0, 0, 0, 0), (95, .iadd, 0, 0, 0, 0), (96, .istore_n 1, 0, 0, 0, 0), (97, .iload_n 1, 0, 0, 0, 0), (98, .aload_n 0, 0, 0, 0, 0), (99, .iconst 0, 0, 0, 0, 0), (100, .iconst 4, 0, 0, 0, 0), (101, .invokevirtual 47, 108, 55, 0, 0), (104, .iadd, 0, 0, 0, 0), (105, .aload_n 0, 0, 0, 0, 0), (106, .invokevirtual 59, 112, 60, 0, 0), (109, .iadd, 0, 0, 0, 0), (110, .aload_n 0, 0, 0, 0, 0), (111, .iconst 2, 0, 0, 0, 0), (112, .invokevirtual 71, 116, 66, 0, 0), (115, .iadd, 0, 0, 0, 0), (116, .aload_n 0, 0, 0, 0, 0), (117, .iconst 4, 0, 0, 0, 0), (118, .iconst 2, 0, 0, 0, 0), (119, .invokevirtual 65, 114, 64, 0, 0), (122, .iadd, 0, 0, 0, 0), (123, .aload_n 0, 0, 0, 0, 0), (124, .iconst 4, 0, 0, 0, 0), (125, .iconst 3, 0, 0, 0, 0), (126, .invokevirtual 56, 111, 59, 0, 0), (129, .iadd, 0, 0, 0, 0), (130, .ireturn, 0, 0, 0, 0)]
def e_L_stubs : List Ent := [(0, .aload_n 0, 0, 0, 0, 0), (1, .iconst 0, 0, 0, 0, 0), (2, .invokevirtual 40, 106, 80, 0, 0), (5, .istore_n 1, 0, 0, 0, 0), (6, .iconst 3, 0, 0, 0, 0), (7, .newarray .int, 0, 0, 0, 0), (9, .astore_n 2, 0, 0, 0, 0), (10, .iconst (-1), 0, 0, 0, 0), (11, .istore_n 3, 0, 0, 0, 0), (12, .iconst 0, 0, 0, 0, 0), (13, .istore 4, 0, 0, 0, 0), (15, .iload 4, 0, 0, 0, 0), (17, .iload_n 1, 0, 0, 0, 0), (18, .if_icmp .ge 479, 0, 0, 0, 0), (21, .aload_n 0, 0, 0, 0, 0), (22, .iload 4, 0, 0, 0, 0), (24, .iconst 0, 0, 0, 0, 0), (25, .invokevirtual 106, 127, 58, 0, 0), (28, .istore 5, 0, 0, 0, 0), (30, .aload_n 0, 0, 0, 0, 0), (31, .iload 4, 0, 0, 0, 0), (33, .iconst 3, 0, 0, 0, 0), (34, .invokevirtual 106, 127, 58, 0, 0), (37, .istore 6, 0, 0, 0, 0), (39, .aload_n 0, 0, 0, 0, 0), (40, .iload 4, 0, 0, 0, 0), (42, .bipush 6, 0, 0, 0, 0), (44, .invokevirtual 106, 127, 58, 0, 0), (47, .istore 7, 0, 0, 0, 0), (49, .new 74, 0, 0, 0, 0), (52, .dup, 0, 0, 0, 0), (53, .invokespecial 76, 117, 122, 4, 0), (56, .iload 4, 0, 0, 0, 0), (58, .invokevirtual 97, 124, 190, 0, 0), (61, .ldc 112, 10, 1, 10, 0), (63, .invokevirtual 103, 126, 126, 0, 0), (66, .iload 5, 0, 0, 0, 0), (68, .invokevirtual 97, 124, 190, 0, 0), (71, .ldc 114, 11, 1, 11, 0), (73, .invokevirtual 103, 126, 126, 0, 0), (76, .aload_n 0, 0, 0, 0, 0), (77, .iload 4, 0, 0, 0, 0), (79, .iconst 1, 0, 0, 0, 0), (80, .invokevirtual 106, 127, 58, 0, 0), (83, .invokevirtual 97, 124, 190, 0, 0), (86, .ldc 116, 12, 1, 12, 0), (88, .invokevirtual 103, 126, 126, 0, 0), (91, .aload_n 0, 0, 0, 0, 0), (92, .iload 4, 0, 0, 0, 0), (94, .iconst 2, 0, 0, 0, 0), (95, .invokevirtual 106, 127, 58, 0, 0), (98, .invokevirtual 97, 124, 190, 0, 0), (101, .iload 6, 0, 0, 0, 0), (103, .ifCond .lt 41, 0, 0, 0, 0), (106, .new 74, 0, 0, 0, 0), (109, .dup, 0, 0, 0, 0), (110, .invokespecial 76, 117, 122, 4, 0), (113, .ldc 118, 13, 1, 13, 0), (115, .invokevirtual 103, 126, 126, 0, 0), (118, .iload 6, 0, 0, 0, 0), (120, .invokevirtual 97, 124, 190, 0, 0), (123, .ldc 120, 14, 1, 14, 0), (125, .invokevirtual 103, 126, 126, 0, 0), (128, .aload_n 0, 0, 0, 0, 0), (129, .iload 4, 0, 0, 0, 0), (131, .iconst 4, 0, 0, 0, 0), (132, .invokevirtual 106, 127, 58, 0, 0), (135, .invokevirtual 97, 124, 190, 0, 0), (138, .invokevirtual 83, 120, 135, 0, 0), (141, .goto 5, 0, 0, 0, 0), (144, .ldc 122, 15, 1, 9, 0), (146, .invokevirtual 103, 126, 126, 0, 0), (149, .iload 7, 0, 0, 0, 0), (151, .ifCond .lt 31, 0, 0, 0, 0), (154, .new 74, 0, 0, 0, 0), (157, .dup, 0, 0, 0, 0), (158, .invokespecial 76, 117, 122, 4, 0), (161, .ldc 124, 16, 1, 15, 0), (163, .invokevirtual 103, 126, 126, 0, 0), (166, .aload_n 0, 0, 0, 0, 0), (167, .iload 4, 0, 0, 0, 0), (169, .iconst 5, 0, 0, 0, 0), (170, .invokevirtual 106, 127, 58, 0, 0), (173, .invokevirtual 97, 124, 190, 0, 0), (176, .invokevirtual 83, 120, 135, 0, 0), (179, .goto 5, 0, 0, 0, 0), (182, .ldc 122, 15, 1, 9, 0), (184, .invokevirtual 103, 126, 126, 0, 0), (187, .invokevirtual 83, 120, 135, 0, 0), (190, .astore 8, 0, 0, 0, 0), (192, .aload_n 0, 0, 0, 0, 0), (193, .iload 5, 0, 0, 0, 0), (195, .iconst 0, 0, 0, 0, 0), (196, .invokevirtual 109, 128, 67, 0, 0), (199, .iconst 1, 0, 0, 0, 0), (200, .if_icmp .ne 87, 0, 0, 0, 0), (203, .iload 6, 0, 0, 0, 0), (205, .iload 5, 0, 0, 0, 0), (207, .if_icmp .eq 80, 0, 0, 0, 0), (210, .iload 7, 0, 0, 0, 0), (212, .iload 5, 0, 0, 0, 0), (214, .if_icmp .eq 73, 0, 0, 0, 0), (217, .iload 6, 0, 0, 0, 0), (219, .ifCond .lt 7, 0, 0, 0, 0), (222, .iconst 1, 0, 0, 0, 0), (223, .goto 4, 0, 0, 0, 0), (226, .iconst 0, 0, 0, 0, 0), (227, .aload_n 0, 0, 0, 0, 0), (228, .iload 4, 0, 0, 0, 0), (230, .iconst 4, 0, 0, 0, 0), (231, .invokevirtual 106, 127, 58, 0, 0), (234, .ifCond .le 7, 0, 0, 0, 0), (237, .iconst 1, 0, 0, 0, 0), (238, .goto 4, 0, 0, 0, 0), (241, .iconst 0, 0, 0, 0, 0), (242, .if_icmp .ne 45, 0, 0, 0, 0), (245, .iload 7, 0, 0, 0, 0), (247, .ifCond .lt 7, 0, 0, 0, 0), (250, .iconst 1, 0, 0, 0, 0), (251, .goto 4, 0, 0, 0, 0), (254, .iconst 0, 0, 0, 0, 0), (255, .aload_n 0, 0, 0, 0, 0), (256, .iload 4, 0, 0, 0, 0), (258, .iconst 5, 0, 0, 0, 0), (259, .invokevirtual 106, 127, 58, 0, 0), (262, .ifCond .le 7, 0, 0, 0, 0), (265, .iconst 1, 0, 0, 0, 0), (266, .goto 4, 0, 0, 0, 0), (269, .iconst 0, 0, 0, 0, 0), (270, .if_icmp .ne 17, 0, 0, 0, 0), (273, .aload_n 0, 0, 0, 0, 0), (274, .iload 4, 0, 0, 0, 0), (276, .iconst 1, 0, 0, 0, 0), (277, .invokevirtual 106, 127, 58, 0, 0), (280, .ifCond .le 7, 0, 0, 0, 0), (283, .iconst 1, 0, 0, 0, 0), (284, .goto 4, 0, 0, 0, 0), (287, .iconst 0, 0, 0, 0, 0), (288, .istore 9, 0, 0, 0, 0), (290, .iload 9, 0, 0, 0, 0), (292, .iload 6, 0, 0, 0, 0), (294, .ifCond .lt 14, 0, 0, 0, 0), (297, .aload_n 0, 0, 0, 0, 0), (298, .iload 6, 0, 0, 0, 0), (300, .iconst 0, 0, 0, 0, 0), (301, .invokevirtual 109, 128, 67, 0, 0), (304, .iconst 1, 0, 0, 0, 0), (305, .if_icmp .ne 23, 0, 0, 0, 0), (308, .iload 7, 0, 0, 0, 0), (310, .ifCond .lt 14, 0, 0, 0, 0), (313, .aload_n 0, 0, 0, 0, 0), (314, .iload 7, 0, 0, 0, 0), (316, .iconst 0, 0, 0, 0, 0), (317, .invokevirtual 109, 128, 67, 0, 0), (320, .iconst 1, 0, 0, 0, 0), (321, .if_icmp .ne 7, 0, 0, 0, 0), (324, .iconst 1, 0, 0, 0, 0), (325, .goto 4, 0, 0, 0, 0), (328, .iconst 0, 0, 0, 0, 0), (329, .iand, 0, 0, 0, 0), (330, .istore 9, 0, 0, 0, 0), (332, .aload_n 0, 0, 0, 0, 0), (333, .iload 4, 0, 0, 0, 0), (335, .invokevirtual 126, 129, 73, 0, 0), (338, .istore 10, 0, 0, 0, 0), (340, .iload_n 3, 0, 0, 0, 0), (341, .ifCond .ge 7, 0, 0, 0, 0), (344, .iconst 1, 0, 0, 0, 0), (345, .goto 32, 0, 0, 0, 0), (348, .aload_n 0, 0, 0, 0, 0), (349, .iload_n 3, 0, 0, 0, 0), (350, .iconst 1, 0, 0, 0, 0), (351, .invokevirtual 106, 127, 58, 0, 0), (354, .aload_n 0, 0, 0, 0, 0), (355, .iload_n 3, 0, 0, 0, 0), (356, .iconst 2, 0, 0, 0, 0), (357, .invokevirtual 106, 127, 58, 0, 0), (360, .imul, 0, 0, 0, 0), (361, .aload_n 0, 0, 0, 0, 0), (362, .iload 10, 0, 0, 0, 0), (364, .iconst 1, 0, 0, 0, 0), (365, .invokevirtual 106, 127, 58, 0, 0), (368, .aload_n 0, 0, 0, 0, 0), (369, .iload 10, 0, 0, 0, 0), (371, .iconst 2, 0, 0, 0, 0), (372, .invokevirtual 106, 127, 58, 0, 0), (375, .imul, 0, 0, 0, 0), (376, .isub, 0, 0, 0, 0), (377, .istore 11, 0, 0, 0, 0), (379, .iload 11, 0, 0, 0, 0), (381, .ifCond .eq 8, 0, 0, 0, 0), (384, .iload 11, 0, 0, 0, 0), (386, .goto 17, 0, 0, 0, 0), (389, .aload_n 0, 0, 0, 0, 0), (390, .iload 10, 0, 0, 0, 0), (392, .iconst 4, 0, 0, 0, 0), (393, .invokevirtual 106, 127, 58, 0, 0), (396, .aload_n 0, 0, 0, 0, 0), (397, .iload_n 3, 0, 0, 0, 0), (398, .iconst 4, 0, 0, 0, 0), (399, .invokevirtual 106, 127, 58, 0, 0), (402, .isub, 0, 0, 0, 0), (403, .istore 11, 0, 0, 0, 0), (405, .aload_n 2, 0, 0, 0, 0), (406, .iconst 0, 0, 0, 0, 0), (407, .dup2, 0, 0, 0, 0), (408, .iaload, 0, 0, 0, 0), (409, .aload_n 0, 0, 0, 0, 0), (410, .iload 4, 0, 0, 0, 0), (412, .iconst 1, 0, 0, 0, 0), (413, .invokevirtual 106, 127, 58, 0, 0), (416, .iadd, 0, 0, 0, 0), (417, .iastore, 0, 0, 0, 0), (418, .aload_n 2, 0, 0, 0, 0), (419, .iconst 1, 0, 0, 0, 0), (420, .dup2, 0, 0, 0, 0), (421, .iaload, 0, 0, 0, 0), (422, .aload_n 0, 0, 0, 0, 0), (423, .iload 4, 0, 0, 0, 0), (425, .iconst 4, 0, 0, 0, 0), (426, .invokevirtual 106, 127, 58, 0, 0), (429, .iadd, 0, 0, 0, 0), (430, .iastore, 0, 0, 0, 0), (431, .aload_n 2, 0, 0, 0, 0), (432, .iconst 2, 0, 0, 0, 0), (433, .dup2, 0, 0, 0, 0), (434, .iaload, 0, 0, 0, 0), (435, .iload 7, 0, 0, 0, 0), (437, .ifCond .lt 7, 0, 0, 0, 0), (440, .iconst 1, 0, 0, 0, 0), (441, .goto 4, 0, 0, 0, 0), (444, .iconst 0, 0, 0, 0, 0), (445, .iadd, 0, 0, 0, 0), (446, .iastore, 0, 0, 0, 0), (447, .iload 9, 0, 0, 0, 0), (449, .ifCond .eq 37, 0, 0, 0, 0), (452, .iload 11, 0, 0, 0, 0), (454, .ifCond .lt 32, 0, 0, 0, 0), (457, .iload 11, 0, 0, 0, 0), (459, .ifCond .ne 9, 0, 0, 0, 0), (462, .iload 10, 0, 0, 0, 0), (464, .iload_n 3, 0, 0, 0, 0), (465, .if_icmp .lt 21, 0, 0, 0, 0), (468, .aload_n 0, 0, 0, 0, 0), (469, .aload_n 0, 0, 0, 0, 0), (470, .iload 4, 0, 0, 0, 0), (472, .invokevirtual 100, 125, 76, 0, 0), (475, .invokestatic 90, 122, 110, 1, 0), (478, .aload 8, 0, 0, 0, 0), (480, .invokevirtual 129, 130, 142, 0, 0), (483, .ifCond .ne 5, 0, 0, 0, 0), (486, .iconst 0, 0, 0, 0, 0), (487, .ireturn, 0, 0, 0, 0), (488, .iload 10, 0, 0, 0, 0), (490, .istore_n 3, 0, 0, 0, 0), (491, .iinc 4 1, 0, 0, 0, 0), (494, .goto (-479), 0, 0, 0, 0), (497, .iload_n 1, 0, 0, 0, 0), (498, .ifCond .ne 7, 0, 0, 0, 0), (501, .dconst 0, 0, 0, 0, 0), (502, .goto 10, 0, 0, 0, 0), (505, .aload_n 2, 0, 0, 0, 0), (506, .iconst 0, 0, 0, 0, 0), (507, .iaload, 0, 0, 0, 0), (508, .i2d, 0, 0, 0, 0), (509, .iload_n 1, 0, 0, 0, 0), (510, .i2d, 0, 0, 0, 0), (511, .ddiv, 0, 0, 0, 0), (512, .dstore 4, 0, 0, 0, 0), (514, .iload_n 1, 0, 0, 0, 0), (515, .ifCond .ne 7, 0, 0, 0, 0), (518, .fconst 0, 0, 0, 0, 0), (519, .goto 10, 0, 0, 0, 0), (522, .aload_n 2, 0, 0, 0, 0), (523, .iconst 2, 0, 0, 0, 0), (524, .iaload, 0, 0, 0, 0), (525, .i2f, 0, 0, 0, 0), (526, .iload_n 1, 0, 0, 0, 0), (527, .i2f, 0, 0, 0, 0), (528, .fdiv, 0, 0, 0, 0), (529, .fstore 6, 0, 0, 0, 0), (531, .aload_n 0, 0, 0, 0, 0), (532, .iconst 2, 0, 0, 0, 0), (533, .invokevirtual 40, 106, 80, 0, 0), (536, .aload_n 2, 0, 0, 0, 0), (537, .iconst 2, 0, 0, 0, 0), (538, .iaload, 0, 0, 0, 0), (539, .if_icmp .ne 78, 0, 0, 0, 0), (542, .aload_n 0, 0, 0, 0, 0), (543, .iconst 3, 0, 0, 0, 0), (544, .invokevirtual 40, 106, 80, 0, 0), (547, .aload_n 2, 0, 0, 0, 0), (548, .iconst 0, 0, 0, 0, 0), (549, .iaload, 0, 0, 0, 0), (550, .if_icmp .ne 67, 0, 0, 0, 0), (553, .aload_n 0, 0, 0, 0, 0), (554, .bipush 10, 0, 0, 0, 0), (556, .invokevirtual 40, 106, 80, 0, 0), (559, .aload_n 2, 0, 0, 0, 0), (560, .iconst 1, 0, 0, 0, 0), (561, .iaload, 0, 0, 0, 0), (562, .if_icmp .ne 55, 0, 0, 0, 0), (565, .aload_n 0, 0, 0, 0, 0), (566, .invokevirtual 133, 131, 120, 0, 0), (569, .dload 4, 0, 0, 0, 0), (571, .dcmp .l, 0, 0, 0, 0), (572, .ifCond .ne 45, 0, 0, 0, 0), (575, .aload_n 0, 0, 0, 0, 0), (576, .invokevirtual 137, 132, 121, 0, 0), (579, .fload 6, 0, 0, 0, 0), (581, .fcmp .l, 0, 0, 0, 0), (582, .ifCond .ne 35, 0, 0, 0, 0), (585, .aload_n 0, 0, 0, 0, 0), (586, .iload_n 1, 0, 0, 0, 0), (587, .invokevirtual 126, 129, 73, 0, 0), (590, .sipush (-1011), 0, 0, 0, 0), (593, .if_icmp .ne 24, 0, 0, 0, 0), (596, .aload_n 0, 0, 0, 0, 0), (597, .iload_n 1, 0, 0, 0, 0), (598, .invokevirtual 100, 125, 76, 0, 0), (601, .sipush (-1011), 0, 0, 0, 0), (604, .if_icmp .ne 13, 0, 0, 0, 0), (607, .iload_n 1, 0, 0, 0, 0), (608, .bipush 12, 0, 0, 0, 0), (610, .if_icmp .gt 7, 0, 0, 0, 0), (613, .iconst 1, 0, 0, 0, 0), (614, .goto 4, 0, 0, 0, 0), (617, .iconst 0, 0, 0, 0, 0), (618, .ireturn, 0, 0, 0, 0)]
def e_L_houses : List Ent := [(0, .iconst 0, 0, 0, 0, 0), (1, .istore_n 1, 0, 0, 0, 0), (2, .iconst 0, 0, 0, 0, 0), (3, .istore_n 2, 0, 0, 0, 0), (4, .iconst 0, 0, 0, 0, 0), (5, .istore_n 3, 0, 0, 0, 0), (6, .iconst 0, 0, 0, 0, 0), (7, .istore 4, 0, 0, 0, 0), (9, .iconst (-1), 0, 0, 0, 0), (10, .istore 5, 0, 0, 0, 0), (12, .new 74, 0, 0, 0, 0), (15, .dup, 0, 0, 0, 0), (16, .invokespecial 76, 117, 122, 4, 0), (19, .astore 6, 0, 0, 0, 0), (21, .iconst 0, 0, 0, 0, 0), (22, .istore 7, 0, 0, 0, 0), (24, .iload 7, 0, 0, 0, 0), (26, .bipush 6, 0, 0, 0, 0), (28, .if_icmp .ge 564, 0, 0, 0, 0), (31, .iconst 0, 0, 0, 0, 0), (32, .istore 8, 0, 0, 0, 0), (34, .iconst 0, 0, 0, 0, 0), (35, .istore 9, 0, 0, 0, 0), (37, .iconst 0, 0, 0, 0, 0), (38, .istore 10, 0, 0, 0, 0), (40, .iconst 0, 0, 0, 0, 0), (41, .istore 11, 0, 0, 0, 0), (43, .aload_n 0, 0, 0, 0, 0), (44, .iload 7, 0, 0, 0, 0), (46, .iconst 0, 0, 0, 0, 0), (47, .invokevirtual 109, 128, 67, 0, 0), (50, .iconst 1, 0, 0, 0, 0), (51, .if_icmp .ne 13, 0, 0, 0, 0), (54, .aload_n 0, 0, 0, 0, 0), (55, .iload 7, 0, 0, 0, 0), (57, .iconst 3, 0, 0, 0, 0), (58, .invokevirtual 109, 128, 67, 0, 0), (61, .goto 4, 0, 0, 0, 0), (64, .iconst 0, 0, 0, 0, 0), (65, .istore 12, 0, 0, 0, 0), (67, .iconst 0, 0, 0, 0, 0), (68, .istore 13, 0, 0, 0, 0), (70, .iload 13, 0, 0, 0, 0), (72, .aload_n 0, 0, 0, 0, 0), (73, .iconst 0, 0, 0, 0, 0), (74, .invokevirtual 40, 106, 80, 0, 0), (77, .if_icmp .ge 138, 0, 0, 0, 0), (80, .aload_n 0, 0, 0, 0, 0), (81, .iload 13, 0, 0, 0, 0), (83, .iconst 0, 0, 0, 0, 0), (84, .invokevirtual 106, 127, 58, 0, 0), (87, .iload 7, 0, 0, 0, 0), (89, .if_icmp .ne 7, 0, 0, 0, 0), (92, .iconst 1, 0, 0, 0, 0), (93, .goto 4, 0, 0, 0, 0), (96, .iconst 0, 0, 0, 0, 0), (97, .istore 14, 0, 0, 0, 0), (99, .iload 8, 0, 0, 0, 0), (101, .iload 14, 0, 0, 0, 0), (103, .ifCond .eq 15, 0, 0, 0, 0), (106, .iconst 1, 0, 0, 0, 0), (107, .aload_n 0, 0, 0, 0, 0), (108, .iload 13, 0, 0, 0, 0), (110, .iconst 1, 0, 0, 0, 0), (111, .invokevirtual 106, 127, 58, 0, 0), (114, .iadd, 0, 0, 0, 0), (115, .goto 4, 0, 0, 0, 0), (118, .iconst 0, 0, 0, 0, 0), (119, .iadd, 0, 0, 0, 0), (120, .istore 8, 0, 0, 0, 0), (122, .iload 9, 0, 0, 0, 0), (124, .iload 14, 0, 0, 0, 0), (126, .ifCond .eq 7, 0, 0, 0, 0), (129, .iconst 1, 0, 0, 0, 0), (130, .goto 4, 0, 0, 0, 0), (133, .iconst 0, 0, 0, 0, 0), (134, .iadd, 0, 0, 0, 0), (135, .istore 9, 0, 0, 0, 0), (137, .iload 11, 0, 0, 0, 0), (139, .iload 14, 0, 0, 0, 0), (141, .ifCond .eq 13, 0, 0, 0, 0), (144, .aload_n 0, 0, 0, 0, 0), (145, .iload 13, 0, 0, 0, 0), (147, .iconst 4, 0, 0, 0, 0), (148, .invokevirtual 106, 127, 58, 0, 0), (151, .goto 4, 0, 0, 0, 0), (154, .iconst 0, 0, 0, 0, 0), (155, .iadd, 0, 0, 0, 0), (156, .istore 11, 0, 0, 0, 0), (158, .iload 10, 0, 0, 0, 0), (160, .aload_n 0, 0, 0, 0, 0), (161, .iload 13, 0, 0, 0, 0), (163, .bipush 6, 0, 0, 0, 0), (165, .invokevirtual 106, 127, 58, 0, 0), (168, .iload 7, 0, 0, 0, 0), (170, .if_icmp .ne 7, 0, 0, 0, 0), (173, .iconst 1, 0, 0, 0, 0), (174, .goto 4, 0, 0, 0, 0), (177, .iconst 0, 0, 0, 0, 0), (178, .iadd, 0, 0, 0, 0), (179, .istore 10, 0, 0, 0, 0), (181, .iload 12, 0, 0, 0, 0), (183, .aload_n 0, 0, 0, 0, 0), (184, .iload 13, 0, 0, 0, 0), (186, .iconst 3, 0, 0, 0, 0), (187, .invokevirtual 106, 127, 58, 0, 0), (190, .iload 7, 0, 0, 0, 0), (192, .if_icmp .ne 13, 0, 0, 0, 0), (195, .aload_n 0, 0, 0, 0, 0), (196, .iload 13, 0, 0, 0, 0), (198, .iconst 4, 0, 0, 0, 0), (199, .invokevirtual 106, 127, 58, 0, 0), (202, .goto 4, 0, 0, 0, 0), (205, .iconst 0, 0, 0, 0, 0), (206, .iadd, 0, 0, 0, 0), (207, .istore 12, 0, 0, 0, 0), (209, .iinc 13 1, 0, 0, 0, 0), (212, .goto (-142), 0, 0, 0, 0), (215, .aload_n 0, 0, 0, 0, 0), (216, .iload 7, 0, 0, 0, 0), (218, .iconst 0, 0, 0, 0, 0), (219, .invokevirtual 109, 128, 67, 0, 0), (222, .iconst 1, 0, 0, 0, 0), (223, .if_icmp .ne 7, 0, 0, 0, 0), (226, .iconst 1, 0, 0, 0, 0), (227, .goto 4, 0, 0, 0, 0), (230, .iconst 0, 0, 0, 0, 0), (231, .istore 13, 0, 0, 0, 0), (233, .iload_n 1, 0, 0, 0, 0), (234, .iload 13, 0, 0, 0, 0), (236, .ifCond .eq 7, 0, 0, 0, 0), (239, .iconst 1, 0, 0, 0, 0), (240, .goto 4, 0, 0, 0, 0), (243, .iconst 0, 0, 0, 0, 0), (244, .iadd, 0, 0, 0, 0), (245, .istore_n 1, 0, 0, 0, 0), (246, .iload_n 2, 0, 0, 0, 0), (247, .aload_n 0, 0, 0, 0, 0), (248, .iload 7, 0, 0, 0, 0), (250, .iconst 2, 0, 0, 0, 0), (251, .invokevirtual 109, 128, 67, 0, 0), (254, .iadd, 0, 0, 0, 0), (255, .istore_n 2, 0, 0, 0, 0), (256, .iload_n 3, 0, 0, 0, 0), (257, .aload_n 0, 0, 0, 0, 0), (258, .iload 7, 0, 0, 0, 0), (260, .iconst 3, 0, 0, 0, 0), (261, .invokevirtual 109, 128, 67, 0, 0), (264, .iadd, 0, 0, 0, 0), (265, .istore_n 3, 0, 0, 0, 0), (266, .iload 4, 0, 0, 0, 0), (268, .iload 12, 0, 0, 0, 0), (270, .iadd, 0, 0, 0, 0), (271, .istore 4, 0, 0, 0, 0), (273, .aload 6, 0, 0, 0, 0), (275, .iload 7, 0, 0, 0, 0), (277, .ifCond .ne 8, 0, 0, 0, 0), (280, .ldc 122, 15, 1, 9, 0), (282, .goto 5, 0, 0, 0, 0), (285, .ldc 141, 17, 1, 16, 0), (287, .invokevirtual 103, 126, 126, 0, 0), (290, .iload 13, 0, 0, 0, 0), (292, .ifCond .eq 31, 0, 0, 0, 0), (295, .new 74, 0, 0, 0, 0), (298, .dup, 0, 0, 0, 0), (299, .invokespecial 76, 117, 122, 4, 0), (302, .ldc 122, 15, 1, 9, 0), (304, .invokevirtual 103, 126, 126, 0, 0), (307, .aload_n 0, 0, 0, 0, 0), (308, .iload 7, 0, 0, 0, 0), (310, .iconst 2, 0, 0, 0, 0), (311, .invokevirtual 109, 128, 67, 0, 0), (314, .invokevirtual 97, 124, 190, 0, 0), (317, .invokevirtual 83, 120, 135, 0, 0), (320, .goto 5, 0, 0, 0, 0), (323, .ldc 143, 18, 1, 17, 0), (325, .invokevirtual 103, 126, 126, 0, 0), (328, .iload 13, 0, 0, 0, 0), (330, .ifCond .eq 41, 0, 0, 0, 0), (333, .aload_n 0, 0, 0, 0, 0), (334, .iload 7, 0, 0, 0, 0), (336, .iconst 3, 0, 0, 0, 0), (337, .invokevirtual 109, 128, 67, 0, 0), (340, .ifCond .le 31, 0, 0, 0, 0), (343, .new 74, 0, 0, 0, 0), (346, .dup, 0, 0, 0, 0), (347, .invokespecial 76, 117, 122, 4, 0), (350, .ldc 145, 19, 1, 18, 0), (352, .invokevirtual 103, 126, 126, 0, 0), (355, .aload_n 0, 0, 0, 0, 0), (356, .iload 7, 0, 0, 0, 0), (358, .iconst 3, 0, 0, 0, 0), (359, .invokevirtual 109, 128, 67, 0, 0), (362, .invokevirtual 97, 124, 190, 0, 0), (365, .invokevirtual 83, 120, 135, 0, 0), (368, .goto 5, 0, 0, 0, 0), (371, .ldc 122, 15, 1, 9, 0), (373, .invokevirtual 103, 126, 126, 0, 0), (376, .pop, 0, 0, 0, 0), (377, .aload_n 0, 0, 0, 0, 0), (378, .iload 7, 0, 0, 0, 0), (380, .invokevirtual 147, 133, 72, 0, 0), (383, .istore 14, 0, 0, 0, 0), (385, .iload 5, 0, 0, 0, 0), (387, .ifCond .ge 7, 0, 0, 0, 0), (390, .iconst 1, 0, 0, 0, 0), (391, .goto 18, 0, 0, 0, 0), (394, .aload_n 0, 0, 0, 0, 0), (395, .iload 5, 0, 0, 0, 0), (397, .iconst 4, 0, 0, 0, 0), (398, .invokevirtual 109, 128, 67, 0, 0), (401, .aload_n 0, 0, 0, 0, 0), (402, .iload 14, 0, 0, 0, 0), (404, .iconst 4, 0, 0, 0, 0), (405, .invokevirtual 109, 128, 67, 0, 0), (408, .isub, 0, 0, 0, 0), (409, .istore 15, 0, 0, 0, 0), (411, .iload 15, 0, 0, 0, 0), (413, .ifCond .eq 8, 0, 0, 0, 0), (416, .iload 15, 0, 0, 0, 0), (418, .goto 18, 0, 0, 0, 0), (421, .aload_n 0, 0, 0, 0, 0), (422, .iload 5, 0, 0, 0, 0), (424, .iconst 2, 0, 0, 0, 0), (425, .invokevirtual 109, 128, 67, 0, 0), (428, .aload_n 0, 0, 0, 0, 0), (429, .iload 14, 0, 0, 0, 0), (431, .iconst 2, 0, 0, 0, 0), (432, .invokevirtual 109, 128, 67, 0, 0), (435, .isub, 0, 0, 0, 0), (436, .istore 15, 0, 0, 0, 0), (438, .aload_n 0, 0, 0, 0, 0), (439, .iload 7, 0, 0, 0, 0), (441, .iconst 4, 0, 0, 0, 0), (442, .invokevirtual 109, 128, 67, 0, 0), (445, .iload 12, 0, 0, 0, 0), (447, .if_icmp .ne 80, 0, 0, 0, 0), (450, .aload_n 0, 0, 0, 0, 0), (451, .iload 7, 0, 0, 0, 0), (453, .iconst 5, 0, 0, 0, 0), (454, .invokevirtual 109, 128, 67, 0, 0), (457, .iload 9, 0, 0, 0, 0), (459, .if_icmp .ne 68, 0, 0, 0, 0), (462, .aload_n 0, 0, 0, 0, 0), (463, .iload 7, 0, 0, 0, 0), (465, .bipush 6, 0, 0, 0, 0), (467, .invokevirtual 109, 128, 67, 0, 0), (470, .iload 10, 0, 0, 0, 0), (472, .if_icmp .ne 55, 0, 0, 0, 0), (475, .aload_n 0, 0, 0, 0, 0), (476, .iload 7, 0, 0, 0, 0), (478, .bipush 7, 0, 0, 0, 0), (480, .invokevirtual 109, 128, 67, 0, 0), (483, .iload 11, 0, 0, 0, 0), (485, .if_icmp .ne 42, 0, 0, 0, 0), (488, .aload_n 0, 0, 0, 0, 0), (489, .iload 7, 0, 0, 0, 0), (491, .invokevirtual 150, 134, 70, 0, 0), (494, .iload 8, 0, 0, 0, 0), (496, .if_icmp .ne 31, 0, 0, 0, 0), (499, .aload_n 0, 0, 0, 0, 0), (500, .iload 7, 0, 0, 0, 0), (502, .invokevirtual 153, 135, 71, 0, 0), (505, .iload 8, 0, 0, 0, 0), (507, .if_icmp .ne 20, 0, 0, 0, 0), (510, .iload 8, 0, 0, 0, 0), (512, .bipush 60, 0, 0, 0, 0), (514, .if_icmp .gt 13, 0, 0, 0, 0), (517, .iload 10, 0, 0, 0, 0), (519, .iconst 2, 0, 0, 0, 0), (520, .if_icmp .gt 7, 0, 0, 0, 0), (523, .iconst 1, 0, 0, 0, 0), (524, .goto 4, 0, 0, 0, 0), (527, .iconst 0, 0, 0, 0, 0), (528, .istore 16, 0, 0, 0, 0), (530, .iload 16, 0, 0, 0, 0), (532, .ifCond .eq 48, 0, 0, 0, 0), (535, .iload 15, 0, 0, 0, 0), (537, .ifCond .lt 43, 0, 0, 0, 0), (540, .iload 15, 0, 0, 0, 0), (542, .ifCond .ne 10, 0, 0, 0, 0), (545, .iload 14, 0, 0, 0, 0), (547, .iload 5, 0, 0, 0, 0), (549, .if_icmp .lt 31, 0, 0, 0, 0), (552, .iload 13, 0, 0, 0, 0), (554, .ifCond .ne 28, 0, 0, 0, 0), (557, .iload 9, 0, 0, 0, 0), (559, .ifCond .gt 21, 0, 0, 0, 0), (562, .aload_n 0, 0, 0, 0, 0), (563, .iload 7, 0, 0, 0, 0), (565, .iconst 2, 0, 0, 0, 0), (566, .invokevirtual 109, 128, 67, 0, 0), (569, .aload_n 0, 0, 0, 0, 0), (570, .iload 7, 0, 0, 0, 0), (572, .iconst 3, 0, 0, 0, 0), (573, .invokevirtual 109, 128, 67, 0, 0), (576, .iadd, 0, 0, 0, 0), (577, .ifCond .le 5, 0, 0, 0, 0), (580, .iconst 0, 0, 0, 0, 0), (581, .ireturn, 0, 0, 0, 0), (582, .iload 14, 0, 0, 0, 0), (584, .istore 5, 0, 0, 0, 0), (586, .iinc 7 1, 0, 0, 0, 0), (589, .goto (-565), 0, 0, 0, 0), (592, .aload_n 0, 0, 0, 0, 0), (593, .iconst 1, 0, 0, 0, 0), (594, .invokevirtual 40, 106, 80, 0, 0), (597, .iload_n 1, 0, 0, 0, 0), (598, .if_icmp .ne 50, 0, 0, 0, 0), (601, .aload_n 0, 0, 0, 0, 0), (602, .iconst 4, 0, 0, 0, 0), (603, .invokevirtual 40, 106, 80, 0, 0), (606, .iload_n 2, 0, 0, 0, 0), (607, .if_icmp .ne 41, 0, 0, 0, 0), (610, .aload_n 0, 0, 0, 0, 0), (611, .iconst 5, 0, 0, 0, 0), (612, .invokevirtual 40, 106, 80, 0, 0), (615, .iload_n 3, 0, 0, 0, 0), (616, .if_icmp .ne 32, 0, 0, 0, 0), (619, .aload_n 0, 0, 0, 0, 0), (620, .bipush 6, 0, 0, 0, 0), (622, .invokevirtual 40, 106, 80, 0, 0), (625, .aload_n 0, 0, 0, 0, 0), (626, .iconst 3, 0, 0, 0, 0), (627, .invokevirtual 40, 106, 80, 0, 0), (630, .iload_n 2, 0, 0, 0, 0), (631, .iadd, 0, 0, 0, 0), (632, .iload_n 3, 0, 0, 0, 0), (633, .iadd, 0, 0, 0, 0), (634, .aload_n 0, 0, 0, 0, 0), (635, .bipush 7, 0, 0, 0, 0), (637, .invokevirtual 40, 106, 80, 0, 0), (640, .iadd, 0, 0, 0, 0), (641, .if_icmp .ne 7, 0, 0, 0, 0), (644, .iconst 1, 0, 0, 0, 0), (645, .goto 4, 0, 0, 0, 0), (648, .iconst 0, 0, 0, 0, 0), (649, .istore 7, 0, 0, 0, 0), (651, .iload 7, 0, 0, 0, 0), (653, .ifCond .eq 64, 0, 0, 0, 0), (656, .aload_n 0, 0, 0, 0, 0), (657, .invokevirtual 156, 136, 81, 0, 0), (660, .iconst 1, 0, 0, 0, 0), (661, .if_icmp .ne 56, 0, 0, 0, 0), (664, .aload_n 0, 0, 0, 0, 0), (665, .aload_n 0, 0, 0, 0, 0), (666, .invokevirtual 87, 121, 77, 0, 0), (669, .invokestatic 90, 122, 110, 1, 0), (672, .aload 6, 0, 0, 0, 0), (674, .invokevirtual 83, 120, 135, 0, 0), (677, .invokevirtual 129, 130, 142, 0, 0), (680, .ifCond .eq 37, 0, 0, 0, 0), (683, .aload_n 0, 0, 0, 0, 0), (684, .bipush 6, 0, 0, 0, 0), (686, .invokevirtual 147, 133, 72, 0, 0), (689, .sipush (-1011), 0, 0, 0, 0), (692, .if_icmp .ne 25, 0, 0, 0, 0), (695, .aload_n 0, 0, 0, 0, 0), (696, .iload_n 3, 0, 0, 0, 0), (697, .iload 4, 0, 0, 0, 0), (699, .invokestatic 159, 137, 115, 1, 0), (702, .ifCond .eq 15, 0, 0, 0, 0), (705, .aload_n 0, 0, 0, 0, 0), (706, .iload_n 1, 0, 0, 0, 0), (707, .invokestatic 163, 138, 116, 1, 0), (710, .ifCond .eq 7, 0, 0, 0, 0), (713, .iconst 1, 0, 0, 0, 0), (714, .goto 4, 0, 0, 0, 0), (717, .iconst 0, 0, 0, 0, 0), (718, .ireturn, 0, 0, 0, 0)]
def e_L_parts : List Ent := [(0, .iconst 0, 0, 0, 0, 0), (1, .istore_n 3, 0, 0, 0, 0), (2, .iconst 0, 0, 0, 0, 0), (3, .istore 4, 0, 0, 0, 0), (5, .iload 4, 0, 0, 0, 0), (7, .bipush 6, 0, 0, 0, 0), (9, .if_icmp .ge 196, 0, 0, 0, 0), (12, .aload_n 0, 0, 0, 0, 0), (13, .iload 4, 0, 0, 0, 0), (15, .invokevirtual 167, 139, 61, 0, 0), (18, .istore 5, 0, 0, 0, 0), (20, .iload_n 2, 0, 0, 0, 0), (21, .ifCond .ne 7, 0, 0, 0, 0), (24, .iconst 0, 0, 0, 0, 0), (25, .goto 14, 0, 0, 0, 0), (28, .iload_n 1, 0, 0, 0, 0), (29, .aload_n 0, 0, 0, 0, 0), (30, .iload 4, 0, 0, 0, 0), (32, .iconst 4, 0, 0, 0, 0), (33, .invokevirtual 109, 128, 67, 0, 0), (36, .imul, 0, 0, 0, 0), (37, .iload_n 2, 0, 0, 0, 0), (38, .idiv, 0, 0, 0, 0), (39, .istore 6, 0, 0, 0, 0), (41, .iload_n 2, 0, 0, 0, 0), (42, .ifCond .ne 7, 0, 0, 0, 0), (45, .iconst 0, 0, 0, 0, 0), (46, .goto 14, 0, 0, 0, 0), (49, .iload_n 1, 0, 0, 0, 0), (50, .aload_n 0, 0, 0, 0, 0), (51, .iload 4, 0, 0, 0, 0), (53, .iconst 4, 0, 0, 0, 0), (54, .invokevirtual 109, 128, 67, 0, 0), (57, .imul, 0, 0, 0, 0), (58, .iload_n 2, 0, 0, 0, 0), (59, .irem, 0, 0, 0, 0), (60, .istore 7, 0, 0, 0, 0), (62, .iload_n 3, 0, 0, 0, 0), (63, .iload 5, 0, 0, 0, 0), (65, .iadd, 0, 0, 0, 0), (66, .istore_n 3, 0, 0, 0, 0), (67, .aload_n 0, 0, 0, 0, 0), (68, .iload 4, 0, 0, 0, 0), (70, .invokevirtual 170, 140, 62, 0, 0), (73, .iload 5, 0, 0, 0, 0), (75, .if_icmp .ne 19, 0, 0, 0, 0), (78, .iload 5, 0, 0, 0, 0), (80, .iload 6, 0, 0, 0, 0), (82, .if_icmp .lt 12, 0, 0, 0, 0), (85, .iload 5, 0, 0, 0, 0), (87, .iload 6, 0, 0, 0, 0), (89, .iconst 1, 0, 0, 0, 0), (90, .iadd, 0, 0, 0, 0), (91, .if_icmp .le 5, 0, 0, 0, 0), (94, .iconst 0, 0, 0, 0, 0), (95, .ireturn, 0, 0, 0, 0), (96, .iconst 0, 0, 0, 0, 0), (97, .istore 8, 0, 0, 0, 0), (99, .iload 8, 0, 0, 0, 0), (101, .bipush 6, 0, 0, 0, 0), (103, .if_icmp .ge 96, 0, 0, 0, 0), (106, .iload 5, 0, 0, 0, 0), (108, .iload 6, 0, 0, 0, 0), (110, .if_icmp .ne 89, 0, 0, 0, 0), (113, .iload_n 2, 0, 0, 0, 0), (114, .ifCond .ne 7, 0, 0, 0, 0), (117, .iconst 0, 0, 0, 0, 0), (118, .goto 14, 0, 0, 0, 0), (121, .iload_n 1, 0, 0, 0, 0), (122, .aload_n 0, 0, 0, 0, 0), (123, .iload 8, 0, 0, 0, 0), (125, .iconst 4, 0, 0, 0, 0), (126, .invokevirtual 109, 128, 67, 0, 0), (129, .imul, 0, 0, 0, 0), (130, .iload_n 2, 0, 0, 0, 0), (131, .irem, 0, 0, 0, 0), (132, .istore 9, 0, 0, 0, 0), (134, .iload_n 2, 0, 0, 0, 0), (135, .ifCond .le 27, 0, 0, 0, 0), (138, .aload_n 0, 0, 0, 0, 0), (139, .iload 8, 0, 0, 0, 0), (141, .invokevirtual 167, 139, 61, 0, 0), (144, .iload_n 1, 0, 0, 0, 0), (145, .aload_n 0, 0, 0, 0, 0), (146, .iload 8, 0, 0, 0, 0), (148, .iconst 4, 0, 0, 0, 0), (149, .invokevirtual 109, 128, 67, 0, 0), (152, .imul, 0, 0, 0, 0), (153, .iload_n 2, 0, 0, 0, 0), (154, .idiv, 0, 0, 0, 0), (155, .if_icmp .le 7, 0, 0, 0, 0), (158, .iconst 1, 0, 0, 0, 0), (159, .goto 4, 0, 0, 0, 0), (162, .iconst 0, 0, 0, 0, 0), (163, .istore 10, 0, 0, 0, 0), (165, .iload 10, 0, 0, 0, 0), (167, .ifCond .eq 26, 0, 0, 0, 0), (170, .iload 9, 0, 0, 0, 0), (172, .iload 7, 0, 0, 0, 0), (174, .if_icmp .lt 17, 0, 0, 0, 0), (177, .iload 9, 0, 0, 0, 0), (179, .iload 7, 0, 0, 0, 0), (181, .if_icmp .ne 12, 0, 0, 0, 0), (184, .iload 8, 0, 0, 0, 0), (186, .iload 4, 0, 0, 0, 0), (188, .if_icmp .le 5, 0, 0, 0, 0), (191, .iconst 0, 0, 0, 0, 0), (192, .ireturn, 0, 0, 0, 0), (193, .iinc 8 1, 0, 0, 0, 0), (196, .goto (-97), 0, 0, 0, 0), (199, .iinc 4 1, 0, 0, 0, 0), (202, .goto (-197), 0, 0, 0, 0), (205, .iload_n 3, 0, 0, 0, 0), (206, .iload_n 2, 0, 0, 0, 0), (207, .ifCond .ne 7, 0, 0, 0, 0), (210, .iconst 0, 0, 0, 0, 0), (211, .goto 4, 0, 0, 0, 0), (214, .iload_n 1, 0, 0, 0, 0), (215, .if_icmp .ne 19, 0, 0, 0, 0), (218, .aload_n 0, 0, 0, 0, 0), (219, .bipush 6, 0, 0, 0, 0), (221, .invokevirtual 167, 139, 61, 0, 0), (224, .sipush (-1011), 0, 0, 0, 0), (227, .if_icmp .ne 7, 0, 0, 0, 0), (230, .iconst 1, 0, 0, 0, 0), (231, .goto 4, 0, 0, 0, 0), (234, .iconst 0, 0, 0, 0, 0), (235, .ireturn, 0, 0, 0, 0)]
def e_L_heirs : List Ent := [(0, .iconst 0, 0, 0, 0, 0), (1, .istore_n 2, 0, 0, 0, 0), (2, .iload_n 2, 0, 0, 0, 0), (3, .bipush 6, 0, 0, 0, 0), (5, .if_icmp .ge 190, 0, 0, 0, 0), (8, .sipush (-1015), 0, 0, 0, 0), (11, .istore_n 3, 0, 0, 0, 0), (12, .aload_n 0, 0, 0, 0, 0), (13, .iload_n 2, 0, 0, 0, 0), (14, .iconst 0, 0, 0, 0, 0), (15, .invokevirtual 109, 128, 67, 0, 0), (18, .iconst 1, 0, 0, 0, 0), (19, .if_icmp .ne 128, 0, 0, 0, 0), (22, .iload_n 1, 0, 0, 0, 0), (23, .iconst 1, 0, 0, 0, 0), (24, .if_icmp .le 123, 0, 0, 0, 0), (27, .iconst 1, 0, 0, 0, 0), (28, .iload_n 2, 0, 0, 0, 0), (29, .ishl, 0, 0, 0, 0), (30, .istore 4, 0, 0, 0, 0), (32, .aload_n 0, 0, 0, 0, 0), (33, .iload_n 2, 0, 0, 0, 0), (34, .iconst 1, 0, 0, 0, 0), (35, .invokevirtual 109, 128, 67, 0, 0), (38, .istore 5, 0, 0, 0, 0), (40, .iload 4, 0, 0, 0, 0), (42, .iload 5, 0, 0, 0, 0), (44, .ishr, 0, 0, 0, 0), (45, .iconst 1, 0, 0, 0, 0), (46, .iand, 0, 0, 0, 0), (47, .ifCond .ne 34, 0, 0, 0, 0), (50, .aload_n 0, 0, 0, 0, 0), (51, .iload 5, 0, 0, 0, 0), (53, .iconst 0, 0, 0, 0, 0), (54, .invokevirtual 109, 128, 67, 0, 0), (57, .ifCond .ne 24, 0, 0, 0, 0), (60, .iload 4, 0, 0, 0, 0), (62, .iconst 1, 0, 0, 0, 0), (63, .iload 5, 0, 0, 0, 0), (65, .ishl, 0, 0, 0, 0), (66, .ior, 0, 0, 0, 0), (67, .istore 4, 0, 0, 0, 0), (69, .aload_n 0, 0, 0, 0, 0), (70, .iload 5, 0, 0, 0, 0), (72, .iconst 1, 0, 0, 0, 0), (73, .invokevirtual 109, 128, 67, 0, 0), (76, .istore 5, 0, 0, 0, 0), (78, .goto (-38), 0, 0, 0, 0), (81, .iload 4, 0, 0, 0, 0), (83, .iload 5, 0, 0, 0, 0), (85, .ishr, 0, 0, 0, 0), (86, .iconst 1, 0, 0, 0, 0), (87, .iand, 0, 0, 0, 0), (88, .ifCond .ne 8, 0, 0, 0, 0), (91, .iload 5, 0, 0, 0, 0), (93, .goto 4, 0, 0, 0, 0), (96, .iconst (-1), 0, 0, 0, 0), (97, .istore_n 3, 0, 0, 0, 0), (98, .iconst 5, 0, 0, 0, 0), (99, .istore 6, 0, 0, 0, 0), (101, .iload 6, 0, 0, 0, 0), (103, .ifCond .lt 44, 0, 0, 0, 0), (106, .iload 4, 0, 0, 0, 0), (108, .iload 5, 0, 0, 0, 0), (110, .ishr, 0, 0, 0, 0), (111, .iconst 1, 0, 0, 0, 0), (112, .iand, 0, 0, 0, 0), (113, .iconst 1, 0, 0, 0, 0), (114, .if_icmp .ne 33, 0, 0, 0, 0), (117, .iload 6, 0, 0, 0, 0), (119, .iload_n 2, 0, 0, 0, 0), (120, .if_icmp .eq 19, 0, 0, 0, 0), (123, .aload_n 0, 0, 0, 0, 0), (124, .iload 6, 0, 0, 0, 0), (126, .iconst 0, 0, 0, 0, 0), (127, .invokevirtual 109, 128, 67, 0, 0), (130, .iconst 1, 0, 0, 0, 0), (131, .if_icmp .ne 8, 0, 0, 0, 0), (134, .iload 6, 0, 0, 0, 0), (136, .goto 4, 0, 0, 0, 0), (139, .iload_n 3, 0, 0, 0, 0), (140, .istore_n 3, 0, 0, 0, 0), (141, .iinc 6 (-1), 0, 0, 0, 0), (144, .goto (-43), 0, 0, 0, 0), (147, .aload_n 0, 0, 0, 0, 0), (148, .iload_n 2, 0, 0, 0, 0), (149, .invokevirtual 173, 141, 68, 0, 0), (152, .iload_n 3, 0, 0, 0, 0), (153, .if_icmp .ne 34, 0, 0, 0, 0), (156, .aload_n 0, 0, 0, 0, 0), (157, .iload_n 2, 0, 0, 0, 0), (158, .invokevirtual 176, 142, 69, 0, 0), (161, .sipush (-1015), 0, 0, 0, 0), (164, .if_icmp .ne 7, 0, 0, 0, 0), (167, .iconst 1, 0, 0, 0, 0), (168, .goto 4, 0, 0, 0, 0), (171, .iconst 0, 0, 0, 0, 0), (172, .iload_n 3, 0, 0, 0, 0), (173, .sipush (-1015), 0, 0, 0, 0), (176, .if_icmp .ne 7, 0, 0, 0, 0), (179, .iconst 1, 0, 0, 0, 0), (180, .goto 4, 0, 0, 0, 0), (183, .iconst 0, 0, 0, 0, 0), (184, .if_icmp .eq 5, 0, 0, 0, 0), (187, .iconst 0, 0, 0, 0, 0), (188, .ireturn, 0, 0, 0, 0), (189, .iinc 2 1, 0, 0, 0, 0), (192, .goto (-190), 0, 0, 0, 0), (195, .iconst 1, 0, 0, 0, 0), (196, .ireturn, 0, 0, 0, 0)]
def e_L_foretold : List Ent := [(0, .aload_n 0, 0, 0, 0, 0), (1, .invokevirtual 179, 143, 83, 0, 0), (4, .istore_n 2, 0, 0, 0, 0), (5, .iconst 1, 0, 0, 0, 0), (6, .istore_n 3, 0, 0, 0, 0), (7, .aload_n 1, 0, 0, 0, 0), (8, .bipush 6, 0, 0, 0, 0), (10, .invokevirtual 23, 103, 119, 0, 0), (13, .istore 4, 0, 0, 0, 0), (15, .aload_n 0, 0, 0, 0, 0), (16, .iload 4, 0, 0, 0, 0), (18, .invokevirtual 173, 141, 68, 0, 0), (21, .istore 5, 0, 0, 0, 0), (23, .aload_n 0, 0, 0, 0, 0), (24, .iload 4, 0, 0, 0, 0), (26, .invokevirtual 176, 142, 69, 0, 0), (29, .istore 6, 0, 0, 0, 0), (31, .aload_n 0, 0, 0, 0, 0), (32, .iconst 1, 0, 0, 0, 0), (33, .invokevirtual 40, 106, 80, 0, 0), (36, .istore 7, 0, 0, 0, 0), (38, .aload_n 0, 0, 0, 0, 0), (39, .iconst 3, 0, 0, 0, 0), (40, .invokevirtual 40, 106, 80, 0, 0), (43, .aload_n 0, 0, 0, 0, 0), (44, .iconst 4, 0, 0, 0, 0), (45, .invokevirtual 40, 106, 80, 0, 0), (48, .iadd, 0, 0, 0, 0), (49, .aload_n 0, 0, 0, 0, 0), (50, .iconst 5, 0, 0, 0, 0), (51, .invokevirtual 40, 106, 80, 0, 0), (54, .iadd, 0, 0, 0, 0), (55, .istore 8, 0, 0, 0, 0), (57, .aload_n 0, 0, 0, 0, 0), (58, .iload 4, 0, 0, 0, 0), (60, .invokevirtual 68, 115, 65, 0, 0), (63, .istore 9, 0, 0, 0, 0), (65, .iload_n 3, 0, 0, 0, 0), (66, .iload 5, 0, 0, 0, 0), (68, .sipush (-1015), 0, 0, 0, 0), (71, .if_icmp .ne 51, 0, 0, 0, 0), (74, .iload 9, 0, 0, 0, 0), (76, .sipush (-1014), 0, 0, 0, 0), (79, .if_icmp .ne 39, 0, 0, 0, 0), (82, .aload_n 0, 0, 0, 0, 0), (83, .iconst 0, 0, 0, 0, 0), (84, .iconst 0, 0, 0, 0, 0), (85, .invokevirtual 182, 144, 79, 0, 0), (88, .iconst 2, 0, 0, 0, 0), (89, .if_icmp .eq 14, 0, 0, 0, 0), (92, .aload_n 0, 0, 0, 0, 0), (93, .iconst 0, 0, 0, 0, 0), (94, .iconst 0, 0, 0, 0, 0), (95, .invokevirtual 182, 144, 79, 0, 0), (98, .bipush 15, 0, 0, 0, 0), (100, .if_icmp .ne 18, 0, 0, 0, 0), (103, .aload_n 0, 0, 0, 0, 0), (104, .iconst 0, 0, 0, 0, 0), (105, .iconst 1, 0, 0, 0, 0), (106, .invokevirtual 182, 144, 79, 0, 0), (109, .iload 4, 0, 0, 0, 0), (111, .if_icmp .ne 7, 0, 0, 0, 0), (114, .iconst 1, 0, 0, 0, 0), (115, .goto 75, 0, 0, 0, 0), (118, .iconst 0, 0, 0, 0, 0), (119, .goto 71, 0, 0, 0, 0), (122, .iload 9, 0, 0, 0, 0), (124, .iload 5, 0, 0, 0, 0), (126, .if_icmp .ne 63, 0, 0, 0, 0), (129, .aload_n 0, 0, 0, 0, 0), (130, .iconst 0, 0, 0, 0, 0), (131, .invokevirtual 40, 106, 80, 0, 0), (134, .iload_n 2, 0, 0, 0, 0), (135, .iload 6, 0, 0, 0, 0), (137, .isub, 0, 0, 0, 0), (138, .if_icmp .ne 51, 0, 0, 0, 0), (141, .aload_n 0, 0, 0, 0, 0), (142, .iconst 1, 0, 0, 0, 0), (143, .invokevirtual 40, 106, 80, 0, 0), (146, .iload 7, 0, 0, 0, 0), (148, .iconst 1, 0, 0, 0, 0), (149, .isub, 0, 0, 0, 0), (150, .if_icmp .ne 39, 0, 0, 0, 0), (153, .aload_n 0, 0, 0, 0, 0), (154, .iload 4, 0, 0, 0, 0), (156, .iconst 0, 0, 0, 0, 0), (157, .invokevirtual 109, 128, 67, 0, 0), (160, .ifCond .ne 29, 0, 0, 0, 0), (163, .aload_n 0, 0, 0, 0, 0), (164, .iconst 3, 0, 0, 0, 0), (165, .invokevirtual 40, 106, 80, 0, 0), (168, .aload_n 0, 0, 0, 0, 0), (169, .iconst 4, 0, 0, 0, 0), (170, .invokevirtual 40, 106, 80, 0, 0), (173, .iadd, 0, 0, 0, 0), (174, .aload_n 0, 0, 0, 0, 0), (175, .iconst 5, 0, 0, 0, 0), (176, .invokevirtual 40, 106, 80, 0, 0), (179, .iadd, 0, 0, 0, 0), (180, .iload 8, 0, 0, 0, 0), (182, .if_icmp .ne 7, 0, 0, 0, 0), (185, .iconst 1, 0, 0, 0, 0), (186, .goto 4, 0, 0, 0, 0), (189, .iconst 0, 0, 0, 0, 0), (190, .iand, 0, 0, 0, 0), (191, .istore_n 3, 0, 0, 0, 0), (192, .iload_n 3, 0, 0, 0, 0), (193, .aload_n 0, 0, 0, 0, 0), (194, .invokevirtual 186, 145, 84, 0, 0), (197, .iload_n 2, 0, 0, 0, 0), (198, .if_icmp .ne 7, 0, 0, 0, 0), (201, .iconst 1, 0, 0, 0, 0), (202, .goto 4, 0, 0, 0, 0), (205, .iconst 0, 0, 0, 0, 0), (206, .iand, 0, 0, 0, 0), (207, .istore_n 3, 0, 0, 0, 0), (208, .bipush 6, 0, 0, 0, 0), (210, .newarray .int, 0, 0, 0, 0), (212, .astore 10, 0, 0, 0, 0), (214, .iconst 0, 0, 0, 0, 0), (215, .istore 11, 0, 0, 0, 0), (217, .iconst 0, 0, 0, 0, 0), (218, .istore 12, 0, 0, 0, 0), (220, .iload 12, 0, 0, 0, 0), (222, .bipush 6, 0, 0, 0, 0), (224, .if_icmp .ge 47, 0, 0, 0, 0), (227, .aload 10, 0, 0, 0, 0), (229, .iload 12, 0, 0, 0, 0), (231, .aload_n 0, 0, 0, 0, 0), (232, .iload 12, 0, 0, 0, 0), (234, .iconst 2, 0, 0, 0, 0), (235, .invokevirtual 109, 128, 67, 0, 0), (238, .aload_n 0, 0, 0, 0, 0), (239, .iload 12, 0, 0, 0, 0), (241, .invokevirtual 167, 139, 61, 0, 0), (244, .iadd, 0, 0, 0, 0), (245, .iastore, 0, 0, 0, 0), (246, .iload 11, 0, 0, 0, 0), (248, .aload_n 0, 0, 0, 0, 0), (249, .iload 12, 0, 0, 0, 0), (251, .invokevirtual 167, 139, 61, 0, 0), (254, .ifCond .le 7, 0, 0, 0, 0), (257, .iconst 1, 0, 0, 0, 0), (258, .goto 4, 0, 0, 0, 0), (261, .iconst 0, 0, 0, 0, 0), (262, .iadd, 0, 0, 0, 0), (263, .istore 11, 0, 0, 0, 0), (265, .iinc 12 1, 0, 0, 0, 0), (268, .goto (-48), 0, 0, 0, 0), (271, .aload_n 0, 0, 0, 0, 0), (272, .iconst 5, 0, 0, 0, 0), (273, .invokevirtual 40, 106, 80, 0, 0), (276, .istore 12, 0, 0, 0, 0), (278, .aload_n 0, 0, 0, 0, 0), (279, .invokevirtual 59, 112, 60, 0, 0), (282, .istore 9, 0, 0, 0, 0), (284, .iload_n 3, 0, 0, 0, 0), (285, .iload 12, 0, 0, 0, 0), (287, .ifCond .ne 40, 0, 0, 0, 0), (290, .iload 9, 0, 0, 0, 0), (292, .sipush (-1014), 0, 0, 0, 0), (295, .if_icmp .ne 28, 0, 0, 0, 0), (298, .aload_n 0, 0, 0, 0, 0), (299, .iconst 0, 0, 0, 0, 0), (300, .iconst 0, 0, 0, 0, 0), (301, .invokevirtual 182, 144, 79, 0, 0), (304, .bipush 11, 0, 0, 0, 0), (306, .if_icmp .ne 17, 0, 0, 0, 0), (309, .aload_n 0, 0, 0, 0, 0), (310, .iconst 0, 0, 0, 0, 0), (311, .iconst 1, 0, 0, 0, 0), (312, .invokevirtual 182, 144, 79, 0, 0), (315, .iload_n 2, 0, 0, 0, 0), (316, .if_icmp .ne 7, 0, 0, 0, 0), (319, .iconst 1, 0, 0, 0, 0), (320, .goto 19, 0, 0, 0, 0), (323, .iconst 0, 0, 0, 0, 0), (324, .goto 15, 0, 0, 0, 0), (327, .iload 9, 0, 0, 0, 0), (329, .iload 11, 0, 0, 0, 0), (331, .if_icmp .ne 7, 0, 0, 0, 0), (334, .iconst 1, 0, 0, 0, 0), (335, .goto 4, 0, 0, 0, 0), (338, .iconst 0, 0, 0, 0, 0), (339, .iand, 0, 0, 0, 0), (340, .istore_n 3, 0, 0, 0, 0), (341, .iconst 0, 0, 0, 0, 0), (342, .istore 13, 0, 0, 0, 0), (344, .iload 13, 0, 0, 0, 0), (346, .bipush 6, 0, 0, 0, 0), (348, .if_icmp .ge 32, 0, 0, 0, 0), (351, .iload_n 3, 0, 0, 0, 0), (352, .aload_n 0, 0, 0, 0, 0), (353, .iload 13, 0, 0, 0, 0), (355, .iconst 2, 0, 0, 0, 0), (356, .invokevirtual 109, 128, 67, 0, 0), (359, .aload 10, 0, 0, 0, 0), (361, .iload 13, 0, 0, 0, 0), (363, .iaload, 0, 0, 0, 0), (364, .if_icmp .ne 7, 0, 0, 0, 0), (367, .iconst 1, 0, 0, 0, 0), (368, .goto 4, 0, 0, 0, 0), (371, .iconst 0, 0, 0, 0, 0), (372, .iand, 0, 0, 0, 0), (373, .istore_n 3, 0, 0, 0, 0), (374, .iinc 13 1, 0, 0, 0, 0), (377, .goto (-33), 0, 0, 0, 0), (380, .iload_n 3, 0, 0, 0, 0), (381, .aload_n 0, 0, 0, 0, 0), (382, .invokevirtual 186, 145, 84, 0, 0), (385, .iload_n 2, 0, 0, 0, 0), (386, .if_icmp .ne 7, 0, 0, 0, 0), (389, .iconst 1, 0, 0, 0, 0), (390, .goto 4, 0, 0, 0, 0), (393, .iconst 0, 0, 0, 0, 0), (394, .iand, 0, 0, 0, 0), (395, .istore_n 3, 0, 0, 0, 0), (396, .iload_n 2, 0, 0, 0, 0), (397, .ifCond .le 254, 0, 0, 0, 0), (400, .aload_n 1, 0, 0, 0, 0), (401, .iload_n 2, 0, 0, 0, 0), (402, .invokevirtual 23, 103, 119, 0, 0), (405, .istore 13, 0, 0, 0, 0), (407, .iconst 1, 0, 0, 0, 0), (408, .aload_n 1, 0, 0, 0, 0), (409, .iconst 5, 0, 0, 0, 0), (410, .invokevirtual 23, 103, 119, 0, 0), (413, .iadd, 0, 0, 0, 0), (414, .istore 14, 0, 0, 0, 0), (416, .aload_n 0, 0, 0, 0, 0), (417, .iload 13, 0, 0, 0, 0), (419, .iconst 1, 0, 0, 0, 0), (420, .invokevirtual 106, 127, 58, 0, 0), (423, .istore 15, 0, 0, 0, 0), (425, .aload_n 0, 0, 0, 0, 0), (426, .iload 13, 0, 0, 0, 0), (428, .iconst 5, 0, 0, 0, 0), (429, .invokevirtual 106, 127, 58, 0, 0), (432, .istore 16, 0, 0, 0, 0), (434, .aload_n 0, 0, 0, 0, 0), (435, .iload 13, 0, 0, 0, 0), (437, .iconst 4, 0, 0, 0, 0), (438, .invokevirtual 106, 127, 58, 0, 0), (441, .iload 14, 0, 0, 0, 0), (443, .aload_n 0, 0, 0, 0, 0), (444, .iload 13, 0, 0, 0, 0), (446, .iconst 2, 0, 0, 0, 0), (447, .invokevirtual 106, 127, 58, 0, 0), (450, .imul, 0, 0, 0, 0), (451, .invokestatic 189, 146, 202, 1, 0), (454, .istore 17, 0, 0, 0, 0), (456, .aload_n 0, 0, 0, 0, 0), (457, .bipush 8, 0, 0, 0, 0), (459, .invokevirtual 40, 106, 80, 0, 0), (462, .istore 18, 0, 0, 0, 0), (464, .aload_n 0, 0, 0, 0, 0), (465, .iload 13, 0, 0, 0, 0), (467, .iconst 2, 0, 0, 0, 0), (468, .invokevirtual 106, 127, 58, 0, 0), (471, .istore 19, 0, 0, 0, 0), (473, .aload_n 0, 0, 0, 0, 0), (474, .iload 13, 0, 0, 0, 0), (476, .iload 14, 0, 0, 0, 0), (478, .invokevirtual 47, 108, 55, 0, 0), (481, .istore 9, 0, 0, 0, 0), (483, .iload 16, 0, 0, 0, 0), (485, .ifCond .gt 10, 0, 0, 0, 0), (488, .iload 15, 0, 0, 0, 0), (490, .iload 14, 0, 0, 0, 0), (492, .if_icmp .ge 7, 0, 0, 0, 0), (495, .iconst 1, 0, 0, 0, 0), (496, .goto 4, 0, 0, 0, 0), (499, .iconst 0, 0, 0, 0, 0), (500, .istore 20, 0, 0, 0, 0), (502, .iload_n 3, 0, 0, 0, 0), (503, .iload 20, 0, 0, 0, 0), (505, .ifCond .eq 93, 0, 0, 0, 0), (508, .iload 9, 0, 0, 0, 0), (510, .sipush (-1014), 0, 0, 0, 0), (513, .if_icmp .ne 81, 0, 0, 0, 0), (516, .aload_n 0, 0, 0, 0, 0), (517, .iconst 0, 0, 0, 0, 0), (518, .iconst 0, 0, 0, 0, 0), (519, .invokevirtual 182, 144, 79, 0, 0), (522, .iconst 4, 0, 0, 0, 0), (523, .if_icmp .ne 71, 0, 0, 0, 0), (526, .aload_n 0, 0, 0, 0, 0), (527, .iconst 0, 0, 0, 0, 0), (528, .iconst 1, 0, 0, 0, 0), (529, .invokevirtual 182, 144, 79, 0, 0), (532, .iload 13, 0, 0, 0, 0), (534, .if_icmp .ne 60, 0, 0, 0, 0), (537, .aload_n 0, 0, 0, 0, 0), (538, .iconst 1, 0, 0, 0, 0), (539, .iconst 0, 0, 0, 0, 0), (540, .invokevirtual 182, 144, 79, 0, 0), (543, .iload 16, 0, 0, 0, 0), (545, .ifCond .le 7, 0, 0, 0, 0), (548, .iconst 5, 0, 0, 0, 0), (549, .goto 5, 0, 0, 0, 0), (552, .bipush 6, 0, 0, 0, 0), (554, .if_icmp .ne 40, 0, 0, 0, 0), (557, .aload_n 0, 0, 0, 0, 0), (558, .iconst 1, 0, 0, 0, 0), (559, .iconst 1, 0, 0, 0, 0), (560, .invokevirtual 182, 144, 79, 0, 0), (563, .iload 16, 0, 0, 0, 0), (565, .ifCond .le 8, 0, 0, 0, 0), (568, .iload 16, 0, 0, 0, 0), (570, .goto 5, 0, 0, 0, 0), (573, .iload 15, 0, 0, 0, 0), (575, .if_icmp .ne 19, 0, 0, 0, 0), (578, .aload_n 0, 0, 0, 0, 0), (579, .iconst 2, 0, 0, 0, 0), (580, .iconst 0, 0, 0, 0, 0), (581, .invokevirtual 182, 144, 79, 0, 0), (584, .sipush (-1015), 0, 0, 0, 0), (587, .if_icmp .ne 7, 0, 0, 0, 0), (590, .iconst 1, 0, 0, 0, 0), (591, .goto 58, 0, 0, 0, 0), (594, .iconst 0, 0, 0, 0, 0), (595, .goto 54, 0, 0, 0, 0), (598, .iload 9, 0, 0, 0, 0), (600, .iload 17, 0, 0, 0, 0), (602, .if_icmp .ne 46, 0, 0, 0, 0), (605, .aload_n 0, 0, 0, 0, 0), (606, .bipush 8, 0, 0, 0, 0), (608, .invokevirtual 40, 106, 80, 0, 0), (611, .iload 18, 0, 0, 0, 0), (613, .iload 14, 0, 0, 0, 0), (615, .iload 19, 0, 0, 0, 0), (617, .imul, 0, 0, 0, 0), (618, .iadd, 0, 0, 0, 0), (619, .if_icmp .ne 29, 0, 0, 0, 0), (622, .aload_n 0, 0, 0, 0, 0), (623, .iconst 0, 0, 0, 0, 0), (624, .invokevirtual 40, 106, 80, 0, 0), (627, .iload_n 2, 0, 0, 0, 0), (628, .iload 15, 0, 0, 0, 0), (630, .iload 14, 0, 0, 0, 0), (632, .if_icmp .ne 7, 0, 0, 0, 0), (635, .iconst 1, 0, 0, 0, 0), (636, .goto 4, 0, 0, 0, 0), (639, .iconst 0, 0, 0, 0, 0), (640, .isub, 0, 0, 0, 0), (641, .if_icmp .ne 7, 0, 0, 0, 0), (644, .iconst 1, 0, 0, 0, 0), (645, .goto 4, 0, 0, 0, 0), (648, .iconst 0, 0, 0, 0, 0), (649, .iand, 0, 0, 0, 0), (650, .istore_n 3, 0, 0, 0, 0), (651, .aload_n 0, 0, 0, 0, 0), (652, .invokevirtual 186, 145, 84, 0, 0), (655, .iload_n 2, 0, 0, 0, 0), (656, .if_icmp .ne 11, 0, 0, 0, 0), (659, .iload_n 3, 0, 0, 0, 0), (660, .ifCond .eq 7, 0, 0, 0, 0), (663, .iconst 1, 0, 0, 0, 0), (664, .goto 4, 0, 0, 0, 0), (667, .iconst 0, 0, 0, 0, 0), (668, .ireturn, 0, 0, 0, 0)]
def e_X7_init : List Ent := [(0, .aload_n 0, 0, 0, 0, 0), (1, .invokespecial 1, 0, 996, 0, 0), (4, .aload_n 0, 0, 0, 0, 0), (5, .iload_n 1, 0, 0, 0, 0), (6, .putfield 7, 83, 8, 0, 0), (9, .return_, 0, 0, 0, 0)]
def e_X7_next : List Ent := [(0, .aload_n 0, 0, 0, 0, 0), (1, .aload_n 0, 0, 0, 0, 0), (2, .getfield 7, 83, 8, 0, 0), (5, .ldc 13, 0, 2, 0, 0), (7, .imul, 0, 0, 0, 0), (8, .sipush 12345, 0, 0, 0, 0), (11, .iadd, 0, 0, 0, 0), (12, .putfield 7, 83, 8, 0, 0), (15, .aload_n 0, 0, 0, 0, 0), (16, .getfield 7, 83, 8, 0, 0), (19, .bipush 16, 0, 0, 0, 0), (21, .iushr, 0, 0, 0, 0), (22, .iload_n 1, 0, 0, 0, 0), (23, .irem, 0, 0, 0, 0), (24, .ireturn, 0, 0, 0, 0)]
def e_X6_meanWax : List Ent := [(0, .aload_n 0, 0, 0, 0, 0), (1, .getfield 10, 44, 7, 0, 3), (4, .getfield 87, 45, 5, 0, 3), (7, .getfield 195, 61, 6, 8, 0), (10, .istore_n 1, 0, 0, 0, 0), (11, .iload_n 1, 0, 0, 0, 0), (12, .ifCond .ne 7, 0, 0, 0, 0), (15, .dconst 0, 0, 0, 0, 0), (16, .goto 17, 0, 0, 0, 0), (19, .aload_n 0, 0, 0, 0, 0), (20, .getfield 10, 44, 7, 0, 3), (23, .getfield 87, 45, 5, 0, 3), (26, .invokevirtual 254, 80, 50, 0, 0), (29, .i2d, 0, 0, 0, 0), (30, .iload_n 1, 0, 0, 0, 0), (31, .i2d, 0, 0, 0, 0), (32, .ddiv, 0, 0, 0, 0), (33, .dreturn, 0, 0, 0, 0)]
def e_X6_snuffedShare : List Ent := [(0, .aload_n 0, 0, 0, 0, 0), (1, .getfield 10, 44, 7, 0, 3), (4, .getfield 87, 45, 5, 0, 3), (7, .getfield 195, 61, 6, 8, 0), (10, .istore_n 1, 0, 0, 0, 0), (11, .iload_n 1, 0, 0, 0, 0), (12, .ifCond .ne 7, 0, 0, 0, 0), (15, .fconst 0, 0, 0, 0, 0), (16, .goto 17, 0, 0, 0, 0), (19, .aload_n 0, 0, 0, 0, 0), (20, .getfield 10, 44, 7, 0, 3), (23, .getfield 87, 45, 5, 0, 3), (26, .invokevirtual 251, 79, 49, 0, 0), (29, .i2f, 0, 0, 0, 0), (30, .iload_n 1, 0, 0, 0, 0), (31, .i2f, 0, 0, 0, 0), (32, .fdiv, 0, 0, 0, 0), (33, .freturn, 0, 0, 0, 0)]
def e_J4_init_da8c8 : List Ent := [(0, .aload_n 0, 0, 0, 0, 0), (1, .bipush 16, 0, 0, 0, 0), (3, .invokespecial 1, 147, 124, 4, 0), (6, .return_, 0, 0, 0, 0)]
def e_J4_init_a7421 : List Ent := [(0, .aload_n 0, 0, 0, 0, 0), (1, .aload_n 1, 0, 0, 0, 0), (2, .invokespecial 7, 148, 125, 4, 0), (5, .return_, 0, 0, 0, 0)]
def e_J5_init_d00df : List Ent := [(0, .aload_n 0, 0, 0, 0, 0), (1, .invokespecial 3, 1, 996, 0, 0), (4, .getstatic 18, 0, 0, 0, 0), (7, .ifCond .eq 18, 0, 0, 0, 0), (10, .aload_n 0, 0, 0, 0, 0), (11, .iload_n 1, 0, 0, 0, 0), (12, .newarray .byte, 0, 0, 0, 0), (14, .putfield 15, 84, 0, 0, 3), (17, .aload_n 0, 0, 0, 0, 0), (18, .iconst 0, 0, 0, 0, 0), (19, .putfield 22, 85, 0, 1, 2), (22, .goto 16, 0, 0, 0, 0), (25, .aload_n 0, 0, 0, 0, 0), (26, .iload_n 1, 0, 0, 0, 0), (27, .invokestatic 26, 0, 999, 0, 0), (30, .putfield 15, 84, 0, 0, 3), (33, .aload_n 0, 0, 0, 0, 0), (34, .iconst 1, 0, 0, 0, 0), (35, .putfield 22, 85, 0, 1, 2), (38, .return_, 0, 0, 0, 0)]
def e_J5_init_a7421 : List Ent := [(0, .aload_n 0, 0, 0, 0, 0), (1, .invokespecial 3, 1, 996, 0, 0), (4, .aload_n 1, 0, 0, 0, 0), (5, .invokevirtual 32, 149, 204, 0, 0), (8, .istore_n 2, 0, 0, 0, 0), (9, .iload_n 2, 0, 0, 0, 0), (10, .ldc 38, 1, 2, 1, 0), (12, .if_icmp .ge 10, 0, 0, 0, 0), (15, .iload_n 2, 0, 0, 0, 0), (16, .bipush 16, 0, 0, 0, 0), (18, .iadd, 0, 0, 0, 0), (19, .goto 5, 0, 0, 0, 0), (22, .ldc 39, 2, 2, 2, 0), (24, .istore_n 3, 0, 0, 0, 0), (25, .aload_n 1, 0, 0, 0, 0), (26, .invokevirtual 40, 150, 209, 0, 0), (29, .istore 4, 0, 0, 0, 0), (31, .aload_n 0, 0, 0, 0, 0), (32, .iload 4, 0, 0, 0, 0), (34, .putfield 22, 85, 0, 1, 2), (37, .aload_n 0, 0, 0, 0, 0), (38, .iload 4, 0, 0, 0, 0), (40, .ifCond .ne 9, 0, 0, 0, 0), (43, .iload_n 3, 0, 0, 0, 0), (44, .newarray .byte, 0, 0, 0, 0), (46, .goto 7, 0, 0, 0, 0), (49, .iload_n 3, 0, 0, 0, 0), (50, .invokestatic 26, 0, 999, 0, 0), (53, .putfield 15, 84, 0, 0, 3), (56, .aload_n 0, 0, 0, 0, 0), (57, .aload_n 1, 0, 0, 0, 0), (58, .invokevirtual 43, 151, 127, 6, 0), (61, .pop, 0, 0, 0, 0), (62, .return_, 0, 0, 0, 0)]
def e_J4_append_15ec4 : List Ent := [(0, .aload_n 0, 0, 0, 0, 0), (1, .aload_n 1, 0, 0, 0, 0), (2, .invokespecial 29, 152, 128, 3, 0), (5, .pop, 0, 0, 0, 0), (6, .aload_n 0, 0, 0, 0, 0), (7, .areturn, 0, 0, 0, 0)]
def e_J4_append_cf1ce : List Ent := [(0, .aload_n 0, 0, 0, 0, 0), (1, .aload_n 1, 0, 0, 0, 0), (2, .invokevirtual 23, 153, 126, 0, 0), (5, .areturn, 0, 0, 0, 0)]
def e_J5_append_cf1ce : List Ent := [(0, .aload_n 1, 0, 0, 0, 0), (1, .ifnonnull 8, 0, 0, 0, 0), (4, .aload_n 0, 0, 0, 0, 0), (5, .invokevirtual 204, 0, 999, 0, 0), (8, .areturn, 0, 0, 0, 0), (9, .aload_n 1, 0, 0, 0, 0), (10, .invokevirtual 32, 149, 204, 0, 0), (13, .istore_n 2, 0, 0, 0, 0), (14, .aload_n 0, 0, 0, 0, 0), (15, .aload_n 0, 0, 0, 0, 0), (16, .getfield 79, 86, 0, 3, 0), (19, .iload_n 2, 0, 0, 0, 0), (20, .iadd, 0, 0, 0, 0), (21, .invokevirtual 100, 154, 217, 2, 0), (24, .aload_n 0, 0, 0, 0, 0), (25, .aload_n 0, 0, 0, 0, 0), (26, .getfield 79, 86, 0, 3, 0), (29, .aload_n 1, 0, 0, 0, 0), (30, .invokevirtual 208, 155, 129, 2, 0), (33, .aload_n 0, 0, 0, 0, 0), (34, .dup, 0, 0, 0, 0), (35, .getfield 79, 86, 0, 3, 0), (38, .iload_n 2, 0, 0, 0, 0), (39, .iadd, 0, 0, 0, 0), (40, .putfield 79, 86, 0, 3, 0), (43, .aload_n 0, 0, 0, 0, 0), (44, .areturn, 0, 0, 0, 0)]
def e_J5_putStringAt_47b60 : List Ent := [(0, .aload_n 0, 0, 0, 0, 0), (1, .aload_n 2, 0, 0, 0, 0), (2, .invokevirtual 397, 156, 130, 2, 0), (5, .aload_n 2, 0, 0, 0, 0), (6, .aload_n 0, 0, 0, 0, 0), (7, .getfield 15, 84, 0, 0, 3), (10, .iload_n 1, 0, 0, 0, 0), (11, .aload_n 0, 0, 0, 0, 0), (12, .getfield 22, 85, 0, 1, 2), (15, .invokevirtual 399, 157, 134, 0, 0), (18, .return_, 0, 0, 0, 0)]
def e_J5_inflateIfNeededFor_a7421 : List Ent := [(0, .getstatic 18, 0, 0, 0, 0), (3, .ifCond .eq 18, 0, 0, 0, 0), (6, .aload_n 0, 0, 0, 0, 0), (7, .getfield 22, 85, 0, 1, 2), (10, .aload_n 1, 0, 0, 0, 0), (11, .invokevirtual 40, 150, 209, 0, 0), (14, .if_icmp .eq 7, 0, 0, 0, 0), (17, .aload_n 0, 0, 0, 0, 0), (18, .invokevirtual 195, 0, 999, 0, 0), (21, .return_, 0, 0, 0, 0)]
def e_J5_newCapacity_0f7a4 : List Ent := [(0, .aload_n 0, 0, 0, 0, 0), (1, .getfield 15, 84, 0, 0, 3), (4, .arraylength, 0, 0, 0, 0), (5, .istore_n 2, 0, 0, 0, 0), (6, .iload_n 1, 0, 0, 0, 0), (7, .aload_n 0, 0, 0, 0, 0), (8, .getfield 22, 85, 0, 1, 2), (11, .ishl, 0, 0, 0, 0), (12, .istore_n 3, 0, 0, 0, 0), (13, .iload_n 3, 0, 0, 0, 0), (14, .iload_n 2, 0, 0, 0, 0), (15, .isub, 0, 0, 0, 0), (16, .istore 4, 0, 0, 0, 0), (18, .iload_n 2, 0, 0, 0, 0), (19, .iload 4, 0, 0, 0, 0), (21, .iload_n 2, 0, 0, 0, 0), (22, .iconst 2, 0, 0, 0, 0), (23, .aload_n 0, 0, 0, 0, 0), (24, .getfield 22, 85, 0, 1, 2), (27, .ishl, 0, 0, 0, 0), (28, .iadd, 0, 0, 0, 0), (29, .invokestatic 114, 158, 132, 1, 0), (32, .istore 5, 0, 0, 0, 0), (34, .iload 5, 0, 0, 0, 0), (36, .ldc 39, 2, 2, 2, 0), (38, .if_icmp .ne 13, 0, 0, 0, 0), (41, .new 120, 0, 999, 0, 0), (44, .dup, 0, 0, 0, 0), (45, .ldc 122, 0, 999, 0, 0), (47, .invokespecial 124, 0, 999, 0, 0), (50, .athrow, 0, 0, 0, 0), (51, .iload 5, 0, 0, 0, 0), (53, .aload_n 0, 0, 0, 0, 0), (54, .getfield 22, 85, 0, 1, 2), (57, .ishr, 0, 0, 0, 0), (58, .ireturn, 0, 0, 0, 0)]
def e_J8_newLength_cabcc : List Ent := [(0, .iload_n 0, 0, 0, 0, 0), (1, .iload_n 1, 0, 0, 0, 0), (2, .iload_n 2, 0, 0, 0, 0), (3, .invokestatic 194, 159, 203, 1, 0), (6, .iadd, 0, 0, 0, 0), (7, .istore_n 3, 0, 0, 0, 0), (8, .iconst 0, 0, 0, 0, 0), (9, .iload_n 3, 0, 0, 0, 0), (10, .if_icmp .ge 11, 0, 0, 0, 0), (13, .iload_n 3, 0, 0, 0, 0), (14, .ldc 200, 3, 2, 3, 0), (16, .if_icmp .gt 5, 0, 0, 0, 0), (19, .iload_n 3, 0, 0, 0, 0), (20, .ireturn, 0, 0, 0, 0), (21, .iload_n 0, 0, 0, 0, 0), (22, .iload_n 1, 0, 0, 0, 0), (23, .invokestatic 201, 0, 999, 0, 0), (26, .ireturn, 0, 0, 0, 0)]
def e_J7_copyOf_9075b : List Ent := [(0, .iload_n 1, 0, 0, 0, 0), (1, .aload_n 0, 0, 0, 0, 0), (2, .arraylength, 0, 0, 0, 0), (3, .if_icmp .ne 11, 0, 0, 0, 0), (6, .aload_n 0, 0, 0, 0, 0), (7, .invokevirtual 310, 0, 997, 0, 0), (10, .checkcast 311, 0, 1, 0, 0), (13, .areturn, 0, 0, 0, 0), (14, .iload_n 1, 0, 0, 0, 0), (15, .newarray .byte, 0, 0, 0, 0), (17, .astore_n 2, 0, 0, 0, 0), (18, .aload_n 0, 0, 0, 0, 0), (19, .iconst 0, 0, 0, 0, 0), (20, .aload_n 2, 0, 0, 0, 0), (21, .iconst 0, 0, 0, 0, 0), (22, .aload_n 0, 0, 0, 0, 0), (23, .arraylength, 0, 0, 0, 0), (24, .iload_n 1, 0, 0, 0, 0), (25, .invokestatic 304, 160, 202, 1, 0), (28, .invokestatic 150, 1, 998, 0, 0), (31, .aload_n 2, 0, 0, 0, 0), (32, .areturn, 0, 0, 0, 0)]
def e_J0_getBytes_840e7 : List Ent := [(0, .aload_n 0, 0, 0, 0, 0), (1, .invokevirtual 335, 161, 209, 0, 0), (4, .iload_n 3, 0, 0, 0, 0), (5, .if_icmp .ne 23, 0, 0, 0, 0), (8, .aload_n 0, 0, 0, 0, 0), (9, .getfield 9, 0, 25, 0, 3), (12, .iconst 0, 0, 0, 0, 0), (13, .aload_n 1, 0, 0, 0, 0), (14, .iload_n 2, 0, 0, 0, 0), (15, .iload_n 3, 0, 0, 0, 0), (16, .ishl, 0, 0, 0, 0), (17, .aload_n 0, 0, 0, 0, 0), (18, .getfield 9, 0, 25, 0, 3), (21, .arraylength, 0, 0, 0, 0), (22, .invokestatic 212, 2, 998, 0, 0), (25, .goto 18, 0, 0, 0, 0), (28, .aload_n 0, 0, 0, 0, 0), (29, .getfield 9, 0, 25, 0, 3), (32, .iconst 0, 0, 0, 0, 0), (33, .aload_n 1, 0, 0, 0, 0), (34, .iload_n 2, 0, 0, 0, 0), (35, .aload_n 0, 0, 0, 0, 0), (36, .getfield 9, 0, 25, 0, 3), (39, .arraylength, 0, 0, 0, 0), (40, .invokestatic 106, 0, 999, 0, 0), (43, .return_, 0, 0, 0, 0)]
def e_J4_toString_0e30d : List Ent := [(0, .new 18, 1, 9, 0, 0), (3, .dup, 0, 0, 0, 0), (4, .aload_n 0, 0, 0, 0, 0), (5, .invokespecial 137, 162, 136, 4, 0), (8, .areturn, 0, 0, 0, 0)]
def e_J0_init_81219 : List Ent := [(0, .aload_n 0, 0, 0, 0, 0), (1, .aload_n 1, 0, 0, 0, 0), (2, .aconst_null, 0, 0, 0, 0), (3, .invokespecial 489, 163, 137, 4, 0), (6, .return_, 0, 0, 0, 0)]
def e_J0_init_db425 : List Ent := [(0, .aload_n 0, 0, 0, 0, 0), (1, .invokespecial 1, 2, 996, 0, 0), (4, .aload_n 1, 0, 0, 0, 0), (5, .invokevirtual 552, 164, 138, 2, 0), (8, .astore_n 3, 0, 0, 0, 0), (9, .aload_n 1, 0, 0, 0, 0), (10, .invokevirtual 549, 165, 193, 6, 0), (13, .istore 4, 0, 0, 0, 0), (15, .aload_n 1, 0, 0, 0, 0), (16, .invokevirtual 1047, 166, 199, 2, 0), (19, .ifCond .eq 22, 0, 0, 0, 0), (22, .aload_n 0, 0, 0, 0, 0), (23, .iconst 0, 0, 0, 0, 0), (24, .putfield 15, 1, 25, 1, 2), (27, .aload_n 0, 0, 0, 0, 0), (28, .aload_n 3, 0, 0, 0, 0), (29, .iconst 0, 0, 0, 0, 0), (30, .iload 4, 0, 0, 0, 0), (32, .invokestatic 54, 167, 139, 1, 0), (35, .putfield 9, 0, 25, 0, 3), (38, .goto 59, 0, 0, 0, 0), (41, .getstatic 38, 1, 0, 0, 0), (44, .ifCond .eq 35, 0, 0, 0, 0), (47, .aload_n 1, 0, 0, 0, 0), (48, .getfield 1048, 87, 0, 2, 1), (51, .ifCond .eq 28, 0, 0, 0, 0), (54, .aload_n 0, 0, 0, 0, 0), (55, .aload_n 3, 0, 0, 0, 0), (56, .iconst 0, 0, 0, 0, 0), (57, .iload 4, 0, 0, 0, 0), (59, .invokestatic 1051, 0, 999, 0, 0), (62, .putfield 9, 0, 25, 0, 3), (65, .aload_n 0, 0, 0, 0, 0), (66, .aload_n 0, 0, 0, 0, 0), (67, .getfield 9, 0, 25, 0, 3), (70, .iload 4, 0, 0, 0, 0), (72, .invokestatic 47, 0, 999, 0, 0), (75, .putfield 15, 1, 25, 1, 2), (78, .return_, 0, 0, 0, 0), (79, .aload_n 0, 0, 0, 0, 0), (80, .iconst 1, 0, 0, 0, 0), (81, .putfield 15, 1, 25, 1, 2), (84, .aload_n 0, 0, 0, 0, 0), (85, .aload_n 3, 0, 0, 0, 0), (86, .iconst 0, 0, 0, 0, 0), (87, .iload 4, 0, 0, 0, 0), (89, .iconst 1, 0, 0, 0, 0), (90, .ishl, 0, 0, 0, 0), (91, .invokestatic 54, 167, 139, 1, 0), (94, .putfield 9, 0, 25, 0, 3), (97, .return_, 0, 0, 0, 0)]
def e_J5_getValue_6d5f1 : List Ent := [(0, .aload_n 0, 0, 0, 0, 0), (1, .getfield 15, 84, 0, 0, 3), (4, .areturn, 0, 0, 0, 0)]
def e_J7_copyOfRange_39247 : List Ent := [(0, .iload_n 1, 0, 0, 0, 0), (1, .ifCond .ne 9, 0, 0, 0, 0), (4, .iload_n 2, 0, 0, 0, 0), (5, .aload_n 0, 0, 0, 0, 0), (6, .arraylength, 0, 0, 0, 0), (7, .if_icmp .eq 10, 0, 0, 0, 0), (10, .aload_n 0, 0, 0, 0, 0), (11, .iload_n 1, 0, 0, 0, 0), (12, .iload_n 2, 0, 0, 0, 0), (13, .invokestatic 339, 168, 140, 1, 0), (16, .areturn, 0, 0, 0, 0), (17, .aload_n 0, 0, 0, 0, 0), (18, .invokevirtual 310, 0, 997, 0, 0), (21, .checkcast 311, 0, 1, 0, 0), (24, .areturn, 0, 0, 0, 0)]
def e_J7_copyOfRangeByte_39247 : List Ent := [(0, .iload_n 1, 0, 0, 0, 0), (1, .iload_n 2, 0, 0, 0, 0), (2, .invokestatic 343, 169, 141, 1, 0), (5, .iload_n 2, 0, 0, 0, 0), (6, .iload_n 1, 0, 0, 0, 0), (7, .isub, 0, 0, 0, 0), (8, .istore_n 3, 0, 0, 0, 0), (9, .iload_n 3, 0, 0, 0, 0), (10, .newarray .byte, 0, 0, 0, 0), (12, .astore 4, 0, 0, 0, 0), (14, .aload_n 0, 0, 0, 0, 0), (15, .iload_n 1, 0, 0, 0, 0), (16, .aload 4, 0, 0, 0, 0), (18, .iconst 0, 0, 0, 0, 0), (19, .aload_n 0, 0, 0, 0, 0), (20, .arraylength, 0, 0, 0, 0), (21, .iload_n 1, 0, 0, 0, 0), (22, .isub, 0, 0, 0, 0), (23, .iload_n 3, 0, 0, 0, 0), (24, .invokestatic 304, 160, 202, 1, 0), (27, .invokestatic 150, 1, 998, 0, 0), (30, .aload 4, 0, 0, 0, 0), (32, .areturn, 0, 0, 0, 0)]
def e_J7_checkLength_df160 : List Ent := [(0, .iload_n 1, 0, 0, 0, 0), (1, .iload_n 0, 0, 0, 0, 0), (2, .if_icmp .ge 35, 0, 0, 0, 0), (5, .new 43, 0, 999, 0, 0), (8, .dup, 0, 0, 0, 0), (9, .new 45, 0, 999, 0, 0), (12, .dup, 0, 0, 0, 0), (13, .invokespecial 47, 0, 999, 0, 0), (16, .iload_n 0, 0, 0, 0, 0), (17, .invokevirtual 54, 0, 999, 0, 0), (20, .ldc_w 337, 0, 0, 0, 0), (23, .invokevirtual 50, 0, 999, 0, 0), (26, .iload_n 1, 0, 0, 0, 0), (27, .invokevirtual 54, 0, 999, 0, 0), (30, .invokevirtual 61, 0, 999, 0, 0), (33, .invokespecial 65, 0, 999, 0, 0), (36, .athrow, 0, 0, 0, 0), (37, .return_, 0, 0, 0, 0)]
def e_J0_equals_9ea2d : List Ent := [(0, .aload_n 0, 0, 0, 0, 0), (1, .aload_n 1, 0, 0, 0, 0), (2, .if_acmp .ne 5, 0, 0, 0, 0), (5, .iconst 1, 0, 0, 0, 0), (6, .ireturn, 0, 0, 0, 0), (7, .aload_n 1, 0, 0, 0, 0), (8, .instanceof 10, 1, 0, 0, 0), (11, .ifCond .eq 43, 0, 0, 0, 0), (14, .aload_n 1, 0, 0, 0, 0), (15, .checkcast 10, 1, 0, 0, 0), (18, .astore_n 2, 0, 0, 0, 0), (19, .getstatic 38, 1, 0, 0, 0), (22, .ifCond .eq 14, 0, 0, 0, 0), (25, .aload_n 0, 0, 0, 0, 0), (26, .getfield 15, 1, 25, 1, 2), (29, .aload_n 2, 0, 0, 0, 0), (30, .getfield 15, 1, 25, 1, 2), (33, .if_icmp .ne 21, 0, 0, 0, 0), (36, .aload_n 0, 0, 0, 0, 0), (37, .getfield 9, 0, 25, 0, 3), (40, .aload_n 2, 0, 0, 0, 0), (41, .getfield 9, 0, 25, 0, 3), (44, .invokestatic 541, 170, 143, 1, 0), (47, .ifCond .eq 7, 0, 0, 0, 0), (50, .iconst 1, 0, 0, 0, 0), (51, .goto 4, 0, 0, 0, 0), (54, .iconst 0, 0, 0, 0, 0), (55, .ireturn, 0, 0, 0, 0)]
def e_J1_equals_b5fdf : List Ent := [(0, .aload_n 0, 0, 0, 0, 0), (1, .arraylength, 0, 0, 0, 0), (2, .aload_n 1, 0, 0, 0, 0), (3, .arraylength, 0, 0, 0, 0), (4, .if_icmp .ne 30, 0, 0, 0, 0), (7, .iconst 0, 0, 0, 0, 0), (8, .istore_n 2, 0, 0, 0, 0), (9, .iload_n 2, 0, 0, 0, 0), (10, .aload_n 0, 0, 0, 0, 0), (11, .arraylength, 0, 0, 0, 0), (12, .if_icmp .ge 20, 0, 0, 0, 0), (15, .aload_n 0, 0, 0, 0, 0), (16, .iload_n 2, 0, 0, 0, 0), (17, .baload, 0, 0, 0, 0), (18, .aload_n 1, 0, 0, 0, 0), (19, .iload_n 2, 0, 0, 0, 0), (20, .baload, 0, 0, 0, 0), (21, .if_icmp .eq 5, 0, 0, 0, 0), (24, .iconst 0, 0, 0, 0, 0), (25, .ireturn, 0, 0, 0, 0), (26, .iinc 2 1, 0, 0, 0, 0), (29, .goto (-20), 0, 0, 0, 0), (32, .iconst 1, 0, 0, 0, 0), (33, .ireturn, 0, 0, 0, 0), (34, .iconst 0, 0, 0, 0, 0), (35, .ireturn, 0, 0, 0, 0)]
def e_J4_append_cf468 : List Ent := [(0, .aload_n 0, 0, 0, 0, 0), (1, .iload_n 1, 0, 0, 0, 0), (2, .invokespecial 50, 171, 197, 3, 0), (5, .pop, 0, 0, 0, 0), (6, .aload_n 0, 0, 0, 0, 0), (7, .areturn, 0, 0, 0, 0)]
def e_J4_append_bf812 : List Ent := [(0, .aload_n 0, 0, 0, 0, 0), (1, .iload_n 1, 0, 0, 0, 0), (2, .invokespecial 53, 172, 198, 3, 0), (5, .pop, 0, 0, 0, 0), (6, .aload_n 0, 0, 0, 0, 0), (7, .areturn, 0, 0, 0, 0)]
def e_J4_charAt_5068e : List Ent := [(0, .aload_n 0, 0, 0, 0, 0), (1, .iload_n 1, 0, 0, 0, 0), (2, .invokespecial 329, 173, 195, 3, 0), (5, .ireturn, 0, 0, 0, 0)]
def e_J4_setLength_d00df : List Ent := [(0, .aload_n 0, 0, 0, 0, 0), (1, .iload_n 1, 0, 0, 0, 0), (2, .invokespecial 333, 174, 196, 3, 0), (5, .return_, 0, 0, 0, 0)]
def e_J4_length_8abf5 : List Ent := [(0, .aload_n 0, 0, 0, 0, 0), (1, .invokespecial 343, 175, 194, 3, 0), (4, .ireturn, 0, 0, 0, 0)]
def e_J5_length_8abf5 : List Ent := [(0, .aload_n 0, 0, 0, 0, 0), (1, .getfield 79, 86, 0, 3, 0), (4, .ireturn, 0, 0, 0, 0)]
def e_J5_charAt_5068e : List Ent := [(0, .aload_n 0, 0, 0, 0, 0), (1, .getfield 22, 85, 0, 1, 2), (4, .istore_n 2, 0, 0, 0, 0), (5, .aload_n 0, 0, 0, 0, 0), (6, .getfield 15, 84, 0, 0, 3), (9, .astore_n 3, 0, 0, 0, 0), (10, .aload_n 0, 0, 0, 0, 0), (11, .getfield 79, 86, 0, 3, 0), (14, .aload_n 3, 0, 0, 0, 0), (15, .arraylength, 0, 0, 0, 0), (16, .iload_n 2, 0, 0, 0, 0), (17, .ishr, 0, 0, 0, 0), (18, .invokestatic 138, 176, 202, 1, 0), (21, .istore 4, 0, 0, 0, 0), (23, .iload_n 1, 0, 0, 0, 0), (24, .iload 4, 0, 0, 0, 0), (26, .invokestatic 144, 177, 210, 1, 0), (29, .iload_n 2, 0, 0, 0, 0), (30, .ifCond .ne 12, 0, 0, 0, 0), (33, .aload_n 3, 0, 0, 0, 0), (34, .iload_n 1, 0, 0, 0, 0), (35, .baload, 0, 0, 0, 0), (36, .sipush 255, 0, 0, 0, 0), (39, .iand, 0, 0, 0, 0), (40, .i2c, 0, 0, 0, 0), (41, .ireturn, 0, 0, 0, 0), (42, .aload_n 3, 0, 0, 0, 0), (43, .iload_n 1, 0, 0, 0, 0), (44, .invokestatic 148, 0, 999, 0, 0), (47, .ireturn, 0, 0, 0, 0)]
def e_J5_setLength_d00df : List Ent := [(0, .iload_n 1, 0, 0, 0, 0), (1, .ifCond .ge 12, 0, 0, 0, 0), (4, .new 129, 0, 999, 0, 0), (7, .dup, 0, 0, 0, 0), (8, .iload_n 1, 0, 0, 0, 0), (9, .invokespecial 131, 0, 999, 0, 0), (12, .athrow, 0, 0, 0, 0), (13, .aload_n 0, 0, 0, 0, 0), (14, .iload_n 1, 0, 0, 0, 0), (15, .invokevirtual 100, 154, 217, 2, 0), (18, .aload_n 0, 0, 0, 0, 0), (19, .getfield 79, 86, 0, 3, 0), (22, .iload_n 1, 0, 0, 0, 0), (23, .if_icmp .ge 40, 0, 0, 0, 0), (26, .aload_n 0, 0, 0, 0, 0), (27, .invokevirtual 83, 178, 199, 2, 0), (30, .ifCond .eq 18, 0, 0, 0, 0), (33, .aload_n 0, 0, 0, 0, 0), (34, .getfield 15, 84, 0, 0, 3), (37, .aload_n 0, 0, 0, 0, 0), (38, .getfield 79, 86, 0, 3, 0), (41, .iload_n 1, 0, 0, 0, 0), (42, .invokestatic 133, 0, 999, 0, 0), (45, .goto 31, 0, 0, 0, 0), (48, .aload_n 0, 0, 0, 0, 0), (49, .getfield 15, 84, 0, 0, 3), (52, .aload_n 0, 0, 0, 0, 0), (53, .getfield 79, 86, 0, 3, 0), (56, .iload_n 1, 0, 0, 0, 0), (57, .invokestatic 137, 0, 999, 0, 0), (60, .goto 16, 0, 0, 0, 0), (63, .aload_n 0, 0, 0, 0, 0), (64, .getfield 79, 86, 0, 3, 0), (67, .iload_n 1, 0, 0, 0, 0), (68, .if_icmp .le 8, 0, 0, 0, 0), (71, .aload_n 0, 0, 0, 0, 0), (72, .iconst 1, 0, 0, 0, 0), (73, .putfield 73, 88, 0, 2, 1), (76, .aload_n 0, 0, 0, 0, 0), (77, .iload_n 1, 0, 0, 0, 0), (78, .putfield 79, 86, 0, 3, 0), (81, .return_, 0, 0, 0, 0)]
def e_J5_append_3fe6f : List Ent := [(0, .aload_n 0, 0, 0, 0, 0), (1, .aload_n 0, 0, 0, 0, 0), (2, .getfield 79, 86, 0, 3, 0), (5, .iconst 1, 0, 0, 0, 0), (6, .iadd, 0, 0, 0, 0), (7, .invokevirtual 100, 154, 217, 2, 0), (10, .aload_n 0, 0, 0, 0, 0), (11, .invokevirtual 83, 178, 199, 2, 0), (14, .ifCond .eq 31, 0, 0, 0, 0), (17, .iload_n 1, 0, 0, 0, 0), (18, .invokestatic 191, 179, 213, 1, 0), (21, .ifCond .eq 24, 0, 0, 0, 0), (24, .aload_n 0, 0, 0, 0, 0), (25, .getfield 15, 84, 0, 0, 3), (28, .aload_n 0, 0, 0, 0, 0), (29, .dup, 0, 0, 0, 0), (30, .getfield 79, 86, 0, 3, 0), (33, .dup_x1, 0, 0, 0, 0), (34, .iconst 1, 0, 0, 0, 0), (35, .iadd, 0, 0, 0, 0), (36, .putfield 79, 86, 0, 3, 0), (39, .iload_n 1, 0, 0, 0, 0), (40, .i2b, 0, 0, 0, 0), (41, .bastore, 0, 0, 0, 0), (42, .goto 33, 0, 0, 0, 0), (45, .aload_n 0, 0, 0, 0, 0), (46, .invokevirtual 83, 178, 199, 2, 0), (49, .ifCond .eq 7, 0, 0, 0, 0), (52, .aload_n 0, 0, 0, 0, 0), (53, .invokevirtual 195, 0, 999, 0, 0), (56, .aload_n 0, 0, 0, 0, 0), (57, .getfield 15, 84, 0, 0, 3), (60, .aload_n 0, 0, 0, 0, 0), (61, .dup, 0, 0, 0, 0), (62, .getfield 79, 86, 0, 3, 0), (65, .dup_x1, 0, 0, 0, 0), (66, .iconst 1, 0, 0, 0, 0), (67, .iadd, 0, 0, 0, 0), (68, .putfield 79, 86, 0, 3, 0), (71, .iload_n 1, 0, 0, 0, 0), (72, .invokestatic 197, 0, 999, 0, 0), (75, .aload_n 0, 0, 0, 0, 0), (76, .areturn, 0, 0, 0, 0)]
def e_J5_append_c97b9 : List Ent := [(0, .aload_n 0, 0, 0, 0, 0), (1, .getfield 79, 86, 0, 3, 0), (4, .istore_n 2, 0, 0, 0, 0), (5, .iload_n 2, 0, 0, 0, 0), (6, .iload_n 1, 0, 0, 0, 0), (7, .invokestatic 245, 180, 201, 1, 0), (10, .iadd, 0, 0, 0, 0), (11, .istore_n 3, 0, 0, 0, 0), (12, .aload_n 0, 0, 0, 0, 0), (13, .iload_n 3, 0, 0, 0, 0), (14, .invokevirtual 100, 154, 217, 2, 0), (17, .aload_n 0, 0, 0, 0, 0), (18, .invokevirtual 83, 178, 199, 2, 0), (21, .ifCond .eq 16, 0, 0, 0, 0), (24, .iload_n 1, 0, 0, 0, 0), (25, .iload_n 3, 0, 0, 0, 0), (26, .aload_n 0, 0, 0, 0, 0), (27, .getfield 15, 84, 0, 0, 3), (30, .invokestatic 248, 181, 200, 1, 0), (33, .pop, 0, 0, 0, 0), (34, .goto 14, 0, 0, 0, 0), (37, .iload_n 1, 0, 0, 0, 0), (38, .iload_n 2, 0, 0, 0, 0), (39, .iload_n 3, 0, 0, 0, 0), (40, .aload_n 0, 0, 0, 0, 0), (41, .getfield 15, 84, 0, 0, 3), (44, .invokestatic 251, 0, 999, 0, 0), (47, .pop, 0, 0, 0, 0), (48, .aload_n 0, 0, 0, 0, 0), (49, .iload_n 3, 0, 0, 0, 0), (50, .putfield 79, 86, 0, 3, 0), (53, .aload_n 0, 0, 0, 0, 0), (54, .areturn, 0, 0, 0, 0)]
def e_J5_isLatin1_aae02 : List Ent := [(0, .getstatic 18, 0, 0, 0, 0), (3, .ifCond .eq 14, 0, 0, 0, 0), (6, .aload_n 0, 0, 0, 0, 0), (7, .getfield 22, 85, 0, 1, 2), (10, .ifCond .ne 7, 0, 0, 0, 0), (13, .iconst 1, 0, 0, 0, 0), (14, .goto 4, 0, 0, 0, 0), (17, .iconst 0, 0, 0, 0, 0), (18, .ireturn, 0, 0, 0, 0)]
def e_J6_getChars_ba4f3 : List Ent := [(0, .iload_n 1, 0, 0, 0, 0), (1, .istore 5, 0, 0, 0, 0), (3, .iload_n 0, 0, 0, 0, 0), (4, .ifCond .ge 7, 0, 0, 0, 0), (7, .iconst 1, 0, 0, 0, 0), (8, .goto 4, 0, 0, 0, 0), (11, .iconst 0, 0, 0, 0, 0), (12, .istore 6, 0, 0, 0, 0), (14, .iload 6, 0, 0, 0, 0), (16, .ifCond .ne 6, 0, 0, 0, 0), (19, .iload_n 0, 0, 0, 0, 0), (20, .ineg, 0, 0, 0, 0), (21, .istore_n 0, 0, 0, 0, 0), (22, .iload_n 0, 0, 0, 0, 0), (23, .bipush (-100), 0, 0, 0, 0), (25, .if_icmp .gt 47, 0, 0, 0, 0), (28, .iload_n 0, 0, 0, 0, 0), (29, .bipush 100, 0, 0, 0, 0), (31, .idiv, 0, 0, 0, 0), (32, .istore_n 3, 0, 0, 0, 0), (33, .iload_n 3, 0, 0, 0, 0), (34, .bipush 100, 0, 0, 0, 0), (36, .imul, 0, 0, 0, 0), (37, .iload_n 0, 0, 0, 0, 0), (38, .isub, 0, 0, 0, 0), (39, .istore 4, 0, 0, 0, 0), (41, .iload_n 3, 0, 0, 0, 0), (42, .istore_n 0, 0, 0, 0, 0), (43, .aload_n 2, 0, 0, 0, 0), (44, .iinc 5 (-1), 0, 0, 0, 0), (47, .iload 5, 0, 0, 0, 0), (49, .getstatic 83, 2, 2, 0, 0), (52, .iload 4, 0, 0, 0, 0), (54, .baload, 0, 0, 0, 0), (55, .bastore, 0, 0, 0, 0), (56, .aload_n 2, 0, 0, 0, 0), (57, .iinc 5 (-1), 0, 0, 0, 0), (60, .iload 5, 0, 0, 0, 0), (62, .getstatic 87, 3, 3, 0, 0), (65, .iload 4, 0, 0, 0, 0), (67, .baload, 0, 0, 0, 0), (68, .bastore, 0, 0, 0, 0), (69, .goto (-47), 0, 0, 0, 0), (72, .aload_n 2, 0, 0, 0, 0), (73, .iinc 5 (-1), 0, 0, 0, 0), (76, .iload 5, 0, 0, 0, 0), (78, .getstatic 83, 2, 2, 0, 0), (81, .iload_n 0, 0, 0, 0, 0), (82, .ineg, 0, 0, 0, 0), (83, .baload, 0, 0, 0, 0), (84, .bastore, 0, 0, 0, 0), (85, .iload_n 0, 0, 0, 0, 0), (86, .bipush (-9), 0, 0, 0, 0), (88, .if_icmp .ge 16, 0, 0, 0, 0), (91, .aload_n 2, 0, 0, 0, 0), (92, .iinc 5 (-1), 0, 0, 0, 0), (95, .iload 5, 0, 0, 0, 0), (97, .getstatic 87, 3, 3, 0, 0), (100, .iload_n 0, 0, 0, 0, 0), (101, .ineg, 0, 0, 0, 0), (102, .baload, 0, 0, 0, 0), (103, .bastore, 0, 0, 0, 0), (104, .iload 6, 0, 0, 0, 0), (106, .ifCond .eq 12, 0, 0, 0, 0), (109, .aload_n 2, 0, 0, 0, 0), (110, .iinc 5 (-1), 0, 0, 0, 0), (113, .iload 5, 0, 0, 0, 0), (115, .bipush 45, 0, 0, 0, 0), (117, .bastore, 0, 0, 0, 0), (118, .iload 5, 0, 0, 0, 0), (120, .ireturn, 0, 0, 0, 0)]
def e_J6_stringSize_0f7a4 : List Ent := [(0, .iconst 1, 0, 0, 0, 0), (1, .istore_n 1, 0, 0, 0, 0), (2, .iload_n 0, 0, 0, 0, 0), (3, .ifCond .lt 8, 0, 0, 0, 0), (6, .iconst 0, 0, 0, 0, 0), (7, .istore_n 1, 0, 0, 0, 0), (8, .iload_n 0, 0, 0, 0, 0), (9, .ineg, 0, 0, 0, 0), (10, .istore_n 0, 0, 0, 0, 0), (11, .bipush (-10), 0, 0, 0, 0), (13, .istore_n 2, 0, 0, 0, 0), (14, .iconst 1, 0, 0, 0, 0), (15, .istore_n 3, 0, 0, 0, 0), (16, .iload_n 3, 0, 0, 0, 0), (17, .bipush 10, 0, 0, 0, 0), (19, .if_icmp .ge 23, 0, 0, 0, 0), (22, .iload_n 0, 0, 0, 0, 0), (23, .iload_n 2, 0, 0, 0, 0), (24, .if_icmp .le 7, 0, 0, 0, 0), (27, .iload_n 3, 0, 0, 0, 0), (28, .iload_n 1, 0, 0, 0, 0), (29, .iadd, 0, 0, 0, 0), (30, .ireturn, 0, 0, 0, 0), (31, .bipush 10, 0, 0, 0, 0), (33, .iload_n 2, 0, 0, 0, 0), (34, .imul, 0, 0, 0, 0), (35, .istore_n 2, 0, 0, 0, 0), (36, .iinc 3 1, 0, 0, 0, 0), (39, .goto (-23), 0, 0, 0, 0), (42, .bipush 10, 0, 0, 0, 0), (44, .iload_n 1, 0, 0, 0, 0), (45, .iadd, 0, 0, 0, 0), (46, .ireturn, 0, 0, 0, 0)]
def e_J9_min_7cf53 : List Ent := [(0, .iload_n 0, 0, 0, 0, 0), (1, .iload_n 1, 0, 0, 0, 0), (2, .if_icmp .gt 7, 0, 0, 0, 0), (5, .iload_n 0, 0, 0, 0, 0), (6, .goto 4, 0, 0, 0, 0), (9, .iload_n 1, 0, 0, 0, 0), (10, .ireturn, 0, 0, 0, 0)]
def e_J9_max_7cf53 : List Ent := [(0, .iload_n 0, 0, 0, 0, 0), (1, .iload_n 1, 0, 0, 0, 0), (2, .if_icmp .lt 7, 0, 0, 0, 0), (5, .iload_n 0, 0, 0, 0, 0), (6, .goto 4, 0, 0, 0, 0), (9, .iload_n 1, 0, 0, 0, 0), (10, .ireturn, 0, 0, 0, 0)]
def e_J0_length_8abf5 : List Ent := [(0, .aload_n 0, 0, 0, 0, 0), (1, .getfield 9, 0, 25, 0, 3), (4, .arraylength, 0, 0, 0, 0), (5, .aload_n 0, 0, 0, 0, 0), (6, .invokevirtual 335, 161, 209, 0, 0), (9, .ishr, 0, 0, 0, 0), (10, .ireturn, 0, 0, 0, 0)]
def e_J0_charAt_5068e : List Ent := [(0, .aload_n 0, 0, 0, 0, 0), (1, .invokevirtual 492, 182, 208, 0, 0), (4, .ifCond .eq 12, 0, 0, 0, 0), (7, .aload_n 0, 0, 0, 0, 0), (8, .getfield 9, 0, 25, 0, 3), (11, .iload_n 1, 0, 0, 0, 0), (12, .invokestatic 495, 183, 212, 1, 0), (15, .ireturn, 0, 0, 0, 0), (16, .aload_n 0, 0, 0, 0, 0), (17, .getfield 9, 0, 25, 0, 3), (20, .iload_n 1, 0, 0, 0, 0), (21, .invokestatic 498, 0, 999, 0, 0), (24, .ireturn, 0, 0, 0, 0)]
def e_J0_indexOf_0f7a4 : List Ent := [(0, .aload_n 0, 0, 0, 0, 0), (1, .iload_n 1, 0, 0, 0, 0), (2, .iconst 0, 0, 0, 0, 0), (3, .invokevirtual 633, 184, 207, 0, 0), (6, .ireturn, 0, 0, 0, 0)]
def e_J0_indexOf_7cf53 : List Ent := [(0, .aload_n 0, 0, 0, 0, 0), (1, .invokevirtual 492, 182, 208, 0, 0), (4, .ifCond .eq 19, 0, 0, 0, 0), (7, .aload_n 0, 0, 0, 0, 0), (8, .getfield 9, 0, 25, 0, 3), (11, .iload_n 1, 0, 0, 0, 0), (12, .iload_n 2, 0, 0, 0, 0), (13, .aload_n 0, 0, 0, 0, 0), (14, .invokevirtual 505, 185, 204, 0, 0), (17, .invokestatic 637, 186, 215, 1, 0), (20, .goto 16, 0, 0, 0, 0), (23, .aload_n 0, 0, 0, 0, 0), (24, .getfield 9, 0, 25, 0, 3), (27, .iload_n 1, 0, 0, 0, 0), (28, .iload_n 2, 0, 0, 0, 0), (29, .aload_n 0, 0, 0, 0, 0), (30, .invokevirtual 505, 185, 204, 0, 0), (33, .invokestatic 640, 0, 999, 0, 0), (36, .ireturn, 0, 0, 0, 0)]
def e_J0_isLatin1_aae02 : List Ent := [(0, .getstatic 38, 1, 0, 0, 0), (3, .ifCond .eq 14, 0, 0, 0, 0), (6, .aload_n 0, 0, 0, 0, 0), (7, .getfield 15, 1, 25, 1, 2), (10, .ifCond .ne 7, 0, 0, 0, 0), (13, .iconst 1, 0, 0, 0, 0), (14, .goto 4, 0, 0, 0, 0), (17, .iconst 0, 0, 0, 0, 0), (18, .ireturn, 0, 0, 0, 0)]
def e_J0_coder_7d493 : List Ent := [(0, .getstatic 38, 1, 0, 0, 0), (3, .ifCond .eq 10, 0, 0, 0, 0), (6, .aload_n 0, 0, 0, 0, 0), (7, .getfield 15, 1, 25, 1, 2), (10, .goto 4, 0, 0, 0, 0), (13, .iconst 1, 0, 0, 0, 0), (14, .ireturn, 0, 0, 0, 0)]
def e_J0_checkIndex_df160 : List Ent := [(0, .iload_n 0, 0, 0, 0, 0), (1, .iload_n 1, 0, 0, 0, 0), (2, .getstatic 1053, 4, 1, 0, 0), (5, .invokestatic 1059, 187, 211, 1, 0), (8, .pop, 0, 0, 0, 0), (9, .return_, 0, 0, 0, 0)]
def e_J3_checkIndex_8e157 : List Ent := [(0, .iload_n 0, 0, 0, 0, 0), (1, .ifCond .lt 8, 0, 0, 0, 0), (4, .iload_n 0, 0, 0, 0, 0), (5, .iload_n 1, 0, 0, 0, 0), (6, .if_icmp .lt 10, 0, 0, 0, 0), (9, .aload_n 2, 0, 0, 0, 0), (10, .iload_n 0, 0, 0, 0, 0), (11, .iload_n 1, 0, 0, 0, 0), (12, .invokestatic 95, 0, 999, 0, 0), (15, .athrow, 0, 0, 0, 0), (16, .iload_n 0, 0, 0, 0, 0), (17, .ireturn, 0, 0, 0, 0)]
def e_J1_charAt_3b067 : List Ent := [(0, .iload_n 1, 0, 0, 0, 0), (1, .aload_n 0, 0, 0, 0, 0), (2, .arraylength, 0, 0, 0, 0), (3, .invokestatic 9, 188, 210, 1, 0), (6, .aload_n 0, 0, 0, 0, 0), (7, .iload_n 1, 0, 0, 0, 0), (8, .baload, 0, 0, 0, 0), (9, .sipush 255, 0, 0, 0, 0), (12, .iand, 0, 0, 0, 0), (13, .i2c, 0, 0, 0, 0), (14, .ireturn, 0, 0, 0, 0)]
def e_J1_canEncode_fc78d : List Ent := [(0, .iload_n 0, 0, 0, 0, 0), (1, .sipush 255, 0, 0, 0, 0), (4, .if_icmp .gt 7, 0, 0, 0, 0), (7, .iconst 1, 0, 0, 0, 0), (8, .goto 4, 0, 0, 0, 0), (11, .iconst 0, 0, 0, 0, 0), (12, .ireturn, 0, 0, 0, 0)]
def e_J1_canEncode_9a6ad : List Ent := [(0, .iload_n 0, 0, 0, 0, 0), (1, .ifCond .lt 14, 0, 0, 0, 0), (4, .iload_n 0, 0, 0, 0, 0), (5, .sipush 255, 0, 0, 0, 0), (8, .if_icmp .gt 7, 0, 0, 0, 0), (11, .iconst 1, 0, 0, 0, 0), (12, .goto 4, 0, 0, 0, 0), (15, .iconst 0, 0, 0, 0, 0), (16, .ireturn, 0, 0, 0, 0)]
def e_J1_indexOf_4cfef : List Ent := [(0, .iload_n 1, 0, 0, 0, 0), (1, .invokestatic 88, 189, 214, 1, 0), (4, .ifCond .ne 5, 0, 0, 0, 0), (7, .iconst (-1), 0, 0, 0, 0), (8, .ireturn, 0, 0, 0, 0), (9, .iload_n 2, 0, 0, 0, 0), (10, .iconst 0, 0, 0, 0, 0), (11, .invokestatic 92, 190, 203, 1, 0), (14, .istore_n 2, 0, 0, 0, 0), (15, .iload_n 3, 0, 0, 0, 0), (16, .aload_n 0, 0, 0, 0, 0), (17, .arraylength, 0, 0, 0, 0), (18, .invokestatic 38, 191, 202, 1, 0), (21, .istore_n 3, 0, 0, 0, 0), (22, .iload_n 2, 0, 0, 0, 0), (23, .iload_n 3, 0, 0, 0, 0), (24, .if_icmp .lt 5, 0, 0, 0, 0), (27, .iconst (-1), 0, 0, 0, 0), (28, .ireturn, 0, 0, 0, 0), (29, .aload_n 0, 0, 0, 0, 0), (30, .iload_n 1, 0, 0, 0, 0), (31, .iload_n 2, 0, 0, 0, 0), (32, .iload_n 3, 0, 0, 0, 0), (33, .invokestatic 95, 192, 216, 1, 0), (36, .ireturn, 0, 0, 0, 0)]
def e_J1_indexOfChar_4cfef : List Ent := [(0, .iload_n 1, 0, 0, 0, 0), (1, .i2b, 0, 0, 0, 0), (2, .istore 4, 0, 0, 0, 0), (4, .iload_n 2, 0, 0, 0, 0), (5, .istore 5, 0, 0, 0, 0), (7, .iload 5, 0, 0, 0, 0), (9, .iload_n 3, 0, 0, 0, 0), (10, .if_icmp .ge 21, 0, 0, 0, 0), (13, .aload_n 0, 0, 0, 0, 0), (14, .iload 5, 0, 0, 0, 0), (16, .baload, 0, 0, 0, 0), (17, .iload 4, 0, 0, 0, 0), (19, .if_icmp .ne 6, 0, 0, 0, 0), (22, .iload 5, 0, 0, 0, 0), (24, .ireturn, 0, 0, 0, 0), (25, .iinc 5 1, 0, 0, 0, 0), (28, .goto (-21), 0, 0, 0, 0), (31, .iconst (-1), 0, 0, 0, 0), (32, .ireturn, 0, 0, 0, 0)]
def e_J5_ensureCapacityInternal_d00df : List Ent := [(0, .aload_n 0, 0, 0, 0, 0), (1, .getfield 15, 84, 0, 0, 3), (4, .arraylength, 0, 0, 0, 0), (5, .aload_n 0, 0, 0, 0, 0), (6, .getfield 22, 85, 0, 1, 2), (9, .ishr, 0, 0, 0, 0), (10, .istore_n 2, 0, 0, 0, 0), (11, .iload_n 1, 0, 0, 0, 0), (12, .iload_n 2, 0, 0, 0, 0), (13, .isub, 0, 0, 0, 0), (14, .ifCond .le 24, 0, 0, 0, 0), (17, .aload_n 0, 0, 0, 0, 0), (18, .aload_n 0, 0, 0, 0, 0), (19, .getfield 15, 84, 0, 0, 3), (22, .aload_n 0, 0, 0, 0, 0), (23, .iload_n 1, 0, 0, 0, 0), (24, .invokevirtual 104, 193, 131, 2, 0), (27, .aload_n 0, 0, 0, 0, 0), (28, .getfield 22, 85, 0, 1, 2), (31, .ishl, 0, 0, 0, 0), (32, .invokestatic 108, 194, 133, 1, 0), (35, .putfield 15, 84, 0, 0, 3), (38, .return_, 0, 0, 0, 0)]
def e_L_law : List Ent := [(0, .new 18, 0, 999, 0, 0), (3, .dup, 0, 0, 0, 0), (4, .invokespecial 192, 0, 999, 0, 0), (7, .astore_n 1, 0, 0, 0, 0), (8, .iconst 0, 0, 0, 0, 0), (9, .istore_n 2, 0, 0, 0, 0), (10, .aload_n 1, 0, 0, 0, 0), (11, .invokevirtual 193, 195, 82, 0, 0), (14, .sipush (-1015), 0, 0, 0, 0), (17, .if_icmp .ne 244, 0, 0, 0, 0), (20, .aload_n 1, 0, 0, 0, 0), (21, .invokevirtual 186, 145, 84, 0, 0), (24, .sipush (-1015), 0, 0, 0, 0), (27, .if_icmp .ne 234, 0, 0, 0, 0), (30, .aload_n 1, 0, 0, 0, 0), (31, .iconst 0, 0, 0, 0, 0), (32, .iconst 0, 0, 0, 0, 0), (33, .invokevirtual 182, 144, 79, 0, 0), (36, .sipush (-1015), 0, 0, 0, 0), (39, .if_icmp .ne 222, 0, 0, 0, 0), (42, .aload_n 1, 0, 0, 0, 0), (43, .iconst 3, 0, 0, 0, 0), (44, .iconst 0, 0, 0, 0, 0), (45, .invokevirtual 182, 144, 79, 0, 0), (48, .sipush (-1012), 0, 0, 0, 0), (51, .if_icmp .ne 210, 0, 0, 0, 0), (54, .aload_n 1, 0, 0, 0, 0), (55, .invokevirtual 196, 196, 75, 0, 0), (58, .sipush (-2000), 0, 0, 0, 0), (61, .if_icmp .ne 200, 0, 0, 0, 0), (64, .aload_n 1, 0, 0, 0, 0), (65, .iconst 0, 0, 0, 0, 0), (66, .invokevirtual 77, 118, 78, 0, 0), (69, .sipush (-1011), 0, 0, 0, 0), (72, .if_icmp .ne 189, 0, 0, 0, 0), (75, .aload_n 1, 0, 0, 0, 0), (76, .bipush 6, 0, 0, 0, 0), (78, .iconst 1, 0, 0, 0, 0), (79, .iconst 1, 0, 0, 0, 0), (80, .invokevirtual 43, 107, 54, 0, 0), (83, .sipush (-1011), 0, 0, 0, 0), (86, .if_icmp .ne 175, 0, 0, 0, 0), (89, .aload_n 1, 0, 0, 0, 0), (90, .iconst 0, 0, 0, 0, 0), (91, .bipush 31, 0, 0, 0, 0), (93, .iconst 1, 0, 0, 0, 0), (94, .invokevirtual 43, 107, 54, 0, 0), (97, .sipush (-1012), 0, 0, 0, 0), (100, .if_icmp .ne 161, 0, 0, 0, 0), (103, .aload_n 1, 0, 0, 0, 0), (104, .iconst 0, 0, 0, 0, 0), (105, .iconst 1, 0, 0, 0, 0), (106, .invokevirtual 47, 108, 55, 0, 0), (109, .sipush (-1011), 0, 0, 0, 0), (112, .if_icmp .ne 149, 0, 0, 0, 0), (115, .aload_n 1, 0, 0, 0, 0), (116, .invokevirtual 59, 112, 60, 0, 0), (119, .sipush (-1014), 0, 0, 0, 0), (122, .if_icmp .ne 139, 0, 0, 0, 0), (125, .aload_n 1, 0, 0, 0, 0), (126, .iconst 0, 0, 0, 0, 0), (127, .iconst 0, 0, 0, 0, 0), (128, .invokevirtual 182, 144, 79, 0, 0), (131, .bipush 11, 0, 0, 0, 0), (133, .if_icmp .ne 128, 0, 0, 0, 0), (136, .aload_n 1, 0, 0, 0, 0), (137, .iconst 0, 0, 0, 0, 0), (138, .iconst 1, 0, 0, 0, 0), (139, .invokevirtual 182, 144, 79, 0, 0), (142, .ifCond .ne 119, 0, 0, 0, 0), (145, .aload_n 1, 0, 0, 0, 0), (146, .iconst 0, 0, 0, 0, 0), (147, .iconst 1, 0, 0, 0, 0), (148, .iconst 1, 0, 0, 0, 0), (149, .invokevirtual 62, 113, 63, 0, 0), (152, .sipush (-1014), 0, 0, 0, 0), (155, .if_icmp .ne 106, 0, 0, 0, 0), (158, .aload_n 1, 0, 0, 0, 0), (159, .iconst 0, 0, 0, 0, 0), (160, .iconst 0, 0, 0, 0, 0), (161, .invokevirtual 182, 144, 79, 0, 0), (164, .bipush 13, 0, 0, 0, 0), (166, .if_icmp .ne 95, 0, 0, 0, 0), (169, .aload_n 1, 0, 0, 0, 0), (170, .iconst 5, 0, 0, 0, 0), (171, .iconst 0, 0, 0, 0, 0), (172, .invokevirtual 65, 114, 64, 0, 0), (175, .sipush (-1014), 0, 0, 0, 0), (178, .if_icmp .ne 83, 0, 0, 0, 0), (181, .aload_n 1, 0, 0, 0, 0), (182, .iconst 0, 0, 0, 0, 0), (183, .iconst 1, 0, 0, 0, 0), (184, .invokevirtual 182, 144, 79, 0, 0), (187, .ifCond .ne 74, 0, 0, 0, 0), (190, .aload_n 1, 0, 0, 0, 0), (191, .bipush 6, 0, 0, 0, 0), (193, .iconst 0, 0, 0, 0, 0), (194, .invokevirtual 65, 114, 64, 0, 0), (197, .sipush (-1011), 0, 0, 0, 0), (200, .if_icmp .ne 61, 0, 0, 0, 0), (203, .aload_n 1, 0, 0, 0, 0), (204, .bipush 25, 0, 0, 0, 0), (206, .invokevirtual 71, 116, 66, 0, 0), (209, .sipush (-1012), 0, 0, 0, 0), (212, .if_icmp .ne 49, 0, 0, 0, 0), (215, .aload_n 1, 0, 0, 0, 0), (216, .iconst 5, 0, 0, 0, 0), (217, .invokevirtual 173, 141, 68, 0, 0), (220, .ifCond .ne 41, 0, 0, 0, 0), (223, .aload_n 1, 0, 0, 0, 0), (224, .invokevirtual 133, 131, 120, 0, 0), (227, .dconst 0, 0, 0, 0, 0), (228, .dcmp .l, 0, 0, 0, 0), (229, .ifCond .ne 32, 0, 0, 0, 0), (232, .aload_n 1, 0, 0, 0, 0), (233, .invokevirtual 137, 132, 121, 0, 0), (236, .fconst 0, 0, 0, 0, 0), (237, .fcmp .l, 0, 0, 0, 0), (238, .ifCond .ne 23, 0, 0, 0, 0), (241, .aload_n 1, 0, 0, 0, 0), (242, .bipush 14, 0, 0, 0, 0), (244, .invokevirtual 40, 106, 80, 0, 0), (247, .sipush (-1012), 0, 0, 0, 0), (250, .if_icmp .ne 11, 0, 0, 0, 0), (253, .aload_n 1, 0, 0, 0, 0), (254, .invokevirtual 156, 136, 81, 0, 0), (257, .iconst 1, 0, 0, 0, 0), (258, .if_icmp .eq 5, 0, 0, 0, 0), (261, .iconst 0, 0, 0, 0, 0), (262, .ireturn, 0, 0, 0, 0), (263, .aload_n 1, 0, 0, 0, 0), (264, .invokestatic 199, 197, 112, 1, 0), (267, .istore_n 3, 0, 0, 0, 0), (268, .iconst 0, 0, 0, 0, 0), (269, .istore 4, 0, 0, 0, 0), (271, .iload 4, 0, 0, 0, 0), (273, .bipush 16, 0, 0, 0, 0), (275, .if_icmp .ge 234, 0, 0, 0, 0), (278, .aload_n 0, 0, 0, 0, 0), (279, .iload_n 2, 0, 0, 0, 0), (280, .invokestatic 203, 198, 74, 1, 0), (283, .sipush 255, 0, 0, 0, 0), (286, .iand, 0, 0, 0, 0), (287, .istore 5, 0, 0, 0, 0), (289, .new 24, 2, 8, 0, 0), (292, .dup, 0, 0, 0, 0), (293, .aload_n 0, 0, 0, 0, 0), (294, .iload_n 2, 0, 0, 0, 0), (295, .iconst 1, 0, 0, 0, 0), (296, .iadd, 0, 0, 0, 0), (297, .invokestatic 203, 198, 74, 1, 0), (300, .invokespecial 207, 199, 118, 4, 0), (303, .astore 6, 0, 0, 0, 0), (305, .iinc 2 2, 0, 0, 0, 0), (308, .aload_n 1, 0, 0, 0, 0), (309, .bipush 13, 0, 0, 0, 0), (311, .invokevirtual 40, 106, 80, 0, 0), (314, .istore 7, 0, 0, 0, 0), (316, .aload_n 1, 0, 0, 0, 0), (317, .invokestatic 210, 200, 111, 1, 0), (320, .astore 8, 0, 0, 0, 0), (322, .aload_n 1, 0, 0, 0, 0), (323, .iload 5, 0, 0, 0, 0), (325, .aload 6, 0, 0, 0, 0), (327, .invokestatic 214, 201, 109, 1, 0), (330, .istore 9, 0, 0, 0, 0), (332, .iload 9, 0, 0, 0, 0), (334, .sipush (-1011), 0, 0, 0, 0), (337, .if_icmp .gt 17, 0, 0, 0, 0), (340, .aload 8, 0, 0, 0, 0), (342, .aload_n 1, 0, 0, 0, 0), (343, .invokestatic 210, 200, 111, 1, 0), (346, .invokevirtual 129, 130, 142, 0, 0), (349, .ifCond .ne 5, 0, 0, 0, 0), (352, .iconst 0, 0, 0, 0, 0), (353, .ireturn, 0, 0, 0, 0), (354, .iload 9, 0, 0, 0, 0), (356, .sipush (-1011), 0, 0, 0, 0), (359, .if_icmp .gt 8, 0, 0, 0, 0), (362, .iload 7, 0, 0, 0, 0), (364, .goto 12, 0, 0, 0, 0), (367, .bipush 8, 0, 0, 0, 0), (369, .iload 7, 0, 0, 0, 0), (371, .iconst 1, 0, 0, 0, 0), (372, .iadd, 0, 0, 0, 0), (373, .invokestatic 189, 146, 202, 1, 0), (376, .istore 7, 0, 0, 0, 0), (378, .iload 9, 0, 0, 0, 0), (380, .sipush (-1011), 0, 0, 0, 0), (383, .if_icmp .le 38, 0, 0, 0, 0), (386, .aload 6, 0, 0, 0, 0), (388, .iconst 4, 0, 0, 0, 0), (389, .invokevirtual 23, 103, 119, 0, 0), (392, .ifCond .ne 29, 0, 0, 0, 0), (395, .iinc 7 (-1), 0, 0, 0, 0), (398, .aload_n 1, 0, 0, 0, 0), (399, .invokevirtual 193, 195, 82, 0, 0), (402, .iload 7, 0, 0, 0, 0), (404, .if_icmp .ne 15, 0, 0, 0, 0), (407, .aload 8, 0, 0, 0, 0), (409, .aload_n 1, 0, 0, 0, 0), (410, .invokestatic 210, 200, 111, 1, 0), (413, .invokevirtual 129, 130, 142, 0, 0), (416, .ifCond .ne 5, 0, 0, 0, 0), (419, .iconst 0, 0, 0, 0, 0), (420, .ireturn, 0, 0, 0, 0), (421, .aload_n 1, 0, 0, 0, 0), (422, .bipush 13, 0, 0, 0, 0), (424, .invokevirtual 40, 106, 80, 0, 0), (427, .iload 7, 0, 0, 0, 0), (429, .if_icmp .ne 26, 0, 0, 0, 0), (432, .aload_n 1, 0, 0, 0, 0), (433, .bipush 12, 0, 0, 0, 0), (435, .invokevirtual 40, 106, 80, 0, 0), (438, .ifCond .ne 17, 0, 0, 0, 0), (441, .aload_n 1, 0, 0, 0, 0), (442, .invokestatic 218, 202, 113, 1, 0), (445, .ifCond .eq 10, 0, 0, 0, 0), (448, .aload_n 1, 0, 0, 0, 0), (449, .invokestatic 222, 203, 114, 1, 0), (452, .ifCond .ne 5, 0, 0, 0, 0), (455, .iconst 0, 0, 0, 0, 0), (456, .ireturn, 0, 0, 0, 0), (457, .iload 4, 0, 0, 0, 0), (459, .iconst 3, 0, 0, 0, 0), (460, .irem, 0, 0, 0, 0), (461, .iconst 2, 0, 0, 0, 0), (462, .if_icmp .ne 41, 0, 0, 0, 0), (465, .aload_n 1, 0, 0, 0, 0), (466, .invokestatic 210, 200, 111, 1, 0), (469, .astore 8, 0, 0, 0, 0), (471, .aload_n 1, 0, 0, 0, 0), (472, .aload 6, 0, 0, 0, 0), (474, .invokestatic 225, 204, 117, 1, 0), (477, .ifCond .eq 24, 0, 0, 0, 0), (480, .aload 8, 0, 0, 0, 0), (482, .aload_n 1, 0, 0, 0, 0), (483, .invokestatic 210, 200, 111, 1, 0), (486, .invokevirtual 129, 130, 142, 0, 0), (489, .ifCond .eq 12, 0, 0, 0, 0), (492, .aload_n 1, 0, 0, 0, 0), (493, .bipush 13, 0, 0, 0, 0), (495, .invokevirtual 40, 106, 80, 0, 0), (498, .ifCond .eq 5, 0, 0, 0, 0), (501, .iconst 0, 0, 0, 0, 0), (502, .ireturn, 0, 0, 0, 0), (503, .iinc 4 1, 0, 0, 0, 0), (506, .goto (-235), 0, 0, 0, 0), (509, .iload_n 3, 0, 0, 0, 0), (510, .ifCond .le 7, 0, 0, 0, 0), (513, .iconst 1, 0, 0, 0, 0), (514, .goto 4, 0, 0, 0, 0), (517, .iconst 0, 0, 0, 0, 0), (518, .ireturn, 0, 0, 0, 0)]
def mE : List (List Ent) := [e_X0_begin, e_X0_takeBack, e_X0_keep, e_X0_stepBack, e_X0_forget, e_X1_read, e_X1_isOrderRead, e_X1_patternOf, e_X1_isSignRead, e_X1_hasDigit, e_X1_readNumber, e_X1_keepNumber, e_X2_clear, e_X2_putBehind, e_X2_putAhead, e_X3_divide, e_X3_giveOneByRest, e_X3_deal, e_X3_greatest, e_X4_copyFrom, e_X4_burnDown, e_X4_claimOf, e_X4_allClaims, e_X4_allStores, e_X4_allPooled, e_X4_openHouses, e_X4_successorOf, e_X4_handOver, e_X4_handOverRights, e_X4_handOverStubs, e_X4_dropWhatIsOwn, e_X4_housesAheadOf, e_X4_isAhead, e_X5_copyFrom, e_X5_copyStub, e_X5_put, e_X5_remove, e_X5_takeWax, e_X5_forgive, e_X5_release, e_X5_payBack, e_X5_shortenWrits, e_X5_countOn, e_X5_weightOn, e_X5_weightBesideOthers, e_X5_tooManyFor, e_X5_writsBy, e_X5_owedTo, e_X5_owedBy, e_X5_allWrits, e_X5_allWax, e_X5_allDebts, e_X5_stubsAheadOf, e_X5_isAhead, e_X6_stub, e_X6_burn, e_X6_owe, e_X6_writ, e_X6_stubOf, e_X6_pool, e_X6_share, e_X6_part, e_X6_partAgain, e_X6_mould, e_X6_heir, e_X6_end, e_X6_pass, e_X6_houseOf, e_X6_inherits, e_X6_wouldMelt, e_X6_weight, e_X6_weightAgain, e_X6_ranked, e_X6_brightest, e_L_cell, e_X6_run, e_X6_tell, e_X6_tellHouses, e_X6_character, e_X6_reason, e_X6_account, e_X6_isBalanced, e_X6_undo, e_X6_save, e_X6_restore, e_X6_settle, e_X6_bringStub, e_X6_mouldStub, e_X6_hasRoomFor, e_X6_burnStub, e_X6_oweLight, e_X6_snuffStub, e_X6_poolWax, e_X6_sharePool, e_X6_tellHeir, e_X6_endHouse, e_X6_passHours, e_X6_carryOut, e_X6_isFrom, e_X6_isHouse, e_X6_isStub, e_X6_orNothing, e_X6_refuse, e_X6_refuseOrder, e_X6_writeHouse, e_X6_isWaxAccountedFor, e_X6_areSharesSame, e_X6_areWeightsSame, e_L_some, e_L_acts, e_L_line, e_L_told, e_L_stock, e_L_stubs, e_L_houses, e_L_parts, e_L_heirs, e_L_foretold, e_X7_init, e_X7_next, e_X6_meanWax, e_X6_snuffedShare, e_J4_init_da8c8, e_J4_init_a7421, e_J5_init_d00df, e_J5_init_a7421, e_J4_append_15ec4, e_J4_append_cf1ce, e_J5_append_cf1ce, e_J5_putStringAt_47b60, e_J5_inflateIfNeededFor_a7421, e_J5_newCapacity_0f7a4, e_J8_newLength_cabcc, e_J7_copyOf_9075b, e_J0_getBytes_840e7, e_J4_toString_0e30d, e_J0_init_81219, e_J0_init_db425, e_J5_getValue_6d5f1, e_J7_copyOfRange_39247, e_J7_copyOfRangeByte_39247, e_J7_checkLength_df160, e_J0_equals_9ea2d, e_J1_equals_b5fdf, e_X6_isFrom, e_X6_isFrom, e_X6_isFrom, e_X6_isFrom, e_X6_isFrom, e_X6_isFrom, e_X6_isFrom, e_X6_isFrom, e_X6_isFrom, e_X6_isFrom, e_X6_isFrom, e_X6_isFrom, e_X6_isFrom, e_X6_isFrom, e_X6_isFrom, e_X6_isFrom, e_X6_isFrom, e_X6_isFrom, e_X6_isFrom, e_X6_isFrom, e_X6_isFrom, e_X6_isFrom, e_X6_isFrom, e_X6_isFrom, e_X6_isFrom, e_X6_isFrom, e_X6_isFrom, e_X6_isFrom, e_X6_isFrom, e_X6_isFrom, e_X6_isFrom, e_X6_isFrom, e_X6_isFrom, e_X6_isFrom, e_X6_isFrom, e_X6_isFrom, e_X6_isFrom, e_X6_isFrom, e_X6_isFrom, e_X6_isFrom, e_X6_isFrom, e_X6_isFrom, e_X6_isFrom, e_X6_isFrom, e_X6_isFrom, e_J4_append_cf468, e_J4_append_bf812, e_J4_charAt_5068e, e_J4_setLength_d00df, e_J4_length_8abf5, e_J5_length_8abf5, e_J5_charAt_5068e, e_J5_setLength_d00df, e_J5_append_3fe6f, e_J5_append_c97b9, e_J5_isLatin1_aae02, e_J6_getChars_ba4f3, e_J6_stringSize_0f7a4, e_J9_min_7cf53, e_J9_max_7cf53, e_J0_length_8abf5, e_J0_charAt_5068e, e_J0_indexOf_0f7a4, e_J0_indexOf_7cf53, e_J0_isLatin1_aae02, e_J0_coder_7d493, e_J0_checkIndex_df160, e_J3_checkIndex_8e157, e_J1_charAt_3b067, e_J1_canEncode_fc78d, e_J1_canEncode_9a6ad, e_J1_indexOf_4cfef, e_J1_indexOfChar_4cfef, e_J5_ensureCapacityInternal_d00df, e_L_law]
def mYL : List (MethodName) := [yX0_begin, yX0_takeBack, yX0_keep, yX0_stepBack, yX0_forget, yX1_read, yX1_isOrderRead, yX1_patternOf, yX1_isSignRead, yX1_hasDigit, yX1_readNumber, yX1_keepNumber, yX2_clear, yX2_putBehind, yX2_putAhead, yX3_divide, yX3_giveOneByRest, yX3_deal, yX3_greatest, yX4_copyFrom, yX4_burnDown, yX4_claimOf, yX4_allClaims, yX4_allStores, yX4_allPooled, yX4_openHouses, yX4_successorOf, yX4_handOver, yX4_handOverRights, yX4_handOverStubs, yX4_dropWhatIsOwn, yX4_housesAheadOf, yX4_isAhead, yX5_copyFrom, yX5_copyStub, yX5_put, yX5_remove, yX5_takeWax, yX5_forgive, yX5_release, yX5_payBack, yX5_shortenWrits, yX5_countOn, yX5_weightOn, yX5_weightBesideOthers, yX5_tooManyFor, yX5_writsBy, yX5_owedTo, yX5_owedBy, yX5_allWrits, yX5_allWax, yX5_allDebts, yX5_stubsAheadOf, yX5_isAhead, yX6_stub, yX6_burn, yX6_owe, yX6_writ, yX6_stubOf, yX6_pool, yX6_share, yX6_part, yX6_partAgain, yX6_mould, yX6_heir, yX6_end, yX6_pass, yX6_houseOf, yX6_inherits, yX6_wouldMelt, yX6_weight, yX6_weightAgain, yX6_ranked, yX6_brightest, yL_cell, yX6_run, yX6_tell, yX6_tellHouses, yX6_character, yX6_reason, yX6_account, yX6_isBalanced, yX6_undo, yX6_save, yX6_restore, yX6_settle, yX6_bringStub, yX6_mouldStub, yX6_hasRoomFor, yX6_burnStub, yX6_oweLight, yX6_snuffStub, yX6_poolWax, yX6_sharePool, yX6_tellHeir, yX6_endHouse, yX6_passHours, yX6_carryOut, yX6_isFrom, yX6_isHouse, yX6_isStub, yX6_orNothing, yX6_refuse, yX6_refuseOrder, yX6_writeHouse, yX6_isWaxAccountedFor, yX6_areSharesSame, yX6_areWeightsSame, yL_some, yL_acts, yL_line, yL_told, yL_stock, yL_stubs, yL_houses, yL_parts, yL_heirs, yL_foretold, yX7_init, yX7_next, yX6_meanWax, yX6_snuffedShare, yJ4_init_da8c8, yJ4_init_a7421, yJ5_init_d00df, yJ5_init_a7421, yJ4_append_15ec4, yJ4_append_cf1ce, yJ5_append_cf1ce, yJ5_putStringAt_47b60, yJ5_inflateIfNeededFor_a7421, yJ5_newCapacity_0f7a4, yJ8_newLength_cabcc, yJ7_copyOf_9075b, yJ0_getBytes_840e7, yJ4_toString_0e30d, yJ0_init_81219, yJ0_init_db425, yJ5_getValue_6d5f1, yJ7_copyOfRange_39247, yJ7_copyOfRangeByte_39247, yJ7_checkLength_df160, yJ0_equals_9ea2d, yJ1_equals_b5fdf, yX6_isFrom, yX6_isFrom, yX6_isFrom, yX6_isFrom, yX6_isFrom, yX6_isFrom, yX6_isFrom, yX6_isFrom, yX6_isFrom, yX6_isFrom, yX6_isFrom, yX6_isFrom, yX6_isFrom, yX6_isFrom, yX6_isFrom, yX6_isFrom, yX6_isFrom, yX6_isFrom, yX6_isFrom, yX6_isFrom, yX6_isFrom, yX6_isFrom, yX6_isFrom, yX6_isFrom, yX6_isFrom, yX6_isFrom, yX6_isFrom, yX6_isFrom, yX6_isFrom, yX6_isFrom, yX6_isFrom, yX6_isFrom, yX6_isFrom, yX6_isFrom, yX6_isFrom, yX6_isFrom, yX6_isFrom, yX6_isFrom, yX6_isFrom, yX6_isFrom, yX6_isFrom, yX6_isFrom, yX6_isFrom, yX6_isFrom, yX6_isFrom, yJ4_append_cf468, yJ4_append_bf812, yJ4_charAt_5068e, yJ4_setLength_d00df, yJ4_length_8abf5, yJ5_length_8abf5, yJ5_charAt_5068e, yJ5_setLength_d00df, yJ5_append_3fe6f, yJ5_append_c97b9, yJ5_isLatin1_aae02, yJ6_getChars_ba4f3, yJ6_stringSize_0f7a4, yJ9_min_7cf53, yJ9_max_7cf53, yJ0_length_8abf5, yJ0_charAt_5068e, yJ0_indexOf_0f7a4, yJ0_indexOf_7cf53, yJ0_isLatin1_aae02, yJ0_coder_7d493, yJ0_checkIndex_df160, yJ3_checkIndex_8e157, yJ1_charAt_3b067, yJ1_canEncode_fc78d, yJ1_canEncode_9a6ad, yJ1_indexOf_4cfef, yJ1_indexOfChar_4cfef, yJ5_ensureCapacityInternal_d00df, x]
def mBL : List (ByteArray) := [cX0_begin, cX0_takeBack, cX0_keep, cX0_stepBack, cX0_forget, cX1_read, cX1_isOrderRead, cX1_patternOf, cX1_isSignRead, cX1_hasDigit, cX1_readNumber, cX1_keepNumber, cX2_clear, cX2_putBehind, cX2_putAhead, cX3_divide, cX3_giveOneByRest, cX3_deal, cX3_greatest, cX4_copyFrom, cX4_burnDown, cX4_claimOf, cX4_allClaims, cX4_allStores, cX4_allPooled, cX4_openHouses, cX4_successorOf, cX4_handOver, cX4_handOverRights, cX4_handOverStubs, cX4_dropWhatIsOwn, cX4_housesAheadOf, cX4_isAhead, cX5_copyFrom, cX5_copyStub, cX5_put, cX5_remove, cX5_takeWax, cX5_forgive, cX5_release, cX5_payBack, cX5_shortenWrits, cX5_countOn, cX5_weightOn, cX5_weightBesideOthers, cX5_tooManyFor, cX5_writsBy, cX5_owedTo, cX5_owedBy, cX5_allWrits, cX5_allWax, cX5_allDebts, cX5_stubsAheadOf, cX5_isAhead, cX6_stub, cX6_burn, cX6_owe, cX6_writ, cX6_stubOf, cX6_pool, cX6_share, cX6_part, cX6_partAgain, cX6_mould, cX6_heir, cX6_end, cX6_pass, cX6_houseOf, cX6_inherits, cX6_wouldMelt, cX6_weight, cX6_weightAgain, cX6_ranked, cX6_brightest, cL_cell, cX6_run, cX6_tell, cX6_tellHouses, cX6_character, cX6_reason, cX6_account, cX6_isBalanced, cX6_undo, cX6_save, cX6_restore, cX6_settle, cX6_bringStub, cX6_mouldStub, cX6_hasRoomFor, cX6_burnStub, cX6_oweLight, cX6_snuffStub, cX6_poolWax, cX6_sharePool, cX6_tellHeir, cX6_endHouse, cX6_passHours, cX6_carryOut, cX6_isFrom, cX6_isHouse, cX6_isStub, cX6_orNothing, cX6_refuse, cX6_refuseOrder, cX6_writeHouse, cX6_isWaxAccountedFor, cX6_areSharesSame, cX6_areWeightsSame, cL_some, cL_acts, cL_line, cL_told, cL_stock, cL_stubs, cL_houses, cL_parts, cL_heirs, cL_foretold, cX7_init, cX7_next, cX6_meanWax, cX6_snuffedShare, cJ4_init_da8c8, cJ4_init_a7421, cJ5_init_d00df, cJ5_init_a7421, cJ4_append_15ec4, cJ4_append_cf1ce, cJ5_append_cf1ce, cJ5_putStringAt_47b60, cJ5_inflateIfNeededFor_a7421, cJ5_newCapacity_0f7a4, cJ8_newLength_cabcc, cJ7_copyOf_9075b, cJ0_getBytes_840e7, cJ4_toString_0e30d, cJ0_init_81219, cJ0_init_db425, cJ5_getValue_6d5f1, cJ7_copyOfRange_39247, cJ7_copyOfRangeByte_39247, cJ7_checkLength_df160, cJ0_equals_9ea2d, cJ1_equals_b5fdf, cX6_isFrom, cX6_isFrom, cX6_isFrom, cX6_isFrom, cX6_isFrom, cX6_isFrom, cX6_isFrom, cX6_isFrom, cX6_isFrom, cX6_isFrom, cX6_isFrom, cX6_isFrom, cX6_isFrom, cX6_isFrom, cX6_isFrom, cX6_isFrom, cX6_isFrom, cX6_isFrom, cX6_isFrom, cX6_isFrom, cX6_isFrom, cX6_isFrom, cX6_isFrom, cX6_isFrom, cX6_isFrom, cX6_isFrom, cX6_isFrom, cX6_isFrom, cX6_isFrom, cX6_isFrom, cX6_isFrom, cX6_isFrom, cX6_isFrom, cX6_isFrom, cX6_isFrom, cX6_isFrom, cX6_isFrom, cX6_isFrom, cX6_isFrom, cX6_isFrom, cX6_isFrom, cX6_isFrom, cX6_isFrom, cX6_isFrom, cX6_isFrom, cJ4_append_cf468, cJ4_append_bf812, cJ4_charAt_5068e, cJ4_setLength_d00df, cJ4_length_8abf5, cJ5_length_8abf5, cJ5_charAt_5068e, cJ5_setLength_d00df, cJ5_append_3fe6f, cJ5_append_c97b9, cJ5_isLatin1_aae02, cJ6_getChars_ba4f3, cJ6_stringSize_0f7a4, cJ9_min_7cf53, cJ9_max_7cf53, cJ0_length_8abf5, cJ0_charAt_5068e, cJ0_indexOf_0f7a4, cJ0_indexOf_7cf53, cJ0_isLatin1_aae02, cJ0_coder_7d493, cJ0_checkIndex_df160, cJ3_checkIndex_8e157, cJ1_charAt_3b067, cJ1_canEncode_fc78d, cJ1_canEncode_9a6ad, cJ1_indexOf_4cfef, cJ1_indexOfChar_4cfef, cJ5_ensureCapacityInternal_d00df, code]
def mRL : List (Option FieldType) := [none, none, none, (some .boolean), none, (some .int), (some .boolean), (some (.object "java/lang/String")), (some .boolean), (some .boolean), (some .int), none, none, none, none, none, none, none, (some .int), none, (some .int), (some .int), (some .int), (some .int), (some .int), (some .int), (some .int), none, none, none, none, (some .int), (some .boolean), none, none, (some .int), none, none, none, none, (some .int), (some .int), (some .int), (some .int), (some .int), (some .int), (some .int), (some .int), (some .int), (some .int), (some .int), (some .int), (some .int), (some .boolean), (some .int), (some .int), (some .int), (some .int), (some .int), (some .int), (some .int), (some .int), (some .int), (some .int), (some .int), (some .int), (some .int), (some .int), (some .int), (some .int), (some .int), (some .int), (some .int), (some .int), (some .int), (some .int), (some .int), (some .int), (some .int), (some .int), (some .int), (some .int), (some .int), (some .int), (some .int), (some .int), (some .int), (some .int), (some .boolean), (some .int), (some .int), (some .int), (some .int), (some .int), (some .int), (some .int), (some .int), (some .int), (some .boolean), (some .boolean), (some .boolean), (some .int), (some .int), (some .int), none, (some .boolean), (some .boolean), (some .boolean), (some .int), (some .int), (some (.object "java/lang/String")), (some (.object "java/lang/String")), (some .int), (some .boolean), (some .boolean), (some .boolean), (some .boolean), (some .boolean), none, (some .int), (some .double), (some .float), none, none, none, none, (some (.object "java/lang/StringBuilder")), (some (.object "java/lang/AbstractStringBuilder")), (some (.object "java/lang/AbstractStringBuilder")), none, none, (some .int), (some .int), (some (.array .byte)), none, (some (.object "java/lang/String")), none, none, (some (.array .byte)), (some (.array .byte)), (some (.array .byte)), none, (some .boolean), (some .boolean), (some .boolean), (some .boolean), (some .boolean), (some .boolean), (some .boolean), (some .boolean), (some .boolean), (some .boolean), (some .boolean), (some .boolean), (some .boolean), (some .boolean), (some .boolean), (some .boolean), (some .boolean), (some .boolean), (some .boolean), (some .boolean), (some .boolean), (some .boolean), (some .boolean), (some .boolean), (some .boolean), (some .boolean), (some .boolean), (some .boolean), (some .boolean), (some .boolean), (some .boolean), (some .boolean), (some .boolean), (some .boolean), (some .boolean), (some .boolean), (some .boolean), (some .boolean), (some .boolean), (some .boolean), (some .boolean), (some .boolean), (some .boolean), (some .boolean), (some .boolean), (some .boolean), (some .boolean), (some (.object "java/lang/StringBuilder")), (some (.object "java/lang/StringBuilder")), (some .char), none, (some .int), (some .int), (some .char), none, (some (.object "java/lang/AbstractStringBuilder")), (some (.object "java/lang/AbstractStringBuilder")), (some .boolean), (some .int), (some .int), (some .int), (some .int), (some .int), (some .char), (some .int), (some .int), (some .boolean), (some .byte), none, (some .int), (some .char), (some .boolean), (some .boolean), (some .int), (some .int), none, ret]
def mI : List (Nat × Nat × Nat × Nat) := [(2, 2, 0, 1), (2, 2, 0, 1), (1, 1, 0, 1), (2, 2, 0, 1), (1, 1, 0, 1), (3, 2, 0, 2), (8, 3, 0, 2), (1, 1, 1, 2), (3, 3, 0, 2), (2, 2, 0, 2), (6, 3, 0, 2), (4, 4, 0, 2), (1, 1, 0, 3), (3, 3, 0, 3), (4, 3, 0, 3), (6, 2, 0, 4), (2, 1, 0, 4), (6, 2, 0, 4), (3, 1, 1, 4), (3, 2, 0, 5), (5, 3, 0, 5), (2, 2, 0, 5), (3, 1, 0, 5), (3, 1, 0, 5), (3, 1, 0, 5), (3, 1, 0, 5), (4, 2, 0, 5), (3, 3, 0, 5), (4, 3, 0, 5), (7, 3, 0, 5), (2, 1, 0, 5), (4, 2, 0, 5), (5, 3, 0, 5), (3, 2, 0, 6), (4, 4, 0, 6), (5, 4, 0, 6), (3, 2, 0, 6), (3, 3, 0, 6), (2, 2, 0, 6), (2, 2, 0, 6), (4, 3, 0, 6), (4, 2, 0, 6), (4, 2, 0, 6), (4, 2, 0, 6), (4, 2, 0, 6), (7, 3, 0, 6), (4, 2, 0, 6), (4, 2, 0, 6), (4, 2, 0, 6), (3, 1, 0, 6), (3, 1, 0, 6), (3, 1, 0, 6), (4, 2, 0, 6), (5, 3, 0, 6), (4, 4, 0, 7), (3, 3, 0, 7), (4, 4, 0, 7), (4, 4, 0, 7), (4, 3, 0, 7), (3, 3, 0, 7), (1, 1, 0, 7), (2, 2, 0, 7), (2, 2, 0, 7), (4, 4, 0, 7), (3, 3, 0, 7), (2, 2, 0, 7), (2, 2, 0, 7), (3, 3, 0, 7), (2, 2, 0, 7), (3, 2, 0, 7), (2, 2, 0, 7), (2, 2, 0, 7), (3, 2, 0, 7), (3, 2, 0, 7), (2, 2, 1, 99), (4, 1, 0, 7), (3, 2, 0, 7), (2, 1, 0, 7), (2, 2, 0, 7), (3, 3, 0, 7), (2, 2, 0, 7), (1, 1, 0, 7), (1, 1, 0, 7), (1, 1, 0, 7), (1, 1, 0, 7), (2, 2, 0, 7), (4, 4, 0, 7), (4, 4, 0, 7), (4, 3, 0, 7), (4, 3, 0, 7), (5, 4, 0, 7), (5, 4, 0, 7), (3, 3, 0, 7), (3, 1, 0, 7), (4, 3, 0, 7), (3, 2, 0, 7), (2, 2, 0, 7), (5, 2, 0, 7), (3, 3, 1, 7), (1, 1, 1, 7), (2, 2, 0, 7), (1, 1, 1, 7), (3, 3, 0, 7), (3, 3, 0, 7), (2, 2, 0, 7), (2, 1, 0, 7), (3, 1, 0, 7), (2, 1, 0, 7), (2, 2, 1, 99), (5, 3, 1, 99), (4, 2, 1, 99), (3, 1, 1, 99), (2, 1, 1, 99), (12, 1, 1, 99), (17, 1, 1, 99), (11, 3, 1, 99), (7, 2, 1, 99), (21, 2, 1, 99), (2, 2, 0, 8), (2, 2, 0, 8), (2, 1, 0, 7), (2, 1, 0, 7), (1, 1, 0, 0), (2, 2, 0, 0), (2, 2, 0, 0), (5, 2, 0, 0), (2, 2, 0, 0), (2, 2, 0, 0), (3, 2, 0, 0), (3, 3, 0, 0), (2, 2, 0, 0), (6, 2, 0, 0), (4, 3, 1, 99), (3, 2, 1, 99), (4, 4, 0, 25), (1, 1, 0, 0), (2, 2, 0, 25), (5, 3, 0, 25), (1, 1, 0, 0), (3, 3, 1, 99), (5, 3, 1, 99), (2, 2, 1, 99), (3, 2, 0, 25), (3, 2, 1, 99), (3, 3, 1, 7), (3, 3, 1, 7), (3, 3, 1, 7), (3, 3, 1, 7), (3, 3, 1, 7), (3, 3, 1, 7), (3, 3, 1, 7), (3, 3, 1, 7), (3, 3, 1, 7), (3, 3, 1, 7), (3, 3, 1, 7), (3, 3, 1, 7), (3, 3, 1, 7), (3, 3, 1, 7), (3, 3, 1, 7), (3, 3, 1, 7), (3, 3, 1, 7), (3, 3, 1, 7), (3, 3, 1, 7), (3, 3, 1, 7), (3, 3, 1, 7), (3, 3, 1, 7), (3, 3, 1, 7), (3, 3, 1, 7), (3, 3, 1, 7), (3, 3, 1, 7), (3, 3, 1, 7), (3, 3, 1, 7), (3, 3, 1, 7), (3, 3, 1, 7), (3, 3, 1, 7), (3, 3, 1, 7), (3, 3, 1, 7), (3, 3, 1, 7), (3, 3, 1, 7), (3, 3, 1, 7), (3, 3, 1, 7), (3, 3, 1, 7), (3, 3, 1, 7), (3, 3, 1, 7), (3, 3, 1, 7), (3, 3, 1, 7), (3, 3, 1, 7), (3, 3, 1, 7), (3, 3, 1, 7), (2, 2, 0, 0), (2, 2, 0, 0), (2, 2, 0, 0), (2, 2, 0, 0), (1, 1, 0, 0), (1, 1, 0, 0), (5, 2, 0, 0), (2, 2, 0, 0), (2, 2, 0, 0), (4, 2, 0, 0), (1, 1, 0, 0), (7, 3, 1, 99), (4, 1, 1, 99), (2, 2, 1, 99), (2, 2, 1, 99), (1, 1, 0, 25), (2, 2, 0, 25), (2, 2, 0, 25), (3, 3, 0, 25), (1, 1, 0, 25), (1, 1, 0, 25), (2, 2, 1, 25), (3, 3, 1, 99), (2, 2, 1, 99), (1, 1, 1, 99), (1, 1, 1, 99), (4, 4, 1, 99), (6, 4, 1, 99), (3, 2, 0, 0), (10, 1, 1, 99)]
def mP : List (Nat × Nat × Nat × Nat) := [(4048, 3004, 4046, 4047), (6006, 3004, 6004, 6005), (4110, 3004, 4108, 4109), (6091, 3004, 6089, 6090), (6101, 3004, 6099, 6100), (4222, 3006, 4220, 4221), (4226, 3006, 4225, 1012), (5095, 3006, 5094, 0), (5136, 3006, 5135, 2000), (5124, 3006, 5123, 1013), (5128, 3006, 5127, 1014), (5132, 3006, 5131, 1015), (4078, 3005, 4076, 4077), (4082, 3005, 4080, 4081), (6014, 3005, 6012, 6013), (4166, 3007, 4164, 4165), (4172, 3007, 4171, 1008), (6065, 3007, 6063, 6064), (4175, 3007, 4174, 0), (4052, 3002, 4050, 4051), (4129, 3002, 4127, 4128), (4158, 3002, 4156, 4157), (4154, 3002, 4152, 4153), (6041, 3002, 6039, 6040), (6057, 3002, 6055, 6056), (6033, 3002, 6031, 6032), (4211, 3002, 4209, 4210), (5226, 3002, 5224, 5225), (5230, 3002, 5229, 2006), (5235, 3002, 5234, 2007), (6001, 3002, 6000, 2008), (7141, 3002, 7139, 7140), (7145, 3002, 7144, 2015), (4056, 3003, 4054, 4055), (4060, 3003, 4059, 1000), (4094, 3003, 4092, 4093), (4142, 3003, 4140, 4141), (4138, 3003, 4136, 4137), (4098, 3003, 4096, 4097), (4102, 3003, 4100, 4101), (4133, 3003, 4131, 4132), (4203, 3003, 4201, 4202), (7090, 3003, 7088, 7089), (4090, 3003, 4088, 4089), (6073, 3003, 6071, 6072), (7175, 3003, 7173, 7174), (5209, 3003, 5207, 5208), (4162, 3003, 4160, 4161), (7094, 3003, 7092, 7093), (5213, 3003, 5211, 5212), (6037, 3003, 6035, 6036), (6045, 3003, 6043, 6044), (7115, 3003, 7113, 7114), (7119, 3003, 7118, 2014), (4044, 3001, 4042, 4043), (4117, 3001, 4115, 4116), (6130, 3001, 6128, 6129), (6134, 3001, 6132, 6133), (7081, 3001, 7079, 7080), (6138, 3001, 6136, 6137), (4146, 3001, 4144, 4145), (7160, 3001, 7158, 7159), (7164, 3001, 7162, 7163), (4179, 3001, 4177, 4178), (4187, 3001, 4185, 4186), (6142, 3001, 6140, 6141), (4195, 3001, 4193, 4194), (7085, 3001, 7083, 7084), (4207, 3001, 4205, 4206), (7171, 3001, 7169, 7170), (7149, 3001, 7147, 7148), (7153, 3001, 7151, 7152), (7137, 3001, 7135, 7136), (7111, 3001, 7109, 7110), (6119, 3000, 6118, 0), (4218, 3001, 4216, 4217), (7076, 3001, 7074, 7075), (6150, 3001, 6148, 6149), (6019, 3001, 6017, 6018), (6025, 3001, 6023, 6024), (6029, 3001, 6027, 6028), (6049, 3001, 6047, 6048), (6087, 3001, 6085, 6086), (7182, 3001, 7180, 7181), (6096, 3001, 6094, 6095), (4106, 3001, 4105, 1004), (4064, 3001, 4063, 1001), (4183, 3001, 4182, 1009), (4086, 3001, 4085, 1003), (4121, 3001, 4120, 1005), (5200, 3001, 5199, 2002), (5205, 3001, 5204, 2003), (5217, 3001, 5216, 2004), (4150, 3001, 4149, 1007), (4191, 3001, 4190, 1010), (5222, 3001, 5221, 2005), (4199, 3001, 4198, 1011), (5196, 3001, 5195, 2001), (4070, 3001, 4069, 0), (4067, 3001, 4066, 0), (4125, 3001, 4124, 1006), (4214, 3001, 4213, 0), (4074, 3001, 4073, 1002), (6010, 3001, 6009, 2009), (6189, 3001, 6188, 2013), (6053, 3001, 6052, 2010), (6061, 3001, 6060, 2011), (6069, 3001, 6068, 2012), (6125, 3000, 6124, 0), (6122, 3000, 6121, 0), (6217, 3000, 6216, 0), (6145, 3000, 6144, 0), (7097, 3000, 7096, 0), (7100, 3000, 7099, 0), (7130, 3000, 7129, 0), (7156, 3000, 7155, 0), (7167, 3000, 7166, 0), (7178, 3000, 7177, 0), (6106, 3019, 6105, 0), (6115, 3019, 6113, 6114), (6079, 3001, 6077, 6078), (6083, 3001, 6081, 6082), (3224, 3009, 3223, 0), (7032, 3009, 7031, 0), (3227, 3008, 3226, 0), (7035, 3008, 7034, 0), (7048, 3009, 7046, 7047), (7044, 3009, 7043, 0), (7050, 3008, 7040, 0), (7061, 3008, 7060, 2), (7065, 3008, 7064, 3), (5151, 3008, 5150, 1), (5154, 3016, 5153, 0), (5163, 3017, 5162, 0), (7069, 3010, 7067, 7068), (6223, 3009, 6221, 6222), (6228, 3010, 6227, 0), (6231, 3010, 6230, 0), (6237, 3008, 6234, 6236), (7002, 3017, 7001, 0), (7005, 3017, 7004, 0), (7008, 3017, 7007, 0), (7123, 3010, 7121, 7122), (7127, 3014, 7126, 0), (4070, 3001, 4069, 0), (4070, 3001, 4069, 0), (4070, 3001, 4069, 0), (4070, 3001, 4069, 0), (4070, 3001, 4069, 0), (4070, 3001, 4069, 0), (4070, 3001, 4069, 0), (4070, 3001, 4069, 0), (4070, 3001, 4069, 0), (4070, 3001, 4069, 0), (4070, 3001, 4069, 0), (4070, 3001, 4069, 0), (4070, 3001, 4069, 0), (4070, 3001, 4069, 0), (4070, 3001, 4069, 0), (4070, 3001, 4069, 0), (4070, 3001, 4069, 0), (4070, 3001, 4069, 0), (4070, 3001, 4069, 0), (4070, 3001, 4069, 0), (4070, 3001, 4069, 0), (4070, 3001, 4069, 0), (4070, 3001, 4069, 0), (4070, 3001, 4069, 0), (4070, 3001, 4069, 0), (4070, 3001, 4069, 0), (4070, 3001, 4069, 0), (4070, 3001, 4069, 0), (4070, 3001, 4069, 0), (4070, 3001, 4069, 0), (4070, 3001, 4069, 0), (4070, 3001, 4069, 0), (4070, 3001, 4069, 0), (4070, 3001, 4069, 0), (4070, 3001, 4069, 0), (4070, 3001, 4069, 0), (4070, 3001, 4069, 0), (4070, 3001, 4069, 0), (4070, 3001, 4069, 0), (4070, 3001, 4069, 0), (4070, 3001, 4069, 0), (4070, 3001, 4069, 0), (4070, 3001, 4069, 0), (4070, 3001, 4069, 0), (4070, 3001, 4069, 0), (6154, 3009, 6152, 6153), (6193, 3009, 6191, 6192), (4238, 3009, 4236, 4237), (5140, 3009, 5138, 5139), (4230, 3009, 4228, 4229), (4233, 3008, 4232, 0), (5001, 3008, 5000, 0), (5143, 3008, 5142, 0), (6157, 3008, 6156, 0), (6196, 3008, 6195, 0), (5179, 3008, 5176, 5178), (6202, 3020, 6201, 0), (6199, 3020, 6198, 0), (4113, 3012, 4112, 0), (5052, 3012, 5051, 0), (5039, 3010, 5037, 5038), (5109, 3010, 5107, 5108), (5026, 3010, 5024, 5025), (5030, 3010, 5028, 5029), (5034, 3010, 5032, 5033), (5043, 3010, 5041, 5042), (5005, 3010, 5004, 0), (5010, 3013, 5009, 0), (5112, 3014, 5111, 0), (6160, 3014, 6159, 0), (5049, 3014, 5048, 0), (5046, 3014, 5045, 0), (5056, 3014, 5055, 0), (5147, 3008, 5146, 0)]
def mO : List (Nat) := [0, 0, 0, 0, 0, 1, 1, 1, 1, 1, 1, 1, 2, 2, 2, 3, 3, 3, 3, 4, 4, 4, 4, 4, 4, 4, 4, 4, 4, 4, 4, 4, 4, 5, 5, 5, 5, 5, 5, 5, 5, 5, 5, 5, 5, 5, 5, 5, 5, 5, 5, 5, 5, 5, 6, 6, 6, 6, 6, 6, 6, 6, 6, 6, 6, 6, 6, 6, 6, 6, 6, 6, 6, 6, 8, 6, 6, 6, 6, 6, 6, 6, 6, 6, 6, 6, 6, 6, 6, 6, 6, 6, 6, 6, 6, 6, 6, 6, 6, 6, 6, 6, 6, 6, 6, 6, 6, 6, 8, 8, 8, 8, 8, 8, 8, 8, 8, 8, 7, 7, 6, 6, 14, 14, 15, 15, 14, 14, 15, 15, 15, 15, 18, 17, 10, 14, 10, 10, 15, 17, 17, 17, 10, 11, 6, 6, 6, 6, 6, 6, 6, 6, 6, 6, 6, 6, 6, 6, 6, 6, 6, 6, 6, 6, 6, 6, 6, 6, 6, 6, 6, 6, 6, 6, 6, 6, 6, 6, 6, 6, 6, 6, 6, 6, 6, 6, 6, 6, 6, 14, 14, 14, 14, 14, 15, 15, 15, 15, 15, 15, 16, 16, 19, 19, 10, 10, 10, 10, 10, 10, 10, 13, 11, 11, 11, 11, 11, 15, 8]
def ftab : List (Nat × Nat × Nat × Nat × Nat × Nat) := [(0, 11, 1, 0, 3, 3142), (0, 18, 1, 1, 0, 3143), (0, 26, 1, 2, 0, 3144), (1, 24, 2, 4, 0, 3186), (1, 28, 2, 5, 0, 3188), (1, 9, 2, 0, 3, 3178), (1, 15, 2, 1, 3, 3180), (1, 18, 2, 2, 3, 3182), (1, 21, 2, 3, 3, 3184), (2, 18, 3, 2, 0, 3163), (2, 9, 3, 0, 3, 3159), (2, 15, 3, 1, 3, 3161), (3, 27, 5, 5, 0, 3096), (3, 9, 4, 0, 3, 3208), (3, 18, 4, 2, 3, 3212), (3, 15, 4, 1, 3, 3210), (4, 12, 5, 0, 3, 3086), (4, 18, 5, 1, 3, 3088), (4, 22, 5, 2, 3, 3090), (4, 26, 5, 3, 3, 3092), (4, 29, 5, 4, 3, 3094), (4, 36, 5, 5, 0, 3097), (4, 40, 5, 6, 0, 3099), (4, 43, 5, 7, 0, 3101), (4, 46, 5, 8, 0, 3103), (4, 49, 5, 9, 0, 3105), (4, 52, 5, 10, 0, 3107), (4, 55, 6, 2, 3, 3048), (4, 62, 6, 7, 3, 3061), (4, 85, 6, 8, 0, 3064), (4, 88, 6, 3, 3, 3052), (4, 91, 6, 5, 3, 3057), (4, 101, 6, 1, 3, 3046), (4, 104, 6, 0, 3, 3043), (5, 36, 6, 8, 0, 3063), (5, 9, 6, 0, 3, 3041), (5, 15, 6, 1, 3, 3044), (5, 18, 6, 2, 3, 3047), (5, 21, 6, 3, 3, 3050), (5, 24, 6, 4, 3, 3053), (5, 27, 6, 5, 3, 3055), (5, 30, 6, 6, 3, 3058), (5, 33, 6, 7, 3, 3060), (6, 26, 7, 3, 3, 4016), (6, 10, 7, 0, 3, 4013), (6, 87, 5, 0, 3, 3087), (6, 91, 6, 0, 3, 3042), (6, 97, 6, 1, 3, 3045), (6, 100, 6, 2, 3, 3049), (6, 103, 6, 3, 3, 3051), (6, 109, 6, 4, 3, 3054), (6, 112, 6, 6, 3, 3059), (6, 115, 6, 5, 3, 3056), (6, 118, 6, 7, 3, 3062), (6, 47, 7, 6, 3, 4019), (6, 134, 4, 0, 3, 3209), (6, 140, 4, 1, 3, 3211), (6, 155, 5, 1, 3, 3089), (6, 159, 5, 2, 3, 3091), (6, 162, 5, 3, 3, 3093), (6, 165, 5, 4, 3, 3095), (6, 195, 6, 8, 0, 3065), (6, 40, 7, 5, 3, 4018), (6, 54, 7, 7, 3, 4020), (6, 221, 2, 4, 0, 3187), (6, 58, 7, 8, 3, 4021), (6, 33, 7, 4, 3, 4017), (6, 241, 3, 2, 0, 3164), (6, 242, 3, 1, 3, 3162), (6, 245, 3, 0, 3, 3160), (6, 260, 5, 5, 0, 3098), (6, 263, 5, 6, 0, 3100), (6, 266, 5, 7, 0, 3102), (6, 269, 5, 8, 0, 3104), (6, 272, 5, 9, 0, 3106), (6, 278, 5, 10, 0, 3108), (6, 281, 1, 2, 0, 3145), (6, 16, 7, 1, 3, 4014), (6, 19, 7, 2, 1, 4015), (6, 337, 2, 1, 3, 3181), (6, 340, 2, 2, 3, 3183), (6, 343, 2, 3, 3, 3185), (6, 346, 2, 0, 3, 3179), (7, 7, 8, 0, 0, 6108), (15, 15, 0, 0, 3, 3238), (15, 22, 0, 1, 2, 3239), (15, 79, 0, 3, 0, 4002), (10, 1048, 0, 2, 1, 4001), (15, 73, 0, 2, 1, 4000)]
def itab : List (Nat × Nat × Nat × Nat × Nat × Nat × Nat) := [(0, 22, 19, 0, 4049, 0, 0), (0, 29, 202, 1, 4111, 0, 0), (0, 35, 1, 0, 6092, 0, 0), (1, 31, 6, 0, 4223, 0, 0), (1, 35, 193, 0, 4227, 0, 0), (1, 41, 8, 0, 5133, 0, 0), (1, 47, 191, 0, 4235, 0, 0), (1, 51, 206, 0, 5023, 0, 0), (1, 57, 7, 1, 5093, 0, 0), (1, 61, 204, 0, 5105, 0, 0), (1, 62, 205, 0, 5106, 0, 0), (1, 63, 9, 0, 5121, 0, 0), (1, 67, 10, 0, 5125, 0, 0), (1, 71, 11, 0, 5129, 0, 0), (2, 22, 202, 1, 6015, 0, 0), (3, 21, 22, 0, 4167, 0, 0), (3, 31, 21, 0, 4168, 0, 0), (3, 35, 16, 0, 4169, 0, 0), (3, 38, 18, 1, 4173, 0, 0), (4, 32, 33, 0, 4053, 0, 0), (4, 58, 40, 0, 4130, 0, 0), (4, 65, 37, 0, 4135, 0, 0), (4, 69, 47, 0, 4159, 0, 0), (4, 73, 21, 0, 4155, 0, 0), (4, 76, 28, 0, 5227, 0, 0), (4, 79, 29, 0, 5232, 0, 0), (4, 82, 30, 0, 5238, 0, 0), (4, 94, 39, 0, 5231, 0, 0), (4, 98, 43, 0, 5236, 0, 0), (4, 107, 36, 0, 5237, 0, 0), (4, 110, 38, 0, 6002, 0, 0), (4, 113, 32, 0, 7142, 0, 0), (5, 40, 34, 0, 4057, 0, 0), (5, 44, 38, 0, 4095, 0, 0), (5, 48, 39, 0, 4099, 0, 0), (5, 51, 36, 0, 4139, 0, 0), (5, 54, 202, 1, 4134, 0, 0), (5, 60, 50, 0, 6074, 0, 0), (5, 64, 43, 0, 6075, 0, 0), (5, 68, 53, 0, 7116, 0, 0), (6, 61, 0, 0, 4045, 0, 0), (6, 65, 86, 0, 4061, 0, 0), (6, 69, 85, 0, 4103, 0, 0), (6, 73, 89, 0, 4118, 0, 0), (6, 77, 90, 0, 5197, 0, 0), (6, 80, 91, 0, 5202, 0, 0), (6, 83, 100, 0, 4122, 0, 0), (6, 106, 101, 1, 4212, 0, 0), (6, 121, 92, 0, 5214, 0, 0), (6, 124, 93, 0, 4147, 0, 0), (6, 128, 99, 1, 4065, 0, 0), (6, 131, 15, 0, 4163, 0, 0), (6, 137, 17, 0, 6062, 0, 0), (6, 143, 87, 0, 4180, 0, 0), (6, 146, 94, 0, 4188, 0, 0), (6, 149, 95, 0, 5219, 0, 0), (6, 152, 96, 0, 4196, 0, 0), (6, 168, 21, 0, 7086, 0, 0), (6, 171, 42, 0, 7087, 0, 0), (6, 174, 46, 0, 5206, 0, 0), (6, 177, 48, 0, 7091, 0, 0), (6, 180, 26, 0, 4208, 0, 0), (6, 183, 45, 0, 7172, 0, 0), (6, 186, 43, 0, 4087, 0, 0), (6, 189, 44, 0, 6070, 0, 0), (6, 192, 31, 0, 7138, 0, 0), (6, 199, 52, 0, 7112, 0, 0), (6, 213, 5, 0, 4219, 0, 0), (6, 217, 192, 0, 5137, 0, 0), (6, 222, 97, 0, 5193, 0, 0), (6, 225, 1, 0, 6003, 0, 0), (6, 228, 103, 0, 6007, 0, 0), (6, 231, 190, 0, 6190, 0, 0), (6, 209, 189, 0, 6151, 0, 0), (6, 206, 193, 0, 6020, 0, 0), (6, 234, 104, 0, 6186, 0, 0), (6, 202, 98, 1, 4068, 0, 0), (6, 237, 191, 0, 6021, 0, 0), (6, 248, 25, 0, 6030, 0, 0), (6, 251, 49, 0, 5210, 0, 0), (6, 254, 50, 0, 6034, 0, 0), (6, 257, 23, 0, 6038, 0, 0), (6, 275, 51, 0, 6042, 0, 0), (6, 282, 105, 0, 6050, 0, 0), (6, 286, 106, 0, 6058, 0, 0), (6, 289, 107, 0, 6066, 0, 0), (6, 292, 3, 0, 6088, 0, 0), (6, 296, 19, 0, 6097, 0, 0), (6, 299, 4, 0, 6098, 0, 0), (6, 302, 2, 0, 4107, 0, 0), (6, 305, 102, 0, 4071, 0, 0), (6, 308, 88, 0, 4083, 0, 0), (6, 312, 35, 0, 4091, 0, 0), (6, 315, 13, 0, 4079, 0, 0), (6, 319, 20, 0, 4126, 0, 0), (6, 322, 47, 0, 5201, 0, 0), (6, 325, 37, 0, 5218, 0, 0), (6, 328, 22, 0, 4151, 0, 0), (6, 331, 27, 0, 5223, 0, 0), (6, 334, 41, 0, 4200, 0, 0), (6, 349, 12, 0, 4075, 0, 0), (6, 352, 14, 0, 6011, 0, 0), (6, 355, 24, 0, 6054, 0, 0), (8, 23, 119, 0, 6112, 0, 0), (8, 28, 203, 1, 6126, 0, 0), (8, 34, 108, 1, 6123, 0, 0), (8, 40, 80, 0, 6026, 0, 0), (8, 43, 54, 0, 4041, 0, 0), (8, 47, 55, 0, 4114, 0, 0), (8, 50, 56, 0, 6127, 0, 0), (8, 53, 57, 0, 6131, 0, 0), (8, 56, 59, 0, 6135, 0, 0), (8, 59, 60, 0, 4143, 0, 0), (8, 62, 63, 0, 4176, 0, 0), (8, 65, 64, 0, 4184, 0, 0), (8, 68, 65, 0, 6139, 0, 0), (8, 71, 66, 0, 4192, 0, 0), (8, 76, 122, 4, 6218, 0, 0), (8, 77, 78, 0, 6016, 0, 0), (8, 80, 189, 0, 6219, 0, 0), (8, 83, 135, 0, 6220, 0, 0), (8, 87, 77, 0, 6147, 0, 0), (8, 90, 110, 1, 6215, 0, 0), (8, 94, 123, 4, 7030, 0, 0), (8, 97, 190, 0, 7072, 0, 0), (8, 100, 76, 0, 7073, 0, 0), (8, 103, 126, 0, 7077, 0, 0), (8, 106, 58, 0, 7078, 0, 0), (8, 109, 67, 0, 7082, 0, 0), (8, 126, 73, 0, 7108, 0, 0), (8, 129, 142, 0, 7120, 0, 0), (8, 133, 120, 0, 6076, 0, 0), (8, 137, 121, 0, 6080, 0, 0), (8, 147, 72, 0, 7134, 0, 0), (8, 150, 70, 0, 7146, 0, 0), (8, 153, 71, 0, 7150, 0, 0), (8, 156, 81, 0, 6046, 0, 0), (8, 159, 115, 1, 7154, 0, 0), (8, 163, 116, 1, 7165, 0, 0), (8, 167, 61, 0, 7157, 0, 0), (8, 170, 62, 0, 7161, 0, 0), (8, 173, 68, 0, 4204, 0, 0), (8, 176, 69, 0, 7168, 0, 0), (8, 179, 83, 0, 7179, 0, 0), (8, 182, 79, 0, 6022, 0, 0), (8, 186, 84, 0, 6093, 0, 0), (8, 189, 202, 1, 7183, 0, 0), (14, 1, 124, 4, 3225, 0, 0), (14, 7, 125, 4, 7033, 0, 0), (15, 32, 204, 0, 7036, 0, 0), (15, 40, 209, 0, 7038, 0, 0), (15, 43, 127, 6, 7039, 7041, 7042), (14, 29, 128, 3, 7049, 7041, 4011), (14, 23, 126, 0, 7045, 0, 0), (15, 100, 217, 2, 5144, 7187, 0), (15, 208, 129, 2, 7058, 7194, 0), (15, 397, 130, 2, 7062, 7195, 0), (15, 399, 134, 0, 7066, 0, 0), (15, 114, 132, 1, 5152, 0, 0), (18, 194, 203, 1, 5155, 0, 0), (17, 304, 202, 1, 5171, 0, 0), (10, 335, 209, 0, 5040, 0, 0), (14, 137, 136, 4, 6226, 0, 0), (10, 489, 137, 4, 6229, 0, 0), (10, 552, 138, 2, 6233, 6235, 0), (10, 549, 193, 6, 6238, 7184, 7192), (10, 1047, 199, 2, 6239, 5177, 0), (10, 54, 139, 1, 7000, 0, 0), (17, 339, 140, 1, 7003, 0, 0), (17, 343, 141, 1, 7006, 0, 0), (10, 541, 143, 1, 7125, 0, 0), (14, 50, 197, 3, 6155, 7189, 4011), (14, 53, 198, 3, 6194, 7191, 4011), (14, 329, 195, 3, 4239, 7185, 4011), (14, 333, 196, 3, 5141, 7186, 4011), (14, 343, 194, 3, 4231, 7184, 4011), (15, 138, 202, 1, 5002, 0, 0), (15, 144, 210, 1, 5003, 0, 0), (15, 83, 199, 2, 5175, 5177, 0), (15, 191, 213, 1, 6158, 0, 0), (15, 245, 201, 1, 6197, 0, 0), (15, 248, 200, 1, 6200, 0, 0), (10, 492, 208, 0, 5031, 0, 0), (10, 495, 212, 1, 5110, 0, 0), (10, 633, 207, 0, 5027, 0, 0), (10, 505, 204, 0, 5036, 0, 0), (10, 637, 215, 1, 5044, 0, 0), (10, 1059, 211, 1, 5008, 0, 0), (11, 9, 210, 1, 5113, 0, 0), (11, 88, 214, 1, 5047, 0, 0), (11, 92, 203, 1, 5050, 0, 0), (11, 38, 202, 1, 5053, 0, 0), (11, 95, 216, 1, 5054, 0, 0), (15, 104, 131, 2, 5148, 7188, 0), (15, 108, 133, 1, 5161, 0, 0), (8, 193, 82, 0, 6084, 0, 0), (8, 196, 75, 0, 4215, 0, 0), (8, 199, 112, 1, 7095, 0, 0), (8, 203, 74, 1, 6117, 0, 0), (8, 207, 118, 4, 6104, 0, 0), (8, 210, 111, 1, 6143, 0, 0), (8, 214, 109, 1, 6120, 0, 0), (8, 218, 113, 1, 7098, 0, 0), (8, 222, 114, 1, 7128, 0, 0), (8, 225, 117, 1, 7176, 0, 0)]
def stab : List (Nat × Nat × Nat × Nat) := [(15, 18, 0, 3229), (10, 38, 0, 5035), (16, 83, 2, 6203), (16, 87, 3, 6205), (10, 1053, 1, 5006)]
def ntab : List (Nat × Nat × Nat × Nat × Nat × Nat) := [(8, 74, 0, 6146, 3221, 3009), (14, 18, 9, 6224, 6225, 3010), (8, 24, 8, 6102, 6103, 3019)]
def ctab : List (Nat × Nat × Nat × Int32) := [(7, 13, 6116, 1103515245), (15, 38, 7037, 2147483631), (15, 39, 5160, 2147483647), (18, 200, 5156, 2147483639)]
def gtab : List (Nat × Nat × Nat × Nat) := [(17, 311, 1, 5170), (10, 10, 0, 7124)]
def ytab : List (Nat × Nat × Nat × Nat) := [(17, 310, 5164, 1), (17, 150, 5172, 0), (10, 212, 7070, 0)]
def otab : List (Nat × Nat × Nat) := [(7, 1, 6107), (15, 3, 3228), (10, 1, 6232)]
def rtab : List (Nat × Nat × Nat × Nat) := [(10, 9, 0, 7019), (10, 15, 1, 7020)]
def lmp : List Nat := [0, 1, 2, 3, 4, 5, 6, 7, 8, 9, 10, 11, 12, 13, 14, 9, 15, 16, 17, 18]
def ltab : List (Nat × Nat × Nat × String) := [(1, 45, 4234, "sbowpdmhet"), (1, 75, 5096, "1:2/1"), (1, 77, 5097, "2*2"), (1, 79, 5098, "2>1=2"), (1, 81, 5099, "1!2*2"), (1, 83, 5100, "2+2"), (1, 85, 5101, "1>1"), (1, 87, 5102, "1"), (1, 89, 5103, "2"), (1, 91, 5104, ""), (8, 112, 7101, "@"), (8, 114, 7102, ":"), (8, 116, 7103, "/"), (8, 118, 7104, ">"), (8, 120, 7105, "="), (8, 122, 7106, ""), (8, 124, 7107, "!"), (8, 141, 7131, " "), (8, 143, 7132, "x"), (8, 145, 7133, "+")]
def lk (pc : Nat) : List Ent → Option (Instr × Nat × Nat × Nat × Nat)
  | [] => none
  | e :: r => if e.1 = pc then some e.2 else lk pc r
def ins (k pc : Nat) : Option (Instr × Nat × Nat × Nat × Nat) := match mE[k]? with
  | some es => lk pc es
  | none => none
def mnames : Nat := 218
end
section
/-! the checks of the tables, by program -/
def nY (k : Nat) : MethodName := mYL.getD k ⟨"", "", ""⟩
def nB (k : Nat) : ByteArray := mBL.getD k ⟨#[]⟩
def nR (k : Nat) : Option FieldType := mRL.getD k none
def nL (k : Nat) : Nat := (mI.getD k (0, 0, 0, 0)).1
def nA (k : Nat) : Nat := (mI.getD k (0, 0, 0, 0)).2.1
def nS (k : Nat) : Nat := (mI.getD k (0, 0, 0, 0)).2.2.1
def nC (k : Nat) : Nat := (mI.getD k (0, 0, 0, 0)).2.2.2
def nO (k : Nat) : Nat := mO.getD k 99
def cN (i : Nat) : String := clsN.getD i ""
def rcN (ci : Nat) : String := if ci = 25 then "java/lang/String" else ((vwCl[ci]?).map (fun q => q.1)).getD ""
def mOK (k : Nat) : Bool :=
  let y := nY k; let p := mP.getD k (0, 0, 0, 0)
  atT p.2.1 (.initialized y.cls) &&
  (if nS k = 1 then atT p.2.2.1 (.static y) else atT p.2.2.1 (.instanceMethod y)) &&
  decide (y.cls = cN (nO k)) && decide (y.cls ≠ "java/lang/invoke/MethodHandle" ∧ y.cls ≠ "java/lang/invoke/VarHandle") &&
  decide ((parseMethodDescriptor y.desc).map (fun d => d.parameters.length) = some (if nS k = 1 then nA k else nA k - 1)) && decide (nS k = 1 ∨ 1 ≤ nA k) &&
  decide (nA k ≤ nL k) && decide (nL k ≤ 21) && plainFor y
theorem mAll : (List.range mnames).all mOK = true := by decide +kernel
def fOK (f : Nat × Nat × Nat × Nat × Nat × Nat) : Bool := match vwCl[f.2.2.1]? with
  | some (_, T, N) => decide (f.2.2.2.1 < N) && atT f.2.2.2.2.2 (.fieldLink (cN f.1) f.2.1 (T f.2.2.2.1).1 (T f.2.2.2.1).2.1 (T f.2.2.2.1).2.2.1) &&
      decide (f.2.2.2.2.1 = 0 → (T f.2.2.2.1).2.2.1 = "I" ∧ (T f.2.2.2.1).2.2.2 = false) && decide (f.2.2.2.2.1 = 1 → (T f.2.2.2.1).2.2.1 = "Z" ∧ (T f.2.2.2.1).2.2.2 = false) && decide (f.2.2.2.2.1 = 2 → (T f.2.2.2.1).2.2.1 = "B" ∧ (T f.2.2.2.1).2.2.2 = false) && decide (f.2.2.2.2.1 = 3 → f.2.2.1 = 0 → (T f.2.2.2.1).2.2.1 = "[B" ∧ (T f.2.2.2.1).2.2.2 = false)
  | none => false
theorem fAll : ftab.all fOK = true := by decide +kernel
def k6 (k : Nat) : Nat := if k = 193 then 194 else 128
def iOK (f : Nat × Nat × Nat × Nat × Nat × Nat × Nat) : Bool :=
  let y := nY f.2.2.1; let own := cN f.1; let k := f.2.2.1
  decide (k < mnames) && atT f.2.2.2.2.1 (.methodLink own f.2.1 (if f.2.2.2.1 = 6 then ⟨"java/lang/AbstractStringBuilder", y.name, y.desc⟩ else y)) &&
  (if f.2.2.2.1 = 0 then decide (nS k = 0) && decide (rcN (nC k) = y.cls) && atT (mP.getD k (0, 0, 0, 0)).2.2.2 (.selects y.cls y y)
   else if f.2.2.2.1 = 1 then decide (nS k = 1)
   else if f.2.2.2.1 = 2 then decide (nS k = 0) && decide (rcN (nC k) = "java/lang/StringBuilder") && atT (mP.getD k (0, 0, 0, 0)).2.2.2 (.selects "java/lang/StringBuilder" y y) && atT f.2.2.2.2.2.1 (.sameMethod y.cls y.cls y.name y.desc)
   else if f.2.2.2.1 = 3 then decide (nS k = 0) && decide (rcN (nC k) = "java/lang/StringBuilder") && atT f.2.2.2.2.2.1 (.sameMethod y.cls y.cls y.name y.desc) && atT f.2.2.2.2.2.2 (.superclass own y.cls) && decide (y.name ≠ "<init>")
   else if f.2.2.2.1 = 4 then decide (nS k = 0) && decide (y.name = "<init>") && decide (nR k = none)
   else decide (nS k = 0) && decide (rcN (nC k) = "java/lang/StringBuilder") && decide (nY (k6 k) = ⟨"java/lang/AbstractStringBuilder", y.name, y.desc⟩) && decide (k6 k < mnames) && decide (nS (k6 k) = 0) && atT f.2.2.2.2.2.2 (.selects "java/lang/StringBuilder" ⟨"java/lang/AbstractStringBuilder", y.name, y.desc⟩ y) && atT f.2.2.2.2.2.1 (.sameMethod "java/lang/AbstractStringBuilder" "java/lang/AbstractStringBuilder" y.name y.desc))
theorem iAll : itab.all iOK = true := by decide +kernel
def ilen : Instr → Nat
  | .bipush _ | .iload _ | .aload _ | .dload _ | .dstore _ | .fload _ | .fstore _ | .istore _ | .astore _ | .ldc _ | .newarray _ => 2
  | .sipush _ | .ifCond _ _ | .if_icmp _ _ | .ldc_w _ | .if_acmp _ _ | .ifnonnull _ | .instanceof _ | .checkcast _ | .goto _ | .iinc _ _ | .getfield _ | .putfield _ | .getstatic _ | .invokevirtual _ | .invokestatic _ | .invokespecial _ | .new _ => 3
  | _ => 1
def isTS : Instr → Bool
  | .tableswitch .. => true
  | _ => false
def jOK (pc : Nat) : Instr → Bool
  | .ifCond _ o | .if_icmp _ o | .if_acmp _ o | .ifnonnull o | .goto o => decide (0 ≤ (pc : Int) + o)
  | .tableswitch d _ _ os => decide (0 ≤ (pc : Int) + d) && os.toList.all (fun o => decide (0 ≤ (pc : Int) + o))
  | _ => true
def callOK (k idx a b c : Nat) (kinds : List Nat) : Bool := decide (996 ≤ b) || (match itab[a]? with
  | some f => decide (f.1 = nO k) && decide (f.2.1 = idx) && decide (f.2.2.1 = b) && decide (f.2.2.2.1 = c) && kinds.contains c
  | none => false)
def yRow (k idx a t : Nat) : Bool := match ytab[a]? with
  | some f => decide (f.1 = nO k) && decide (f.2.1 = idx) && decide (f.2.2.2 = t)
  | none => false
def oRow (k idx a : Nat) : Bool := match otab[a]? with
  | some f => decide (f.1 = nO k) && decide (f.2.1 = idx)
  | none => false
def eOK (k : Nat) (e : Ent) : Bool :=
  (match decode (nB k) e.1 with
   | .ok (i, L) => decide (i = e.2.1) && (decide (L = ilen i) || isTS i)
   | .error _ => false) && jOK e.1 e.2.1 &&
  (match e.2.1 with
   | .getfield idx | .putfield idx => if e.2.2.2.1 = 25 then (match rtab[e.2.2.1]? with
        | some f => decide (f.1 = nO k) && decide (f.2.1 = idx) && decide (f.2.2.1 = e.2.2.2.2.1)
        | none => false) else (match ftab[e.2.2.1]? with
        | some f => decide (f.1 = nO k) && decide (f.2.1 = idx) && decide (f.2.2.1 = e.2.2.2.1) && decide (f.2.2.2.1 = e.2.2.2.2.1) && decide (f.2.2.2.2.1 = e.2.2.2.2.2)
        | none => false)
   | .invokevirtual idx => callOK k idx e.2.2.1 e.2.2.2.1 e.2.2.2.2.1 [0, 2, 6] && (decide (e.2.2.2.1 ≠ 997) || yRow k idx e.2.2.1 1)
   | .invokestatic idx => callOK k idx e.2.2.1 e.2.2.2.1 e.2.2.2.2.1 [1] && (decide (e.2.2.2.1 ≠ 998) || yRow k idx e.2.2.1 0)
   | .invokespecial idx => callOK k idx e.2.2.1 e.2.2.2.1 e.2.2.2.2.1 [3, 4] && (decide (e.2.2.2.1 ≠ 996) || oRow k idx e.2.2.1)
   | .getstatic idx => (match stab[e.2.2.1]? with
        | some f => decide (f.1 = nO k) && decide (f.2.1 = idx) && decide (f.2.2.1 = e.2.2.2.1)
        | none => false)
   | .ldc idx => if e.2.2.2.1 = 999 then true else if e.2.2.2.1 = 2 then (match ctab[e.2.2.1]? with
        | some f => decide (f.1 = nO k) && decide (f.2.1 = idx) && decide (e.2.2.2.2.1 = e.2.2.1)
        | none => false) else (match ltab[e.2.2.1]? with
        | some f => decide (f.1 = nO k) && decide (f.2.1 = idx) && decide (e.2.2.2.2.1 = lmp.getD e.2.2.1 0)
        | none => false)
   | .new idx => if e.2.2.2.1 = 999 then true else (match ntab[e.2.2.1]? with
        | some f => decide (f.1 = nO k) && decide (f.2.1 = idx) && decide (f.2.2.1 = e.2.2.2.1)
        | none => false)
   | .instanceof idx | .checkcast idx => if e.2.2.2.1 = 999 then true else (match gtab[e.2.2.1]? with
        | some f => decide (f.1 = nO k) && decide (f.2.1 = idx) && decide (f.2.2.1 = e.2.2.2.1)
        | none => false)
   | _ => true)
def nOK (f : Nat × Nat × Nat × Nat × Nat × Nat) : Bool := match vwCl[f.2.2.1]? with
  | some (C, _, N) => decide (f.2.2.1 = 0 ∨ f.2.2.1 = 8 ∨ f.2.2.1 = 9) && atT f.2.2.2.1 (.classLink (cN f.1) f.2.1 C) && atT f.2.2.2.2.1 (.instantiable C N) && atT f.2.2.2.2.2 (.initialized C)
  | none => false
theorem nAll : ntab.all nOK = true := by decide +kernel
def kOK (f : Nat × Nat × Nat × Int32) : Bool := atT f.2.2.1 (.constant (cN f.1) f.2.1 f.2.2.2)
theorem kAll : ctab.all kOK = true := by decide +kernel
def gOK (f : Nat × Nat × Nat × Nat) : Bool := atT f.2.2.2 (.classLink (cN f.1) f.2.1 (if f.2.2.1 = 0 then "java/lang/String" else "[B"))
theorem gAll : gtab.all gOK = true := by decide +kernel
def yOK (f : Nat × Nat × Nat × Nat) : Bool := atT f.2.2.1 (.methodLink (cN f.1) f.2.1 (if f.2.2.2 = 0 then arraycopyName else ⟨"[B", "clone", "()Ljava/lang/Object;"⟩))
theorem yAll : ytab.all yOK = true := by decide +kernel
def oOK (f : Nat × Nat × Nat) : Bool := atT f.2.2 (.methodLink (cN f.1) f.2.1 objectInit)
theorem oAll : otab.all oOK = true := by decide +kernel
def sOK (f : Nat × Nat × Nat × Nat) : Bool := match f.2.2.1 with
  | 0 => atT f.2.2.2 (.fieldLink (cN f.1) f.2.1 "java/lang/String" "COMPACT_STRINGS" "Z")
  | 1 => atT f.2.2.2 (.fieldLink (cN f.1) f.2.1 "jdk/internal/util/Preconditions" "SIOOBE_FORMATTER" "Ljava/util/function/BiFunction;")
  | 2 => atT f.2.2.2 (.fieldLink (cN f.1) f.2.1 "java/lang/Integer" "DigitOnes" "[B")
  | 3 => atT f.2.2.2 (.fieldLink (cN f.1) f.2.1 "java/lang/Integer" "DigitTens" "[B")
  | _ => false
theorem sAll : stab.all sOK = true := by decide +kernel
def rOK (f : Nat × Nat × Nat × Nat) : Bool := match f.2.2.1 with
  | 0 => atT f.2.2.2 (.fieldLink (cN f.1) f.2.1 "java/lang/String" "value" "[B")
  | 1 => atT f.2.2.2 (.fieldLink (cN f.1) f.2.1 "java/lang/String" "coder" "B")
  | _ => false
theorem rAll : rtab.all rOK = true := by decide +kernel
def lOK (f : Nat × Nat × Nat × String) : Bool := (match (TTs (f.2.2.1 / 1000))[f.2.2.1 % 1000]? with
  | some w => decide (w = .stringRef (cN f.1) f.2.1 f.2.2.2)
  | none => false)
theorem lAll : ltab.all lOK = true := by decide +kernel
def eAllK (k : Nat) : Bool := (mE.getD k []).all (eOK k)
theorem cIn_0 : Cond.code yX0_begin cX0_begin 2 none ∈ Tall := List.mem_filter.mpr ⟨TTs_in (j := 4) (List.mem_of_getElem? (i := 48) rfl), rfl⟩
theorem cIn_1 : Cond.code yX0_takeBack cX0_takeBack 2 none ∈ Tall := List.mem_filter.mpr ⟨TTs_in (j := 6) (List.mem_of_getElem? (i := 6) rfl), rfl⟩
theorem cIn_2 : Cond.code yX0_keep cX0_keep 1 none ∈ Tall := List.mem_filter.mpr ⟨TTs_in (j := 4) (List.mem_of_getElem? (i := 110) rfl), rfl⟩
theorem cIn_3 : Cond.code yX0_stepBack cX0_stepBack 2 (some .boolean) ∈ Tall := List.mem_filter.mpr ⟨TTs_in (j := 6) (List.mem_of_getElem? (i := 91) rfl), rfl⟩
theorem cIn_4 : Cond.code yX0_forget cX0_forget 1 none ∈ Tall := List.mem_filter.mpr ⟨TTs_in (j := 6) (List.mem_of_getElem? (i := 101) rfl), rfl⟩
theorem cIn_5 : Cond.code yX1_read cX1_read 3 (some .int) ∈ Tall := List.mem_filter.mpr ⟨TTs_in (j := 4) (List.mem_of_getElem? (i := 222) rfl), rfl⟩
theorem cIn_6 : Cond.code yX1_isOrderRead cX1_isOrderRead 8 (some .boolean) ∈ Tall := List.mem_filter.mpr ⟨TTs_in (j := 4) (List.mem_of_getElem? (i := 226) rfl), rfl⟩
theorem cIn_7 : Cond.code yX1_patternOf cX1_patternOf 1 (some (.object "java/lang/String")) ∈ Tall := List.mem_filter.mpr ⟨TTs_in (j := 5) (List.mem_of_getElem? (i := 95) rfl), rfl⟩
theorem cIn_8 : Cond.code yX1_isSignRead cX1_isSignRead 3 (some .boolean) ∈ Tall := List.mem_filter.mpr ⟨TTs_in (j := 5) (List.mem_of_getElem? (i := 136) rfl), rfl⟩
theorem cIn_9 : Cond.code yX1_hasDigit cX1_hasDigit 2 (some .boolean) ∈ Tall := List.mem_filter.mpr ⟨TTs_in (j := 5) (List.mem_of_getElem? (i := 124) rfl), rfl⟩
theorem cIn_10 : Cond.code yX1_readNumber cX1_readNumber 6 (some .int) ∈ Tall := List.mem_filter.mpr ⟨TTs_in (j := 5) (List.mem_of_getElem? (i := 128) rfl), rfl⟩
theorem cIn_11 : Cond.code yX1_keepNumber cX1_keepNumber 4 none ∈ Tall := List.mem_filter.mpr ⟨TTs_in (j := 5) (List.mem_of_getElem? (i := 132) rfl), rfl⟩
theorem cIn_12 : Cond.code yX2_clear cX2_clear 1 none ∈ Tall := List.mem_filter.mpr ⟨TTs_in (j := 4) (List.mem_of_getElem? (i := 78) rfl), rfl⟩
theorem cIn_13 : Cond.code yX2_putBehind cX2_putBehind 3 none ∈ Tall := List.mem_filter.mpr ⟨TTs_in (j := 4) (List.mem_of_getElem? (i := 82) rfl), rfl⟩
theorem cIn_14 : Cond.code yX2_putAhead cX2_putAhead 4 none ∈ Tall := List.mem_filter.mpr ⟨TTs_in (j := 6) (List.mem_of_getElem? (i := 14) rfl), rfl⟩
theorem cIn_15 : Cond.code yX3_divide cX3_divide 6 none ∈ Tall := List.mem_filter.mpr ⟨TTs_in (j := 4) (List.mem_of_getElem? (i := 166) rfl), rfl⟩
theorem cIn_16 : Cond.code yX3_giveOneByRest cX3_giveOneByRest 2 none ∈ Tall := List.mem_filter.mpr ⟨TTs_in (j := 4) (List.mem_of_getElem? (i := 172) rfl), rfl⟩
theorem cIn_17 : Cond.code yX3_deal cX3_deal 6 none ∈ Tall := List.mem_filter.mpr ⟨TTs_in (j := 6) (List.mem_of_getElem? (i := 65) rfl), rfl⟩
theorem cIn_18 : Cond.code yX3_greatest cX3_greatest 3 (some .int) ∈ Tall := List.mem_filter.mpr ⟨TTs_in (j := 4) (List.mem_of_getElem? (i := 175) rfl), rfl⟩
theorem cIn_19 : Cond.code yX4_copyFrom cX4_copyFrom 3 none ∈ Tall := List.mem_filter.mpr ⟨TTs_in (j := 4) (List.mem_of_getElem? (i := 52) rfl), rfl⟩
theorem cIn_20 : Cond.code yX4_burnDown cX4_burnDown 5 (some .int) ∈ Tall := List.mem_filter.mpr ⟨TTs_in (j := 4) (List.mem_of_getElem? (i := 129) rfl), rfl⟩
theorem cIn_21 : Cond.code yX4_claimOf cX4_claimOf 2 (some .int) ∈ Tall := List.mem_filter.mpr ⟨TTs_in (j := 4) (List.mem_of_getElem? (i := 158) rfl), rfl⟩
theorem cIn_22 : Cond.code yX4_allClaims cX4_allClaims 3 (some .int) ∈ Tall := List.mem_filter.mpr ⟨TTs_in (j := 4) (List.mem_of_getElem? (i := 154) rfl), rfl⟩
theorem cIn_23 : Cond.code yX4_allStores cX4_allStores 3 (some .int) ∈ Tall := List.mem_filter.mpr ⟨TTs_in (j := 6) (List.mem_of_getElem? (i := 41) rfl), rfl⟩
theorem cIn_24 : Cond.code yX4_allPooled cX4_allPooled 3 (some .int) ∈ Tall := List.mem_filter.mpr ⟨TTs_in (j := 6) (List.mem_of_getElem? (i := 57) rfl), rfl⟩
theorem cIn_25 : Cond.code yX4_openHouses cX4_openHouses 3 (some .int) ∈ Tall := List.mem_filter.mpr ⟨TTs_in (j := 6) (List.mem_of_getElem? (i := 33) rfl), rfl⟩
theorem cIn_26 : Cond.code yX4_successorOf cX4_successorOf 4 (some .int) ∈ Tall := List.mem_filter.mpr ⟨TTs_in (j := 4) (List.mem_of_getElem? (i := 211) rfl), rfl⟩
theorem cIn_27 : Cond.code yX4_handOver cX4_handOver 3 none ∈ Tall := List.mem_filter.mpr ⟨TTs_in (j := 5) (List.mem_of_getElem? (i := 226) rfl), rfl⟩
theorem cIn_28 : Cond.code yX4_handOverRights cX4_handOverRights 4 none ∈ Tall := List.mem_filter.mpr ⟨TTs_in (j := 5) (List.mem_of_getElem? (i := 230) rfl), rfl⟩
theorem cIn_29 : Cond.code yX4_handOverStubs cX4_handOverStubs 7 none ∈ Tall := List.mem_filter.mpr ⟨TTs_in (j := 5) (List.mem_of_getElem? (i := 235) rfl), rfl⟩
theorem cIn_30 : Cond.code yX4_dropWhatIsOwn cX4_dropWhatIsOwn 2 none ∈ Tall := List.mem_filter.mpr ⟨TTs_in (j := 6) (List.mem_of_getElem? (i := 1) rfl), rfl⟩
theorem cIn_31 : Cond.code yX4_housesAheadOf cX4_housesAheadOf 4 (some .int) ∈ Tall := List.mem_filter.mpr ⟨TTs_in (j := 7) (List.mem_of_getElem? (i := 141) rfl), rfl⟩
theorem cIn_32 : Cond.code yX4_isAhead cX4_isAhead 5 (some .boolean) ∈ Tall := List.mem_filter.mpr ⟨TTs_in (j := 7) (List.mem_of_getElem? (i := 145) rfl), rfl⟩
theorem cIn_33 : Cond.code yX5_copyFrom cX5_copyFrom 3 none ∈ Tall := List.mem_filter.mpr ⟨TTs_in (j := 4) (List.mem_of_getElem? (i := 56) rfl), rfl⟩
theorem cIn_34 : Cond.code yX5_copyStub cX5_copyStub 4 none ∈ Tall := List.mem_filter.mpr ⟨TTs_in (j := 4) (List.mem_of_getElem? (i := 60) rfl), rfl⟩
theorem cIn_35 : Cond.code yX5_put cX5_put 5 (some .int) ∈ Tall := List.mem_filter.mpr ⟨TTs_in (j := 4) (List.mem_of_getElem? (i := 94) rfl), rfl⟩
theorem cIn_36 : Cond.code yX5_remove cX5_remove 3 none ∈ Tall := List.mem_filter.mpr ⟨TTs_in (j := 4) (List.mem_of_getElem? (i := 142) rfl), rfl⟩
theorem cIn_37 : Cond.code yX5_takeWax cX5_takeWax 3 none ∈ Tall := List.mem_filter.mpr ⟨TTs_in (j := 4) (List.mem_of_getElem? (i := 138) rfl), rfl⟩
theorem cIn_38 : Cond.code yX5_forgive cX5_forgive 2 none ∈ Tall := List.mem_filter.mpr ⟨TTs_in (j := 4) (List.mem_of_getElem? (i := 98) rfl), rfl⟩
theorem cIn_39 : Cond.code yX5_release cX5_release 2 none ∈ Tall := List.mem_filter.mpr ⟨TTs_in (j := 4) (List.mem_of_getElem? (i := 102) rfl), rfl⟩
theorem cIn_40 : Cond.code yX5_payBack cX5_payBack 4 (some .int) ∈ Tall := List.mem_filter.mpr ⟨TTs_in (j := 4) (List.mem_of_getElem? (i := 133) rfl), rfl⟩
theorem cIn_41 : Cond.code yX5_shortenWrits cX5_shortenWrits 4 (some .int) ∈ Tall := List.mem_filter.mpr ⟨TTs_in (j := 4) (List.mem_of_getElem? (i := 203) rfl), rfl⟩
theorem cIn_42 : Cond.code yX5_countOn cX5_countOn 4 (some .int) ∈ Tall := List.mem_filter.mpr ⟨TTs_in (j := 7) (List.mem_of_getElem? (i := 90) rfl), rfl⟩
theorem cIn_43 : Cond.code yX5_weightOn cX5_weightOn 4 (some .int) ∈ Tall := List.mem_filter.mpr ⟨TTs_in (j := 4) (List.mem_of_getElem? (i := 90) rfl), rfl⟩
theorem cIn_44 : Cond.code yX5_weightBesideOthers cX5_weightBesideOthers 4 (some .int) ∈ Tall := List.mem_filter.mpr ⟨TTs_in (j := 6) (List.mem_of_getElem? (i := 73) rfl), rfl⟩
theorem cIn_45 : Cond.code yX5_tooManyFor cX5_tooManyFor 7 (some .int) ∈ Tall := List.mem_filter.mpr ⟨TTs_in (j := 7) (List.mem_of_getElem? (i := 175) rfl), rfl⟩
theorem cIn_46 : Cond.code yX5_writsBy cX5_writsBy 4 (some .int) ∈ Tall := List.mem_filter.mpr ⟨TTs_in (j := 5) (List.mem_of_getElem? (i := 209) rfl), rfl⟩
theorem cIn_47 : Cond.code yX5_owedTo cX5_owedTo 4 (some .int) ∈ Tall := List.mem_filter.mpr ⟨TTs_in (j := 4) (List.mem_of_getElem? (i := 162) rfl), rfl⟩
theorem cIn_48 : Cond.code yX5_owedBy cX5_owedBy 4 (some .int) ∈ Tall := List.mem_filter.mpr ⟨TTs_in (j := 7) (List.mem_of_getElem? (i := 94) rfl), rfl⟩
theorem cIn_49 : Cond.code yX5_allWrits cX5_allWrits 3 (some .int) ∈ Tall := List.mem_filter.mpr ⟨TTs_in (j := 5) (List.mem_of_getElem? (i := 213) rfl), rfl⟩
theorem cIn_50 : Cond.code yX5_allWax cX5_allWax 3 (some .int) ∈ Tall := List.mem_filter.mpr ⟨TTs_in (j := 6) (List.mem_of_getElem? (i := 37) rfl), rfl⟩
theorem cIn_51 : Cond.code yX5_allDebts cX5_allDebts 3 (some .int) ∈ Tall := List.mem_filter.mpr ⟨TTs_in (j := 6) (List.mem_of_getElem? (i := 45) rfl), rfl⟩
theorem cIn_52 : Cond.code yX5_stubsAheadOf cX5_stubsAheadOf 4 (some .int) ∈ Tall := List.mem_filter.mpr ⟨TTs_in (j := 7) (List.mem_of_getElem? (i := 115) rfl), rfl⟩
theorem cIn_53 : Cond.code yX5_isAhead cX5_isAhead 5 (some .boolean) ∈ Tall := List.mem_filter.mpr ⟨TTs_in (j := 7) (List.mem_of_getElem? (i := 119) rfl), rfl⟩
theorem cIn_54 : Cond.code yX6_stub cX6_stub 4 (some .int) ∈ Tall := List.mem_filter.mpr ⟨TTs_in (j := 4) (List.mem_of_getElem? (i := 44) rfl), rfl⟩
theorem cIn_55 : Cond.code yX6_burn cX6_burn 3 (some .int) ∈ Tall := List.mem_filter.mpr ⟨TTs_in (j := 4) (List.mem_of_getElem? (i := 117) rfl), rfl⟩
theorem cIn_56 : Cond.code yX6_owe cX6_owe 4 (some .int) ∈ Tall := List.mem_filter.mpr ⟨TTs_in (j := 6) (List.mem_of_getElem? (i := 130) rfl), rfl⟩
theorem cIn_57 : Cond.code yX6_writ cX6_writ 4 (some .int) ∈ Tall := List.mem_filter.mpr ⟨TTs_in (j := 6) (List.mem_of_getElem? (i := 134) rfl), rfl⟩
theorem cIn_58 : Cond.code yX6_stubOf cX6_stubOf 4 (some .int) ∈ Tall := List.mem_filter.mpr ⟨TTs_in (j := 7) (List.mem_of_getElem? (i := 81) rfl), rfl⟩
theorem cIn_59 : Cond.code yX6_pool cX6_pool 3 (some .int) ∈ Tall := List.mem_filter.mpr ⟨TTs_in (j := 6) (List.mem_of_getElem? (i := 138) rfl), rfl⟩
theorem cIn_60 : Cond.code yX6_share cX6_share 1 (some .int) ∈ Tall := List.mem_filter.mpr ⟨TTs_in (j := 4) (List.mem_of_getElem? (i := 146) rfl), rfl⟩
theorem cIn_61 : Cond.code yX6_part cX6_part 2 (some .int) ∈ Tall := List.mem_filter.mpr ⟨TTs_in (j := 7) (List.mem_of_getElem? (i := 160) rfl), rfl⟩
theorem cIn_62 : Cond.code yX6_partAgain cX6_partAgain 2 (some .int) ∈ Tall := List.mem_filter.mpr ⟨TTs_in (j := 7) (List.mem_of_getElem? (i := 164) rfl), rfl⟩
theorem cIn_63 : Cond.code yX6_mould cX6_mould 4 (some .int) ∈ Tall := List.mem_filter.mpr ⟨TTs_in (j := 4) (List.mem_of_getElem? (i := 179) rfl), rfl⟩
theorem cIn_64 : Cond.code yX6_heir cX6_heir 3 (some .int) ∈ Tall := List.mem_filter.mpr ⟨TTs_in (j := 4) (List.mem_of_getElem? (i := 187) rfl), rfl⟩
theorem cIn_65 : Cond.code yX6_end cX6_end 2 (some .int) ∈ Tall := List.mem_filter.mpr ⟨TTs_in (j := 6) (List.mem_of_getElem? (i := 142) rfl), rfl⟩
theorem cIn_66 : Cond.code yX6_pass cX6_pass 2 (some .int) ∈ Tall := List.mem_filter.mpr ⟨TTs_in (j := 4) (List.mem_of_getElem? (i := 195) rfl), rfl⟩
theorem cIn_67 : Cond.code yX6_houseOf cX6_houseOf 3 (some .int) ∈ Tall := List.mem_filter.mpr ⟨TTs_in (j := 7) (List.mem_of_getElem? (i := 85) rfl), rfl⟩
theorem cIn_68 : Cond.code yX6_inherits cX6_inherits 2 (some .int) ∈ Tall := List.mem_filter.mpr ⟨TTs_in (j := 4) (List.mem_of_getElem? (i := 207) rfl), rfl⟩
theorem cIn_69 : Cond.code yX6_wouldMelt cX6_wouldMelt 3 (some .int) ∈ Tall := List.mem_filter.mpr ⟨TTs_in (j := 7) (List.mem_of_getElem? (i := 171) rfl), rfl⟩
theorem cIn_70 : Cond.code yX6_weight cX6_weight 2 (some .int) ∈ Tall := List.mem_filter.mpr ⟨TTs_in (j := 7) (List.mem_of_getElem? (i := 149) rfl), rfl⟩
theorem cIn_71 : Cond.code yX6_weightAgain cX6_weightAgain 2 (some .int) ∈ Tall := List.mem_filter.mpr ⟨TTs_in (j := 7) (List.mem_of_getElem? (i := 153) rfl), rfl⟩
theorem cIn_72 : Cond.code yX6_ranked cX6_ranked 3 (some .int) ∈ Tall := List.mem_filter.mpr ⟨TTs_in (j := 7) (List.mem_of_getElem? (i := 137) rfl), rfl⟩
theorem cIn_73 : Cond.code yX6_brightest cX6_brightest 3 (some .int) ∈ Tall := List.mem_filter.mpr ⟨TTs_in (j := 7) (List.mem_of_getElem? (i := 111) rfl), rfl⟩
theorem cIn_74 : Cond.code yL_cell cL_cell 2 (some .int) ∈ Tall := List.mem_filter.mpr ⟨TTs_in (j := 6) (List.mem_of_getElem? (i := 119) rfl), rfl⟩
theorem cIn_75 : Cond.code yX6_run cX6_run 4 (some .int) ∈ Tall := List.mem_filter.mpr ⟨TTs_in (j := 4) (List.mem_of_getElem? (i := 218) rfl), rfl⟩
theorem cIn_76 : Cond.code yX6_tell cX6_tell 3 (some .int) ∈ Tall := List.mem_filter.mpr ⟨TTs_in (j := 7) (List.mem_of_getElem? (i := 76) rfl), rfl⟩
theorem cIn_77 : Cond.code yX6_tellHouses cX6_tellHouses 2 (some .int) ∈ Tall := List.mem_filter.mpr ⟨TTs_in (j := 6) (List.mem_of_getElem? (i := 150) rfl), rfl⟩
theorem cIn_78 : Cond.code yX6_character cX6_character 2 (some .int) ∈ Tall := List.mem_filter.mpr ⟨TTs_in (j := 6) (List.mem_of_getElem? (i := 19) rfl), rfl⟩
theorem cIn_79 : Cond.code yX6_reason cX6_reason 3 (some .int) ∈ Tall := List.mem_filter.mpr ⟨TTs_in (j := 6) (List.mem_of_getElem? (i := 25) rfl), rfl⟩
theorem cIn_80 : Cond.code yX6_account cX6_account 2 (some .int) ∈ Tall := List.mem_filter.mpr ⟨TTs_in (j := 6) (List.mem_of_getElem? (i := 29) rfl), rfl⟩
theorem cIn_81 : Cond.code yX6_isBalanced cX6_isBalanced 1 (some .int) ∈ Tall := List.mem_filter.mpr ⟨TTs_in (j := 6) (List.mem_of_getElem? (i := 49) rfl), rfl⟩
theorem cIn_82 : Cond.code yX6_undo cX6_undo 1 (some .int) ∈ Tall := List.mem_filter.mpr ⟨TTs_in (j := 6) (List.mem_of_getElem? (i := 87) rfl), rfl⟩
theorem cIn_83 : Cond.code yX6_save cX6_save 1 (some .int) ∈ Tall := List.mem_filter.mpr ⟨TTs_in (j := 7) (List.mem_of_getElem? (i := 182) rfl), rfl⟩
theorem cIn_84 : Cond.code yX6_restore cX6_restore 1 (some .int) ∈ Tall := List.mem_filter.mpr ⟨TTs_in (j := 6) (List.mem_of_getElem? (i := 96) rfl), rfl⟩
theorem cIn_85 : Cond.code yX6_settle cX6_settle 2 (some .int) ∈ Tall := List.mem_filter.mpr ⟨TTs_in (j := 4) (List.mem_of_getElem? (i := 106) rfl), rfl⟩
theorem cIn_86 : Cond.code yX6_bringStub cX6_bringStub 4 (some .int) ∈ Tall := List.mem_filter.mpr ⟨TTs_in (j := 4) (List.mem_of_getElem? (i := 64) rfl), rfl⟩
theorem cIn_87 : Cond.code yX6_mouldStub cX6_mouldStub 4 (some .int) ∈ Tall := List.mem_filter.mpr ⟨TTs_in (j := 4) (List.mem_of_getElem? (i := 183) rfl), rfl⟩
theorem cIn_88 : Cond.code yX6_hasRoomFor cX6_hasRoomFor 4 (some .boolean) ∈ Tall := List.mem_filter.mpr ⟨TTs_in (j := 4) (List.mem_of_getElem? (i := 86) rfl), rfl⟩
theorem cIn_89 : Cond.code yX6_burnStub cX6_burnStub 4 (some .int) ∈ Tall := List.mem_filter.mpr ⟨TTs_in (j := 4) (List.mem_of_getElem? (i := 121) rfl), rfl⟩
theorem cIn_90 : Cond.code yX6_oweLight cX6_oweLight 5 (some .int) ∈ Tall := List.mem_filter.mpr ⟨TTs_in (j := 5) (List.mem_of_getElem? (i := 200) rfl), rfl⟩
theorem cIn_91 : Cond.code yX6_snuffStub cX6_snuffStub 5 (some .int) ∈ Tall := List.mem_filter.mpr ⟨TTs_in (j := 5) (List.mem_of_getElem? (i := 205) rfl), rfl⟩
theorem cIn_92 : Cond.code yX6_poolWax cX6_poolWax 3 (some .int) ∈ Tall := List.mem_filter.mpr ⟨TTs_in (j := 5) (List.mem_of_getElem? (i := 217) rfl), rfl⟩
theorem cIn_93 : Cond.code yX6_sharePool cX6_sharePool 3 (some .int) ∈ Tall := List.mem_filter.mpr ⟨TTs_in (j := 4) (List.mem_of_getElem? (i := 150) rfl), rfl⟩
theorem cIn_94 : Cond.code yX6_tellHeir cX6_tellHeir 4 (some .int) ∈ Tall := List.mem_filter.mpr ⟨TTs_in (j := 4) (List.mem_of_getElem? (i := 191) rfl), rfl⟩
theorem cIn_95 : Cond.code yX6_endHouse cX6_endHouse 3 (some .int) ∈ Tall := List.mem_filter.mpr ⟨TTs_in (j := 5) (List.mem_of_getElem? (i := 222) rfl), rfl⟩
theorem cIn_96 : Cond.code yX6_passHours cX6_passHours 2 (some .int) ∈ Tall := List.mem_filter.mpr ⟨TTs_in (j := 4) (List.mem_of_getElem? (i := 199) rfl), rfl⟩
theorem cIn_97 : Cond.code yX6_carryOut cX6_carryOut 5 (some .int) ∈ Tall := List.mem_filter.mpr ⟨TTs_in (j := 5) (List.mem_of_getElem? (i := 196) rfl), rfl⟩
theorem cIn_98 : Cond.code yX6_isFrom cX6_isFrom 3 (some .boolean) ∈ Tall := List.mem_filter.mpr ⟨TTs_in (j := 4) (List.mem_of_getElem? (i := 70) rfl), rfl⟩
theorem cIn_99 : Cond.code yX6_isHouse cX6_isHouse 1 (some .boolean) ∈ Tall := List.mem_filter.mpr ⟨TTs_in (j := 4) (List.mem_of_getElem? (i := 67) rfl), rfl⟩
theorem cIn_100 : Cond.code yX6_isStub cX6_isStub 2 (some .boolean) ∈ Tall := List.mem_filter.mpr ⟨TTs_in (j := 4) (List.mem_of_getElem? (i := 125) rfl), rfl⟩
theorem cIn_101 : Cond.code yX6_orNothing cX6_orNothing 1 (some .int) ∈ Tall := List.mem_filter.mpr ⟨TTs_in (j := 4) (List.mem_of_getElem? (i := 214) rfl), rfl⟩
theorem cIn_102 : Cond.code yX6_refuse cX6_refuse 3 (some .int) ∈ Tall := List.mem_filter.mpr ⟨TTs_in (j := 4) (List.mem_of_getElem? (i := 74) rfl), rfl⟩
theorem cIn_103 : Cond.code yX6_refuseOrder cX6_refuseOrder 3 (some .int) ∈ Tall := List.mem_filter.mpr ⟨TTs_in (j := 6) (List.mem_of_getElem? (i := 10) rfl), rfl⟩
theorem cIn_104 : Cond.code yX6_writeHouse cX6_writeHouse 2 none ∈ Tall := List.mem_filter.mpr ⟨TTs_in (j := 6) (List.mem_of_getElem? (i := 189) rfl), rfl⟩
theorem cIn_105 : Cond.code yX6_isWaxAccountedFor cX6_isWaxAccountedFor 2 (some .boolean) ∈ Tall := List.mem_filter.mpr ⟨TTs_in (j := 6) (List.mem_of_getElem? (i := 53) rfl), rfl⟩
theorem cIn_106 : Cond.code yX6_areSharesSame cX6_areSharesSame 3 (some .boolean) ∈ Tall := List.mem_filter.mpr ⟨TTs_in (j := 6) (List.mem_of_getElem? (i := 61) rfl), rfl⟩
theorem cIn_107 : Cond.code yX6_areWeightsSame cX6_areWeightsSame 2 (some .boolean) ∈ Tall := List.mem_filter.mpr ⟨TTs_in (j := 6) (List.mem_of_getElem? (i := 69) rfl), rfl⟩
theorem cIn_108 : Cond.code yL_some cL_some 2 (some .int) ∈ Tall := List.mem_filter.mpr ⟨TTs_in (j := 6) (List.mem_of_getElem? (i := 125) rfl), rfl⟩
theorem cIn_109 : Cond.code yL_acts cL_acts 5 (some .int) ∈ Tall := List.mem_filter.mpr ⟨TTs_in (j := 6) (List.mem_of_getElem? (i := 122) rfl), rfl⟩
theorem cIn_110 : Cond.code yL_line cL_line 4 (some (.object "java/lang/String")) ∈ Tall := List.mem_filter.mpr ⟨TTs_in (j := 6) (List.mem_of_getElem? (i := 217) rfl), rfl⟩
theorem cIn_111 : Cond.code yL_told cL_told 3 (some (.object "java/lang/String")) ∈ Tall := List.mem_filter.mpr ⟨TTs_in (j := 6) (List.mem_of_getElem? (i := 145) rfl), rfl⟩
theorem cIn_112 : Cond.code yL_stock cL_stock 2 (some .int) ∈ Tall := List.mem_filter.mpr ⟨TTs_in (j := 7) (List.mem_of_getElem? (i := 97) rfl), rfl⟩
theorem cIn_113 : Cond.code yL_stubs cL_stubs 12 (some .boolean) ∈ Tall := List.mem_filter.mpr ⟨TTs_in (j := 7) (List.mem_of_getElem? (i := 100) rfl), rfl⟩
theorem cIn_114 : Cond.code yL_houses cL_houses 17 (some .boolean) ∈ Tall := List.mem_filter.mpr ⟨TTs_in (j := 7) (List.mem_of_getElem? (i := 130) rfl), rfl⟩
theorem cIn_115 : Cond.code yL_parts cL_parts 11 (some .boolean) ∈ Tall := List.mem_filter.mpr ⟨TTs_in (j := 7) (List.mem_of_getElem? (i := 156) rfl), rfl⟩
theorem cIn_116 : Cond.code yL_heirs cL_heirs 7 (some .boolean) ∈ Tall := List.mem_filter.mpr ⟨TTs_in (j := 7) (List.mem_of_getElem? (i := 167) rfl), rfl⟩
theorem cIn_117 : Cond.code yL_foretold cL_foretold 21 (some .boolean) ∈ Tall := List.mem_filter.mpr ⟨TTs_in (j := 7) (List.mem_of_getElem? (i := 178) rfl), rfl⟩
theorem cIn_118 : Cond.code yX7_init cX7_init 2 none ∈ Tall := List.mem_filter.mpr ⟨TTs_in (j := 6) (List.mem_of_getElem? (i := 106) rfl), rfl⟩
theorem cIn_119 : Cond.code yX7_next cX7_next 2 (some .int) ∈ Tall := List.mem_filter.mpr ⟨TTs_in (j := 6) (List.mem_of_getElem? (i := 115) rfl), rfl⟩
theorem cIn_120 : Cond.code yX6_meanWax cX6_meanWax 2 (some .double) ∈ Tall := List.mem_filter.mpr ⟨TTs_in (j := 6) (List.mem_of_getElem? (i := 79) rfl), rfl⟩
theorem cIn_121 : Cond.code yX6_snuffedShare cX6_snuffedShare 2 (some .float) ∈ Tall := List.mem_filter.mpr ⟨TTs_in (j := 6) (List.mem_of_getElem? (i := 83) rfl), rfl⟩
theorem cIn_122 : Cond.code yJ4_init_da8c8 cJ4_init_da8c8 1 none ∈ Tall := List.mem_filter.mpr ⟨TTs_in (j := 3) (List.mem_of_getElem? (i := 224) rfl), rfl⟩
theorem cIn_123 : Cond.code yJ4_init_a7421 cJ4_init_a7421 2 none ∈ Tall := List.mem_filter.mpr ⟨TTs_in (j := 7) (List.mem_of_getElem? (i := 32) rfl), rfl⟩
theorem cIn_124 : Cond.code yJ5_init_d00df cJ5_init_d00df 2 none ∈ Tall := List.mem_filter.mpr ⟨TTs_in (j := 3) (List.mem_of_getElem? (i := 227) rfl), rfl⟩
theorem cIn_125 : Cond.code yJ5_init_a7421 cJ5_init_a7421 5 none ∈ Tall := List.mem_filter.mpr ⟨TTs_in (j := 7) (List.mem_of_getElem? (i := 35) rfl), rfl⟩
theorem cIn_126 : Cond.code yJ4_append_15ec4 cJ4_append_15ec4 2 (some (.object "java/lang/StringBuilder")) ∈ Tall := List.mem_filter.mpr ⟨TTs_in (j := 7) (List.mem_of_getElem? (i := 48) rfl), rfl⟩
theorem cIn_127 : Cond.code yJ4_append_cf1ce cJ4_append_cf1ce 2 (some (.object "java/lang/AbstractStringBuilder")) ∈ Tall := List.mem_filter.mpr ⟨TTs_in (j := 7) (List.mem_of_getElem? (i := 44) rfl), rfl⟩
theorem cIn_128 : Cond.code yJ5_append_cf1ce cJ5_append_cf1ce 3 (some (.object "java/lang/AbstractStringBuilder")) ∈ Tall := List.mem_filter.mpr ⟨TTs_in (j := 7) (List.mem_of_getElem? (i := 50) rfl), rfl⟩
theorem cIn_129 : Cond.code yJ5_putStringAt_47b60 cJ5_putStringAt_47b60 3 none ∈ Tall := List.mem_filter.mpr ⟨TTs_in (j := 7) (List.mem_of_getElem? (i := 61) rfl), rfl⟩
theorem cIn_130 : Cond.code yJ5_inflateIfNeededFor_a7421 cJ5_inflateIfNeededFor_a7421 2 none ∈ Tall := List.mem_filter.mpr ⟨TTs_in (j := 7) (List.mem_of_getElem? (i := 65) rfl), rfl⟩
theorem cIn_131 : Cond.code yJ5_newCapacity_0f7a4 cJ5_newCapacity_0f7a4 6 (some .int) ∈ Tall := List.mem_filter.mpr ⟨TTs_in (j := 5) (List.mem_of_getElem? (i := 151) rfl), rfl⟩
theorem cIn_132 : Cond.code yJ8_newLength_cabcc cJ8_newLength_cabcc 4 (some .int) ∈ Tall := List.mem_filter.mpr ⟨TTs_in (j := 5) (List.mem_of_getElem? (i := 154) rfl), rfl⟩
theorem cIn_133 : Cond.code yJ7_copyOf_9075b cJ7_copyOf_9075b 3 (some (.array .byte)) ∈ Tall := List.mem_filter.mpr ⟨TTs_in (j := 5) (List.mem_of_getElem? (i := 163) rfl), rfl⟩
theorem cIn_134 : Cond.code yJ0_getBytes_840e7 cJ0_getBytes_840e7 4 none ∈ Tall := List.mem_filter.mpr ⟨TTs_in (j := 7) (List.mem_of_getElem? (i := 69) rfl), rfl⟩
theorem cIn_135 : Cond.code yJ4_toString_0e30d cJ4_toString_0e30d 1 (some (.object "java/lang/String")) ∈ Tall := List.mem_filter.mpr ⟨TTs_in (j := 6) (List.mem_of_getElem? (i := 223) rfl), rfl⟩
theorem cIn_136 : Cond.code yJ0_init_81219 cJ0_init_81219 2 none ∈ Tall := List.mem_filter.mpr ⟨TTs_in (j := 6) (List.mem_of_getElem? (i := 228) rfl), rfl⟩
theorem cIn_137 : Cond.code yJ0_init_db425 cJ0_init_db425 5 none ∈ Tall := List.mem_filter.mpr ⟨TTs_in (j := 6) (List.mem_of_getElem? (i := 231) rfl), rfl⟩
theorem cIn_138 : Cond.code yJ5_getValue_6d5f1 cJ5_getValue_6d5f1 1 (some (.array .byte)) ∈ Tall := List.mem_filter.mpr ⟨TTs_in (j := 6) (List.mem_of_getElem? (i := 237) rfl), rfl⟩
theorem cIn_139 : Cond.code yJ7_copyOfRange_39247 cJ7_copyOfRange_39247 3 (some (.array .byte)) ∈ Tall := List.mem_filter.mpr ⟨TTs_in (j := 7) (List.mem_of_getElem? (i := 2) rfl), rfl⟩
theorem cIn_140 : Cond.code yJ7_copyOfRangeByte_39247 cJ7_copyOfRangeByte_39247 5 (some (.array .byte)) ∈ Tall := List.mem_filter.mpr ⟨TTs_in (j := 7) (List.mem_of_getElem? (i := 5) rfl), rfl⟩
theorem cIn_141 : Cond.code yJ7_checkLength_df160 cJ7_checkLength_df160 2 none ∈ Tall := List.mem_filter.mpr ⟨TTs_in (j := 7) (List.mem_of_getElem? (i := 8) rfl), rfl⟩
theorem cIn_142 : Cond.code yJ0_equals_9ea2d cJ0_equals_9ea2d 3 (some .boolean) ∈ Tall := List.mem_filter.mpr ⟨TTs_in (j := 7) (List.mem_of_getElem? (i := 123) rfl), rfl⟩
theorem cIn_143 : Cond.code yJ1_equals_b5fdf cJ1_equals_b5fdf 3 (some .boolean) ∈ Tall := List.mem_filter.mpr ⟨TTs_in (j := 7) (List.mem_of_getElem? (i := 127) rfl), rfl⟩
theorem cIn_144 : Cond.code yX6_isFrom cX6_isFrom 3 (some .boolean) ∈ Tall := List.mem_filter.mpr ⟨TTs_in (j := 4) (List.mem_of_getElem? (i := 70) rfl), rfl⟩
theorem cIn_145 : Cond.code yX6_isFrom cX6_isFrom 3 (some .boolean) ∈ Tall := List.mem_filter.mpr ⟨TTs_in (j := 4) (List.mem_of_getElem? (i := 70) rfl), rfl⟩
theorem cIn_146 : Cond.code yX6_isFrom cX6_isFrom 3 (some .boolean) ∈ Tall := List.mem_filter.mpr ⟨TTs_in (j := 4) (List.mem_of_getElem? (i := 70) rfl), rfl⟩
theorem cIn_147 : Cond.code yX6_isFrom cX6_isFrom 3 (some .boolean) ∈ Tall := List.mem_filter.mpr ⟨TTs_in (j := 4) (List.mem_of_getElem? (i := 70) rfl), rfl⟩
theorem cIn_148 : Cond.code yX6_isFrom cX6_isFrom 3 (some .boolean) ∈ Tall := List.mem_filter.mpr ⟨TTs_in (j := 4) (List.mem_of_getElem? (i := 70) rfl), rfl⟩
theorem cIn_149 : Cond.code yX6_isFrom cX6_isFrom 3 (some .boolean) ∈ Tall := List.mem_filter.mpr ⟨TTs_in (j := 4) (List.mem_of_getElem? (i := 70) rfl), rfl⟩
theorem cIn_150 : Cond.code yX6_isFrom cX6_isFrom 3 (some .boolean) ∈ Tall := List.mem_filter.mpr ⟨TTs_in (j := 4) (List.mem_of_getElem? (i := 70) rfl), rfl⟩
theorem cIn_151 : Cond.code yX6_isFrom cX6_isFrom 3 (some .boolean) ∈ Tall := List.mem_filter.mpr ⟨TTs_in (j := 4) (List.mem_of_getElem? (i := 70) rfl), rfl⟩
theorem cIn_152 : Cond.code yX6_isFrom cX6_isFrom 3 (some .boolean) ∈ Tall := List.mem_filter.mpr ⟨TTs_in (j := 4) (List.mem_of_getElem? (i := 70) rfl), rfl⟩
theorem cIn_153 : Cond.code yX6_isFrom cX6_isFrom 3 (some .boolean) ∈ Tall := List.mem_filter.mpr ⟨TTs_in (j := 4) (List.mem_of_getElem? (i := 70) rfl), rfl⟩
theorem cIn_154 : Cond.code yX6_isFrom cX6_isFrom 3 (some .boolean) ∈ Tall := List.mem_filter.mpr ⟨TTs_in (j := 4) (List.mem_of_getElem? (i := 70) rfl), rfl⟩
theorem cIn_155 : Cond.code yX6_isFrom cX6_isFrom 3 (some .boolean) ∈ Tall := List.mem_filter.mpr ⟨TTs_in (j := 4) (List.mem_of_getElem? (i := 70) rfl), rfl⟩
theorem cIn_156 : Cond.code yX6_isFrom cX6_isFrom 3 (some .boolean) ∈ Tall := List.mem_filter.mpr ⟨TTs_in (j := 4) (List.mem_of_getElem? (i := 70) rfl), rfl⟩
theorem cIn_157 : Cond.code yX6_isFrom cX6_isFrom 3 (some .boolean) ∈ Tall := List.mem_filter.mpr ⟨TTs_in (j := 4) (List.mem_of_getElem? (i := 70) rfl), rfl⟩
theorem cIn_158 : Cond.code yX6_isFrom cX6_isFrom 3 (some .boolean) ∈ Tall := List.mem_filter.mpr ⟨TTs_in (j := 4) (List.mem_of_getElem? (i := 70) rfl), rfl⟩
theorem cIn_159 : Cond.code yX6_isFrom cX6_isFrom 3 (some .boolean) ∈ Tall := List.mem_filter.mpr ⟨TTs_in (j := 4) (List.mem_of_getElem? (i := 70) rfl), rfl⟩
theorem cIn_160 : Cond.code yX6_isFrom cX6_isFrom 3 (some .boolean) ∈ Tall := List.mem_filter.mpr ⟨TTs_in (j := 4) (List.mem_of_getElem? (i := 70) rfl), rfl⟩
theorem cIn_161 : Cond.code yX6_isFrom cX6_isFrom 3 (some .boolean) ∈ Tall := List.mem_filter.mpr ⟨TTs_in (j := 4) (List.mem_of_getElem? (i := 70) rfl), rfl⟩
theorem cIn_162 : Cond.code yX6_isFrom cX6_isFrom 3 (some .boolean) ∈ Tall := List.mem_filter.mpr ⟨TTs_in (j := 4) (List.mem_of_getElem? (i := 70) rfl), rfl⟩
theorem cIn_163 : Cond.code yX6_isFrom cX6_isFrom 3 (some .boolean) ∈ Tall := List.mem_filter.mpr ⟨TTs_in (j := 4) (List.mem_of_getElem? (i := 70) rfl), rfl⟩
theorem cIn_164 : Cond.code yX6_isFrom cX6_isFrom 3 (some .boolean) ∈ Tall := List.mem_filter.mpr ⟨TTs_in (j := 4) (List.mem_of_getElem? (i := 70) rfl), rfl⟩
theorem cIn_165 : Cond.code yX6_isFrom cX6_isFrom 3 (some .boolean) ∈ Tall := List.mem_filter.mpr ⟨TTs_in (j := 4) (List.mem_of_getElem? (i := 70) rfl), rfl⟩
theorem cIn_166 : Cond.code yX6_isFrom cX6_isFrom 3 (some .boolean) ∈ Tall := List.mem_filter.mpr ⟨TTs_in (j := 4) (List.mem_of_getElem? (i := 70) rfl), rfl⟩
theorem cIn_167 : Cond.code yX6_isFrom cX6_isFrom 3 (some .boolean) ∈ Tall := List.mem_filter.mpr ⟨TTs_in (j := 4) (List.mem_of_getElem? (i := 70) rfl), rfl⟩
theorem cIn_168 : Cond.code yX6_isFrom cX6_isFrom 3 (some .boolean) ∈ Tall := List.mem_filter.mpr ⟨TTs_in (j := 4) (List.mem_of_getElem? (i := 70) rfl), rfl⟩
theorem cIn_169 : Cond.code yX6_isFrom cX6_isFrom 3 (some .boolean) ∈ Tall := List.mem_filter.mpr ⟨TTs_in (j := 4) (List.mem_of_getElem? (i := 70) rfl), rfl⟩
theorem cIn_170 : Cond.code yX6_isFrom cX6_isFrom 3 (some .boolean) ∈ Tall := List.mem_filter.mpr ⟨TTs_in (j := 4) (List.mem_of_getElem? (i := 70) rfl), rfl⟩
theorem cIn_171 : Cond.code yX6_isFrom cX6_isFrom 3 (some .boolean) ∈ Tall := List.mem_filter.mpr ⟨TTs_in (j := 4) (List.mem_of_getElem? (i := 70) rfl), rfl⟩
theorem cIn_172 : Cond.code yX6_isFrom cX6_isFrom 3 (some .boolean) ∈ Tall := List.mem_filter.mpr ⟨TTs_in (j := 4) (List.mem_of_getElem? (i := 70) rfl), rfl⟩
theorem cIn_173 : Cond.code yX6_isFrom cX6_isFrom 3 (some .boolean) ∈ Tall := List.mem_filter.mpr ⟨TTs_in (j := 4) (List.mem_of_getElem? (i := 70) rfl), rfl⟩
theorem cIn_174 : Cond.code yX6_isFrom cX6_isFrom 3 (some .boolean) ∈ Tall := List.mem_filter.mpr ⟨TTs_in (j := 4) (List.mem_of_getElem? (i := 70) rfl), rfl⟩
theorem cIn_175 : Cond.code yX6_isFrom cX6_isFrom 3 (some .boolean) ∈ Tall := List.mem_filter.mpr ⟨TTs_in (j := 4) (List.mem_of_getElem? (i := 70) rfl), rfl⟩
theorem cIn_176 : Cond.code yX6_isFrom cX6_isFrom 3 (some .boolean) ∈ Tall := List.mem_filter.mpr ⟨TTs_in (j := 4) (List.mem_of_getElem? (i := 70) rfl), rfl⟩
theorem cIn_177 : Cond.code yX6_isFrom cX6_isFrom 3 (some .boolean) ∈ Tall := List.mem_filter.mpr ⟨TTs_in (j := 4) (List.mem_of_getElem? (i := 70) rfl), rfl⟩
theorem cIn_178 : Cond.code yX6_isFrom cX6_isFrom 3 (some .boolean) ∈ Tall := List.mem_filter.mpr ⟨TTs_in (j := 4) (List.mem_of_getElem? (i := 70) rfl), rfl⟩
theorem cIn_179 : Cond.code yX6_isFrom cX6_isFrom 3 (some .boolean) ∈ Tall := List.mem_filter.mpr ⟨TTs_in (j := 4) (List.mem_of_getElem? (i := 70) rfl), rfl⟩
theorem cIn_180 : Cond.code yX6_isFrom cX6_isFrom 3 (some .boolean) ∈ Tall := List.mem_filter.mpr ⟨TTs_in (j := 4) (List.mem_of_getElem? (i := 70) rfl), rfl⟩
theorem cIn_181 : Cond.code yX6_isFrom cX6_isFrom 3 (some .boolean) ∈ Tall := List.mem_filter.mpr ⟨TTs_in (j := 4) (List.mem_of_getElem? (i := 70) rfl), rfl⟩
theorem cIn_182 : Cond.code yX6_isFrom cX6_isFrom 3 (some .boolean) ∈ Tall := List.mem_filter.mpr ⟨TTs_in (j := 4) (List.mem_of_getElem? (i := 70) rfl), rfl⟩
theorem cIn_183 : Cond.code yX6_isFrom cX6_isFrom 3 (some .boolean) ∈ Tall := List.mem_filter.mpr ⟨TTs_in (j := 4) (List.mem_of_getElem? (i := 70) rfl), rfl⟩
theorem cIn_184 : Cond.code yX6_isFrom cX6_isFrom 3 (some .boolean) ∈ Tall := List.mem_filter.mpr ⟨TTs_in (j := 4) (List.mem_of_getElem? (i := 70) rfl), rfl⟩
theorem cIn_185 : Cond.code yX6_isFrom cX6_isFrom 3 (some .boolean) ∈ Tall := List.mem_filter.mpr ⟨TTs_in (j := 4) (List.mem_of_getElem? (i := 70) rfl), rfl⟩
theorem cIn_186 : Cond.code yX6_isFrom cX6_isFrom 3 (some .boolean) ∈ Tall := List.mem_filter.mpr ⟨TTs_in (j := 4) (List.mem_of_getElem? (i := 70) rfl), rfl⟩
theorem cIn_187 : Cond.code yX6_isFrom cX6_isFrom 3 (some .boolean) ∈ Tall := List.mem_filter.mpr ⟨TTs_in (j := 4) (List.mem_of_getElem? (i := 70) rfl), rfl⟩
theorem cIn_188 : Cond.code yX6_isFrom cX6_isFrom 3 (some .boolean) ∈ Tall := List.mem_filter.mpr ⟨TTs_in (j := 4) (List.mem_of_getElem? (i := 70) rfl), rfl⟩
theorem cIn_189 : Cond.code yJ4_append_cf468 cJ4_append_cf468 2 (some (.object "java/lang/StringBuilder")) ∈ Tall := List.mem_filter.mpr ⟨TTs_in (j := 6) (List.mem_of_getElem? (i := 154) rfl), rfl⟩
theorem cIn_190 : Cond.code yJ4_append_bf812 cJ4_append_bf812 2 (some (.object "java/lang/StringBuilder")) ∈ Tall := List.mem_filter.mpr ⟨TTs_in (j := 6) (List.mem_of_getElem? (i := 193) rfl), rfl⟩
theorem cIn_191 : Cond.code yJ4_charAt_5068e cJ4_charAt_5068e 2 (some .char) ∈ Tall := List.mem_filter.mpr ⟨TTs_in (j := 4) (List.mem_of_getElem? (i := 238) rfl), rfl⟩
theorem cIn_192 : Cond.code yJ4_setLength_d00df cJ4_setLength_d00df 2 none ∈ Tall := List.mem_filter.mpr ⟨TTs_in (j := 5) (List.mem_of_getElem? (i := 140) rfl), rfl⟩
theorem cIn_193 : Cond.code yJ4_length_8abf5 cJ4_length_8abf5 1 (some .int) ∈ Tall := List.mem_filter.mpr ⟨TTs_in (j := 4) (List.mem_of_getElem? (i := 230) rfl), rfl⟩
theorem cIn_194 : Cond.code yJ5_length_8abf5 cJ5_length_8abf5 1 (some .int) ∈ Tall := List.mem_filter.mpr ⟨TTs_in (j := 4) (List.mem_of_getElem? (i := 233) rfl), rfl⟩
theorem cIn_195 : Cond.code yJ5_charAt_5068e cJ5_charAt_5068e 5 (some .char) ∈ Tall := List.mem_filter.mpr ⟨TTs_in (j := 5) (List.mem_of_getElem? (i := 1) rfl), rfl⟩
theorem cIn_196 : Cond.code yJ5_setLength_d00df cJ5_setLength_d00df 2 none ∈ Tall := List.mem_filter.mpr ⟨TTs_in (j := 5) (List.mem_of_getElem? (i := 143) rfl), rfl⟩
theorem cIn_197 : Cond.code yJ5_append_3fe6f cJ5_append_3fe6f 2 (some (.object "java/lang/AbstractStringBuilder")) ∈ Tall := List.mem_filter.mpr ⟨TTs_in (j := 6) (List.mem_of_getElem? (i := 157) rfl), rfl⟩
theorem cIn_198 : Cond.code yJ5_append_c97b9 cJ5_append_c97b9 4 (some (.object "java/lang/AbstractStringBuilder")) ∈ Tall := List.mem_filter.mpr ⟨TTs_in (j := 6) (List.mem_of_getElem? (i := 196) rfl), rfl⟩
theorem cIn_199 : Cond.code yJ5_isLatin1_aae02 cJ5_isLatin1_aae02 1 (some .boolean) ∈ Tall := List.mem_filter.mpr ⟨TTs_in (j := 5) (List.mem_of_getElem? (i := 179) rfl), rfl⟩
theorem cIn_200 : Cond.code yJ6_getChars_ba4f3 cJ6_getChars_ba4f3 7 (some .int) ∈ Tall := List.mem_filter.mpr ⟨TTs_in (j := 6) (List.mem_of_getElem? (i := 202) rfl), rfl⟩
theorem cIn_201 : Cond.code yJ6_stringSize_0f7a4 cJ6_stringSize_0f7a4 4 (some .int) ∈ Tall := List.mem_filter.mpr ⟨TTs_in (j := 6) (List.mem_of_getElem? (i := 199) rfl), rfl⟩
theorem cIn_202 : Cond.code yJ9_min_7cf53 cJ9_min_7cf53 2 (some .int) ∈ Tall := List.mem_filter.mpr ⟨TTs_in (j := 4) (List.mem_of_getElem? (i := 113) rfl), rfl⟩
theorem cIn_203 : Cond.code yJ9_max_7cf53 cJ9_max_7cf53 2 (some .int) ∈ Tall := List.mem_filter.mpr ⟨TTs_in (j := 5) (List.mem_of_getElem? (i := 52) rfl), rfl⟩
theorem cIn_204 : Cond.code yJ0_length_8abf5 cJ0_length_8abf5 1 (some .int) ∈ Tall := List.mem_filter.mpr ⟨TTs_in (j := 5) (List.mem_of_getElem? (i := 39) rfl), rfl⟩
theorem cIn_205 : Cond.code yJ0_charAt_5068e cJ0_charAt_5068e 2 (some .char) ∈ Tall := List.mem_filter.mpr ⟨TTs_in (j := 5) (List.mem_of_getElem? (i := 109) rfl), rfl⟩
theorem cIn_206 : Cond.code yJ0_indexOf_0f7a4 cJ0_indexOf_0f7a4 2 (some .int) ∈ Tall := List.mem_filter.mpr ⟨TTs_in (j := 5) (List.mem_of_getElem? (i := 26) rfl), rfl⟩
theorem cIn_207 : Cond.code yJ0_indexOf_7cf53 cJ0_indexOf_7cf53 3 (some .int) ∈ Tall := List.mem_filter.mpr ⟨TTs_in (j := 5) (List.mem_of_getElem? (i := 30) rfl), rfl⟩
theorem cIn_208 : Cond.code yJ0_isLatin1_aae02 cJ0_isLatin1_aae02 1 (some .boolean) ∈ Tall := List.mem_filter.mpr ⟨TTs_in (j := 5) (List.mem_of_getElem? (i := 34) rfl), rfl⟩
theorem cIn_209 : Cond.code yJ0_coder_7d493 cJ0_coder_7d493 1 (some .byte) ∈ Tall := List.mem_filter.mpr ⟨TTs_in (j := 5) (List.mem_of_getElem? (i := 43) rfl), rfl⟩
theorem cIn_210 : Cond.code yJ0_checkIndex_df160 cJ0_checkIndex_df160 2 none ∈ Tall := List.mem_filter.mpr ⟨TTs_in (j := 5) (List.mem_of_getElem? (i := 5) rfl), rfl⟩
theorem cIn_211 : Cond.code yJ3_checkIndex_8e157 cJ3_checkIndex_8e157 3 (some .int) ∈ Tall := List.mem_filter.mpr ⟨TTs_in (j := 5) (List.mem_of_getElem? (i := 10) rfl), rfl⟩
theorem cIn_212 : Cond.code yJ1_charAt_3b067 cJ1_charAt_3b067 2 (some .char) ∈ Tall := List.mem_filter.mpr ⟨TTs_in (j := 5) (List.mem_of_getElem? (i := 112) rfl), rfl⟩
theorem cIn_213 : Cond.code yJ1_canEncode_fc78d cJ1_canEncode_fc78d 1 (some .boolean) ∈ Tall := List.mem_filter.mpr ⟨TTs_in (j := 6) (List.mem_of_getElem? (i := 160) rfl), rfl⟩
theorem cIn_214 : Cond.code yJ1_canEncode_9a6ad cJ1_canEncode_9a6ad 1 (some .boolean) ∈ Tall := List.mem_filter.mpr ⟨TTs_in (j := 5) (List.mem_of_getElem? (i := 49) rfl), rfl⟩
theorem cIn_215 : Cond.code yJ1_indexOf_4cfef cJ1_indexOf_4cfef 4 (some .int) ∈ Tall := List.mem_filter.mpr ⟨TTs_in (j := 5) (List.mem_of_getElem? (i := 46) rfl), rfl⟩
theorem cIn_216 : Cond.code yJ1_indexOfChar_4cfef cJ1_indexOfChar_4cfef 6 (some .int) ∈ Tall := List.mem_filter.mpr ⟨TTs_in (j := 5) (List.mem_of_getElem? (i := 56) rfl), rfl⟩
theorem cIn_217 : Cond.code yJ5_ensureCapacityInternal_d00df cJ5_ensureCapacityInternal_d00df 3 none ∈ Tall := List.mem_filter.mpr ⟨TTs_in (j := 5) (List.mem_of_getElem? (i := 147) rfl), rfl⟩
theorem codeIn_0 (j : Nat) (hj : j < 20) : Cond.code (nY (0 + j)) (nB (0 + j)) (nL (0 + j)) (nR (0 + j)) ∈ Tall := match j, hj with
  | 0, _ => cIn_0
  | 1, _ => cIn_1
  | 2, _ => cIn_2
  | 3, _ => cIn_3
  | 4, _ => cIn_4
  | 5, _ => cIn_5
  | 6, _ => cIn_6
  | 7, _ => cIn_7
  | 8, _ => cIn_8
  | 9, _ => cIn_9
  | 10, _ => cIn_10
  | 11, _ => cIn_11
  | 12, _ => cIn_12
  | 13, _ => cIn_13
  | 14, _ => cIn_14
  | 15, _ => cIn_15
  | 16, _ => cIn_16
  | 17, _ => cIn_17
  | 18, _ => cIn_18
  | 19, _ => cIn_19
  | x + 20, h => absurd h (by omega)
theorem codeIn_20 (j : Nat) (hj : j < 20) : Cond.code (nY (20 + j)) (nB (20 + j)) (nL (20 + j)) (nR (20 + j)) ∈ Tall := match j, hj with
  | 0, _ => cIn_20
  | 1, _ => cIn_21
  | 2, _ => cIn_22
  | 3, _ => cIn_23
  | 4, _ => cIn_24
  | 5, _ => cIn_25
  | 6, _ => cIn_26
  | 7, _ => cIn_27
  | 8, _ => cIn_28
  | 9, _ => cIn_29
  | 10, _ => cIn_30
  | 11, _ => cIn_31
  | 12, _ => cIn_32
  | 13, _ => cIn_33
  | 14, _ => cIn_34
  | 15, _ => cIn_35
  | 16, _ => cIn_36
  | 17, _ => cIn_37
  | 18, _ => cIn_38
  | 19, _ => cIn_39
  | x + 20, h => absurd h (by omega)
theorem codeIn_40 (j : Nat) (hj : j < 20) : Cond.code (nY (40 + j)) (nB (40 + j)) (nL (40 + j)) (nR (40 + j)) ∈ Tall := match j, hj with
  | 0, _ => cIn_40
  | 1, _ => cIn_41
  | 2, _ => cIn_42
  | 3, _ => cIn_43
  | 4, _ => cIn_44
  | 5, _ => cIn_45
  | 6, _ => cIn_46
  | 7, _ => cIn_47
  | 8, _ => cIn_48
  | 9, _ => cIn_49
  | 10, _ => cIn_50
  | 11, _ => cIn_51
  | 12, _ => cIn_52
  | 13, _ => cIn_53
  | 14, _ => cIn_54
  | 15, _ => cIn_55
  | 16, _ => cIn_56
  | 17, _ => cIn_57
  | 18, _ => cIn_58
  | 19, _ => cIn_59
  | x + 20, h => absurd h (by omega)
theorem codeIn_60 (j : Nat) (hj : j < 20) : Cond.code (nY (60 + j)) (nB (60 + j)) (nL (60 + j)) (nR (60 + j)) ∈ Tall := match j, hj with
  | 0, _ => cIn_60
  | 1, _ => cIn_61
  | 2, _ => cIn_62
  | 3, _ => cIn_63
  | 4, _ => cIn_64
  | 5, _ => cIn_65
  | 6, _ => cIn_66
  | 7, _ => cIn_67
  | 8, _ => cIn_68
  | 9, _ => cIn_69
  | 10, _ => cIn_70
  | 11, _ => cIn_71
  | 12, _ => cIn_72
  | 13, _ => cIn_73
  | 14, _ => cIn_74
  | 15, _ => cIn_75
  | 16, _ => cIn_76
  | 17, _ => cIn_77
  | 18, _ => cIn_78
  | 19, _ => cIn_79
  | x + 20, h => absurd h (by omega)
theorem codeIn_80 (j : Nat) (hj : j < 20) : Cond.code (nY (80 + j)) (nB (80 + j)) (nL (80 + j)) (nR (80 + j)) ∈ Tall := match j, hj with
  | 0, _ => cIn_80
  | 1, _ => cIn_81
  | 2, _ => cIn_82
  | 3, _ => cIn_83
  | 4, _ => cIn_84
  | 5, _ => cIn_85
  | 6, _ => cIn_86
  | 7, _ => cIn_87
  | 8, _ => cIn_88
  | 9, _ => cIn_89
  | 10, _ => cIn_90
  | 11, _ => cIn_91
  | 12, _ => cIn_92
  | 13, _ => cIn_93
  | 14, _ => cIn_94
  | 15, _ => cIn_95
  | 16, _ => cIn_96
  | 17, _ => cIn_97
  | 18, _ => cIn_98
  | 19, _ => cIn_99
  | x + 20, h => absurd h (by omega)
theorem codeIn_100 (j : Nat) (hj : j < 20) : Cond.code (nY (100 + j)) (nB (100 + j)) (nL (100 + j)) (nR (100 + j)) ∈ Tall := match j, hj with
  | 0, _ => cIn_100
  | 1, _ => cIn_101
  | 2, _ => cIn_102
  | 3, _ => cIn_103
  | 4, _ => cIn_104
  | 5, _ => cIn_105
  | 6, _ => cIn_106
  | 7, _ => cIn_107
  | 8, _ => cIn_108
  | 9, _ => cIn_109
  | 10, _ => cIn_110
  | 11, _ => cIn_111
  | 12, _ => cIn_112
  | 13, _ => cIn_113
  | 14, _ => cIn_114
  | 15, _ => cIn_115
  | 16, _ => cIn_116
  | 17, _ => cIn_117
  | 18, _ => cIn_118
  | 19, _ => cIn_119
  | x + 20, h => absurd h (by omega)
theorem codeIn_120 (j : Nat) (hj : j < 20) : Cond.code (nY (120 + j)) (nB (120 + j)) (nL (120 + j)) (nR (120 + j)) ∈ Tall := match j, hj with
  | 0, _ => cIn_120
  | 1, _ => cIn_121
  | 2, _ => cIn_122
  | 3, _ => cIn_123
  | 4, _ => cIn_124
  | 5, _ => cIn_125
  | 6, _ => cIn_126
  | 7, _ => cIn_127
  | 8, _ => cIn_128
  | 9, _ => cIn_129
  | 10, _ => cIn_130
  | 11, _ => cIn_131
  | 12, _ => cIn_132
  | 13, _ => cIn_133
  | 14, _ => cIn_134
  | 15, _ => cIn_135
  | 16, _ => cIn_136
  | 17, _ => cIn_137
  | 18, _ => cIn_138
  | 19, _ => cIn_139
  | x + 20, h => absurd h (by omega)
theorem codeIn_140 (j : Nat) (hj : j < 20) : Cond.code (nY (140 + j)) (nB (140 + j)) (nL (140 + j)) (nR (140 + j)) ∈ Tall := match j, hj with
  | 0, _ => cIn_140
  | 1, _ => cIn_141
  | 2, _ => cIn_142
  | 3, _ => cIn_143
  | 4, _ => cIn_144
  | 5, _ => cIn_145
  | 6, _ => cIn_146
  | 7, _ => cIn_147
  | 8, _ => cIn_148
  | 9, _ => cIn_149
  | 10, _ => cIn_150
  | 11, _ => cIn_151
  | 12, _ => cIn_152
  | 13, _ => cIn_153
  | 14, _ => cIn_154
  | 15, _ => cIn_155
  | 16, _ => cIn_156
  | 17, _ => cIn_157
  | 18, _ => cIn_158
  | 19, _ => cIn_159
  | x + 20, h => absurd h (by omega)
theorem codeIn_160 (j : Nat) (hj : j < 20) : Cond.code (nY (160 + j)) (nB (160 + j)) (nL (160 + j)) (nR (160 + j)) ∈ Tall := match j, hj with
  | 0, _ => cIn_160
  | 1, _ => cIn_161
  | 2, _ => cIn_162
  | 3, _ => cIn_163
  | 4, _ => cIn_164
  | 5, _ => cIn_165
  | 6, _ => cIn_166
  | 7, _ => cIn_167
  | 8, _ => cIn_168
  | 9, _ => cIn_169
  | 10, _ => cIn_170
  | 11, _ => cIn_171
  | 12, _ => cIn_172
  | 13, _ => cIn_173
  | 14, _ => cIn_174
  | 15, _ => cIn_175
  | 16, _ => cIn_176
  | 17, _ => cIn_177
  | 18, _ => cIn_178
  | 19, _ => cIn_179
  | x + 20, h => absurd h (by omega)
theorem codeIn_180 (j : Nat) (hj : j < 20) : Cond.code (nY (180 + j)) (nB (180 + j)) (nL (180 + j)) (nR (180 + j)) ∈ Tall := match j, hj with
  | 0, _ => cIn_180
  | 1, _ => cIn_181
  | 2, _ => cIn_182
  | 3, _ => cIn_183
  | 4, _ => cIn_184
  | 5, _ => cIn_185
  | 6, _ => cIn_186
  | 7, _ => cIn_187
  | 8, _ => cIn_188
  | 9, _ => cIn_189
  | 10, _ => cIn_190
  | 11, _ => cIn_191
  | 12, _ => cIn_192
  | 13, _ => cIn_193
  | 14, _ => cIn_194
  | 15, _ => cIn_195
  | 16, _ => cIn_196
  | 17, _ => cIn_197
  | 18, _ => cIn_198
  | 19, _ => cIn_199
  | x + 20, h => absurd h (by omega)
theorem codeIn_200 (j : Nat) (hj : j < 18) : Cond.code (nY (200 + j)) (nB (200 + j)) (nL (200 + j)) (nR (200 + j)) ∈ Tall := match j, hj with
  | 0, _ => cIn_200
  | 1, _ => cIn_201
  | 2, _ => cIn_202
  | 3, _ => cIn_203
  | 4, _ => cIn_204
  | 5, _ => cIn_205
  | 6, _ => cIn_206
  | 7, _ => cIn_207
  | 8, _ => cIn_208
  | 9, _ => cIn_209
  | 10, _ => cIn_210
  | 11, _ => cIn_211
  | 12, _ => cIn_212
  | 13, _ => cIn_213
  | 14, _ => cIn_214
  | 15, _ => cIn_215
  | 16, _ => cIn_216
  | 17, _ => cIn_217
  | x + 18, h => absurd h (by omega)
theorem codeIn (k : Nat) (hk : k < mnames) : Cond.code (nY k) (nB k) (nL k) (nR k) ∈ Tall := by
  have hk2 : k < 218 := hk
  by_cases h0 : k < 20
  · obtain ⟨j, hj⟩ : ∃ j, k = 0 + j := ⟨k - 0, by omega⟩
    subst hj
    exact codeIn_0 j (by omega)
  by_cases h20 : k < 40
  · obtain ⟨j, hj⟩ : ∃ j, k = 20 + j := ⟨k - 20, by omega⟩
    subst hj
    exact codeIn_20 j (by omega)
  by_cases h40 : k < 60
  · obtain ⟨j, hj⟩ : ∃ j, k = 40 + j := ⟨k - 40, by omega⟩
    subst hj
    exact codeIn_40 j (by omega)
  by_cases h60 : k < 80
  · obtain ⟨j, hj⟩ : ∃ j, k = 60 + j := ⟨k - 60, by omega⟩
    subst hj
    exact codeIn_60 j (by omega)
  by_cases h80 : k < 100
  · obtain ⟨j, hj⟩ : ∃ j, k = 80 + j := ⟨k - 80, by omega⟩
    subst hj
    exact codeIn_80 j (by omega)
  by_cases h100 : k < 120
  · obtain ⟨j, hj⟩ : ∃ j, k = 100 + j := ⟨k - 100, by omega⟩
    subst hj
    exact codeIn_100 j (by omega)
  by_cases h120 : k < 140
  · obtain ⟨j, hj⟩ : ∃ j, k = 120 + j := ⟨k - 120, by omega⟩
    subst hj
    exact codeIn_120 j (by omega)
  by_cases h140 : k < 160
  · obtain ⟨j, hj⟩ : ∃ j, k = 140 + j := ⟨k - 140, by omega⟩
    subst hj
    exact codeIn_140 j (by omega)
  by_cases h160 : k < 180
  · obtain ⟨j, hj⟩ : ∃ j, k = 160 + j := ⟨k - 160, by omega⟩
    subst hj
    exact codeIn_160 j (by omega)
  by_cases h180 : k < 200
  · obtain ⟨j, hj⟩ : ∃ j, k = 180 + j := ⟨k - 180, by omega⟩
    subst hj
    exact codeIn_180 j (by omega)
  by_cases h200 : k < 218
  · obtain ⟨j, hj⟩ : ∃ j, k = 200 + j := ⟨k - 200, by omega⟩
    subst hj
    exact codeIn_200 j (by omega)
  omega
theorem eAll_0 : (List.range' 0 24).all eAllK = true := by decide +kernel
theorem eAll_24 : (List.range' 24 24).all eAllK = true := by decide +kernel
theorem eAll_48 : (List.range' 48 24).all eAllK = true := by decide +kernel
theorem eAll_72 : (List.range' 72 24).all eAllK = true := by decide +kernel
theorem eAll_96 : (List.range' 96 12).all eAllK = true := by decide +kernel
theorem eAll_108 : (List.range' 108 1).all eAllK = true := by decide +kernel
theorem eAll_109 : (List.range' 109 1).all eAllK = true := by decide +kernel
theorem eAll_110 : (List.range' 110 1).all eAllK = true := by decide +kernel
theorem eAll_111 : (List.range' 111 1).all eAllK = true := by decide +kernel
theorem eAll_112 : (List.range' 112 1).all eAllK = true := by decide +kernel
theorem eAll_113 : (List.range' 113 1).all eAllK = true := by decide +kernel
theorem eAll_114 : (List.range' 114 1).all eAllK = true := by decide +kernel
theorem eAll_115 : (List.range' 115 1).all eAllK = true := by decide +kernel
theorem eAll_116 : (List.range' 116 1).all eAllK = true := by decide +kernel
theorem eAll_117 : (List.range' 117 1).all eAllK = true := by decide +kernel
theorem eAll_118 : (List.range' 118 1).all eAllK = true := by decide +kernel
theorem eAll_119 : (List.range' 119 1).all eAllK = true := by decide +kernel
theorem eAll_120 : (List.range' 120 1).all eAllK = true := by decide +kernel
theorem eAll_121 : (List.range' 121 1).all eAllK = true := by decide +kernel
theorem eAll_122 : (List.range' 122 1).all eAllK = true := by decide +kernel
theorem eAll_123 : (List.range' 123 1).all eAllK = true := by decide +kernel
theorem eAll_124 : (List.range' 124 1).all eAllK = true := by decide +kernel
theorem eAll_125 : (List.range' 125 1).all eAllK = true := by decide +kernel
theorem eAll_126 : (List.range' 126 1).all eAllK = true := by decide +kernel
theorem eAll_127 : (List.range' 127 1).all eAllK = true := by decide +kernel
theorem eAll_128 : (List.range' 128 1).all eAllK = true := by decide +kernel
theorem eAll_129 : (List.range' 129 1).all eAllK = true := by decide +kernel
theorem eAll_130 : (List.range' 130 1).all eAllK = true := by decide +kernel
theorem eAll_131 : (List.range' 131 1).all eAllK = true := by decide +kernel
theorem eAll_132 : (List.range' 132 1).all eAllK = true := by decide +kernel
theorem eAll_133 : (List.range' 133 1).all eAllK = true := by decide +kernel
theorem eAll_134 : (List.range' 134 1).all eAllK = true := by decide +kernel
theorem eAll_135 : (List.range' 135 1).all eAllK = true := by decide +kernel
theorem eAll_136 : (List.range' 136 1).all eAllK = true := by decide +kernel
theorem eAll_137 : (List.range' 137 1).all eAllK = true := by decide +kernel
theorem eAll_138 : (List.range' 138 1).all eAllK = true := by decide +kernel
theorem eAll_139 : (List.range' 139 1).all eAllK = true := by decide +kernel
theorem eAll_140 : (List.range' 140 1).all eAllK = true := by decide +kernel
theorem eAll_141 : (List.range' 141 1).all eAllK = true := by decide +kernel
theorem eAll_142 : (List.range' 142 1).all eAllK = true := by decide +kernel
theorem eAll_143 : (List.range' 143 1).all eAllK = true := by decide +kernel
theorem eAll_144 : (List.range' 144 1).all eAllK = true := by decide +kernel
theorem eAll_145 : (List.range' 145 1).all eAllK = true := by decide +kernel
theorem eAll_146 : (List.range' 146 24).all eAllK = true := by decide +kernel
theorem eAll_170 : (List.range' 170 19).all eAllK = true := by decide +kernel
theorem eAll_189 : (List.range' 189 10).all eAllK = true := by decide +kernel
theorem eAll_199 : (List.range' 199 10).all eAllK = true := by decide +kernel
theorem eAll_209 : (List.range' 209 10).all eAllK = true := by decide +kernel
theorem eAll (k : Nat) (hk : k < mnames + 1) : eAllK k = true := by
  have hk2 : k < 219 := hk
  by_cases h0 : k < 24
  · exact List.all_eq_true.mp eAll_0 k (by rw [List.mem_range'_1]; omega)
  by_cases h24 : k < 48
  · exact List.all_eq_true.mp eAll_24 k (by rw [List.mem_range'_1]; omega)
  by_cases h48 : k < 72
  · exact List.all_eq_true.mp eAll_48 k (by rw [List.mem_range'_1]; omega)
  by_cases h72 : k < 96
  · exact List.all_eq_true.mp eAll_72 k (by rw [List.mem_range'_1]; omega)
  by_cases h96 : k < 108
  · exact List.all_eq_true.mp eAll_96 k (by rw [List.mem_range'_1]; omega)
  by_cases h108 : k < 109
  · exact List.all_eq_true.mp eAll_108 k (by rw [List.mem_range'_1]; omega)
  by_cases h109 : k < 110
  · exact List.all_eq_true.mp eAll_109 k (by rw [List.mem_range'_1]; omega)
  by_cases h110 : k < 111
  · exact List.all_eq_true.mp eAll_110 k (by rw [List.mem_range'_1]; omega)
  by_cases h111 : k < 112
  · exact List.all_eq_true.mp eAll_111 k (by rw [List.mem_range'_1]; omega)
  by_cases h112 : k < 113
  · exact List.all_eq_true.mp eAll_112 k (by rw [List.mem_range'_1]; omega)
  by_cases h113 : k < 114
  · exact List.all_eq_true.mp eAll_113 k (by rw [List.mem_range'_1]; omega)
  by_cases h114 : k < 115
  · exact List.all_eq_true.mp eAll_114 k (by rw [List.mem_range'_1]; omega)
  by_cases h115 : k < 116
  · exact List.all_eq_true.mp eAll_115 k (by rw [List.mem_range'_1]; omega)
  by_cases h116 : k < 117
  · exact List.all_eq_true.mp eAll_116 k (by rw [List.mem_range'_1]; omega)
  by_cases h117 : k < 118
  · exact List.all_eq_true.mp eAll_117 k (by rw [List.mem_range'_1]; omega)
  by_cases h118 : k < 119
  · exact List.all_eq_true.mp eAll_118 k (by rw [List.mem_range'_1]; omega)
  by_cases h119 : k < 120
  · exact List.all_eq_true.mp eAll_119 k (by rw [List.mem_range'_1]; omega)
  by_cases h120 : k < 121
  · exact List.all_eq_true.mp eAll_120 k (by rw [List.mem_range'_1]; omega)
  by_cases h121 : k < 122
  · exact List.all_eq_true.mp eAll_121 k (by rw [List.mem_range'_1]; omega)
  by_cases h122 : k < 123
  · exact List.all_eq_true.mp eAll_122 k (by rw [List.mem_range'_1]; omega)
  by_cases h123 : k < 124
  · exact List.all_eq_true.mp eAll_123 k (by rw [List.mem_range'_1]; omega)
  by_cases h124 : k < 125
  · exact List.all_eq_true.mp eAll_124 k (by rw [List.mem_range'_1]; omega)
  by_cases h125 : k < 126
  · exact List.all_eq_true.mp eAll_125 k (by rw [List.mem_range'_1]; omega)
  by_cases h126 : k < 127
  · exact List.all_eq_true.mp eAll_126 k (by rw [List.mem_range'_1]; omega)
  by_cases h127 : k < 128
  · exact List.all_eq_true.mp eAll_127 k (by rw [List.mem_range'_1]; omega)
  by_cases h128 : k < 129
  · exact List.all_eq_true.mp eAll_128 k (by rw [List.mem_range'_1]; omega)
  by_cases h129 : k < 130
  · exact List.all_eq_true.mp eAll_129 k (by rw [List.mem_range'_1]; omega)
  by_cases h130 : k < 131
  · exact List.all_eq_true.mp eAll_130 k (by rw [List.mem_range'_1]; omega)
  by_cases h131 : k < 132
  · exact List.all_eq_true.mp eAll_131 k (by rw [List.mem_range'_1]; omega)
  by_cases h132 : k < 133
  · exact List.all_eq_true.mp eAll_132 k (by rw [List.mem_range'_1]; omega)
  by_cases h133 : k < 134
  · exact List.all_eq_true.mp eAll_133 k (by rw [List.mem_range'_1]; omega)
  by_cases h134 : k < 135
  · exact List.all_eq_true.mp eAll_134 k (by rw [List.mem_range'_1]; omega)
  by_cases h135 : k < 136
  · exact List.all_eq_true.mp eAll_135 k (by rw [List.mem_range'_1]; omega)
  by_cases h136 : k < 137
  · exact List.all_eq_true.mp eAll_136 k (by rw [List.mem_range'_1]; omega)
  by_cases h137 : k < 138
  · exact List.all_eq_true.mp eAll_137 k (by rw [List.mem_range'_1]; omega)
  by_cases h138 : k < 139
  · exact List.all_eq_true.mp eAll_138 k (by rw [List.mem_range'_1]; omega)
  by_cases h139 : k < 140
  · exact List.all_eq_true.mp eAll_139 k (by rw [List.mem_range'_1]; omega)
  by_cases h140 : k < 141
  · exact List.all_eq_true.mp eAll_140 k (by rw [List.mem_range'_1]; omega)
  by_cases h141 : k < 142
  · exact List.all_eq_true.mp eAll_141 k (by rw [List.mem_range'_1]; omega)
  by_cases h142 : k < 143
  · exact List.all_eq_true.mp eAll_142 k (by rw [List.mem_range'_1]; omega)
  by_cases h143 : k < 144
  · exact List.all_eq_true.mp eAll_143 k (by rw [List.mem_range'_1]; omega)
  by_cases h144 : k < 145
  · exact List.all_eq_true.mp eAll_144 k (by rw [List.mem_range'_1]; omega)
  by_cases h145 : k < 146
  · exact List.all_eq_true.mp eAll_145 k (by rw [List.mem_range'_1]; omega)
  by_cases h146 : k < 170
  · exact List.all_eq_true.mp eAll_146 k (by rw [List.mem_range'_1]; omega)
  by_cases h170 : k < 189
  · exact List.all_eq_true.mp eAll_170 k (by rw [List.mem_range'_1]; omega)
  by_cases h189 : k < 199
  · exact List.all_eq_true.mp eAll_189 k (by rw [List.mem_range'_1]; omega)
  by_cases h199 : k < 209
  · exact List.all_eq_true.mp eAll_199 k (by rw [List.mem_range'_1]; omega)
  by_cases h209 : k < 219
  · exact List.all_eq_true.mp eAll_209 k (by rw [List.mem_range'_1]; omega)
  omega
end
section
/-! the abstract machine: cells by number, ints alone as contents -/
abbrev Mm : Type := Nat → Nat → Int32
def mup (D : Mm) (c j : Nat) (x : Int32) : Mm := fun c2 j2 => if c2 = c then (if j2 = j then x else D c2 j2) else D c2 j2
abbrev Shp : Type := Nat × Nat × List (Option Nat)
def shL : List Shp := [(7, 9, [some 1, some 15, none, some 155, some 157, some 160, some 165, some 169, some 170]), (5, 11, [some 2, some 11, some 12, some 13, some 14, none, none, none, none, none, none]), (6, 9, [some 3, some 4, some 5, some 6, some 7, some 8, some 9, some 10, none]), (20, 12, []), (20, 12, []), (20, 12, []), (20, 12, []), (20, 12, []), (20, 12, []), (20, 12, []), (20, 12, []), (21, 6, []), (20, 6, []), (20, 6, []), (20, 6, []), (5, 11, [some 16, some 25, some 26, some 27, some 28, none, none, none, none, none, none]), (6, 9, [some 17, some 18, some 19, some 20, some 21, some 22, some 23, some 24, none]), (20, 12, []), (20, 12, []), (20, 12, []), (20, 12, []), (20, 12, []), (20, 12, []), (20, 12, []), (20, 12, []), (21, 6, []), (20, 6, []), (20, 6, []), (20, 6, []), (5, 11, [some 30, some 39, some 40, some 41, some 42, none, none, none, none, none, none]), (6, 9, [some 31, some 32, some 33, some 34, some 35, some 36, some 37, some 38, none]), (20, 12, []), (20, 12, []), (20, 12, []), (20, 12, []), (20, 12, []), (20, 12, []), (20, 12, []), (20, 12, []), (21, 6, []), (20, 6, []), (20, 6, []), (20, 6, []), (5, 11, [some 44, some 53, some 54, some 55, some 56, none, none, none, none, none, none]), (6, 9, [some 45, some 46, some 47, some 48, some 49, some 50, some 51, some 52, none]), (20, 12, []), (20, 12, []), (20, 12, []), (20, 12, []), (20, 12, []), (20, 12, []), (20, 12, []), (20, 12, []), (21, 6, []), (20, 6, []), (20, 6, []), (20, 6, []), (5, 11, [some 58, some 67, some 68, some 69, some 70, none, none, none, none, none, none]), (6, 9, [some 59, some 60, some 61, some 62, some 63, some 64, some 65, some 66, none]), (20, 12, []), (20, 12, []), (20, 12, []), (20, 12, []), (20, 12, []), (20, 12, []), (20, 12, []), (20, 12, []), (21, 6, []), (20, 6, []), (20, 6, []), (20, 6, []), (5, 11, [some 72, some 81, some 82, some 83, some 84, none, none, none, none, none, none]), (6, 9, [some 73, some 74, some 75, some 76, some 77, some 78, some 79, some 80, none]), (20, 12, []), (20, 12, []), (20, 12, []), (20, 12, []), (20, 12, []), (20, 12, []), (20, 12, []), (20, 12, []), (21, 6, []), (20, 6, []), (20, 6, []), (20, 6, []), (5, 11, [some 86, some 95, some 96, some 97, some 98, none, none, none, none, none, none]), (6, 9, [some 87, some 88, some 89, some 90, some 91, some 92, some 93, some 94, none]), (20, 12, []), (20, 12, []), (20, 12, []), (20, 12, []), (20, 12, []), (20, 12, []), (20, 12, []), (20, 12, []), (21, 6, []), (20, 6, []), (20, 6, []), (20, 6, []), (5, 11, [some 100, some 109, some 110, some 111, some 112, none, none, none, none, none, none]), (6, 9, [some 101, some 102, some 103, some 104, some 105, some 106, some 107, some 108, none]), (20, 12, []), (20, 12, []), (20, 12, []), (20, 12, []), (20, 12, []), (20, 12, []), (20, 12, []), (20, 12, []), (21, 6, []), (20, 6, []), (20, 6, []), (20, 6, []), (5, 11, [some 114, some 123, some 124, some 125, some 126, none, none, none, none, none, none]), (6, 9, [some 115, some 116, some 117, some 118, some 119, some 120, some 121, some 122, none]), (20, 12, []), (20, 12, []), (20, 12, []), (20, 12, []), (20, 12, []), (20, 12, []), (20, 12, []), (20, 12, []), (21, 6, []), (20, 6, []), (20, 6, []), (20, 6, []), (5, 11, [some 128, some 137, some 138, some 139, some 140, none, none, none, none, none, none]), (6, 9, [some 129, some 130, some 131, some 132, some 133, some 134, some 135, some 136, none]), (20, 12, []), (20, 12, []), (20, 12, []), (20, 12, []), (20, 12, []), (20, 12, []), (20, 12, []), (20, 12, []), (21, 6, []), (20, 6, []), (20, 6, []), (20, 6, []), (5, 11, [some 142, some 151, some 152, some 153, some 154, none, none, none, none, none, none]), (6, 9, [some 143, some 144, some 145, some 146, some 147, some 148, some 149, some 150, none]), (20, 12, []), (20, 12, []), (20, 12, []), (20, 12, []), (20, 12, []), (20, 12, []), (20, 12, []), (20, 12, []), (21, 6, []), (20, 6, []), (20, 6, []), (20, 6, []), (1, 3, [some 156, none, none]), (23, 9, [some 29, some 43, some 57, some 71, some 85, some 99, some 113, some 127, some 141]), (3, 3, [some 158, some 159, none]), (20, 3, []), (20, 3, []), (2, 6, [some 161, some 162, some 163, some 164, none, none]), (20, 60, []), (20, 60, []), (20, 60, []), (20, 60, []), (4, 3, [some 166, some 167, some 168]), (20, 6, []), (20, 6, []), (20, 6, []), (0, 4, [some 181, none, none, none]), (0, 4, [some 182, none, none, none]), (99, 0, []), (99, 0, []), (99, 0, []), (99, 0, []), (99, 0, []), (99, 0, []), (99, 0, []), (99, 0, []), (99, 0, []), (99, 0, []), (22, 0, []), (22, 0, [])]
def sh (a : Nat) : Shp := shL.getD a (99, 0, [])
def NS : Nat := 173
def DB : Nat := 5000
def LEN : Nat := 1000000
def KND : Nat := 1000001
def cap (D : Mm) (o : Nat) : Nat := (D o LEN).toNatClampNeg
def kd (D : Mm) (o : Nat) : Nat := (D o KND).toNatClampNeg
def nxt (D : Mm) : Nat := (D 4500 0).toNatClampNeg
def usd (D : Mm) : Nat := (D 4500 1).toNatClampNeg
def pot (D : Mm) : Nat := cap D 181 + cap D 182 + usd D
def dv (D : Mm) (o : Nat) : Prop := DB ≤ o ∧ o < DB + nxt D
def dyn (D : Mm) (o k : Nat) : Prop := dv D o ∧ kd D o = k
def nF (k : Nat) : Nat := if k = 8 then 1 else 4
def rfB (k c : Nat) : Bool := (k == 0 || k == 9) && c == 0
def rv (x : Int32) : Value := if DB ≤ x.toNatClampNeg then .ref x.toNatClampNeg else .null
def dvl (D : Mm) (o k c : Nat) : Value := if rfB k c = true then rv (D o c) else .int (D o c)
def kb (b : Nat) : Nat := if b = 25 then 9 else b
def okr (D : Mm) (a : Nat) : Prop := a < DB ∨ dv D a
def okV (D : Mm) (v : Value) : Prop := match v with
  | .ref a => okr D a
  | _ => True
def nvV (D : Mm) (v : Value) : Prop := match v with
  | .ref a => a ≠ 181 ∧ a ≠ 182 ∧ okr D a
  | _ => True
def lsok (D : Mm) (ls : List Value) : Prop := ∀ v, v ∈ ls → okV D v
/-- a cell is made: its row f, n places -/
def alD (D : Mm) (f : Nat → Int32) (n : Nat) : Mm := fun c j => if c = DB + nxt D then f j else if c = 4500 then (if j = 0 then nI (nxt D + 1) else if j = 1 then nI (usd D + (n + 1)) else D c j) else D c j
def rwO (b : Nat) : Nat → Int32 := fun j => if j = KND then nI b else if rfB b j = true then -1 else 0
def rwA (k n : Nat) : Nat → Int32 := fun j => if j = KND then nI k else if j = LEN then nI n else 0
def fitU (D : Mm) (n : Nat) : Prop := usd D + (n + 1) ≤ 2000000 ∧ nxt D ≤ usd D
/-- the bytes that are copied: a text's of the constants, or a cell's -/
def nvB : Value → Bool
  | .int _ => true
  | .ref a => !(a == 181) && !(a == 182) && decide (a < 5000)
  | .retAddr _ => true
  | _ => false
def c1B : Value → Bool
  | .int _ => true
  | .ref _ => true
  | .retAddr _ => true
  | .null => true
  | .float _ => true
  | _ => false
def strB : List (List Int32) := [[115, 98, 111, 119, 112, 100, 109, 104, 101, 116], [49, 58, 50, 47, 49], [50, 42, 50], [50, 62, 49, 61, 50], [49, 33, 50, 42, 50], [50, 43, 50], [49, 62, 49], [49], [50], [], [64], [58], [47], [62], [61], [33], [32], [120], [43]]
def dgO : List Int32 := [48, 49, 50, 51, 52, 53, 54, 55, 56, 57, 48, 49, 50, 51, 52, 53, 54, 55, 56, 57, 48, 49, 50, 51, 52, 53, 54, 55, 56, 57, 48, 49, 50, 51, 52, 53, 54, 55, 56, 57, 48, 49, 50, 51, 52, 53, 54, 55, 56, 57, 48, 49, 50, 51, 52, 53, 54, 55, 56, 57, 48, 49, 50, 51, 52, 53, 54, 55, 56, 57, 48, 49, 50, 51, 52, 53, 54, 55, 56, 57, 48, 49, 50, 51, 52, 53, 54, 55, 56, 57, 48, 49, 50, 51, 52, 53, 54, 55, 56, 57]
def dgT : List Int32 := [48, 48, 48, 48, 48, 48, 48, 48, 48, 48, 49, 49, 49, 49, 49, 49, 49, 49, 49, 49, 50, 50, 50, 50, 50, 50, 50, 50, 50, 50, 51, 51, 51, 51, 51, 51, 51, 51, 51, 51, 52, 52, 52, 52, 52, 52, 52, 52, 52, 52, 53, 53, 53, 53, 53, 53, 53, 53, 53, 53, 54, 54, 54, 54, 54, 54, 54, 54, 54, 54, 55, 55, 55, 55, 55, 55, 55, 55, 55, 55, 56, 56, 56, 56, 56, 56, 56, 56, 56, 56, 57, 57, 57, 57, 57, 57, 57, 57, 57, 57]
def roc (a : Nat) : List Int32 := if a = 3000 then dgO else if a = 3001 then dgT else strB.getD (a - 2000) []
def roK (a : Nat) : Prop := (2000 ≤ a ∧ a < 2019) ∨ a = 3000 ∨ a = 3001
def rk (o : Nat) : Nat := if 1000 ≤ o ∧ o < 1019 then 25 else (sh o).1
abbrev Ctr : Type := Nat → List Value → Mm → (Option Value → Mm → Prop) → Prop
abbrev Pst : Type := Nat → List Value → List Value → Mm → Prop
def sI (st : List Value) (f : Int32 → List Value → Prop) : Prop := match st with
  | .int a :: r => f a r
  | _ => False
def sII (st : List Value) (f : Int32 → Int32 → List Value → Prop) : Prop := match st with
  | .int b :: .int a :: r => f a b r
  | _ => False
def sA (st : List Value) (f : Nat → List Value → Prop) : Prop := match st with
  | .ref a :: r => f a r
  | _ => False
def sIA (st : List Value) (f : Nat → Int32 → List Value → Prop) : Prop := match st with
  | .int b :: .ref a :: r => f a b r
  | _ => False
def sIIA (st : List Value) (f : Nat → Int32 → Int32 → List Value → Prop) : Prop := match st with
  | .int x :: .int b :: .ref a :: r => f a b x r
  | _ => False
def lI (ls : List Value) (i : Nat) (f : Int32 → Prop) : Prop := match ls[i]? with
  | some (.int v) => f v
  | _ => False
def lA (ls : List Value) (i : Nat) (f : Nat → Prop) : Prop := match ls[i]? with
  | some (.ref v) => f v
  | _ => False
def icmp (c : ClassFile.Cond) (x y : Int32) : Prop := match c with
  | .eq => x = y
  | .ne => ¬ x = y
  | .lt => x < y
  | .ge => y ≤ x
  | .gt => y < x
  | .le => x ≤ y
def tg (pc : Nat) (off : Int) : Nat := ((pc : Int) + off).toNat
def tsel (pc : Nat) (d lo hi : Int) (os : Array Int) (x : Int32) : Option Nat := if x.toInt < lo ∨ hi < x.toInt then some (tg pc d) else (os[(x.toInt - lo).toNat]?).map (tg pc)
def callA (C : Ctr) (b : Nat) (ls st : List Value) (D : Mm) (K : List Value → Mm → Prop) : Prop :=
  nA b ≤ st.length ∧ (∀ v, v ∈ st.drop (nA b) → nvV D v ∧ c1B v = true) ∧ (st.drop (nA b)).length ≤ 8 ∧
  (nS b = 0 → ∃ o, ((st.take (nA b)).reverse)[0]? = some (.ref o) ∧ ((rk o = nC b ∧ o < 1019) ∨ (dv D o ∧ kd D o = kb (nC b) ∧ kd D o < 20))) ∧
  C b ((st.take (nA b)).reverse) D (fun r D1 => ((∀ v, v ∈ ls → nvV D v) ∨ pot D1 = pot D) ∧ K (r.toList ++ st.drop (nA b)) D1)
def retK (k : Nat) (v : Int32) : Prop := match nR k with
  | some .int => True
  | some ty => (ty = .boolean ∨ ty = .char ∨ ty = .byte) ∧ narrow ty (.int v) = .int v
  | none => False
def retA (k : Nat) : Prop := match nR k with
  | some (.object _) => True
  | some (.array _) => True
  | _ => False
def gfA (P : Pst) (b c pc : Nat) (ls : List Value) (D : Mm) (o : Nat) (r : List Value) : Prop :=
  (dyn D o (kb b) ∧ (kb b = 0 ∨ kb b = 8 ∨ kb b = 9) ∧ c < nF (kb b) ∧ (b = 25 → c < 2) ∧ P (pc + 3) ls (dvl D o (kb b) c :: r) D) ∨
  (if b = 25 then 1000 ≤ o ∧ o < 1019 ∧ (if c = 0 then P (pc + 3) ls (.ref (o + 1000) :: r) D else c = 1 ∧ P (pc + 3) ls (.int 0 :: r) D)
  else (sh o).1 = b ∧ match (sh o).2.2[c]? with
    | some none => P (pc + 3) ls (.int (D o c) :: r) D
    | some (some q) => P (pc + 3) ls (.ref q :: r) D
    | none => False)
def pfA (P : Pst) (k b c d pc : Nat) (ls : List Value) (D : Mm) (st : List Value) : Prop := match st with
  | .int v :: .ref o :: r => (dyn D o (kb b) ∧ (kb b = 0 ∨ kb b = 8 ∨ kb b = 9) ∧ c < nF (kb b) ∧ rfB (kb b) c = false ∧ (b = 25 → c = 1 ∧ (nY k).name = "<init>" ∧ nO k = 10) ∧ ((b ≠ 25 ∧ d = 0) ∨ (b ≠ 25 ∧ d = 1 ∧ (v = 0 ∨ v = 1)) ∨ ((b = 25 ∨ d = 2) ∧ fits .byte (.int v) = true ∧ narrow .byte (.int v) = .int v)) ∧ P (pc + 3) ls r (mup D o c v)) ∨
      (b < 20 ∧ (sh o).1 = b ∧ (sh o).2.2[c]? = some none ∧ (d = 0 ∨ (d = 1 ∧ (v = 0 ∨ v = 1))) ∧ P (pc + 3) ls r (mup D o c v))
  | .ref q :: .ref o :: r => dyn D o (kb b) ∧ (b = 0 ∨ (b = 25 ∧ (nY k).name = "<init>" ∧ nO k = 10)) ∧ c = 0 ∧ d = 3 ∧ dv D q ∧ P (pc + 3) ls r (mup D o c (nI q))
  | _ => False
def ialA (P : Pst) (pc : Nat) (ls : List Value) (D : Mm) (o : Nat) (i : Int32) (r : List Value) : Prop :=
  ((sh o).1 = 20 ∧ vp_in i (sh o).2.1 ∧ P (pc + 1) ls (.int (D o i.toNatClampNeg) :: r) D) ∨
  (dyn D o 20 ∧ vp_in i (cap D o) ∧ P (pc + 1) ls (.int (D o i.toNatClampNeg) :: r) D) ∨
  (o = 4000 ∧ vp_in i (cap D o) ∧ P (pc + 1) ls (.int (D o i.toNatClampNeg) :: r) D)
def iasA (P : Pst) (pc : Nat) (ls : List Value) (D : Mm) (o : Nat) (i x : Int32) (r : List Value) : Prop :=
  ((sh o).1 = 20 ∧ vp_in i (sh o).2.1 ∧ P (pc + 1) ls r (mup D o i.toNatClampNeg x)) ∨
  (dyn D o 20 ∧ vp_in i (cap D o) ∧ i.toNatClampNeg < LEN ∧ P (pc + 1) ls r (mup D o i.toNatClampNeg x))
def balA (P : Pst) (pc : Nat) (ls : List Value) (D : Mm) (o : Nat) (i : Int32) (r : List Value) : Prop :=
  ((sh o).1 = 21 ∧ vp_in i (sh o).2.1 ∧ P (pc + 1) ls (.int (D o i.toNatClampNeg) :: r) D) ∨
  ((sh o).1 = 22 ∧ vp_in i (cap D o) ∧ i.toNatClampNeg < LEN ∧ P (pc + 1) ls (.int (D o i.toNatClampNeg) :: r) D) ∨
  (roK o ∧ vp_in i (roc o).length ∧ P (pc + 1) ls (.int ((roc o).getD i.toNatClampNeg 0) :: r) D) ∨
  (dyn D o 22 ∧ vp_in i (cap D o) ∧ P (pc + 1) ls (.int (D o i.toNatClampNeg) :: r) D)
def basA (P : Pst) (pc : Nat) (ls : List Value) (D : Mm) (o : Nat) (i x : Int32) (r : List Value) : Prop :=
  ((sh o).1 = 21 ∧ vp_in i (sh o).2.1 ∧ P (pc + 1) ls r (mup D o i.toNatClampNeg (vp_nar .boolean x))) ∨
  ((sh o).1 = 22 ∧ vp_in i (cap D o) ∧ i.toNatClampNeg < LEN ∧ P (pc + 1) ls r (mup D o i.toNatClampNeg (vp_nar .byte x))) ∨
  (dyn D o 22 ∧ vp_in i (cap D o) ∧ i.toNatClampNeg < LEN ∧ P (pc + 1) ls r (mup D o i.toNatClampNeg (vp_nar .byte x)))
def alnA (P : Pst) (pc : Nat) (ls : List Value) (D : Mm) (o : Nat) (r : List Value) : Prop :=
  ((sh o).1 = 22 ∧ P (pc + 1) ls (.int (Int32.ofNat (cap D o)) :: r) D) ∨ ((sh o).1 = 20 ∧ P (pc + 1) ls (.int (Int32.ofNat (sh o).2.1) :: r) D) ∨
  (roK o ∧ P (pc + 1) ls (.int (Int32.ofNat (roc o).length) :: r) D) ∨
  ((dyn D o 22 ∨ dyn D o 20 ∨ o = 4000) ∧ P (pc + 1) ls (.int (Int32.ofNat (cap D o)) :: r) D)
/-- the bytes' row that a copy is made of: a cell's, or a constant text's -/
def csD (D : Mm) (o : Nat) : Nat → Int32 := if o < DB then fun j => (roc o).getD j 0 else D o
def csL (D : Mm) (o : Nat) : Nat := if o < DB then (roc o).length else cap D o
def cpD (D : Mm) (src dst sp dp n : Nat) : Mm := fun c j => if c = dst then va_cpy (csD D src) (D dst) sp dp n j else D c j
def cpyA (P : Pst) (pc : Nat) (ls : List Value) (D : Mm) (st : List Value) : Prop := match st with
  | .int n :: .int dp :: .ref dst :: .int sp :: .ref src :: r => (dyn D src 22 ∨ (2000 ≤ src ∧ src < 2019)) ∧ dyn D dst 22 ∧ (∀ v, v ∈ r → c1B v = true) ∧ r.length ≤ 8 ∧ 0 ≤ sp.toInt ∧ 0 ≤ dp.toInt ∧ 0 ≤ n.toInt ∧ sp.toNatClampNeg + n.toNatClampNeg ≤ csL D src ∧ dp.toNatClampNeg + n.toNatClampNeg ≤ cap D dst ∧ cap D dst ≤ 1000000 ∧
      (∀ i, i < n.toNatClampNeg → fits .byte (.int (csD D src (sp.toNatClampNeg + i))) = true) ∧ P (pc + 3) ls r (cpD D src dst sp.toNatClampNeg dp.toNatClampNeg n.toNatClampNeg)
  | _ => False
def clnA (P : Pst) (pc : Nat) (ls : List Value) (D : Mm) (st : List Value) : Prop := match st with
  | .ref a :: r => dyn D a 22 ∧ (∀ j, j < cap D a → fits .byte (.int (D a j)) = true) ∧ (∀ v, v ∈ r → c1B v = true) ∧ r.length ≤ 8 ∧ cap D a ≤ 1000000 ∧ lsok D ls ∧ lsok D st ∧ fitU D (cap D a) ∧ P (pc + 3) ls (.ref (DB + nxt D) :: r) (alD D (D a) (cap D a))
  | _ => False
def sval (b : Nat) : Option Value := match b with
  | 0 => some (.int 1)
  | 1 => some (.retAddr 1)
  | 2 => some (.ref 3000)
  | 3 => some (.ref 3001)
  | _ => none
def Step (C : Ctr) (k : Nat) (Q : Option Value → Mm → Prop) (P : Pst) (pc : Nat) (ls st : List Value) (D : Mm) : Prop :=
  match ins k pc with
  | none => False
  | some (i, _, b, c, d) => match i with
    | .iconst n => P (pc + 1) ls (.int (Int32.ofInt n) :: st) D
    | .bipush n => P (pc + 2) ls (.int (Int8.ofInt n).toInt32 :: st) D
    | .sipush n => P (pc + 3) ls (.int (Int16.ofInt n).toInt32 :: st) D
    | .iload_n x => lI ls x (fun v => P (pc + 1) ls (.int v :: st) D)
    | .iload x => lI ls x (fun v => P (pc + 2) ls (.int v :: st) D)
    | .aload_n x => lA ls x (fun v => P (pc + 1) ls (.ref v :: st) D)
    | .aload x => lA ls x (fun v => P (pc + 2) ls (.ref v :: st) D)
    | .istore_n x => sI st (fun v r => (x : Nat) < ls.length ∧ P (pc + 1) (ls.set x (.int v)) r D)
    | .istore x => sI st (fun v r => x < ls.length ∧ P (pc + 2) (ls.set x (.int v)) r D)
    | .astore_n x => sA st (fun v r => (x : Nat) < ls.length ∧ P (pc + 1) (ls.set x (.ref v)) r D)
    | .astore x => sA st (fun v r => x < ls.length ∧ P (pc + 2) (ls.set x (.ref v)) r D)
    | .iinc x n => lI ls x (fun v => P (pc + 3) (ls.set x (.int (v + Int32.ofInt n))) st D)
    | .iadd => sII st (fun x y r => P (pc + 1) ls (.int (x + y) :: r) D)
    | .isub => sII st (fun x y r => P (pc + 1) ls (.int (x - y) :: r) D)
    | .imul => sII st (fun x y r => P (pc + 1) ls (.int (x * y) :: r) D)
    | .iand => sII st (fun x y r => P (pc + 1) ls (.int (x &&& y) :: r) D)
    | .ior => sII st (fun x y r => P (pc + 1) ls (.int (x ||| y) :: r) D)
    | .idiv => sII st (fun x y r => (¬ y = 0) ∧ P (pc + 1) ls (.int (x / y) :: r) D)
    | .irem => sII st (fun x y r => (¬ y = 0) ∧ P (pc + 1) ls (.int (x - x / y * y) :: r) D)
    | .ishr => sII st (fun x y r => P (pc + 1) ls (.int (x >>> (y &&& 31)) :: r) D)
    | .ineg => sI st (fun x r => P (pc + 1) ls (.int (-x) :: r) D)
    | .i2b => sI st (fun x r => P (pc + 1) ls (.int x.toInt8.toInt32 :: r) D)
    | .i2c => sI st (fun x r => P (pc + 1) ls (.int (x.toUInt32 % 65536).toInt32 :: r) D)
    | .dup => match st with
      | v :: r => c1B v = true ∧ P (pc + 1) ls (v :: v :: r) D
      | _ => False
    | .dup_x1 => match st with
      | v :: w :: r => c1B v = true ∧ c1B w = true ∧ P (pc + 1) ls (v :: w :: v :: r) D
      | _ => False
    | .dup2 => match st with
      | v :: w :: r => c1B v = true ∧ c1B w = true ∧ P (pc + 1) ls (v :: w :: v :: w :: r) D
      | _ => False
    | .pop => match st with
      | v :: r => c1B v = true ∧ P (pc + 1) ls r D
      | _ => False
    | .ifCond cd off => sI st (fun x r => (icmp cd x 0 → P (tg pc off) ls r D) ∧ (¬ icmp cd x 0 → P (pc + 3) ls r D))
    | .if_icmp cd off => sII st (fun x y r => (icmp cd x y → P (tg pc off) ls r D) ∧ (¬ icmp cd x y → P (pc + 3) ls r D))
    | .goto off => P (tg pc off) ls st D
    | .tableswitch dd lo hi os => sI st (fun x r => ∃ t, tsel pc dd lo hi os x = some t ∧ P t ls r D)
    | .getfield _ => sA st (fun o r => gfA P b c pc ls D o r)
    | .putfield _ => pfA P k b c d pc ls D st
    | .iaload => sIA st (fun o i r => ialA P pc ls D o i r)
    | .baload => sIA st (fun o i r => balA P pc ls D o i r)
    | .iastore => sIIA st (fun o i x r => iasA P pc ls D o i x r)
    | .bastore => sIIA st (fun o i x r => basA P pc ls D o i x r)
    | .arraylength => sA st (fun o r => alnA P pc ls D o r)
    | .aaload => sIA st (fun o i r => (sh o).1 = 23 ∧ vp_in i (sh o).2.1 ∧ ∃ q, (sh o).2.2[i.toNatClampNeg]? = some (some q) ∧ P (pc + 1) ls (.ref q :: r) D)
    | .invokevirtual _ => (b < mnames ∧ (c = 0 ∨ c = 2 ∨ c = 6) ∧ callA C b ls st D (fun st2 D1 => P (pc + 3) ls st2 D1)) ∨ (b = 997 ∧ clnA P pc ls D st)
    | .invokestatic _ => (b < mnames ∧ c = 1 ∧ callA C b ls st D (fun st2 D1 => P (pc + 3) ls st2 D1)) ∨ (b = 998 ∧ cpyA P pc ls D st)
    | .invokespecial _ => (b < mnames ∧ (c = 3 ∨ c = 4) ∧ callA C b ls st D (fun st2 D1 => P (pc + 3) ls st2 D1)) ∨ (b = 996 ∧ (∀ v, v ∈ st → c1B v = true) ∧ st.length ≤ 8 ∧ sA st (fun _ r => P (pc + 3) ls r D))
    | .new _ => (b = 0 ∨ b = 8 ∨ b = 9) ∧ lsok D ls ∧ lsok D st ∧ fitU D (nF b) ∧ P (pc + 3) ls (.ref (DB + nxt D) :: st) (alD D (rwO b) (nF b))
    | .newarray ty => sI st (fun x r => ((ty = .int ∧ P (pc + 2) ls (.ref (DB + nxt D) :: r) (alD D (rwA 20 x.toNatClampNeg) x.toNatClampNeg)) ∨ (ty = .byte ∧ P (pc + 2) ls (.ref (DB + nxt D) :: r) (alD D (rwA 22 x.toNatClampNeg) x.toNatClampNeg))) ∧ 0 ≤ x.toInt ∧ x.toNatClampNeg ≤ 1000000 ∧ lsok D ls ∧ lsok D r ∧ fitU D x.toNatClampNeg)
    | .aconst_null => P (pc + 1) ls (.null :: st) D
    | .if_acmp cd off => match st with
      | .ref y :: .ref x :: r => cd = .ne ∧ dv D x ∧ dv D y ∧ (¬ x = y → P (tg pc off) ls r D) ∧ (x = y → P (pc + 3) ls r D)
      | _ => False
    | .ifnonnull off => sA st (fun _ r => P (tg pc off) ls r D)
    | .instanceof _ => sA st (fun o r => b = 0 ∧ dyn D o 9 ∧ P (pc + 3) ls (.int 1 :: r) D)
    | .checkcast _ => sA st (fun o r => ((b = 0 ∧ dyn D o 9) ∨ (b = 1 ∧ dyn D o 22)) ∧ P (pc + 3) ls (.ref o :: r) D)
    | .iushr => sII st (fun x y r => P (pc + 1) ls (.int ((x.toUInt32 >>> (y.toUInt32 &&& Int32.toUInt32 31)).toInt32) :: r) D)
    | .ishl => sII st (fun x y r => P (pc + 1) ls (.int (x <<< (y &&& 31)) :: r) D)
    | .i2d => sI st (fun x r => P (pc + 1) ls (.double (FP.i2d x) :: r) D)
    | .i2f => sI st (fun x r => P (pc + 1) ls (.float (FP.i2f x) :: r) D)
    | .ddiv => match st with
      | .double y :: .double x :: r => vf_n64 (FP.ddiv x y) ∧ P (pc + 1) ls (.double (FP.ddiv x y) :: r) D
      | _ => False
    | .fdiv => match st with
      | .float y :: .float x :: r => vf_n32 (FP.fdiv x y) ∧ P (pc + 1) ls (.float (FP.fdiv x y) :: r) D
      | _ => False
    | .dcmp op => match st with
      | .double y :: .double x :: r => P (pc + 1) ls (.int (Op.cmpValue (FP.dcmp x y) op) :: r) D
      | _ => False
    | .fcmp op => match st with
      | .float y :: .float x :: r => P (pc + 1) ls (.int (Op.cmpValue (FP.fcmp x y) op) :: r) D
      | _ => False
    | .dconst n => n = 0 ∧ P (pc + 1) ls (.double FP.dconst0 :: st) D
    | .fconst n => n = 0 ∧ P (pc + 1) ls (.float FP.fconst0 :: st) D
    | .dload x => match ls[x]? with
      | some (.double v) => ls[x + 1]? = some (.retAddr 2) ∧ P (pc + 2) ls (.double v :: st) D
      | _ => False
    | .dstore x => match st with
      | .double v :: r => x + 1 < ls.length ∧ P (pc + 2) ((ls.set x (.double v)).set (x + 1) (.retAddr 2)) r D
      | _ => False
    | .fload x => match ls[x]? with
      | some (.float v) => P (pc + 2) ls (.float v :: st) D
      | _ => False
    | .fstore x => match st with
      | .float v :: r => x < ls.length ∧ P (pc + 2) (ls.set x (.float v)) r D
      | _ => False
    | .dreturn => match st with
      | [.double v] => nR k = some .double ∧ Q (some (.double v)) D
      | _ => False
    | .freturn => match st with
      | [.float v] => nR k = some .float ∧ Q (some (.float v)) D
      | _ => False
    | .getstatic _ => ∃ v, sval b = some v ∧ P (pc + 3) ls (v :: st) D
    | .ldc _ => (b = 1 ∧ c < 19 ∧ P (pc + 2) ls (.ref (1000 + c) :: st) D) ∨ (b = 2 ∧ ∃ f, ctab[c]? = some f ∧ P (pc + 2) ls (.int f.2.2.2 :: st) D)
    | .ireturn => match st with
      | [.int v] => retK k v ∧ Q (some (.int v)) D
      | _ => False
    | .areturn => match st with
      | [.ref o] => nvV D (.ref o) ∧ retA k ∧ Q (some (.ref o)) D
      | _ => False
    | .return_ => nR k = none ∧ st = [] ∧ Q none D
    | _ => False
end
section
/-! weakest preconditions over the abstract machine -/
theorem sI_spec {st : List Value} {f : Int32 → List Value → Prop} (h : sI st f) : ∃ a r, st = .int a :: r ∧ f a r := by
  unfold sI at h
  split at h
  · exact ⟨_, _, rfl, h⟩
  · exact h.elim
theorem sII_spec {st : List Value} {f : Int32 → Int32 → List Value → Prop} (h : sII st f) : ∃ a b r, st = .int b :: .int a :: r ∧ f a b r := by
  unfold sII at h
  split at h
  · exact ⟨_, _, _, rfl, h⟩
  · exact h.elim
theorem sA_spec {st : List Value} {f : Nat → List Value → Prop} (h : sA st f) : ∃ (a : Nat) (r : List Value), st = .ref a :: r ∧ f a r := by
  unfold sA at h
  split at h
  · exact ⟨_, _, rfl, h⟩
  · exact h.elim
theorem sIA_spec {st : List Value} {f : Nat → Int32 → List Value → Prop} (h : sIA st f) : ∃ (a : Nat) (b : Int32) (r : List Value), st = .int b :: .ref a :: r ∧ f a b r := by
  unfold sIA at h
  split at h
  · exact ⟨_, _, _, rfl, h⟩
  · exact h.elim
theorem sIIA_spec {st : List Value} {f : Nat → Int32 → Int32 → List Value → Prop} (h : sIIA st f) : ∃ (a : Nat) (b x : Int32) (r : List Value), st = .int x :: .int b :: .ref a :: r ∧ f a b x r := by
  unfold sIIA at h
  split at h
  · exact ⟨_, _, _, _, rfl, h⟩
  · exact h.elim
theorem lI_spec {ls : List Value} {i : Nat} {f : Int32 → Prop} (h : lI ls i f) : ∃ v, ls[i]? = some (.int v) ∧ f v := by
  unfold lI at h
  split at h
  · exact ⟨_, by assumption, h⟩
  · exact h.elim
theorem lA_spec {ls : List Value} {i : Nat} {f : Nat → Prop} (h : lA ls i f) : ∃ v : Nat, ls[i]? = some (.ref v) ∧ f v := by
  unfold lA at h
  split at h
  · exact ⟨_, by assumption, h⟩
  · exact h.elim
theorem lI_of {ls : List Value} {i : Nat} {f : Int32 → Prop} {v : Int32} (h : ls[i]? = some (.int v)) (hf : f v) : lI ls i f := by
  unfold lI; rw [h]; exact hf
theorem lA_of {ls : List Value} {i : Nat} {f : Nat → Prop} {v : Nat} (h : ls[i]? = some (.ref v)) (hf : f v) : lA ls i f := by
  unfold lA; rw [h]; exact hf
theorem cap_mup {D : Mm} {o c q : Nat} {v : Int32} (h : o ≠ q ∨ c ≠ LEN) : cap (mup D o c v) q = cap D q := by
  unfold cap mup
  rcases h with h | h
  · rw [if_neg (fun e => h e.symm)]
  · by_cases e : q = o
    · rw [if_pos e, if_neg (fun e => h e.symm)]
    · rw [if_neg e]
theorem sh_big {o : Nat} (h : 183 ≤ o) : (sh o).1 = 99 := by
  have e : shL.length = 183 := by decide +kernel
  unfold sh
  rw [List.getD_eq_getElem?_getD, List.getElem?_eq_none (by rw [e]; exact h)]
  rfl
theorem sh_sm {o : Nat} (h : (sh o).1 ≠ 99) : o < 183 := by
  rcases Nat.lt_or_ge o 183 with q | q
  · exact q
  · exact absurd (sh_big q) h
theorem usd_mup {D : Mm} {o c : Nat} {v : Int32} (h : o ≠ 4500) : usd (mup D o c v) = usd D := by
  unfold usd mup; rw [if_neg (fun e => h e.symm)]
theorem nxt_mup {D : Mm} {o c : Nat} {v : Int32} (h : o ≠ 4500) : nxt (mup D o c v) = nxt D := by
  unfold nxt mup; rw [if_neg (fun e => h e.symm)]
theorem pot_mup {D : Mm} {o c : Nat} {v : Int32} (h0 : o ≠ 4500) (h : (sh o).1 ≠ 22 ∨ c ≠ LEN) : pot (mup D o c v) = pot D := by
  unfold pot
  rw [cap_mup, cap_mup, usd_mup h0]
  · rcases h with h | h
    · exact Or.inl (fun e => h (by rw [e]; rfl))
    · exact Or.inr h
  · rcases h with h | h
    · exact Or.inl (fun e => h (by rw [e]; rfl))
    · exact Or.inr h
def leD (D D2 : Mm) : Prop := pot D ≤ pot D2 ∧ nxt D ≤ nxt D2 ∧ D2 4000 = D 4000
theorem leD.rf {D : Mm} : leD D D := ⟨Nat.le_refl _, Nat.le_refl _, rfl⟩
theorem leD.tr {D D2 D3 : Mm} (h : leD D D2) (g : leD D2 D3) : leD D D3 := ⟨Nat.le_trans h.1 g.1, Nat.le_trans h.2.1 g.2.1, g.2.2.trans h.2.2⟩
theorem leD_mup {D : Mm} {o c : Nat} {v : Int32} (h0 : o < 183 ∨ DB ≤ o) (h : (sh o).1 ≠ 22 ∨ c ≠ LEN) : leD D (mup D o c v) := by
  have e0 : o ≠ 4500 := by unfold DB at h0; omega
  have e1 : o ≠ 4000 := by unfold DB at h0; omega
  exact ⟨Nat.le_of_eq (pot_mup e0 h).symm, Nat.le_of_eq (nxt_mup e0).symm, by funext j; unfold mup; rw [if_neg (fun e => e1 e.symm)]⟩
theorem leD_st {D : Mm} {o c k : Nat} {v : Int32} (h0 : (sh o).1 = k) (hk : k ≠ 99) (h : k ≠ 22 ∨ c ≠ LEN) : leD D (mup D o c v) := leD_mup (Or.inl (sh_sm (by rw [h0]; exact hk))) (by rw [h0]; exact h)
theorem leD_dy {D : Mm} {o c : Nat} {v : Int32} (h : dv D o) : leD D (mup D o c v) := leD_mup (Or.inr h.1) (Or.inl (by rw [sh_big (by have := h.1; unfold DB at this; omega)]; decide))
theorem al_new {D : Mm} {f : Nat → Int32} {n : Nat} : alD D f n (DB + nxt D) = f := by
  funext j; unfold alD; rw [if_pos rfl]
theorem al_old {D : Mm} {f : Nat → Int32} {n o : Nat} (h : o ≠ DB + nxt D) (h2 : o ≠ 4500) : alD D f n o = D o := by
  funext j; unfold alD; rw [if_neg h, if_neg h2]
theorem al_nxt {D : Mm} {f : Nat → Int32} {n : Nat} (h : fitU D n) : nxt (alD D f n) = nxt D + 1 := by
  unfold fitU at h
  show (alD D f n 4500 0).toNatClampNeg = _
  unfold alD
  rw [if_neg (by unfold DB; omega), if_pos rfl, if_pos rfl]
  exact nI_clamp (by omega)
theorem al_usd {D : Mm} {f : Nat → Int32} {n : Nat} (h : fitU D n) : usd (alD D f n) = usd D + (n + 1) := by
  unfold fitU at h
  show (alD D f n 4500 1).toNatClampNeg = _
  unfold alD
  rw [if_neg (by unfold DB; omega), if_pos rfl, if_neg (by decide), if_pos rfl]
  exact nI_clamp (by omega)
theorem al_pot {D : Mm} {f : Nat → Int32} {n : Nat} (h : fitU D n) : pot (alD D f n) = pot D + (n + 1) := by
  unfold pot cap
  rw [al_usd h, al_old (by unfold DB; omega) (by decide), al_old (by unfold DB; omega) (by decide)]
  omega
theorem leD_al {D : Mm} {f : Nat → Int32} {n : Nat} (h : fitU D n) : leD D (alD D f n) := ⟨by rw [al_pot h]; omega, by rw [al_nxt h]; omega, al_old (by unfold DB; omega) (by decide)⟩
theorem cp_ne {D : Mm} {src dst sp dp n c : Nat} (h : c ≠ dst) : cpD D src dst sp dp n c = D c := by
  funext j; unfold cpD; rw [if_neg h]
theorem leD_cp {D : Mm} {src dst sp dp n : Nat} (h : dv D dst) : leD D (cpD D src dst sp dp n) := by
  have h1 := h.1
  unfold DB at h1
  refine ⟨?_, ?_, cp_ne (by omega)⟩
  · unfold pot cap usd; rw [cp_ne (by omega), cp_ne (by omega), cp_ne (by omega)]; exact Nat.le_refl _
  · unfold nxt; rw [cp_ne (by omega)]; exact Nat.le_refl _
/-- what a step is: one state behind it, an end, or a call -/
def Nx (C : Ctr) (k : Nat) (Q : Option Value → Mm → Prop) (P : Pst) (pc : Nat) (ls st : List Value) (D : Mm) : Prop :=
  (∃ pc2 ls2 st2 D2, leD D D2 ∧ P pc2 ls2 st2 D2 ∧ ∀ (Q2 : Option Value → Mm → Prop) (P2 : Pst), P2 pc2 ls2 st2 D2 → Step C k Q2 P2 pc ls st D) ∨
  (∃ r, Q r D ∧ ∀ (Q2 : Option Value → Mm → Prop) (P2 : Pst), Q2 r D → Step C k Q2 P2 pc ls st D) ∨
  (∃ b args pc2 r2, ∃ g : Mm → Prop, C b args D (fun r D1 => g D1 ∧ P pc2 ls (r.toList ++ r2) D1) ∧ ∀ (Q2 : Option Value → Mm → Prop) (P2 : Pst), C b args D (fun r D1 => g D1 ∧ P2 pc2 ls (r.toList ++ r2) D1) → Step C k Q2 P2 pc ls st D)
set_option maxHeartbeats 4000000 in
theorem Step_nx {C : Ctr} {k : Nat} {Q : Option Value → Mm → Prop} {P : Pst} {pc : Nat} {ls st : List Value} {D : Mm} (h : Step C k Q P pc ls st D) : Nx C k Q P pc ls st D := by
  have key : ∀ {pc2 ls2 st2 D2}, leD D D2 → P pc2 ls2 st2 D2 → (∀ (Q2 : Option Value → Mm → Prop) (P2 : Pst), P2 pc2 ls2 st2 D2 → Step C k Q2 P2 pc ls st D) → Nx C k Q P pc ls st D := fun a b c => Or.inl ⟨_, _, _, _, a, b, c⟩
  cases hi : ins k pc with
  | none => unfold Step at h; rw [hi] at h; exact h.elim
  | some e =>
    obtain ⟨i, a, b, c, d⟩ := e
    have hS : ∀ (Q2 : Option Value → Mm → Prop) (P2 : Pst) (X : Prop), (X → (match (some (i, a, b, c, d) : Option (Instr × Nat × Nat × Nat × Nat)) with | none => False | some (i, _, b, c, d) => Step C k Q2 P2 pc ls st D)) → X → Step C k Q2 P2 pc ls st D := fun _ _ _ f x => f x
    clear hS
    unfold Step at h
    rw [hi] at h
    cases i
    case iconst => exact key leD.rf h (fun Q2 P2 h2 => by unfold Step; rw [hi]; exact h2)
    case bipush => exact key leD.rf h (fun Q2 P2 h2 => by unfold Step; rw [hi]; exact h2)
    case sipush => exact key leD.rf h (fun Q2 P2 h2 => by unfold Step; rw [hi]; exact h2)
    case goto => exact key leD.rf h (fun Q2 P2 h2 => by unfold Step; rw [hi]; exact h2)
    case iload_n => obtain ⟨v, e1, h⟩ := lI_spec h; exact key leD.rf h (fun Q2 P2 h2 => by unfold Step; rw [hi]; exact lI_of e1 h2)
    case iload => obtain ⟨v, e1, h⟩ := lI_spec h; exact key leD.rf h (fun Q2 P2 h2 => by unfold Step; rw [hi]; exact lI_of e1 h2)
    case aload_n => obtain ⟨v, e1, h⟩ := lA_spec h; exact key leD.rf h (fun Q2 P2 h2 => by unfold Step; rw [hi]; exact lA_of e1 h2)
    case aload => obtain ⟨v, e1, h⟩ := lA_spec h; exact key leD.rf h (fun Q2 P2 h2 => by unfold Step; rw [hi]; exact lA_of e1 h2)
    case iinc => obtain ⟨v, e1, h⟩ := lI_spec h; exact key leD.rf h (fun Q2 P2 h2 => by unfold Step; rw [hi]; exact lI_of e1 h2)
    case istore_n => obtain ⟨v, r, rfl, h0, h⟩ := sI_spec h; exact key leD.rf h (fun Q2 P2 h2 => by unfold Step; rw [hi]; exact ⟨h0, h2⟩)
    case istore => obtain ⟨v, r, rfl, h0, h⟩ := sI_spec h; exact key leD.rf h (fun Q2 P2 h2 => by unfold Step; rw [hi]; exact ⟨h0, h2⟩)
    case astore_n => obtain ⟨v, r, rfl, h0, h⟩ := sA_spec h; exact key leD.rf h (fun Q2 P2 h2 => by unfold Step; rw [hi]; exact ⟨h0, h2⟩)
    case astore => obtain ⟨v, r, rfl, h0, h⟩ := sA_spec h; exact key leD.rf h (fun Q2 P2 h2 => by unfold Step; rw [hi]; exact ⟨h0, h2⟩)
    case iadd => obtain ⟨x, y, r, rfl, h⟩ := sII_spec h; exact key leD.rf h (fun Q2 P2 h2 => by unfold Step; rw [hi]; exact h2)
    case isub => obtain ⟨x, y, r, rfl, h⟩ := sII_spec h; exact key leD.rf h (fun Q2 P2 h2 => by unfold Step; rw [hi]; exact h2)
    case imul => obtain ⟨x, y, r, rfl, h⟩ := sII_spec h; exact key leD.rf h (fun Q2 P2 h2 => by unfold Step; rw [hi]; exact h2)
    case iand => obtain ⟨x, y, r, rfl, h⟩ := sII_spec h; exact key leD.rf h (fun Q2 P2 h2 => by unfold Step; rw [hi]; exact h2)
    case ior => obtain ⟨x, y, r, rfl, h⟩ := sII_spec h; exact key leD.rf h (fun Q2 P2 h2 => by unfold Step; rw [hi]; exact h2)
    case ishr => obtain ⟨x, y, r, rfl, h⟩ := sII_spec h; exact key leD.rf h (fun Q2 P2 h2 => by unfold Step; rw [hi]; exact h2)
    case idiv => obtain ⟨x, y, r, rfl, h0, h⟩ := sII_spec h; exact key leD.rf h (fun Q2 P2 h2 => by unfold Step; rw [hi]; exact ⟨h0, h2⟩)
    case irem => obtain ⟨x, y, r, rfl, h0, h⟩ := sII_spec h; exact key leD.rf h (fun Q2 P2 h2 => by unfold Step; rw [hi]; exact ⟨h0, h2⟩)
    case ineg => obtain ⟨x, r, rfl, h⟩ := sI_spec h; exact key leD.rf h (fun Q2 P2 h2 => by unfold Step; rw [hi]; exact h2)
    case i2b => obtain ⟨x, r, rfl, h⟩ := sI_spec h; exact key leD.rf h (fun Q2 P2 h2 => by unfold Step; rw [hi]; exact h2)
    case i2c => obtain ⟨x, r, rfl, h⟩ := sI_spec h; exact key leD.rf h (fun Q2 P2 h2 => by unfold Step; rw [hi]; exact h2)
    case dup =>
      match st, h with
      | v :: r, ⟨h0, h⟩ => exact key leD.rf h (fun Q2 P2 h2 => by unfold Step; rw [hi]; exact ⟨h0, h2⟩)
    case dup_x1 =>
      match st, h with
      | v :: w :: r, ⟨h0, h1, h⟩ => exact key leD.rf h (fun Q2 P2 h2 => by unfold Step; rw [hi]; exact ⟨h0, h1, h2⟩)
    case dup2 =>
      match st, h with
      | v :: w :: r, ⟨h0, h1, h⟩ => exact key leD.rf h (fun Q2 P2 h2 => by unfold Step; rw [hi]; exact ⟨h0, h1, h2⟩)
    case pop =>
      match st, h with
      | v :: r, ⟨h0, h⟩ => exact key leD.rf h (fun Q2 P2 h2 => by unfold Step; rw [hi]; exact ⟨h0, h2⟩)
    case ifCond cd off =>
      obtain ⟨x, r, rfl, ht, hf⟩ := sI_spec h
      by_cases hc : icmp cd x 0
      · exact key leD.rf (ht hc) (fun Q2 P2 h2 => by unfold Step; rw [hi]; exact ⟨fun _ => h2, fun n => absurd hc n⟩)
      · exact key leD.rf (hf hc) (fun Q2 P2 h2 => by unfold Step; rw [hi]; exact ⟨fun n => absurd n hc, fun _ => h2⟩)
    case if_icmp cd off =>
      obtain ⟨x, y, r, rfl, ht, hf⟩ := sII_spec h
      by_cases hc : icmp cd x y
      · exact key leD.rf (ht hc) (fun Q2 P2 h2 => by unfold Step; rw [hi]; exact ⟨fun _ => h2, fun n => absurd hc n⟩)
      · exact key leD.rf (hf hc) (fun Q2 P2 h2 => by unfold Step; rw [hi]; exact ⟨fun n => absurd n hc, fun _ => h2⟩)
    case tableswitch dd lo hi2 os =>
      obtain ⟨x, r, rfl, t, ht, h⟩ := sI_spec h
      exact key leD.rf h (fun Q2 P2 h2 => by unfold Step; rw [hi]; exact ⟨t, ht, h2⟩)
    case getfield =>
      obtain ⟨o, r, rfl, h⟩ := sA_spec h
      have h : gfA P b c pc ls D o r := h
      unfold gfA at h
      rcases h with ⟨g1, g2, g3, g4, h⟩ | h
      · exact key leD.rf h (fun Q2 P2 h2 => by unfold Step; rw [hi]; show gfA _ _ _ _ _ _ _ _; exact Or.inl ⟨g1, g2, g3, g4, h2⟩)
      by_cases hb : b = 25
      · rw [if_pos hb] at h
        obtain ⟨h0, h1, h⟩ := h
        by_cases hc : c = 0
        · rw [if_pos hc] at h
          exact key leD.rf h (fun Q2 P2 h2 => by unfold Step; rw [hi]; show gfA _ _ _ _ _ _ _ _; unfold gfA; rw [if_pos hb, if_pos hc]; exact Or.inr ⟨h0, h1, h2⟩)
        · rw [if_neg hc] at h
          exact key leD.rf h.2 (fun Q2 P2 h2 => by unfold Step; rw [hi]; show gfA _ _ _ _ _ _ _ _; unfold gfA; rw [if_pos hb, if_neg hc]; exact Or.inr ⟨h0, h1, h.1, h2⟩)
      · rw [if_neg hb] at h
        obtain ⟨h0, h⟩ := h
        cases hr : (sh o).2.2[c]? with
        | none => rw [hr] at h; exact h.elim
        | some q =>
          rw [hr] at h
          cases q with
          | none => exact key leD.rf h (fun Q2 P2 h2 => by unfold Step; rw [hi]; show gfA _ _ _ _ _ _ _ _; unfold gfA; rw [if_neg hb, hr]; exact Or.inr ⟨h0, h2⟩)
          | some q => exact key leD.rf h (fun Q2 P2 h2 => by unfold Step; rw [hi]; show gfA _ _ _ _ _ _ _ _; unfold gfA; rw [if_neg hb, hr]; exact Or.inr ⟨h0, h2⟩)
    case putfield =>
      have h : pfA P k b c d pc ls D st := h
      unfold pfA at h
      split at h
      next v o r =>
        rcases h with ⟨g1, g2, g3, g4, g5, g6, h⟩ | ⟨h00, h0, h1, h2, h⟩
        · exact key (leD_dy g1.1) h (fun Q2 P2 h3 => by unfold Step; rw [hi]; exact Or.inl ⟨g1, g2, g3, g4, g5, g6, h3⟩)
        · exact key (leD_st h0 (by omega) (Or.inl (by omega))) h (fun Q2 P2 h3 => by unfold Step; rw [hi]; exact Or.inr ⟨h00, h0, h1, h2, h3⟩)
      next q o r =>
        obtain ⟨g1, g2, g3, g4, g5, h⟩ := h
        exact key (leD_dy g1.1) h (fun Q2 P2 h3 => by unfold Step; rw [hi]; exact ⟨g1, g2, g3, g4, g5, h3⟩)
      next => exact h.elim
    case iaload =>
      obtain ⟨o, j, r, rfl, h⟩ := sIA_spec h
      rcases h with ⟨h0, h1, h⟩ | ⟨h0, h1, h⟩ | ⟨h0, h1, h⟩
      · exact key leD.rf h (fun Q2 P2 h2 => by unfold Step; rw [hi]; exact Or.inl ⟨h0, h1, h2⟩)
      · exact key leD.rf h (fun Q2 P2 h2 => by unfold Step; rw [hi]; exact Or.inr (Or.inl ⟨h0, h1, h2⟩))
      · exact key leD.rf h (fun Q2 P2 h2 => by unfold Step; rw [hi]; exact Or.inr (Or.inr ⟨h0, h1, h2⟩))
    case aaload => obtain ⟨o, j, r, rfl, h0, h1, q, hq, h⟩ := sIA_spec h; exact key leD.rf h (fun Q2 P2 h2 => by unfold Step; rw [hi]; exact ⟨h0, h1, q, hq, h2⟩)
    case iastore =>
      obtain ⟨o, j, x, r, rfl, h⟩ := sIIA_spec h
      rcases h with ⟨h0, h1, h⟩ | ⟨h0, h1, h1b, h⟩
      · exact key (leD_st h0 (by decide) (Or.inl (by decide))) h (fun Q2 P2 h2 => by unfold Step; rw [hi]; exact Or.inl ⟨h0, h1, h2⟩)
      · exact key (leD_dy h0.1) h (fun Q2 P2 h2 => by unfold Step; rw [hi]; exact Or.inr ⟨h0, h1, h1b, h2⟩)
    case baload =>
      obtain ⟨o, j, r, rfl, h⟩ := sIA_spec h
      rcases h with ⟨h0, h1, h⟩ | ⟨h0, h1, h1b, h⟩ | ⟨h0, h1, h⟩ | ⟨h0, h1, h⟩
      · exact key leD.rf h (fun Q2 P2 h2 => by unfold Step; rw [hi]; exact Or.inl ⟨h0, h1, h2⟩)
      · exact key leD.rf h (fun Q2 P2 h2 => by unfold Step; rw [hi]; exact Or.inr (Or.inl ⟨h0, h1, h1b, h2⟩))
      · exact key leD.rf h (fun Q2 P2 h2 => by unfold Step; rw [hi]; exact Or.inr (Or.inr (Or.inl ⟨h0, h1, h2⟩)))
      · exact key leD.rf h (fun Q2 P2 h2 => by unfold Step; rw [hi]; exact Or.inr (Or.inr (Or.inr ⟨h0, h1, h2⟩)))
    case bastore =>
      obtain ⟨o, j, x, r, rfl, h⟩ := sIIA_spec h
      rcases h with ⟨h0, h1, h⟩ | ⟨h0, h1, h1b, h⟩ | ⟨h0, h1, h1b, h⟩
      · exact key (leD_st h0 (by decide) (Or.inl (by decide))) h (fun Q2 P2 h2 => by unfold Step; rw [hi]; exact Or.inl ⟨h0, h1, h2⟩)
      · exact key (leD_st h0 (by decide) (Or.inr (by omega))) h (fun Q2 P2 h2 => by unfold Step; rw [hi]; exact Or.inr (Or.inl ⟨h0, h1, h1b, h2⟩))
      · exact key (leD_dy h0.1) h (fun Q2 P2 h2 => by unfold Step; rw [hi]; exact Or.inr (Or.inr ⟨h0, h1, h1b, h2⟩))
    case arraylength =>
      obtain ⟨o, r, rfl, h⟩ := sA_spec h
      rcases h with ⟨h0, h⟩ | ⟨h0, h⟩ | ⟨h0, h⟩ | ⟨h0, h⟩
      · exact key leD.rf h (fun Q2 P2 h2 => by unfold Step; rw [hi]; exact Or.inl ⟨h0, h2⟩)
      · exact key leD.rf h (fun Q2 P2 h2 => by unfold Step; rw [hi]; exact Or.inr (Or.inl ⟨h0, h2⟩))
      · exact key leD.rf h (fun Q2 P2 h2 => by unfold Step; rw [hi]; exact Or.inr (Or.inr (Or.inl ⟨h0, h2⟩)))
      · exact key leD.rf h (fun Q2 P2 h2 => by unfold Step; rw [hi]; exact Or.inr (Or.inr (Or.inr ⟨h0, h2⟩)))
    case invokevirtual =>
      rcases h with ⟨z1, z2, g1, g3, g4, g5, h⟩ | ⟨z1, h⟩
      · exact Or.inr (Or.inr ⟨_, _, _, _, fun D1 => ((∀ v, v ∈ ls → nvV D v) ∨ pot D1 = pot D), h, fun Q2 P2 h2 => by unfold Step; rw [hi]; exact Or.inl ⟨z1, z2, g1, g3, g4, g5, h2⟩⟩)
      · unfold clnA at h
        split at h
        · next o r =>
          obtain ⟨y1, y2, y3, y4, y5, y6, y7, y8, h⟩ := h
          exact key (leD_al y8) h (fun Q2 P2 h2 => by unfold Step; rw [hi]; exact Or.inr ⟨z1, y1, y2, y3, y4, y5, y6, y7, y8, h2⟩)
        · exact h.elim
    case invokestatic =>
      rcases h with ⟨z1, z2, g1, g3, g4, g5, h⟩ | ⟨z1, h⟩
      · exact Or.inr (Or.inr ⟨_, _, _, _, fun D1 => ((∀ v, v ∈ ls → nvV D v) ∨ pot D1 = pot D), h, fun Q2 P2 h2 => by unfold Step; rw [hi]; exact Or.inl ⟨z1, z2, g1, g3, g4, g5, h2⟩⟩)
      · unfold cpyA at h
        split at h
        · next n dp dst sp src r =>
          obtain ⟨y1, y2, y3, y4, y5, y6, y7, y8, y9, y10, y11, h⟩ := h
          exact key (leD_cp y2.1) h (fun Q2 P2 h2 => by unfold Step; rw [hi]; exact Or.inr ⟨z1, y1, y2, y3, y4, y5, y6, y7, y8, y9, y10, y11, h2⟩)
        · exact h.elim
    case invokespecial =>
      rcases h with ⟨z1, z2, g1, g3, g4, g5, h⟩ | ⟨z1, z2, z3, h⟩
      · exact Or.inr (Or.inr ⟨_, _, _, _, fun D1 => ((∀ v, v ∈ ls → nvV D v) ∨ pot D1 = pot D), h, fun Q2 P2 h2 => by unfold Step; rw [hi]; exact Or.inl ⟨z1, z2, g1, g3, g4, g5, h2⟩⟩)
      · obtain ⟨o, r, rfl, h⟩ := sA_spec h
        exact key leD.rf h (fun Q2 P2 h2 => by unfold Step; rw [hi]; exact Or.inr ⟨z1, z2, z3, h2⟩)
    case new =>
      obtain ⟨y1, y2, y3, y4, h⟩ := h
      exact key (leD_al y4) h (fun Q2 P2 h2 => by unfold Step; rw [hi]; exact ⟨y1, y2, y3, y4, h2⟩)
    case newarray ty =>
      obtain ⟨x, r, rfl, h, y1, y2, y3, y4, y5⟩ := sI_spec h
      rcases h with ⟨y0, h⟩ | ⟨y0, h⟩
      · exact key (leD_al y5) h (fun Q2 P2 h2 => by unfold Step; rw [hi]; exact ⟨Or.inl ⟨y0, h2⟩, y1, y2, y3, y4, y5⟩)
      · exact key (leD_al y5) h (fun Q2 P2 h2 => by unfold Step; rw [hi]; exact ⟨Or.inr ⟨y0, h2⟩, y1, y2, y3, y4, y5⟩)
    case aconst_null => exact key leD.rf h (fun Q2 P2 h2 => by unfold Step; rw [hi]; exact h2)
    case if_acmp cd off =>
      match st, h with
      | .ref (y : Nat) :: .ref (x : Nat) :: r, ⟨y1, y2, y3, ht, hf⟩ =>
        by_cases hc : x = y
        · exact key leD.rf (hf hc) (fun Q2 P2 h2 => by unfold Step; rw [hi]; exact ⟨y1, y2, y3, fun n => absurd hc n, fun _ => h2⟩)
        · exact key leD.rf (ht hc) (fun Q2 P2 h2 => by unfold Step; rw [hi]; exact ⟨y1, y2, y3, fun _ => h2, fun n => absurd n hc⟩)
    case ifnonnull off => obtain ⟨o, r, rfl, h⟩ := sA_spec h; exact key leD.rf h (fun Q2 P2 h2 => by unfold Step; rw [hi]; exact h2)
    case instanceof => obtain ⟨o, r, rfl, h0, h1, h⟩ := sA_spec h; exact key leD.rf h (fun Q2 P2 h2 => by unfold Step; rw [hi]; exact ⟨h0, h1, h2⟩)
    case checkcast => obtain ⟨o, r, rfl, h0, h⟩ := sA_spec h; exact key leD.rf h (fun Q2 P2 h2 => by unfold Step; rw [hi]; exact ⟨h0, h2⟩)
    case iushr => obtain ⟨x, y, r, rfl, h⟩ := sII_spec h; exact key leD.rf h (fun Q2 P2 h2 => by unfold Step; rw [hi]; exact h2)
    case ishl => obtain ⟨x, y, r, rfl, h⟩ := sII_spec h; exact key leD.rf h (fun Q2 P2 h2 => by unfold Step; rw [hi]; exact h2)
    case i2d => obtain ⟨x, r, rfl, h⟩ := sI_spec h; exact key leD.rf h (fun Q2 P2 h2 => by unfold Step; rw [hi]; exact h2)
    case i2f => obtain ⟨x, r, rfl, h⟩ := sI_spec h; exact key leD.rf h (fun Q2 P2 h2 => by unfold Step; rw [hi]; exact h2)
    case ddiv =>
      match st, h with
      | .double y :: .double x :: r, ⟨h0, h⟩ => exact key leD.rf h (fun Q2 P2 h2 => by unfold Step; rw [hi]; exact ⟨h0, h2⟩)
    case fdiv =>
      match st, h with
      | .float y :: .float x :: r, ⟨h0, h⟩ => exact key leD.rf h (fun Q2 P2 h2 => by unfold Step; rw [hi]; exact ⟨h0, h2⟩)
    case dcmp =>
      match st, h with
      | .double y :: .double x :: r, h => exact key leD.rf h (fun Q2 P2 h2 => by unfold Step; rw [hi]; exact h2)
    case fcmp =>
      match st, h with
      | .float y :: .float x :: r, h => exact key leD.rf h (fun Q2 P2 h2 => by unfold Step; rw [hi]; exact h2)
    case dconst => exact key leD.rf h.2 (fun Q2 P2 h2 => by unfold Step; rw [hi]; exact ⟨h.1, h2⟩)
    case fconst => exact key leD.rf h.2 (fun Q2 P2 h2 => by unfold Step; rw [hi]; exact ⟨h.1, h2⟩)
    case dload x =>
      dsimp only at h
      split at h
      next v hv => exact key leD.rf h.2 (fun Q2 P2 h2 => by unfold Step; rw [hi]; dsimp only; rw [hv]; exact ⟨h.1, h2⟩)
      next => exact h.elim
    case fload x =>
      dsimp only at h
      split at h
      next v hv => exact key leD.rf h (fun Q2 P2 h2 => by unfold Step; rw [hi]; dsimp only; rw [hv]; exact h2)
      next => exact h.elim
    case dstore =>
      match st, h with
      | .double v :: r, ⟨h0, h⟩ => exact key leD.rf h (fun Q2 P2 h2 => by unfold Step; rw [hi]; exact ⟨h0, h2⟩)
    case fstore =>
      match st, h with
      | .float v :: r, ⟨h0, h⟩ => exact key leD.rf h (fun Q2 P2 h2 => by unfold Step; rw [hi]; exact ⟨h0, h2⟩)
    case dreturn =>
      match st, h with
      | [.double v], ⟨h0, h⟩ => exact Or.inr (Or.inl ⟨_, h, fun Q2 P2 h2 => by unfold Step; rw [hi]; exact ⟨h0, h2⟩⟩)
    case freturn =>
      match st, h with
      | [.float v], ⟨h0, h⟩ => exact Or.inr (Or.inl ⟨_, h, fun Q2 P2 h2 => by unfold Step; rw [hi]; exact ⟨h0, h2⟩⟩)
    case getstatic => obtain ⟨v, hv, h⟩ := h; exact key leD.rf h (fun Q2 P2 h2 => by unfold Step; rw [hi]; exact ⟨v, hv, h2⟩)
    case ldc =>
      rcases h with ⟨h0, h1, h⟩ | ⟨h0, f, h1, h⟩
      · exact key leD.rf h (fun Q2 P2 h2 => by unfold Step; rw [hi]; exact Or.inl ⟨h0, h1, h2⟩)
      · exact key leD.rf h (fun Q2 P2 h2 => by unfold Step; rw [hi]; exact Or.inr ⟨h0, f, h1, h2⟩)
    case ireturn =>
      match st, h with
      | [.int v], ⟨h0, h⟩ => exact Or.inr (Or.inl ⟨_, h, fun Q2 P2 h2 => by unfold Step; rw [hi]; exact ⟨h0, h2⟩⟩)
    case areturn =>
      match st, h with
      | [.ref v], ⟨h0, h1, h⟩ => exact Or.inr (Or.inl ⟨_, h, fun Q2 P2 h2 => by unfold Step; rw [hi]; exact ⟨h0, h1, h2⟩⟩)
    case return_ =>
      obtain ⟨h1, h0, h⟩ := h
      exact Or.inr (Or.inl ⟨_, h, fun Q2 P2 h2 => by unfold Step; rw [hi]; exact ⟨h1, h0, h2⟩⟩)
    all_goals exact h.elim
def Cmono (C : Ctr) : Prop := ∀ b args D Q Q2, (∀ r D1, Q r D1 → Q2 r D1) → C b args D Q → C b args D Q2
theorem Step_mono {C : Ctr} (hC : Cmono C) {k : Nat} {Q Q2 : Option Value → Mm → Prop} {P P2 : Pst} (hQ : ∀ r D, Q r D → Q2 r D) (hP : ∀ pc ls st D, P pc ls st D → P2 pc ls st D) {pc : Nat} {ls st : List Value} {D : Mm} (h : Step C k Q P pc ls st D) : Step C k Q2 P2 pc ls st D := by
  rcases Step_nx h with ⟨_, _, _, _, _, a, b⟩ | ⟨_, a, b⟩ | ⟨_, _, _, _, _, a, b⟩
  · exact b _ _ (hP _ _ _ _ a)
  · exact b _ _ (hQ _ _ a)
  · exact b _ _ (hC _ _ _ _ _ (fun _ _ z => ⟨z.1, hP _ _ _ _ z.2⟩) a)
def WP (C : Ctr) (k : Nat) (Q : Option Value → Mm → Prop) : Pst := fun pc ls st D => ∀ P : Pst, (∀ pc ls st D, Step C k Q P pc ls st D → P pc ls st D) → P pc ls st D
theorem WP.step {C : Ctr} (hC : Cmono C) {k : Nat} {Q : Option Value → Mm → Prop} {pc : Nat} {ls st : List Value} {D : Mm} (h : Step C k Q (WP C k Q) pc ls st D) : WP C k Q pc ls st D := fun P hP => hP _ _ _ _ (Step_mono hC (fun _ _ q => q) (fun _ _ _ _ w => w P hP) h)
theorem WP.mono {C : Ctr} (hC : Cmono C) {k : Nat} {Q Q2 : Option Value → Mm → Prop} (hQ : ∀ r D, Q r D → Q2 r D) {pc : Nat} {ls st : List Value} {D : Mm} (h : WP C k Q pc ls st D) : WP C k Q2 pc ls st D := h (WP C k Q2) (fun _ _ _ _ s => WP.step hC (Step_mono hC hQ (fun _ _ _ _ w => w) s))
def ensK : Nat := 217
def growD (D : Mm) (q n : Nat) : Mm := if n ≤ cap D q then D else fun c j => if c = q then (if j = LEN then Int32.ofNat (sb_cap n (cap D q)) else if j < cap D q then D q j else 0) else D c j
def ensS (args : List Value) (D : Mm) (Q : Option Value → Mm → Prop) : Prop := match args with
  | [.ref o, .int n] => (o = 169 ∨ o = 170) ∧ D o 1 = 0 ∧ cap D (o + 12) ≤ 10000 ∧ 0 ≤ n.toInt ∧ n.toInt ≤ 10000 ∧ (∀ j, j < cap D (o + 12) → fits .byte (.int (D (o + 12) j)) = true) ∧ Q none (growD D (o + 12) n.toInt.toNat)
  | _ => False
def dyB (args : List Value) : Bool := match args with
  | .ref o :: _ => decide (DB ≤ o)
  | _ => false
def Ct : Nat → Ctr
  | 0 => fun _ _ _ _ => False
  | d + 1 => fun k args D Q => if k = ensK ∧ dyB args = false then 4 ≤ d ∧ ensS args D Q else k < mnames ∧ args.length = nA k ∧ args.all c1B = true ∧ WP (Ct d) k Q 0 (args ++ List.replicate (nL k - nA k) (.retAddr 0)) [] D
theorem ensS_mono {args : List Value} {D : Mm} {Q Q2 : Option Value → Mm → Prop} (hQ : ∀ r D, Q r D → Q2 r D) (h : ensS args D Q) : ensS args D Q2 := by
  unfold ensS at h ⊢
  split at h
  · obtain ⟨h1, h2, h3, h4, h5, h6, h7⟩ := h
    exact ⟨h1, h2, h3, h4, h5, h6, hQ _ _ h7⟩
  · exact h
theorem Ct_mono : ∀ d, Cmono (Ct d)
  | 0 => fun _ _ _ _ _ _ h => h
  | d + 1 => by
    intro k args D Q Q2 hQ h
    unfold Ct at h ⊢
    by_cases hk : k = ensK ∧ dyB args = false
    · rw [if_pos hk] at h ⊢
      exact ⟨h.1, ensS_mono hQ h.2⟩
    · rw [if_neg hk] at h ⊢
      exact ⟨h.1, h.2.1, h.2.2.1, WP.mono (Ct_mono d) hQ h.2.2.2⟩
theorem cap_grow {D : Mm} {q n o : Nat} (hD : cap D q ≤ 10000) (hn : n ≤ 10000) : cap D o ≤ cap (growD D q n) o := by
  unfold growD
  by_cases h : n ≤ cap D q
  · rw [if_pos h]; exact Nat.le_refl _
  · rw [if_neg h]
    by_cases e : o = q
    · subst e
      have hg : sb_cap n (cap D o) ≤ 30000 := by unfold sb_cap; rw [if_neg h]; split <;> omega
      have h2 := sb_cap_gem n (cap D o)
      show _ ≤ ((if o = o then (if LEN = LEN then Int32.ofNat (sb_cap n (cap D o)) else _) else _) : Int32).toNatClampNeg
      rw [if_pos rfl, if_pos rfl, show (Int32.ofNat (sb_cap n (cap D o))).toNatClampNeg = sb_cap n (cap D o) from nI_clamp (by omega)]
      exact h2
    · show _ ≤ ((if o = q then (if LEN = LEN then Int32.ofNat (sb_cap n (cap D q)) else _) else D o LEN) : Int32).toNatClampNeg
      rw [if_neg e]
      exact Nat.le_refl _
theorem grow_ne {D : Mm} {q n c : Nat} (h : c ≠ q) : growD D q n c = D c := by
  unfold growD
  split
  · rfl
  · funext j; dsimp only; rw [if_neg h]
theorem leD_grow {D : Mm} {q n : Nat} (hq : q < 4000) (hD : cap D q ≤ 10000) (hn : n ≤ 10000) : leD D (growD D q n) := by
  have e1 : usd (growD D q n) = usd D := by unfold usd; rw [grow_ne (by omega)]
  have e2 : nxt (growD D q n) = nxt D := by unfold nxt; rw [grow_ne (by omega)]
  refine ⟨?_, by rw [e2]; exact Nat.le_refl _, grow_ne (by omega)⟩
  unfold pot
  rw [e1]
  have h1 := cap_grow (o := 181) hD hn
  have h2 := cap_grow (o := 182) hD hn
  omega
def Cexact (C : Ctr) : Prop := ∀ b args D Q, C b args D Q → ∃ r D1, Q r D1 ∧ leD D D1 ∧ C b args D (fun r2 D2 => r2 = r ∧ D2 = D1)
theorem WP.exact {C : Ctr} (hC : Cmono C) (hX : Cexact C) {k : Nat} {Q : Option Value → Mm → Prop} {pc : Nat} {ls st : List Value} {D : Mm} (h : WP C k Q pc ls st D) : ∃ r D1, Q r D1 ∧ leD D D1 ∧ WP C k (fun r2 D2 => r2 = r ∧ D2 = D1) pc ls st D := by
  refine h (fun pc ls st D => ∃ r D1, Q r D1 ∧ leD D D1 ∧ WP C k (fun r2 D2 => r2 = r ∧ D2 = D1) pc ls st D) ?_
  intro pc ls st D s
  rcases Step_nx s with ⟨_, _, _, _, p, ⟨r, D1, q1, q2, q3⟩, b⟩ | ⟨r, a, b⟩ | ⟨b0, args, pc2, r2, g0, a, b⟩
  · exact ⟨r, D1, q1, leD.tr p q2, WP.step hC (b _ _ q3)⟩
  · exact ⟨r, D, a, leD.rf, WP.step hC (b _ _ ⟨rfl, rfl⟩)⟩
  · obtain ⟨r, D1, ⟨gz, r3, D3, q1, q2, q3⟩, p, e⟩ := hX _ _ _ _ a
    refine ⟨r3, D3, q1, leD.tr p q2, WP.step hC (b _ _ (hC _ _ _ _ _ ?_ e))⟩
    rintro r4 D4 ⟨rfl, rfl⟩
    exact ⟨gz, q3⟩
theorem Ct_exact : ∀ d, Cexact (Ct d)
  | 0 => fun _ _ _ _ h => h.elim
  | d + 1 => by
    intro k args D Q h
    unfold Ct at h
    by_cases hk : k = ensK ∧ dyB args = false
    · rw [if_pos hk] at h
      obtain ⟨h0, h⟩ := h
      unfold ensS at h
      split at h
      · next o n =>
        obtain ⟨h1, h2, h3, h4, h5, h6, h7⟩ := h
        refine ⟨none, _, h7, leD_grow (by rcases h1 with q | q <;> (rw [q]; decide)) h3 (by omega), ?_⟩
        unfold Ct
        rw [if_pos hk]
        exact ⟨h0, h1, h2, h3, h4, h5, h6, rfl, rfl⟩
      · exact h.elim
    · rw [if_neg hk] at h
      obtain ⟨h1, h2, h3, h4⟩ := h
      obtain ⟨r, D1, q1, q2, q3⟩ := WP.exact (Ct_mono d) (Ct_exact d) h4
      refine ⟨r, D1, q1, q2, ?_⟩
      unfold Ct
      rw [if_neg hk]
      exact ⟨h1, h2, h3, q3⟩
end
section
/-! the classes of the cells -/
theorem lays_J4 : (List.range 4).all (fun j => atT (([4003, 4005, 4007, 4009] : List Nat).getD j 0) (u_lay RJ4 TJ4 j)) = true := by decide +kernel
theorem uin_J4 : ∀ w ∈ u_ws RJ4 TJ4 4, w ∈ Tall := by
  intro w hw
  obtain ⟨j, hj, rfl⟩ := List.mem_map.mp hw
  exact atT_in (List.all_eq_true.mp lays_J4 j hj)
theorem lays_X0 : (List.range 3).all (fun j => atT (([3146, 3148, 3150] : List Nat).getD j 0) (u_lay RX0 TX0 j)) = true := by decide +kernel
theorem uin_X0 : ∀ w ∈ u_ws RX0 TX0 3, w ∈ Tall := by
  intro w hw
  obtain ⟨j, hj, rfl⟩ := List.mem_map.mp hw
  exact atT_in (List.all_eq_true.mp lays_X0 j hj)
theorem lays_X1 : (List.range 6).all (fun j => atT (([3189, 3191, 3193, 3195, 3197, 3199] : List Nat).getD j 0) (u_lay RX1 TX1 j)) = true := by decide +kernel
theorem uin_X1 : ∀ w ∈ u_ws RX1 TX1 6, w ∈ Tall := by
  intro w hw
  obtain ⟨j, hj, rfl⟩ := List.mem_map.mp hw
  exact atT_in (List.all_eq_true.mp lays_X1 j hj)
theorem lays_X2 : (List.range 3).all (fun j => atT (([3165, 3167, 3169] : List Nat).getD j 0) (u_lay RX2 TX2 j)) = true := by decide +kernel
theorem uin_X2 : ∀ w ∈ u_ws RX2 TX2 3, w ∈ Tall := by
  intro w hw
  obtain ⟨j, hj, rfl⟩ := List.mem_map.mp hw
  exact atT_in (List.all_eq_true.mp lays_X2 j hj)
theorem lays_X3 : (List.range 3).all (fun j => atT (([3213, 3215, 3217] : List Nat).getD j 0) (u_lay RX3 TX3 j)) = true := by decide +kernel
theorem uin_X3 : ∀ w ∈ u_ws RX3 TX3 3, w ∈ Tall := by
  intro w hw
  obtain ⟨j, hj, rfl⟩ := List.mem_map.mp hw
  exact atT_in (List.all_eq_true.mp lays_X3 j hj)
theorem lays_X4 : (List.range 11).all (fun j => atT (([3109, 3111, 3113, 3115, 3117, 3119, 3121, 3123, 3125, 3127, 3129] : List Nat).getD j 0) (u_lay RX4 TX4 j)) = true := by decide +kernel
theorem uin_X4 : ∀ w ∈ u_ws RX4 TX4 11, w ∈ Tall := by
  intro w hw
  obtain ⟨j, hj, rfl⟩ := List.mem_map.mp hw
  exact atT_in (List.all_eq_true.mp lays_X4 j hj)
theorem lays_X5 : (List.range 9).all (fun j => atT (([3066, 3068, 3070, 3072, 3074, 3076, 3078, 3080, 3082] : List Nat).getD j 0) (u_lay RX5 TX5 j)) = true := by decide +kernel
theorem uin_X5 : ∀ w ∈ u_ws RX5 TX5 9, w ∈ Tall := by
  intro w hw
  obtain ⟨j, hj, rfl⟩ := List.mem_map.mp hw
  exact atT_in (List.all_eq_true.mp lays_X5 j hj)
theorem lays_X6 : (List.range 9).all (fun j => atT (([4022, 4024, 4026, 4028, 4030, 4032, 4034, 4036, 4038] : List Nat).getD j 0) (u_lay RX6 TX6 j)) = true := by decide +kernel
theorem uin_X6 : ∀ w ∈ u_ws RX6 TX6 9, w ∈ Tall := by
  intro w hw
  obtain ⟨j, hj, rfl⟩ := List.mem_map.mp hw
  exact atT_in (List.all_eq_true.mp lays_X6 j hj)
theorem lays_X7 : (List.range 1).all (fun j => atT (([6109] : List Nat).getD j 0) (u_lay RX7 TX7 j)) = true := by decide +kernel
theorem uin_X7 : ∀ w ∈ u_ws RX7 TX7 1, w ∈ Tall := by
  intro w hw
  obtain ⟨j, hj, rfl⟩ := List.mem_map.mp hw
  exact atT_in (List.all_eq_true.mp lays_X7 j hj)
theorem lays_J0 : (List.range 4).all (fun j => atT (([7021, 7023, 7025, 7027] : List Nat).getD j 0) (u_lay RJ0 TJ0 j)) = true := by decide +kernel
theorem uin_J0 : ∀ w ∈ u_ws RJ0 TJ0 4, w ∈ Tall := by
  intro w hw
  obtain ⟨j, hj, rfl⟩ := List.mem_map.mp hw
  exact atT_in (List.all_eq_true.mp lays_J0 j hj)
def ClsF (ci : Nat) : Prop := ∀ q : vw_C, vwCl[ci]? = some q → (∀ w ∈ u_ws q.1 q.2.1 q.2.2, w ∈ Tall) ∧ ∃ ty0 : Nat → FieldType, (∀ k, k < q.2.2 → parseFieldDescriptor (q.2.1 k).2.2.1 = some (ty0 k)) ∧ (∀ a, a < q.2.2 → ∀ b, b < q.2.2 → a ≠ b → (q.2.1 a).2.1 ≠ (q.2.1 b).2.1)
theorem clsF (ci : Nat) : ClsF ci := by
  intro q hq
  match ci, hq with
  | 0, hq => cases hq; exact ⟨uin_J4, tyJ4, tyJ4_ok, nmJ4⟩
  | 1, hq => cases hq; exact ⟨uin_X0, tyX0, tyX0_ok, nmX0⟩
  | 2, hq => cases hq; exact ⟨uin_X1, tyX1, tyX1_ok, nmX1⟩
  | 3, hq => cases hq; exact ⟨uin_X2, tyX2, tyX2_ok, nmX2⟩
  | 4, hq => cases hq; exact ⟨uin_X3, tyX3, tyX3_ok, nmX3⟩
  | 5, hq => cases hq; exact ⟨uin_X4, tyX4, tyX4_ok, nmX4⟩
  | 6, hq => cases hq; exact ⟨uin_X5, tyX5, tyX5_ok, nmX5⟩
  | 7, hq => cases hq; exact ⟨uin_X6, tyX6, tyX6_ok, nmX6⟩
  | 8, hq => cases hq; exact ⟨uin_X7, tyX7, tyX7_ok, nmX7⟩
  | 9, hq => cases hq; exact ⟨uin_J0, tyJ0, tyJ0_ok, nmJ0⟩
  | n + 10, hq => simp [vwCl] at hq
/-! from the abstract cells to the machine's -/
def NC : Nat := 183
def ps (o : Nat) : Nat := if o < 171 then o else if o < DB then o - 10 else o - DB + 173
def nm (i : Nat) : Nat := if i < 171 then i else if i < 173 then i + 10 else i - 173 + DB
def okc (D : Mm) (o : Nat) : Prop := (sh o).1 ≠ 99 ∨ dv D o
def cv (ad : Nat → Nat) (fv : Value) : Value → Value
  | .ref a => .ref (ad a)
  | .retAddr _ => fv
  | v => v
def fld (ad : Nat → Nat) (D : Mm) (k : Nat) (rs : List (Option Nat)) (j : Nat) : Value := match rs[j]? with
  | some (some q) => .ref (ad q)
  | _ => .int (D k j)
def dfl (ad : Nat → Nat) (D : Mm) (o k c : Nat) : Value := if rfB k c = true then (if DB ≤ (D o c).toNatClampNeg then .ref (ad (D o c).toNatClampNeg) else .null) else .int (D o c)
def cellOf (cA : Nat → ClassId) (ad : Nat → Nat) (D : Mm) (k : Nat) : va_E :=
  if DB ≤ k then
    (if kd D k = 20 then .inl (cA 0, cap D k, .inl (D k))
    else if kd D k = 22 then .inl (cA 2, cap D k, .inl (D k))
    else .inr (kd D k, (List.range (nF (kd D k))).map (dfl ad D k (kd D k))))
  else if (sh k).1 < 20 then .inr ((sh k).1, (List.range (sh k).2.1).map (fld ad D k (sh k).2.2))
  else if (sh k).1 = 20 then .inl (cA 0, (sh k).2.1, .inl (D k))
  else if (sh k).1 = 21 then .inl (cA 1, (sh k).2.1, .inl (D k))
  else if (sh k).1 = 22 then .inl (cA 2, cap D k, .inl (D k))
  else .inl (cA 3, (sh k).2.1, .inr (.inr (.inr (.inr (fun j => match (sh k).2.2[j]? with
    | some (some q) => some (ad q)
    | _ => none)))))
def wsOf (cA : Nat → ClassId) (ad : Nat → Nat) (D : Mm) : va_W := (List.range (173 + nxt D)).map (fun i => (ad (nm i), cellOf cA ad D (nm i)))
def rfS (s : Shp) : Bool := s.2.2.all (fun r => match r with
  | some q => decide (q < 183)
  | none => true)
def shQ (s : Shp) : Bool := rfS s && (!decide (s.1 < 20) || (decide (s.2.2.length = s.2.1) && match vwCl[s.1]? with
  | some q => decide (q.2.2 = s.2.1)
  | none => false))
theorem shAll : shL.length = NC ∧ shL.all shQ = true := by decide +kernel
theorem shHole : (List.range 183).all (fun o => decide ((sh o).1 ≠ 99 → o < 171 ∨ o = 181 ∨ o = 182)) = true ∧ (List.range 183).all (fun o => decide (o < 171 ∨ o = 181 ∨ o = 182 → (sh o).1 ≠ 99)) = true := by decide +kernel
theorem sh_lt {o : Nat} (h : (sh o).1 ≠ 99) : o < NC := sh_sm h
theorem sh_in {o : Nat} (h : (sh o).1 ≠ 99) : o < 171 ∨ o = 181 ∨ o = 182 := of_decide_eq_true (List.all_eq_true.mp shHole.1 o (List.mem_range.mpr (sh_sm h))) h
theorem sh_ok {o : Nat} (h : o < 171 ∨ o = 181 ∨ o = 182) : (sh o).1 ≠ 99 := of_decide_eq_true (List.all_eq_true.mp shHole.2 o (List.mem_range.mpr (by omega))) h
theorem okSt {D : Mm} {o k : Nat} (h : (sh o).1 = k) (hk : k ≠ 99 := by decide) : okc D o := Or.inl (by rw [h]; exact hk)
theorem okD {D : Mm} {o k : Nat} (h : dyn D o k) : okc D o := Or.inr h.1
theorem okc_or {D : Mm} {o : Nat} (h : okc D o) : o < 171 ∨ o = 181 ∨ o = 182 ∨ (5000 ≤ o ∧ o < 5000 + nxt D) := by
  rcases h with h | h
  · rcases sh_in h with h | h | h
    · exact Or.inl h
    · exact Or.inr (Or.inl h)
    · exact Or.inr (Or.inr (Or.inl h))
  · exact Or.inr (Or.inr (Or.inr h))
theorem nm_ps {D : Mm} {o : Nat} (h : okc D o) : nm (ps o) = o := by
  unfold nm ps DB
  rcases okc_or h with h | h | h | h
  · rw [if_pos h, if_pos h]
  · subst h; rfl
  · subst h; rfl
  · have e1 : (if o < 171 then o else if o < 5000 then o - 10 else o - 5000 + 173) = o - 5000 + 173 := by rw [if_neg (by omega), if_neg (by omega)]
    rw [e1, if_neg (by omega), if_neg (by omega)]; omega
theorem ps_lt {D : Mm} {o : Nat} (h : okc D o) : ps o < 173 + nxt D := by
  unfold ps DB
  rcases okc_or h with h | h | h | h
  · rw [if_pos h]; omega
  · subst h; rw [if_neg (by decide), if_pos (by decide)]; omega
  · subst h; rw [if_neg (by decide), if_pos (by decide)]; omega
  · rw [if_neg (by omega), if_neg (by omega)]; omega
theorem ps_nm {D : Mm} {i : Nat} : ps (nm i) = i := by
  unfold nm ps DB
  by_cases h : i < 171
  · rw [if_pos h, if_pos h]
  · rw [if_neg h]
    by_cases h2 : i < 173
    · rw [if_pos h2, if_neg (by omega), if_pos (by omega)]; omega
    · rw [if_neg h2, if_neg (by omega), if_neg (by omega)]; omega
theorem nm_ok {D : Mm} {i : Nat} (h : i < 173 + nxt D) : okc D (nm i) := by
  unfold nm
  by_cases h1 : i < 171
  · rw [if_pos h1]; exact Or.inl (sh_ok (Or.inl h1))
  · rw [if_neg h1]
    by_cases h2 : i < 173
    · rw [if_pos h2]; exact Or.inl (sh_ok (by omega))
    · rw [if_neg h2]; exact Or.inr ⟨by omega, by omega⟩
theorem okc_ne {D : Mm} {o : Nat} (h : okc D o) : o ≠ 4500 ∧ o ≠ 4000 := by
  rcases okc_or h with h | h | h | h <;> omega
theorem sh_ndb {o k : Nat} (h : (sh o).1 = k) (hk : k ≠ 99) : ¬ DB ≤ o := by
  have := sh_sm (o := o) (by rw [h]; exact hk)
  unfold DB; omega
theorem sh_cls {o : Nat} (h : (sh o).1 < 20) : (sh o).2.2.length = (sh o).2.1 ∧ ∃ q, vwCl[(sh o).1]? = some q ∧ q.2.2 = (sh o).2.1 := by
  have ho : o < NC := sh_lt (by omega)
  have hm : sh o ∈ shL := by
    unfold sh
    rw [List.getD_eq_getElem?_getD, List.getElem?_eq_getElem (by rw [shAll.1]; exact ho)]
    exact List.getElem_mem _
  have h2 := List.all_eq_true.mp shAll.2 _ hm
  unfold shQ at h2
  rw [Bool.and_eq_true, decide_eq_true h, Bool.not_true, Bool.false_or, Bool.and_eq_true] at h2
  refine ⟨of_decide_eq_true h2.2.1, ?_⟩
  have h3 := h2.2.2
  split at h3
  · exact ⟨_, by assumption, of_decide_eq_true h3⟩
  · cases h3
theorem sh_ref {o j q : Nat} (h : (sh o).2.2[j]? = some (some q)) : q < 183 := by
  rcases Nat.lt_or_ge o NC with ho | ho
  · have hm : sh o ∈ shL := by
      unfold sh
      rw [List.getD_eq_getElem?_getD, List.getElem?_eq_getElem (by rw [shAll.1]; exact ho)]
      exact List.getElem_mem _
    have h2 := List.all_eq_true.mp shAll.2 _ hm
    unfold shQ rfS at h2
    rw [Bool.and_eq_true] at h2
    have h3 := List.all_eq_true.mp h2.1 _ (List.mem_of_getElem? h)
    exact of_decide_eq_true h3
  · have e : (sh o).2.2 = [] := by
      unfold sh
      rw [List.getD_eq_getElem?_getD, List.getElem?_eq_none (by rw [shAll.1]; exact ho)]
      rfl
    rw [e] at h
    simp at h
theorem ws_get {cA : Nat → ClassId} {ad : Nat → Nat} {D : Mm} {o : Nat} (h : okc D o) : (wsOf cA ad D)[ps o]? = some (ad o, cellOf cA ad D o) := by
  unfold wsOf
  rw [List.getElem?_map, List.getElem?_range (ps_lt h)]
  show some (ad (nm (ps o)), cellOf cA ad D (nm (ps o))) = _
  rw [nm_ps h]
theorem ws_at {cA : Nat → ClassId} {ad : Nat → Nat} {D : Mm} {k : Nat} {q : Nat × va_E} (h : (wsOf cA ad D)[k]? = some q) : k < 173 + nxt D ∧ q = (ad (nm k), cellOf cA ad D (nm k)) := by
  have hk : k < 173 + nxt D := by
    have := (List.getElem?_eq_some_iff.mp h).1
    unfold wsOf at this
    simpa using this
  unfold wsOf at h
  rw [List.getElem?_map, List.getElem?_range hk] at h
  exact ⟨hk, (Option.some.inj h).symm⟩
theorem cell_obj {cA : Nat → ClassId} {ad : Nat → Nat} {D : Mm} {o : Nat} (h : (sh o).1 < 20) : cellOf cA ad D o = .inr ((sh o).1, (List.range (sh o).2.1).map (fld ad D o (sh o).2.2)) := by
  unfold cellOf; rw [if_neg (sh_ndb rfl (by omega)), if_pos h]
theorem cell_int {cA : Nat → ClassId} {ad : Nat → Nat} {D : Mm} {o : Nat} (h : (sh o).1 = 20) : cellOf cA ad D o = .inl (cA 0, (sh o).2.1, .inl (D o)) := by
  unfold cellOf; rw [if_neg (sh_ndb h (by decide)), if_neg (by omega), if_pos h]
theorem cell_bool {cA : Nat → ClassId} {ad : Nat → Nat} {D : Mm} {o : Nat} (h : (sh o).1 = 21) : cellOf cA ad D o = .inl (cA 1, (sh o).2.1, .inl (D o)) := by
  unfold cellOf; rw [if_neg (sh_ndb h (by decide)), if_neg (by omega), if_neg (by omega), if_pos h]
theorem cell_byte {cA : Nat → ClassId} {ad : Nat → Nat} {D : Mm} {o : Nat} (h : (sh o).1 = 22) : cellOf cA ad D o = .inl (cA 2, cap D o, .inl (D o)) := by
  unfold cellOf; rw [if_neg (sh_ndb h (by decide)), if_neg (by omega), if_neg (by omega), if_neg (by omega), if_pos h]
theorem cell_refs {cA : Nat → ClassId} {ad : Nat → Nat} {D : Mm} {o : Nat} (h : (sh o).1 = 23) : cellOf cA ad D o = .inl (cA 3, (sh o).2.1, .inr (.inr (.inr (.inr (fun j => match (sh o).2.2[j]? with
    | some (some q) => some (ad q)
    | _ => none))))) := by
  unfold cellOf; rw [if_neg (sh_ndb h (by decide)), if_neg (by omega), if_neg (by omega), if_neg (by omega), if_neg (by omega)]
theorem cell_dint {cA : Nat → ClassId} {ad : Nat → Nat} {D : Mm} {o : Nat} (h : dyn D o 20) : cellOf cA ad D o = .inl (cA 0, cap D o, .inl (D o)) := by
  unfold cellOf; rw [if_pos h.1.1, if_pos h.2]
theorem cell_dbyte {cA : Nat → ClassId} {ad : Nat → Nat} {D : Mm} {o : Nat} (h : dyn D o 22) : cellOf cA ad D o = .inl (cA 2, cap D o, .inl (D o)) := by
  unfold cellOf; rw [if_pos h.1.1, if_neg (by rw [h.2]; decide), if_pos h.2]
theorem cell_dobj {cA : Nat → ClassId} {ad : Nat → Nat} {D : Mm} {o k : Nat} (h : dyn D o k) (h1 : k ≠ 20) (h2 : k ≠ 22) : cellOf cA ad D o = .inr (k, (List.range (nF k)).map (dfl ad D o k)) := by
  unfold cellOf; rw [if_pos h.1.1, h.2, if_neg h1, if_neg h2]
theorem mup_same {D : Mm} {c j : Nat} {x : Int32} : mup D c j x c = upd (D c) j x := by
  funext i; unfold mup upd; rw [if_pos rfl]
theorem mup_ne {D : Mm} {c j k : Nat} {x : Int32} (h : k ≠ c) : mup D c j x k = D k := by
  funext i; unfold mup; rw [if_neg h]
/-- a cell's own row is all that counts -/
theorem cell_row {cA : Nat → ClassId} {ad : Nat → Nat} {D D2 : Mm} {k : Nat} (h : D2 k = D k) : cellOf cA ad D2 k = cellOf cA ad D k := by
  have e1 : fld ad D2 k (sh k).2.2 = fld ad D k (sh k).2.2 := by
    funext i; unfold fld; rw [h]
  have e2 : ∀ q, dfl ad D2 k q = dfl ad D k q := fun q => by
    funext i; unfold dfl; rw [h]
  unfold cellOf cap kd
  rw [h, e1, e2]
theorem cell_ne {cA : Nat → ClassId} {ad : Nat → Nat} {D : Mm} {c j k : Nat} {x : Int32} (h : k ≠ c) : cellOf cA ad (mup D c j x) k = cellOf cA ad D k := cell_row (mup_ne h)
theorem ws_set {cA : Nat → ClassId} {ad : Nat → Nat} {D D2 : Mm} {o : Nat} {e : va_E} (ho : okc D o) (hn : nxt D2 = nxt D) (hr : ∀ k, k ≠ o → D2 k = D k) (he : cellOf cA ad D2 o = e) : (wsOf cA ad D).set (ps o) (ad o, e) = wsOf cA ad D2 := by
  apply List.ext_getElem?
  intro i
  rcases Nat.lt_or_ge i (173 + nxt D) with hi | hi
  · have h2 : (wsOf cA ad D2)[i]? = some (ad (nm i), cellOf cA ad D2 (nm i)) := by
      unfold wsOf
      rw [List.getElem?_map, List.getElem?_range (by rw [hn]; exact hi)]
      rfl
    have h1 : (wsOf cA ad D)[i]? = some (ad (nm i), cellOf cA ad D (nm i)) := by
      unfold wsOf
      rw [List.getElem?_map, List.getElem?_range hi]
      rfl
    rw [h2]
    by_cases h : ps o = i
    · subst h
      rw [List.getElem?_set_self (by unfold wsOf; simpa using hi), nm_ps ho, he]
    · rw [List.getElem?_set_ne h, h1, cell_row (hr _ (fun q => h (by rw [← q, ps_nm (D := D)])))]
  · rw [List.getElem?_eq_none (by simp [wsOf]; exact hi), List.getElem?_eq_none (by simp [wsOf, hn]; exact hi)]
theorem ws_mup {cA : Nat → ClassId} {ad : Nat → Nat} {D : Mm} {o j : Nat} {x : Int32} {e : va_E} (ho : okc D o) (he : cellOf cA ad (mup D o j x) o = e) : (wsOf cA ad D).set (ps o) (ad o, e) = wsOf cA ad (mup D o j x) :=
  ws_set ho (nxt_mup (okc_ne ho).1) (fun k hk => mup_ne hk) he
theorem fs_get {ad : Nat → Nat} {D : Mm} {o c n : Nat} {rs : List (Option Nat)} (hc : c < n) : ((List.range n).map (fld ad D o rs))[c]? = some (fld ad D o rs c) := by
  rw [List.getElem?_map, List.getElem?_range hc]; rfl
theorem ds_get {ad : Nat → Nat} {D : Mm} {o c k n : Nat} (hc : c < n) : ((List.range n).map (dfl ad D o k))[c]? = some (dfl ad D o k c) := by
  rw [List.getElem?_map, List.getElem?_range hc]; rfl
theorem fs_set {ad : Nat → Nat} {D : Mm} {o c : Nat} {x : Int32} (h : (sh o).1 < 20) (hc : (sh o).2.2[c]? = some none) : ((List.range (sh o).2.1).map (fld ad D o (sh o).2.2)).set c (.int x) = (List.range (sh o).2.1).map (fld ad (mup D o c x) o (sh o).2.2) := by
  have hl : c < (sh o).2.1 := by
    rw [← (sh_cls h).1]; exact (List.getElem?_eq_some_iff.mp hc).1
  apply List.ext_getElem?
  intro i
  rcases Nat.lt_or_ge i (sh o).2.1 with hi | hi
  · rw [fs_get hi]
    by_cases e : c = i
    · subst e
      rw [List.getElem?_set_self (by simpa using hl)]
      unfold fld
      rw [hc, mup_same]
      unfold upd
      rw [if_pos rfl]
    · rw [List.getElem?_set_ne e, fs_get hi]
      unfold fld
      rw [mup_same]
      unfold upd
      rw [if_neg (fun q => e q.symm)]
  · rw [List.getElem?_eq_none (by simpa using hi), List.getElem?_eq_none (by simpa using hi)]
theorem ds_set {ad : Nat → Nat} {D : Mm} {o c k n : Nat} {x : Int32} {v : Value} (hc : c < n) (hv : dfl ad (mup D o c x) o k c = v) : ((List.range n).map (dfl ad D o k)).set c v = (List.range n).map (dfl ad (mup D o c x) o k) := by
  apply List.ext_getElem?
  intro i
  rcases Nat.lt_or_ge i n with hi | hi
  · rw [ds_get hi]
    by_cases e : c = i
    · subst e
      rw [List.getElem?_set_self (by simpa using hc), hv]
    · rw [List.getElem?_set_ne e, ds_get hi]
      have e2 : mup D o c x o i = D o i := by rw [mup_same]; exact pk_un (fun q => e q.symm)
      unfold dfl
      rw [e2]
  · rw [List.getElem?_eq_none (by simpa using hi), List.getElem?_eq_none (by simpa using hi)]
/-- what is made on the way stands well -/
def WFD (D : Mm) : Prop := nxt D ≤ 2000000 ∧ ∀ o, dv D o → (kd D o = 0 ∨ kd D o = 8 ∨ kd D o = 9 ∨ kd D o = 20 ∨ kd D o = 22) ∧ (rfB (kd D o) 0 = true → (D o 0).toNatClampNeg < DB + nxt D)
/-- agreeing but for the rows of the text builders and what isn't made yet -/
def agree (n : Nat) (ad ad2 : Nat → Nat) : Prop := ∀ k, k ≠ 181 → k ≠ 182 → k < DB + n → ad2 k = ad k
theorem agree.rf {n : Nat} {ad : Nat → Nat} : agree n ad ad := fun _ _ _ _ => rfl
theorem agree.tr {n m : Nat} {a b c : Nat → Nat} (h : agree n a b) (h2 : agree m b c) (hn : n ≤ m) : agree n a c := fun k x y z => (h2 k x y (by omega)).trans (h k x y z)
theorem cv_agree {D : Mm} {ad ad2 : Nat → Nat} {fv : Value} (h : agree (nxt D) ad ad2) {v : Value} (hv : nvV D v) : cv ad2 fv v = cv ad fv v := by
  cases v with
  | ref a =>
    obtain ⟨h1, h2, h3⟩ := hv
    show Value.ref (ad2 a) = Value.ref (ad a)
    rw [h a h1 h2]
    rcases h3 with h3 | h3
    · unfold DB at h3 ⊢; omega
    · exact h3.2
  | _ => rfl
theorem cv_agrees {D : Mm} {ad ad2 : Nat → Nat} {fv : Value} (h : agree (nxt D) ad ad2) {st : List Value} (hv : ∀ v, v ∈ st → nvV D v) : st.map (cv ad2 fv) = st.map (cv ad fv) := by
  apply List.map_congr_left
  intro v hm
  exact cv_agree h (hv v hm)
/-- agreeing on all that is made -/
def agreeA (n : Nat) (ad ad2 : Nat → Nat) : Prop := ∀ k, k < DB + n → ad2 k = ad k
theorem agreeA.a {n : Nat} {a b : Nat → Nat} (h : agreeA n a b) : agree n a b := fun k _ _ z => h k z
theorem cv_agreeA {D : Mm} {ad ad2 : Nat → Nat} {fv : Value} (h : agreeA (nxt D) ad ad2) {v : Value} (hv : okV D v) : cv ad2 fv v = cv ad fv v := by
  cases v with
  | ref a =>
    show Value.ref (ad2 a) = Value.ref (ad a)
    rw [h a]
    rcases hv with h3 | h3
    · unfold DB at h3 ⊢; omega
    · exact h3.2
  | _ => rfl
theorem cell_agA {cA : Nat → ClassId} {D : Mm} {ad ad2 : Nat → Nat} {k : Nat} (hW : WFD D) (h : agreeA (nxt D) ad ad2) (hk : okc D k) : cellOf cA ad2 D k = cellOf cA ad D k := by
  have e1 : fld ad2 D k (sh k).2.2 = fld ad D k (sh k).2.2 := by
    funext i
    unfold fld
    split
    · next q hq => rw [h q (by have := sh_ref hq; unfold DB; omega)]
    · rfl
  have e3 : (fun j : Nat => match (sh k).2.2[j]? with
    | some (some q) => some (ad2 q)
    | _ => none) = (fun j : Nat => match (sh k).2.2[j]? with
    | some (some q) => some (ad q)
    | _ => none) := by
    funext j
    cases hq : (sh k).2.2[j]? with
    | none => rfl
    | some z =>
      cases z with
      | none => rfl
      | some q => show some (ad2 q) = some (ad q); rw [h q (by have := sh_ref hq; unfold DB; omega)]
  have e2 : DB ≤ k → (List.range (nF (kd D k))).map (dfl ad2 D k (kd D k)) = (List.range (nF (kd D k))).map (dfl ad D k (kd D k)) := by
    intro hd
    have hdv : dv D k := by
      rcases hk with hk | hk
      · exact absurd hd (sh_ndb rfl hk)
      · exact hk
    apply List.map_congr_left
    intro c hc
    unfold dfl
    by_cases hr : rfB (kd D k) c = true
    · rw [if_pos hr, if_pos hr]
      have hc0 : c = 0 := by
        unfold rfB at hr
        rw [Bool.and_eq_true] at hr
        exact beq_iff_eq.mp hr.2
      subst hc0
      rw [h _ ((hW.2 k hdv).2 hr)]
    · rw [if_neg hr, if_neg hr]
  unfold cellOf
  by_cases hd : DB ≤ k
  · rw [if_pos hd, if_pos hd, e2 hd]
  · rw [if_neg hd, if_neg hd, e1, e3]
/-- a cell is made -/
theorem ws_al {cA : Nat → ClassId} {D : Mm} {ad ad2 : Nat → Nat} {f : Nat → Int32} {n q : Nat} {e : va_E} (hW : WFD D) (hf : fitU D n) (h : agreeA (nxt D) ad ad2) (hq : ad2 (DB + nxt D) = q) (he : cellOf cA ad2 (alD D f n) (DB + nxt D) = e) : wsOf cA ad2 (alD D f n) = wsOf cA ad D ++ [(q, e)] := by
  have hx := al_nxt (f := f) hf
  apply List.ext_getElem?
  intro i
  have hl : (wsOf cA ad D).length = 173 + nxt D := by unfold wsOf; simp
  rcases Nat.lt_or_ge i (173 + nxt D) with hi | hi
  · rw [List.getElem?_append_left (by rw [hl]; exact hi)]
    unfold wsOf
    rw [List.getElem?_map, List.getElem?_map, List.getElem?_range (by rw [hx]; omega), List.getElem?_range hi]
    show some (ad2 (nm i), cellOf cA ad2 (alD D f n) (nm i)) = some (ad (nm i), cellOf cA ad D (nm i))
    have hk := nm_ok hi
    have h1 : nm i < DB + nxt D := by
      rcases okc_or hk with g | g | g | g
      · unfold DB; omega
      · unfold DB; omega
      · unfold DB; omega
      · exact g.2
    rw [cell_row (al_old (by omega) (okc_ne hk).1), cell_agA hW h hk, h _ h1]
  · rcases Nat.eq_or_lt_of_le hi with h2 | h2
    · subst h2
      rw [List.getElem?_append_right (by rw [hl]; exact Nat.le_refl _), hl, Nat.sub_self]
      unfold wsOf
      rw [List.getElem?_map, List.getElem?_range (by rw [hx]; omega)]
      have e1 : nm (173 + nxt D) = DB + nxt D := by
        unfold nm
        rw [if_neg (by omega), if_neg (by omega)]
        omega
      show some (ad2 (nm (173 + nxt D)), cellOf cA ad2 (alD D f n) (nm (173 + nxt D))) = some (q, e)
      rw [e1, hq, he]
    · rw [List.getElem?_eq_none (by simp [wsOf, hx]; omega), List.getElem?_eq_none (by simp [hl]; omega)]
theorem WFD.al {D : Mm} {f : Nat → Int32} {n : Nat} (hW : WFD D) (hf : fitU D n) (hk : (f KND).toNatClampNeg = 0 ∨ (f KND).toNatClampNeg = 8 ∨ (f KND).toNatClampNeg = 9 ∨ (f KND).toNatClampNeg = 20 ∨ (f KND).toNatClampNeg = 22) (hr : rfB (f KND).toNatClampNeg 0 = true → (f 0).toNatClampNeg < DB) : WFD (alD D f n) := by
  have hx := al_nxt (f := f) hf
  refine ⟨by rw [hx]; unfold fitU at hf; omega, fun o ho => ?_⟩
  unfold dv at ho
  rw [hx] at ho ⊢
  by_cases e : o = DB + nxt D
  · subst e
    unfold kd
    rw [al_new]
    exact ⟨hk, fun h => by have := hr h; omega⟩
  · have hd : dv D o := ⟨ho.1, by omega⟩
    have e2 : alD D f n o = D o := al_old e (by have := ho.1; unfold DB at this; omega)
    unfold kd
    rw [e2]
    obtain ⟨h1, h2⟩ := hW.2 o hd
    exact ⟨h1, fun h => by have := h2 h; omega⟩
theorem WFD.row {D D2 : Mm} (hW : WFD D) (hn : nxt D2 = nxt D) (h : ∀ o, dv D o → kd D2 o = kd D o ∧ (rfB (kd D o) 0 = true → D2 o 0 = D o 0 ∨ (D2 o 0).toNatClampNeg < DB + nxt D)) : WFD D2 := by
  refine ⟨by rw [hn]; exact hW.1, fun o ho => ?_⟩
  unfold dv at ho
  rw [hn] at ho ⊢
  obtain ⟨h1, h2⟩ := h o ho
  obtain ⟨h3, h4⟩ := hW.2 o ho
  rw [h1]
  refine ⟨h3, fun hr => ?_⟩
  rcases h2 hr with h5 | h5
  · rw [h5]; exact h4 hr
  · exact h5
theorem WFD.lo {D D2 : Mm} (hW : WFD D) (h : ∀ o, (DB ≤ o ∨ o = 4500) → D2 o = D o) : WFD D2 := hW.row (by unfold nxt; rw [h _ (Or.inr rfl)]) (fun o ho => by
  have e := h o (Or.inl ho.1)
  unfold kd
  rw [e]
  exact ⟨rfl, fun _ => Or.inl rfl⟩)
theorem WFD.mup {D : Mm} {o c : Nat} {x : Int32} (hW : WFD D) (ho : o ≠ 4500) (hc : c ≠ KND) (h : dv D o → rfB (kd D o) 0 = true → c = 0 → x.toNatClampNeg < DB + nxt D) : WFD (mup D o c x) := by
  refine hW.row (nxt_mup ho) (fun q hq => ?_)
  by_cases e : q = o
  · subst e
    unfold kd
    rw [mup_same]
    unfold upd
    rw [if_neg (fun z => hc z.symm)]
    refine ⟨rfl, fun hr => ?_⟩
    by_cases e2 : 0 = c
    · rw [if_pos e2]; exact Or.inr (h hq hr e2.symm)
    · rw [if_neg e2]; exact Or.inl rfl
  · unfold kd
    rw [mup_ne e]
    exact ⟨rfl, fun _ => Or.inl rfl⟩
/-- the locals -/
def dB : Value → Bool
  | .double _ => true
  | _ => false
def gvB : Value → Bool
  | .int _ => true
  | .ref _ => true
  | .float _ => true
  | .null => true
  | .retAddr 1 => true
  | _ => false
def LOK (ad : Nat → Nat) (fv : Value) (nL : Nat) (lsA : Array Slot) (ls : List Value) : Prop := lsA.size = nL ∧ lv_wf lsA ∧ ls.length = nL ∧ ∀ (i : Nat) (v : Value), ls[i]? = some v → v ≠ .retAddr 0 → v ≠ .retAddr 2 → (dB v = true → ls[i + 1]? = some (.retAddr 2)) → (c1B v = true ∨ dB v = true) ∧ lsA[i]? = some (.val (cv ad fv v))
theorem LOK.agree {D : Mm} {ad ad2 : Nat → Nat} {fv : Value} {n : Nat} {lsA : Array Slot} {ls : List Value} (h : agree (nxt D) ad ad2) (hv : ∀ v, v ∈ ls → nvV D v) (hl : LOK ad fv n lsA ls) : LOK ad2 fv n lsA ls := by
  refine ⟨hl.1, hl.2.1, hl.2.2.1, fun i v hi hne hn2 hd => ?_⟩
  obtain ⟨h1, h2⟩ := hl.2.2.2 i v hi hne hn2 hd
  refine ⟨h1, ?_⟩
  rw [cv_agree h (hv v (List.mem_of_getElem? hi))]
  exact h2
theorem LOK.agreeA {D : Mm} {ad ad2 : Nat → Nat} {fv : Value} {n : Nat} {lsA : Array Slot} {ls : List Value} (h : agreeA (nxt D) ad ad2) (hv : lsok D ls) (hl : LOK ad fv n lsA ls) : LOK ad2 fv n lsA ls := by
  refine ⟨hl.1, hl.2.1, hl.2.2.1, fun i v hi hne hn2 hd => ?_⟩
  obtain ⟨h1, h2⟩ := hl.2.2.2 i v hi hne hn2 hd
  refine ⟨h1, ?_⟩
  rw [cv_agreeA h (hv v (List.mem_of_getElem? hi))]
  exact h2
theorem c1_cat {ad : Nat → Nat} {fv v : Value} (hf : fv.category = 1) (h : c1B v = true) : (cv ad fv v).category = 1 := by
  cases v <;> first | rfl | exact hf | cases h
def lpair (ad : Nat → Nat) (fv : Value) (ls : List Value) : List (Nat × Value) := (List.range ls.length).filterMap (fun i => match ls[i]? with
  | some v => if v = .retAddr 0 ∨ v = .retAddr 2 ∨ (dB v = true ∧ ls[i + 1]? ≠ some (.retAddr 2)) then none else some (i, cv ad fv v)
  | none => none)
theorem lpair_in {ad : Nat → Nat} {fv : Value} {ls : List Value} {q : Nat × Value} : q ∈ lpair ad fv ls ↔ ∃ v, ls[q.1]? = some v ∧ v ≠ .retAddr 0 ∧ v ≠ .retAddr 2 ∧ (dB v = true → ls[q.1 + 1]? = some (.retAddr 2)) ∧ q.2 = cv ad fv v := by
  unfold lpair
  rw [List.mem_filterMap]
  constructor
  · rintro ⟨i, hi, h⟩
    split at h
    · next v hv =>
      split at h
      · cases h
      · next hn =>
        cases h
        exact ⟨v, hv, fun z => hn (Or.inl z), fun z => hn (Or.inr (Or.inl z)), fun z => Classical.byContradiction (fun y => hn (Or.inr (Or.inr ⟨z, y⟩))), rfl⟩
    · cases h
  · rintro ⟨v, hv, hn, hn2, hd, e⟩
    refine ⟨q.1, List.mem_range.mpr (List.getElem?_eq_some_iff.mp hv).1, ?_⟩
    rw [hv]
    show (if v = .retAddr 0 ∨ v = .retAddr 2 ∨ (dB v = true ∧ ls[q.1 + 1]? ≠ some (.retAddr 2)) then none else some (q.1, cv ad fv v)) = some q
    rw [if_neg (fun z => by
      rcases z with z | z | ⟨z, y⟩
      · exact hn z
      · exact hn2 z
      · exact y (hd z)), ← e]
theorem LOK.has {ad : Nat → Nat} {fv : Value} {n : Nat} {lsA : Array Slot} {ls : List Value} (h : LOK ad fv n lsA ls) : lv_has lsA n (lpair ad fv ls) := by
  refine ⟨h.1, h.2.1, fun q hq => ?_⟩
  obtain ⟨v, h1, h2, h4, h5, h3⟩ := lpair_in.mp hq
  rw [h3]
  exact (h.2.2.2 q.1 v h1 h2 h4 h5).2
theorem LOK.get {ad : Nat → Nat} {fv : Value} {n : Nat} {lsA : Array Slot} {ls : List Value} (h : LOK ad fv n lsA ls) {i : Nat} {v : Value} (hi : ls[i]? = some v) (hv : gvB v = true) : lsA[i]? = some (.val (cv ad fv v)) :=
  (h.2.2.2 i v hi (fun e => by rw [e] at hv; cases hv) (fun e => by rw [e] at hv; cases hv) (fun e => by cases v <;> first | (cases e; done) | (cases hv; done))).2
/-- behind a store -/
theorem LOK.set {ad : Nat → Nat} {fv : Value} {n : Nat} {lsA : Array Slot} {ls : List Value} (hf : fv.category = 1) (h : LOK ad fv n lsA ls) {i : Nat} {v : Value} (hi : i < ls.length) (hc : c1B v = true) (hv2 : v ≠ .retAddr 2) {ls2 : Array Slot}
    (h2 : lv_has ls2 n ((i, cv ad fv v) :: (lpair ad fv ls).filter (fun q => !(q.1 == i) && !(q.1 + 1 == i && q.2.category == 2)))) : LOK ad fv n ls2 (ls.set i v) := by
  refine ⟨h2.1, h2.2.1, by rw [List.length_set]; exact h.2.2.1, fun j w hj hw hw2 hd => ?_⟩
  by_cases e : i = j
  · subst e
    rw [List.getElem?_set_self hi] at hj
    cases hj
    exact ⟨Or.inl hc, h2.2.2 (i, cv ad fv v) List.mem_cons_self⟩
  · rw [List.getElem?_set_ne e] at hj
    have hd' : dB w = true → j + 1 ≠ i ∧ ls[j + 1]? = some (.retAddr 2) := fun z => by
      have h9 := hd z
      by_cases e2 : i = j + 1
      · subst e2
        rw [List.getElem?_set_self hi] at h9
        cases h9
        exact absurd rfl hv2
      · rw [List.getElem?_set_ne e2] at h9
        exact ⟨fun y => e2 y.symm, h9⟩
    obtain ⟨g1, g2⟩ := h.2.2.2 j w hj hw hw2 (fun z => (hd' z).2)
    refine ⟨g1, h2.2.2 (j, cv ad fv w) (List.mem_cons_of_mem _ (List.mem_filter.mpr ⟨lpair_in.mpr ⟨w, hj, hw, hw2, fun z => (hd' z).2, rfl⟩, ?_⟩))⟩
    have e3 : (j == i) = false := beq_eq_false_iff_ne.mpr (fun q => e q.symm)
    rcases g1 with g1 | g1
    · have hcat := c1_cat (ad := ad) hf g1
      simp [hcat, e3]
    · have e4 : (j + 1 == i) = false := beq_eq_false_iff_ne.mpr (hd' g1).1
      simp [e3, e4]
theorem LOK.setD {ad : Nat → Nat} {fv : Value} {n : Nat} {lsA : Array Slot} {ls : List Value} (hf : fv.category = 1) (h : LOK ad fv n lsA ls) {i : Nat} {x : UInt64} (hi : i + 1 < ls.length) {ls2 : Array Slot}
    (h2 : lv_has ls2 n ((i, Value.double x) :: (lpair ad fv ls).filter (fun q => !(q.1 == i) && (!(q.1 == i + 1) && !(q.1 + 1 == i && q.2.category == 2))))) : LOK ad fv n ls2 ((ls.set i (.double x)).set (i + 1) (.retAddr 2)) := by
  refine ⟨h2.1, h2.2.1, by rw [List.length_set, List.length_set]; exact h.2.2.1, fun j w hj hw hw2 hd => ?_⟩
  by_cases e1 : i + 1 = j
  · subst e1
    rw [List.getElem?_set_self (by rw [List.length_set]; exact hi)] at hj
    cases hj
    exact absurd rfl hw2
  · rw [List.getElem?_set_ne e1] at hj
    by_cases e : i = j
    · subst e
      rw [List.getElem?_set_self (by omega)] at hj
      cases hj
      exact ⟨Or.inr rfl, h2.2.2 (i, .double x) List.mem_cons_self⟩
    · rw [List.getElem?_set_ne e] at hj
      have hd' : dB w = true → j + 1 ≠ i ∧ ls[j + 1]? = some (.retAddr 2) := fun z => by
        have h9 := hd z
        rw [List.getElem?_set_ne (by omega)] at h9
        by_cases e2 : i = j + 1
        · subst e2
          rw [List.getElem?_set_self (by omega)] at h9
          cases h9
        · rw [List.getElem?_set_ne e2] at h9
          exact ⟨fun y => e2 y.symm, h9⟩
      obtain ⟨g1, g2⟩ := h.2.2.2 j w hj hw hw2 (fun z => (hd' z).2)
      refine ⟨g1, h2.2.2 (j, cv ad fv w) (List.mem_cons_of_mem _ (List.mem_filter.mpr ⟨lpair_in.mpr ⟨w, hj, hw, hw2, fun z => (hd' z).2, rfl⟩, ?_⟩))⟩
      have e3 : (j == i) = false := beq_eq_false_iff_ne.mpr (fun q => e q.symm)
      have e5 : (j == i + 1) = false := beq_eq_false_iff_ne.mpr (fun q => e1 q.symm)
      rcases g1 with g1 | g1
      · have hcat := c1_cat (ad := ad) hf g1
        simp [hcat, e3, e5]
      · have e4 : (j + 1 == i) = false := beq_eq_false_iff_ne.mpr (hd' g1).1
        simp [e3, e4, e5]
theorem lvargs_in {ad : Nat → Nat} {fv : Value} (hf : fv.category = 1) : ∀ (args : List Value) (n : Nat), args.all c1B = true → ∀ (i : Nat) (v : Value), args[i]? = some v → (n + i, cv ad fv v) ∈ lv_args n (args.map (cv ad fv))
  | [], _, _, i, v, h => by simp at h
  | a :: r, n, hc, i, v, h => by
    rw [List.all_cons, Bool.and_eq_true] at hc
    have hcat := c1_cat (ad := ad) hf hc.1
    show (n + i, cv ad fv v) ∈ (n, cv ad fv a) :: lv_args (if (cv ad fv a).category = 2 then n + 2 else n + 1) (r.map (cv ad fv))
    rw [if_neg (by omega)]
    cases i with
    | zero =>
      cases h
      exact List.mem_cons_self
    | succ i =>
      have h2 := lvargs_in (ad := ad) hf r (n + 1) hc.2 i v h
      rw [show n + (i + 1) = n + 1 + i by omega]
      exact List.mem_cons_of_mem _ h2
theorem lgsl_len {ad : Nat → Nat} {fv : Value} (hf : fv.category = 1) : ∀ (args : List Value), args.all c1B = true → (lg_sl (args.map (cv ad fv))).length = args.length
  | [], _ => rfl
  | a :: r, hc => by
    rw [List.all_cons, Bool.and_eq_true] at hc
    have hcat := c1_cat (ad := ad) hf hc.1
    have ih := lgsl_len (ad := ad) hf r hc.2
    unfold lg_sl at ih ⊢
    rw [List.map_cons, List.flatMap_cons, if_neg (by omega), List.length_append, ih]
    simp
    omega
theorem LOK.entry {ad : Nat → Nat} {fv : Value} (hf : fv.category = 1) {args : List Value} {n : Nat} (hc : args.all c1B = true) (hn : args.length ≤ n) : LOK ad fv n ((lg_sl (args.map (cv ad fv)) ++ List.replicate (n - (lg_sl (args.map (cv ad fv))).length) Slot.unset).toArray) (args ++ List.replicate (n - args.length) (.retAddr 0)) := by
  have hl := lgsl_len (ad := ad) hf args hc
  have h := lv_entry (args.map (cv ad fv)) (n := n) (by rw [hl]; exact hn)
  refine ⟨h.1, h.2.1, by simp; omega, fun i v hi hv _ _ => ?_⟩
  rcases Nat.lt_or_ge i args.length with q | q
  · rw [List.getElem?_append_left q] at hi
    have h2 := h.2.2 _ (lvargs_in hf args 0 hc i v hi)
    rw [Nat.zero_add] at h2
    exact ⟨Or.inl (List.all_eq_true.mp hc v (List.mem_of_getElem? hi)), h2⟩
  · rw [List.getElem?_append_right q, List.getElem?_replicate] at hi
    split at hi
    · cases hi; exact absurd rfl hv
    · cases hi
/-- what is never written: constants' texts, the JDK's statics -/
def lenB : List Nat := strB.map List.length
theorem lmp_lt {c : Nat} (hc : c < 20) : lmp.getD c 0 < 19 := of_decide_eq_true (List.all_eq_true.mp (by decide : (List.range 20).all (fun c => decide (lmp.getD c 0 < 19)) = true) c (List.mem_range.mpr hc))
def RO (ad : Nat → Nat) (fv : Value) (A : Nat → Prop) (U : State) (H : Heap) : Prop :=
  vk_S 19 lenB strB (fun i => ad (1000 + i)) (fun i => ad (2000 + i)) A U H ∧
  va_Z "java/lang/String" "COMPACT_STRINGS" "Z" (.int 1) A U H ∧
  va_Z "jdk/internal/util/Preconditions" "SIOOBE_FORMATTER" "Ljava/util/function/BiFunction;" fv A U H ∧
  va_Z "java/lang/Integer" "DigitOnes" "[B" (.ref (ad 3000)) A U H ∧ va_T .byte (ad 3000) 100 (fun j => .int (dgO.getD j 0)) A U H ∧
  va_Z "java/lang/Integer" "DigitTens" "[B" (.ref (ad 3001)) A U H ∧ va_T .byte (ad 3001) 100 (fun j => .int (dgT.getD j 0)) A U H ∧
  (∀ c, c < 20 → ∀ q, ltab[c]? = some q → vk_R (cN q.1) q.2.1 q.2.2.2 (ad (1000 + lmp.getD c 0)) U) ∧ fv.category = 1
theorem RO.moved {ad : Nat → Nat} {fv : Value} {A : Nat → Prop} {u U : State} {H : Heap} (hvm : u.vm.Alike U.vm) (hR : ∀ own k tx a, vk_R own k tx a u → vk_R own k tx a U) (h : RO ad fv A u H) : RO ad fv A U H :=
  ⟨h.1.moved hvm, h.2.1.moved hvm, h.2.2.1.moved hvm, h.2.2.2.1.moved hvm, h.2.2.2.2.1.moved hvm, h.2.2.2.2.2.1.moved hvm, h.2.2.2.2.2.2.1.moved hvm, fun c hc q hq => hR _ _ _ _ (h.2.2.2.2.2.2.2.1 c hc q hq), h.2.2.2.2.2.2.2.2⟩
theorem RO.kept {ad : Nat → Nat} {fv : Value} {A : Nat → Prop} {U : State} {H H1 : Heap} (hq : ∀ a : Nat, a < H.size → ¬ A a → H1[a]? = H[a]?) (h : RO ad fv A U H) : RO ad fv A U H1 :=
  ⟨h.1.kept hq, h.2.1.kept hq, h.2.2.1.kept hq, h.2.2.2.1.kept hq, h.2.2.2.2.1.kept hq, h.2.2.2.2.2.1.kept hq, h.2.2.2.2.2.2.1.kept hq, h.2.2.2.2.2.2.2.1, h.2.2.2.2.2.2.2.2⟩
theorem RO.narrow {ad : Nat → Nat} {fv : Value} {A B : Nat → Prop} {U : State} {H : Heap} (hAB : ∀ q, B q → A q) (h : RO ad fv A U H) : RO ad fv B U H :=
  ⟨h.1.narrow hAB, h.2.1.narrow hAB, h.2.2.1.narrow hAB, h.2.2.2.1.narrow hAB, h.2.2.2.2.1.narrow hAB, h.2.2.2.2.2.1.narrow hAB, h.2.2.2.2.2.2.1.narrow hAB, h.2.2.2.2.2.2.2.1, h.2.2.2.2.2.2.2.2⟩
theorem RO.agree {n : Nat} {ad ad2 : Nat → Nat} {fv : Value} {A : Nat → Prop} {U : State} {H : Heap} (ha : agree n ad ad2) (h : RO ad fv A U H) : RO ad2 fv A U H := by
  have ha : ∀ k, 182 < k → k < 5000 → ad2 k = ad k := fun k a b => ha k (by omega) (by omega) (by unfold DB; omega)
  have e3 := ha 3000 (by decide) (by decide)
  have e4 := ha 3001 (by decide) (by decide)
  have e5 : ∀ c, c < 19 → ad2 (1000 + c) = ad (1000 + c) := fun c hc => ha _ (by omega) (by omega)
  have e6 : ∀ c, c < 19 → ad2 (2000 + c) = ad (2000 + c) := fun c hc => ha _ (by omega) (by omega)
  unfold RO at h ⊢
  rw [e3, e4]
  refine ⟨?_, h.2.1, h.2.2.1, h.2.2.2.1, h.2.2.2.2.1, h.2.2.2.2.2.1, h.2.2.2.2.2.2.1, fun c hc q hq => ?_, h.2.2.2.2.2.2.2.2⟩
  · refine ⟨fun i hi => ?_, fun i j hi hj e => h.1.2 i j hi hj (by dsimp only at e ⊢; rw [e5 i hi, e5 j hj] at e; exact e)⟩
    have h9 := h.1.1 i hi
    dsimp only at h9 ⊢
    rw [e5 i hi, e6 i hi]
    exact h9
  · rw [e5 _ (lmp_lt hc)]
    exact h.2.2.2.2.2.2.2.1 c hc q hq
/-- the law's script, where there is one; byte rows can be cloned -/
def SX (ad : Nat → Nat) (S : Nat → Int32) (A : Nat → Prop) (U : State) (H : Heap) : Prop := va_X (ad 4000) (S LEN).toNatClampNeg S U H ∧ ad 4000 < H.size ∧ ¬ A (ad 4000) ∧ va_Nw (.castable "[B" "java/lang/Cloneable") U
theorem SX.same {ad : Nat → Nat} {S : Nat → Int32} {A : Nat → Prop} {u U : State} {H : Heap} (e : U.vm = u.vm) (h : SX ad S A u H) : SX ad S A U H := ⟨h.1.moved (by rw [← e]; exact Vm.Alike.refl _), h.2.1, h.2.2.1, va_Nw.same rfl e.symm h.2.2.2⟩
theorem SX.warm {ad : Nat → Nat} {S : Nat → Int32} {A : Nat → Prop} {s U : State} {H : Heap} (hW : s.WarmedH U.vm) (h : SX ad S A s H) : SX ad S A U H := ⟨h.1.moved hW.alike, h.2.1, h.2.2.1, va_Nw.warmC hW h.2.2.2⟩
theorem SX.kept {ad : Nat → Nat} {S : Nat → Int32} {A : Nat → Prop} {U : State} {H H1 : Heap} (hz : H.size ≤ H1.size) (hq : ∀ a : Nat, a < H.size → ¬ A a → H1[a]? = H[a]?) (h : SX ad S A U H) : SX ad S A U H1 := ⟨h.1.kept (hq _ h.2.1 h.2.2.1), by have := h.2.1; omega, h.2.2⟩
theorem SX.narrow {ad : Nat → Nat} {S : Nat → Int32} {A B : Nat → Prop} {U : State} {H : Heap} (hAB : ∀ q, B q → A q) (h : SX ad S A U H) : SX ad S B U H := ⟨h.1, h.2.1, fun z => h.2.2.1 (hAB _ z), h.2.2.2⟩
theorem SX.agree {n : Nat} {ad ad2 : Nat → Nat} {S : Nat → Int32} {A : Nat → Prop} {U : State} {H : Heap} (ha : agree n ad ad2) (h : SX ad S A U H) : SX ad2 S A U H := by
  have e := ha 4000 (by decide) (by decide) (by unfold DB; omega)
  unfold SX
  rw [e]
  exact h
end
section
/-! the tables' facts at an instruction -/
theorem lk_in {pc : Nat} {x : Instr × Nat × Nat × Nat × Nat} : ∀ {es : List Ent}, lk pc es = some x → (pc, x) ∈ es
  | [], h => by cases h
  | e :: r, h => by
    unfold lk at h
    by_cases he : e.1 = pc
    · rw [if_pos he] at h
      cases h
      subst he
      exact List.mem_cons_self
    · rw [if_neg he] at h
      exact List.mem_cons_of_mem _ (lk_in h)
theorem ins_ok {k pc : Nat} {i : Instr} {a b c d : Nat} (hk : k < mnames + 1) (h : ins k pc = some (i, a, b, c, d)) : eOK k (pc, i, a, b, c, d) = true := by
  unfold ins at h
  cases hm : mE[k]? with
  | none => rw [hm] at h; cases h
  | some es =>
    rw [hm] at h
    have h1 := eAll k hk
    unfold eAllK at h1
    rw [List.getD_eq_getElem?_getD, hm] at h1
    exact List.all_eq_true.mp h1 _ (lk_in h)
theorem ins_dec {k pc : Nat} {i : Instr} {a b c d : Nat} (hk : k < mnames + 1) (h : ins k pc = some (i, a, b, c, d)) : ∃ L, decode (nB k) pc = .ok (i, L) ∧ (L = ilen i ∨ isTS i = true) ∧ jOK pc i = true := by
  have h1 := ins_ok hk h
  unfold eOK at h1
  rw [Bool.and_eq_true, Bool.and_eq_true] at h1
  obtain ⟨⟨h2, h3⟩, -⟩ := h1
  dsimp only at h2 h3
  split at h2
  · next i2 L he =>
    rw [Bool.and_eq_true, Bool.or_eq_true] at h2
    have e := of_decide_eq_true h2.1
    subst e
    exact ⟨L, he, h2.2.elim (fun q => Or.inl (of_decide_eq_true q)) Or.inr, h3⟩
  · cases h2
/-- the decode row of an instruction of a known length -/
theorem ins_d {k pc : Nat} {i : Instr} {a b c d : Nat} (hk : k < mnames + 1) (h : ins k pc = some (i, a, b, c, d)) (hn : isTS i = false) : decode (nB k) pc = .ok (i, ilen i) := by
  obtain ⟨L, h1, h2, -⟩ := ins_dec hk h
  rcases h2 with h2 | h2
  · rw [h1, h2]
  · rw [hn] at h2; cases h2
theorem ins_call {k idx a b c : Nat} {kinds : List Nat} (hb : b < mnames) (h : callOK k idx a b c kinds = true) : ∃ f, f ∈ itab ∧ f.1 = nO k ∧ f.2.1 = idx ∧ f.2.2.1 = b ∧ f.2.2.2.1 = c := by
  unfold callOK at h
  rw [Bool.or_eq_true] at h
  rcases h with h | h
  · have := of_decide_eq_true h
    have e : mnames = 218 := rfl
    omega
  · split at h
    · next f hf =>
      simp only [Bool.and_eq_true, decide_eq_true_eq] at h
      exact ⟨f, List.mem_of_getElem? hf, h.1.1.1.1, h.1.1.1.2, h.1.1.2, h.1.2⟩
    · cases h
/-- what the tables say of a method -/
theorem mfact {k : Nat} (hk : k < mnames) : Cond.initialized (nY k).cls ∈ Tall ∧ (if nS k = 1 then Cond.static (nY k) ∈ Tall else Cond.instanceMethod (nY k) ∈ Tall) ∧ (nY k).cls = cN (nO k) ∧
    ((nY k).cls ≠ "java/lang/invoke/MethodHandle" ∧ (nY k).cls ≠ "java/lang/invoke/VarHandle") ∧
    (parseMethodDescriptor (nY k).desc).map (fun d => d.parameters.length) = some (if nS k = 1 then nA k else nA k - 1) ∧ (nS k = 1 ∨ 1 ≤ nA k) ∧ nA k ≤ nL k ∧ nL k ≤ 21 ∧ plainFor (nY k) = true := by
  have h := List.all_eq_true.mp mAll k (List.mem_range.mpr hk)
  unfold mOK at h
  simp only [Bool.and_eq_true, decide_eq_true_eq] at h
  obtain ⟨⟨⟨⟨⟨⟨⟨⟨h1, h2⟩, h3⟩, h4⟩, h6⟩, h7⟩, h8⟩, h9⟩, h10⟩ := h
  refine ⟨atT_in h1, ?_, h3, h4, h6, h7, h8, h9, h10⟩
  by_cases q : nS k = 1
  · rw [if_pos q] at h2 ⊢; exact atT_in h2
  · rw [if_neg q] at h2 ⊢; exact atT_in h2
/-- a call, whatever it answers -/
theorem va_callg {p : Program} {l : Launch} {e : Env} {R : Room} {s : State} {m : MethodId} {args : Array Value} {below : List Frame} {meth : Method} {c : Code} {H : Heap} {locs : List Loc} {cells slots : Nat} {Q : State → Prop}
    {pc : Nat} {ls : Array Slot} {rest st0 : List Value} {A0 A1 : Nat → Prop} {H0 : Heap} {mc ms : Nat} {free : Addr → Prop} {Qx : Option Value → State → Prop}
    (hr : va_Run p l e R s m args below meth c H locs cells slots mc ms (F0 m pc ls st0) rest (fun st oc t => (∃ v, oc = .returned v ∧ Qx v t) ∧ va_F A1 st t) free) (hS : va_S A0 H0 H locs) (hA : ∀ q, q < H.size → A1 q → A0 q) (hf : ∀ q, free q → A0 q)
    (kk : ∀ (v : Option Value) (t : State) (H1 : Heap) (locs1 : List Loc), t.heap = H1 → s.vm.Alike t.vm → Qx v t → H.size ≤ H1.size → (∀ q : Nat, q < H.size → ¬ A1 q → H1[q]? = H[q]?) → va_S A0 H0 H1 locs1 → W p l e R s m args below meth c H1 locs1 (cells + mc) (slots + ms) Q (F0 m (pc + 3) ls (v.toList ++ rest))) : W p l e R s m args below meth c H locs cells slots Q (F0 m pc ls st0) := by
  intro T hT X
  obtain ⟨v, st₀, t, T', L, h0, X', hL, e1, e2, ⟨⟨v2, hv, hp⟩, hz, hk⟩, st⟩ := hr T hT X
  cases hv
  rw [h0] at hz hk
  obtain ⟨t2, a1, b1⟩ := kk v t T'.heap (locs ++ L) e1.symm (by rw [← e2]; exact X'.warmed.alike) hp (by rw [e1]; exact hz) (fun q h1 h2 => by rw [e1]; exact hk q h1 h2)
    ⟨Nat.le_trans hS.1 (by rw [e1]; exact hz), fun q h1 h2 => by rw [e1, hk q (Nat.lt_of_lt_of_le h1 hS.1) (fun z => h2 (hA q (Nat.lt_of_lt_of_le h1 hS.1) z))]; exact hS.2.1 q h1 h2, fun q hq => by
      rcases List.mem_append.mp hq with h | h
      · exact hS.2.2 q h
      · exact hf _ (hL q h)⟩ T' rfl X'
  exact ⟨t2, st t2 a1, b1⟩
def tysA (cA : Nat → ClassId) : List (ClassId × FieldType) := [(cA 0, .int), (cA 1, .boolean), (cA 2, .byte), (cA 3, .object "CandleStatute$State")]
abbrev wsm (k : Nat) : List Cond := Cond.code (nY k) (nB k) (nL k) (nR k) :: Tall
def rmD (d mc : Nat) : Room := { frames := d + 1, cells := mc, slots := 2 * mc, locals := 40 * d + 40 }
abbrev Gp : Type := va_G × (Nat → ClassId) × Value
def MP (G : Gp) (ad : Nat → Nat) (D : Mm) (sz : Nat) : State → Prop := fun U =>
  U.heap.size = sz ∧ va_P G.1 vwCl (wsOf G.2.1 ad D) U.heap ∧ va_K G.1 vwCl (tysA G.2.1) U ∧ va_D (fun _ => True) (wsOf G.2.1 ad D) ∧ RO ad G.2.2 (va_A (wsOf G.2.1 ad D) sz) U U.heap ∧ WFD D ∧ SX ad (D 4000) (va_A (wsOf G.2.1 ad D) sz) U U.heap
def MX (G : Gp) (ad : Nat → Nat) (D : Mm) (sz : Nat) (r : Option Value) (D1 : Mm) : Option Value → State → Prop := fun v t =>
  ∃ ad2, agree (nxt D) ad ad2 ∧ v = r.map (cv ad2 G.2.2) ∧ va_P G.1 vwCl (wsOf G.2.1 ad2 D1) t.heap ∧ va_K G.1 vwCl (tysA G.2.1) t ∧ va_D (va_A (wsOf G.2.1 ad D) sz) (wsOf G.2.1 ad2 D1) ∧ (pot D1 = pot D → ad2 = ad) ∧ WFD D1
def MC (G : Gp) (ad : Nat → Nat) (D : Mm) (sz : Nat) (r : Option Value) (D1 : Mm) : Array Value → State → Outcome → State → Prop := fun _ st oc t =>
  (∃ v, oc = .returned v ∧ MX G ad D sz r D1 v t) ∧ va_F (va_A (wsOf G.2.1 ad D) sz) st t
def Snd (l : Launch) (G : Gp) (d : Nat) : Prop := ∀ (k : Nat) (args : List Value) (D : Mm) (r : Option Value) (D1 : Mm) (ad : Nat → Nat) (sz : Nat), Ct d k args D (fun r2 D2 => r2 = r ∧ D2 = D1) →
  Met l (nY k) (wsm k) (rmD (d - 1) (pot D1 - pot D)) (va_Pc (args.map (cv ad G.2.2)) (MP G ad D sz)) (MC G ad D sz r D1) (pot D1 - pot D) (2 * (pot D1 - pot D)) (va_A (wsOf G.2.1 ad D) sz)
theorem MP_blind {G : Gp} {ad : Nat → Nat} {D : Mm} {sz : Nat} {as : List Value} : FrameBlind (va_Pc as (MP G ad D sz)) := by
  intro a U g mk h
  obtain ⟨h0, h1, h2, h3, h4, h5, h6, h7⟩ := h
  exact ⟨h0, h1, h2, va_K.moved (u := U) (U := U.calling g mk a) (Vm.Alike.refl U.vm) h3, h4, RO.moved (u := U) (U := U.calling g mk a) (Vm.Alike.refl U.vm) (fun _ _ _ _ q => vk_R.same (u := U) (U := U.calling g mk a) rfl q) h5, h6, SX.same (u := U) (U := U.calling g mk a) rfl h7⟩
theorem MP_pre {G : Gp} {ad : Nat → Nat} {D : Mm} {A : Nat → Prop} {s : State} {H : Heap} {locs : List Loc} {as : List Value} (hP : va_P G.1 vwCl (wsOf G.2.1 ad D) H) (hK : va_K G.1 vwCl (tysA G.2.1) s) (hD : va_D A (wsOf G.2.1 ad D)) (hS : va_S A s.heap H locs) (hA : ∀ q : Nat, s.heap.size ≤ q → A q) (hR : RO ad G.2.2 A s s.heap) (hW0 : WFD D) (hX : SX ad (D 4000) A s s.heap) :
    ∀ U : State, U.heap = H → s.WarmedH U.vm → va_Pc as (MP G ad D H.size) as.toArray U := by
  intro U hU hW
  have hq : ∀ q, va_A (wsOf G.2.1 ad D) H.size q → A q := by
    intro q hq
    rcases hq with ⟨j, e, hj⟩ | hq
    · exact hD.2 j _ hj
    · exact hA q (Nat.le_trans hS.1 hq)
  refine ⟨rfl, by rw [hU], by rw [hU]; exact hP, va_K.moved hW.alike hK, hD.weaken (fun _ _ _ _ => trivial), ?_, hW0, ?_⟩
  · rw [hU]
    refine RO.moved hW.alike (fun _ _ _ _ q => vk_R.warm hW q) ?_
    exact RO.narrow (A := A) hq (RO.kept hS.2.1 hR)
  · rw [hU]
    exact SX.warm hW (SX.narrow (A := A) hq (SX.kept hS.1 hS.2.1 hX))
theorem tg_eq {pc : Nat} {off : Int} (h : 0 ≤ (pc : Int) + off) : (pc : Int) + off = (tg pc off : Int) := by
  unfold tg; omega
theorem goodT {X : List Cond} (h : ∀ w ∈ X, w ∈ Tall) : GoodIn Tall X := fun w hw => goodTall w (h w hw)
theorem goodW (k : Nat) (hk : k < mnames) : GoodIn Tall (wsm k) := fun w hw => by
  rcases List.mem_cons.mp hw with h | h
  · rw [h]; exact goodTall _ (codeIn k hk)
  · exact goodTall w h
theorem goodWm {k k2 : Nat} (hk : k2 < mnames) : GoodIn (wsm k) (wsm k2) := fun w hw => ⟨List.mem_cons_of_mem _ (goodW k2 hk w hw).1, (goodW k2 hk w hw).2⟩
end
section
/-! the abstract machine's steps are the machine's -/
theorem fld_fact {k pc : Nat} {i : Instr} {idx a b c d : Nat} (hk : k < mnames + 1) (hi : i = .getfield idx ∨ i = .putfield idx) (hb : b ≠ 25) (h : ins k pc = some (i, a, b, c, d)) : ∃ q : vw_C, vwCl[b]? = some q ∧ c < q.2.2 ∧ Cond.fieldLink (cN (nO k)) idx (q.2.1 c).1 (q.2.1 c).2.1 (q.2.1 c).2.2.1 ∈ Tall ∧ (d = 0 → (q.2.1 c).2.2.1 = "I" ∧ (q.2.1 c).2.2.2 = false) ∧ (d = 1 → (q.2.1 c).2.2.1 = "Z" ∧ (q.2.1 c).2.2.2 = false) ∧ (d = 2 → (q.2.1 c).2.2.1 = "B" ∧ (q.2.1 c).2.2.2 = false) ∧ (d = 3 → b = 0 → (q.2.1 c).2.2.1 = "[B" ∧ (q.2.1 c).2.2.2 = false) := by
  have h1 := ins_ok hk h
  unfold eOK at h1
  rw [Bool.and_eq_true] at h1
  have h2 : (match ftab[a]? with
        | some f => decide (f.1 = nO k) && decide (f.2.1 = idx) && decide (f.2.2.1 = b) && decide (f.2.2.2.1 = c) && decide (f.2.2.2.2.1 = d)
        | none => false) = true := by
    rcases hi with rfl | rfl
    · have h3 := h1.2
      dsimp only at h3
      rw [if_neg hb] at h3
      exact h3
    · have h3 := h1.2
      dsimp only at h3
      rw [if_neg hb] at h3
      exact h3
  split at h2
  · next f hf =>
    simp only [Bool.and_eq_true, decide_eq_true_eq] at h2
    obtain ⟨⟨⟨⟨e1, e2⟩, e3⟩, e4⟩, e5⟩ := h2
    have h4 := List.all_eq_true.mp fAll _ (List.mem_of_getElem? hf)
    unfold fOK at h4
    rw [e1, e2, e3, e4, e5] at h4
    split at h4
    · next C T N hq =>
      simp only [Bool.and_eq_true, decide_eq_true_eq] at h4
      exact ⟨(C, T, N), hq, h4.1.1.1.1.1, atT_in h4.1.1.1.1.2, h4.1.1.1.2, h4.1.1.2, h4.1.2, h4.2⟩
    · cases h4
  · cases h2
theorem str_fact {k pc : Nat} {i : Instr} {idx a b c d : Nat} (hk : k < mnames + 1) (hb : b = 25) (hg : i = .getfield idx ∨ i = .putfield idx) (h : ins k pc = some (i, a, b, c, d)) : (c = 0 → Cond.fieldLink (cN (nO k)) idx "java/lang/String" "value" "[B" ∈ Tall) ∧ (c = 1 → Cond.fieldLink (cN (nO k)) idx "java/lang/String" "coder" "B" ∈ Tall) := by
  have h1 := ins_ok hk h
  unfold eOK at h1
  rw [Bool.and_eq_true] at h1
  have h3 : (match rtab[a]? with
        | some f => decide (f.1 = nO k) && decide (f.2.1 = idx) && decide (f.2.2.1 = c)
        | none => false) = true := by
    rcases hg with rfl | rfl
    · have h3 := h1.2
      dsimp only at h3
      rw [if_pos hb] at h3
      exact h3
    · have h3 := h1.2
      dsimp only at h3
      rw [if_pos hb] at h3
      exact h3
  split at h3
  · next f hf =>
    simp only [Bool.and_eq_true, decide_eq_true_eq] at h3
    obtain ⟨⟨e1, e2⟩, e3⟩ := h3
    have h4 := List.all_eq_true.mp rAll _ (List.mem_of_getElem? hf)
    unfold rOK at h4
    rw [e1, e2, e3] at h4
    refine ⟨fun q => ?_, fun q => ?_⟩
    · subst q; exact atT_in h4
    · subst q; exact atT_in h4
  · cases h3
theorem stat_fact {k pc : Nat} {idx a b c d : Nat} (hk : k < mnames + 1) (h : ins k pc = some (.getstatic idx, a, b, c, d)) : (b = 0 → Cond.fieldLink (cN (nO k)) idx "java/lang/String" "COMPACT_STRINGS" "Z" ∈ Tall) ∧ (b = 1 → Cond.fieldLink (cN (nO k)) idx "jdk/internal/util/Preconditions" "SIOOBE_FORMATTER" "Ljava/util/function/BiFunction;" ∈ Tall) ∧
    (b = 2 → Cond.fieldLink (cN (nO k)) idx "java/lang/Integer" "DigitOnes" "[B" ∈ Tall) ∧ (b = 3 → Cond.fieldLink (cN (nO k)) idx "java/lang/Integer" "DigitTens" "[B" ∈ Tall) := by
  have h1 := ins_ok hk h
  unfold eOK at h1
  rw [Bool.and_eq_true] at h1
  have h3 := h1.2
  dsimp only at h3
  split at h3
  · next f hf =>
    simp only [Bool.and_eq_true, decide_eq_true_eq] at h3
    obtain ⟨⟨e1, e2⟩, e3⟩ := h3
    have h4 := List.all_eq_true.mp sAll _ (List.mem_of_getElem? hf)
    unfold sOK at h4
    rw [e1, e2, e3] at h4
    refine ⟨fun q => ?_, fun q => ?_, fun q => ?_, fun q => ?_⟩ <;> (subst q; exact atT_in h4)
  · cases h3
theorem ldc_fact {k pc : Nat} {idx a b c d : Nat} (hk : k < mnames + 1) (hb : b = 1) (h : ins k pc = some (.ldc idx, a, b, c, d)) : ∃ q, ltab[a]? = some q ∧ q.1 = nO k ∧ q.2.1 = idx ∧ c = lmp.getD a 0 := by
  have h1 := ins_ok hk h
  unfold eOK at h1
  rw [Bool.and_eq_true] at h1
  have h3 := h1.2
  dsimp only at h3
  rw [hb, if_neg (by decide), if_neg (by decide)] at h3
  split at h3
  · next f hf =>
    simp only [Bool.and_eq_true, decide_eq_true_eq] at h3
    obtain ⟨⟨e1, e2⟩, e3⟩ := h3
    exact ⟨f, hf, e1, e2, e3⟩
  · cases h3
theorem ldcI_fact {k pc : Nat} {idx a b c d : Nat} (hk : k < mnames + 1) (hb : b = 2) (h : ins k pc = some (.ldc idx, a, b, c, d)) : ∀ q, ctab[c]? = some q → Cond.constant (cN (nO k)) idx q.2.2.2 ∈ Tall := by
  have h1 := ins_ok hk h
  unfold eOK at h1
  rw [Bool.and_eq_true] at h1
  have h3 := h1.2
  dsimp only at h3
  rw [hb, if_neg (by decide), if_pos rfl] at h3
  split at h3
  · next f hf =>
    simp only [Bool.and_eq_true, decide_eq_true_eq] at h3
    obtain ⟨⟨e1, e2⟩, e3⟩ := h3
    intro q hq
    rw [e3, hf] at hq
    cases hq
    have h4 := List.all_eq_true.mp kAll f (List.mem_of_getElem? hf)
    unfold kOK at h4
    rw [e1, e2] at h4
    exact atT_in h4
  · cases h3
theorem new_fact {k pc : Nat} {idx a b c d : Nat} (hk : k < mnames + 1) (hb : b ≠ 999) (h : ins k pc = some (.new idx, a, b, c, d)) : ∃ q : vw_C, vwCl[b]? = some q ∧ Cond.classLink (cN (nO k)) idx q.1 ∈ Tall ∧ Cond.instantiable q.1 q.2.2 ∈ Tall ∧ Cond.initialized q.1 ∈ Tall := by
  have h1 := ins_ok hk h
  unfold eOK at h1
  rw [Bool.and_eq_true] at h1
  have h3 := h1.2
  dsimp only at h3
  rw [if_neg hb] at h3
  split at h3
  · next f hf =>
    simp only [Bool.and_eq_true, decide_eq_true_eq] at h3
    obtain ⟨⟨e1, e2⟩, e3⟩ := h3
    have h4 := List.all_eq_true.mp nAll f (List.mem_of_getElem? hf)
    unfold nOK at h4
    rw [e1, e2, e3] at h4
    split at h4
    · next C T N hq =>
      simp only [Bool.and_eq_true] at h4
      exact ⟨(C, T, N), hq, atT_in h4.1.1.2, atT_in h4.1.2, atT_in h4.2⟩
    · cases h4
  · cases h3
theorem cls_fact {k pc : Nat} {i : Instr} {idx a b c d : Nat} (hk : k < mnames + 1) (hi : i = .instanceof idx ∨ i = .checkcast idx) (hb : b ≠ 999) (h : ins k pc = some (i, a, b, c, d)) : Cond.classLink (cN (nO k)) idx (if b = 0 then "java/lang/String" else "[B") ∈ Tall := by
  have h1 := ins_ok hk h
  unfold eOK at h1
  rw [Bool.and_eq_true] at h1
  have h3 : (match gtab[a]? with
        | some f => decide (f.1 = nO k) && decide (f.2.1 = idx) && decide (f.2.2.1 = b)
        | none => false) = true := by
    rcases hi with rfl | rfl
    · have h3 := h1.2
      dsimp only at h3
      rw [if_neg hb] at h3
      exact h3
    · have h3 := h1.2
      dsimp only at h3
      rw [if_neg hb] at h3
      exact h3
  split at h3
  · next f hf =>
    simp only [Bool.and_eq_true, decide_eq_true_eq] at h3
    obtain ⟨⟨e1, e2⟩, e3⟩ := h3
    have h4 := List.all_eq_true.mp gAll f (List.mem_of_getElem? hf)
    unfold gOK at h4
    rw [e1, e2, e3] at h4
    exact atT_in h4
  · cases h3
theorem yRow_fact {k idx a t : Nat} (h : yRow k idx a t = true) : Cond.methodLink (cN (nO k)) idx (if t = 0 then arraycopyName else ⟨"[B", "clone", "()Ljava/lang/Object;"⟩) ∈ Tall := by
  unfold yRow at h
  split at h
  · next f hf =>
    simp only [Bool.and_eq_true, decide_eq_true_eq] at h
    obtain ⟨⟨e1, e2⟩, e3⟩ := h
    have h4 := List.all_eq_true.mp yAll f (List.mem_of_getElem? hf)
    unfold yOK at h4
    rw [e1, e2, e3] at h4
    exact atT_in h4
  · cases h
theorem cpy_fact {k pc : Nat} {idx a b c d : Nat} (hk : k < mnames + 1) (hb : b = 998) (h : ins k pc = some (.invokestatic idx, a, b, c, d)) : Cond.methodLink (cN (nO k)) idx arraycopyName ∈ Tall := by
  have h1 := ins_ok hk h
  unfold eOK at h1
  rw [Bool.and_eq_true] at h1
  have h3 := h1.2
  dsimp only at h3
  rw [Bool.and_eq_true, hb] at h3
  have h4 := yRow_fact (t := 0) (by have := h3.2; simpa using this)
  exact h4
theorem cln_fact {k pc : Nat} {idx a b c d : Nat} (hk : k < mnames + 1) (hb : b = 997) (h : ins k pc = some (.invokevirtual idx, a, b, c, d)) : Cond.methodLink (cN (nO k)) idx ⟨"[B", "clone", "()Ljava/lang/Object;"⟩ ∈ Tall := by
  have h1 := ins_ok hk h
  unfold eOK at h1
  rw [Bool.and_eq_true] at h1
  have h3 := h1.2
  dsimp only at h3
  rw [Bool.and_eq_true, hb] at h3
  have h4 := yRow_fact (t := 1) (by have := h3.2; simpa using this)
  exact h4
theorem oin_fact {k pc : Nat} {idx a b c d : Nat} (hk : k < mnames + 1) (hb : b = 996) (h : ins k pc = some (.invokespecial idx, a, b, c, d)) : Cond.methodLink (cN (nO k)) idx objectInit ∈ Tall := by
  have h1 := ins_ok hk h
  unfold eOK at h1
  rw [Bool.and_eq_true] at h1
  have h3 := h1.2
  dsimp only at h3
  rw [Bool.and_eq_true, hb] at h3
  have h4 : oRow k idx a = true := by have := h3.2; simpa using this
  unfold oRow at h4
  split at h4
  · next f hf =>
    simp only [Bool.and_eq_true, decide_eq_true_eq] at h4
    obtain ⟨e1, e2⟩ := h4
    have h5 := List.all_eq_true.mp oAll f (List.mem_of_getElem? hf)
    unfold oOK at h5
    rw [e1, e2] at h5
    exact atT_in h5
  · cases h4
theorem call_fact {k pc : Nat} {i : Instr} {idx a b c d : Nat} (hk : k < mnames + 1) (hb : b < mnames) (hi : i = .invokevirtual idx ∨ i = .invokestatic idx ∨ i = .invokespecial idx) (h : ins k pc = some (i, a, b, c, d)) :
    (c ≠ 6 → Cond.methodLink (cN (nO k)) idx (nY b) ∈ Tall) ∧
    (c = 0 → nS b = 0 ∧ rcN (nC b) = (nY b).cls ∧ Cond.selects (nY b).cls (nY b) (nY b) ∈ Tall) ∧ (c = 1 → nS b = 1) ∧
    (c = 2 → nS b = 0 ∧ rcN (nC b) = "java/lang/StringBuilder" ∧ Cond.selects "java/lang/StringBuilder" (nY b) (nY b) ∈ Tall ∧ Cond.sameMethod (nY b).cls (nY b).cls (nY b).name (nY b).desc ∈ Tall) ∧
    (c = 3 → nS b = 0 ∧ rcN (nC b) = "java/lang/StringBuilder" ∧ Cond.sameMethod (nY b).cls (nY b).cls (nY b).name (nY b).desc ∈ Tall ∧ Cond.superclass (cN (nO k)) (nY b).cls ∈ Tall ∧ (nY b).name ≠ "<init>") ∧
    (c = 4 → nS b = 0 ∧ (nY b).name = "<init>" ∧ nR b = none) ∧
    (c = 6 → nS b = 0 ∧ rcN (nC b) = "java/lang/StringBuilder" ∧ nY (k6 b) = ⟨"java/lang/AbstractStringBuilder", (nY b).name, (nY b).desc⟩ ∧ k6 b < mnames ∧ nS (k6 b) = 0 ∧ Cond.methodLink (cN (nO k)) idx ⟨"java/lang/AbstractStringBuilder", (nY b).name, (nY b).desc⟩ ∈ Tall ∧ Cond.selects "java/lang/StringBuilder" ⟨"java/lang/AbstractStringBuilder", (nY b).name, (nY b).desc⟩ (nY b) ∈ Tall ∧ Cond.sameMethod "java/lang/AbstractStringBuilder" "java/lang/AbstractStringBuilder" (nY b).name (nY b).desc ∈ Tall) := by
  have h1 := ins_ok hk h
  unfold eOK at h1
  rw [Bool.and_eq_true] at h1
  have h2 : ∃ ks, callOK k idx a b c ks = true := by
    rcases hi with rfl | rfl | rfl
    · have h3 := h1.2; dsimp only at h3; rw [Bool.and_eq_true] at h3; exact ⟨_, h3.1⟩
    · have h3 := h1.2; dsimp only at h3; rw [Bool.and_eq_true] at h3; exact ⟨_, h3.1⟩
    · have h3 := h1.2; dsimp only at h3; rw [Bool.and_eq_true] at h3; exact ⟨_, h3.1⟩
  obtain ⟨ks, h2⟩ := h2
  obtain ⟨f, hf, e1, e2, e3, e4⟩ := ins_call hb h2
  have h4 := List.all_eq_true.mp iAll f hf
  unfold iOK at h4
  rw [e1, e2, e3, e4] at h4
  simp only [Bool.and_eq_true, decide_eq_true_eq] at h4
  obtain ⟨⟨-, h5⟩, h6⟩ := h4
  refine ⟨fun h9 => ?_, ?_, ?_, ?_, ?_, ?_, ?_⟩
  · rw [if_neg h9] at h5; exact atT_in h5
  · rintro rfl
    rw [if_pos rfl] at h6
    simp only [Bool.and_eq_true, decide_eq_true_eq] at h6
    exact ⟨h6.1.1, h6.1.2, atT_in h6.2⟩
  · rintro rfl
    rw [if_neg (by decide), if_pos rfl] at h6
    exact of_decide_eq_true h6
  · rintro rfl
    rw [if_neg (by decide), if_neg (by decide), if_pos rfl] at h6
    simp only [Bool.and_eq_true, decide_eq_true_eq] at h6
    exact ⟨h6.1.1.1, h6.1.1.2, atT_in h6.1.2, atT_in h6.2⟩
  · rintro rfl
    rw [if_neg (by decide), if_neg (by decide), if_neg (by decide), if_pos rfl] at h6
    simp only [Bool.and_eq_true, decide_eq_true_eq] at h6
    exact ⟨h6.1.1.1.1, h6.1.1.1.2, atT_in h6.1.1.2, atT_in h6.1.2, h6.2⟩
  · rintro rfl
    rw [if_neg (by decide), if_neg (by decide), if_neg (by decide), if_neg (by decide), if_pos rfl] at h6
    simp only [Bool.and_eq_true, decide_eq_true_eq] at h6
    exact ⟨h6.1.1, h6.1.2, h6.2⟩
  · rintro rfl
    rw [if_neg (by decide), if_neg (by decide), if_neg (by decide), if_neg (by decide), if_neg (by decide)] at h6
    rw [if_pos rfl] at h5
    simp only [Bool.and_eq_true, decide_eq_true_eq] at h6
    exact ⟨h6.1.1.1.1.1.1, h6.1.1.1.1.1.2, h6.1.1.1.1.2, h6.1.1.1.2, h6.1.1.2, atT_in h5, atT_in h6.1.2, atT_in h6.2⟩
/-- the room of a frame: what stood there before, and the pot -/
def RmOK (R : Room) (d c0 s0 n : Nat) : Prop := d + 1 ≤ R.frames ∧ 40 * d + 40 ≤ R.locals ∧ c0 + n ≤ R.cells ∧ s0 + 2 * n ≤ R.slots
def PS (p : Program) (l : Launch) (e : Env) (R : Room) (c0 s0 : Nat) (s : State) (m : MethodId) (args : Array Value) (below : List Frame) (meth : Method) (c : Code) (G : Gp) (k : Nat) (A : Nat → Prop) (ad0 : Nat → Nat) (D0 : Mm) (Qf : State → Prop) (D1 : Mm) : Pst := fun pc ls st D =>
  pot D ≤ pot D1 ∧ ∀ (H : Heap) (locs : List Loc) (ad : Nat → Nat) (lsA : Array Slot), agree (nxt D0) ad0 ad → va_P G.1 vwCl (wsOf G.2.1 ad D) H → va_D A (wsOf G.2.1 ad D) → va_S A s.heap H locs → LOK ad G.2.2 (nL k) lsA ls → leD D0 D → (pot D = pot D0 → ad = ad0) → WFD D →
    W p l e R s m args below meth c H locs (c0 + (pot D - pot D0)) (s0 + 2 * (pot D - pot D0)) Qf (F0 m pc lsA (st.map (cv ad G.2.2)))
/-- behind a call -/
theorem call_arm {p : Program} {l : Launch} {e : Env} {R : Room} {c0 s0 : Nat} {s : State} {m : MethodId} {args : Array Value} {below : List Frame} {meth : Method} {c : Code} {G : Gp} {k : Nat} {A : Nat → Prop} {ad0 : Nat → Nat} {D0 : Mm} {Qf : State → Prop} {D1 : Mm}
    {pc : Nat} {ls rest : List Value} {st0 : List Value} {D D2 : Mm} {r : Option Value} {H : Heap} {locs : List Loc} {ad : Nat → Nat} {lsA : Array Slot} {As : Array Value} (hA : ∀ q : Nat, s.heap.size ≤ q → A q)
    (ha : agree (nxt D0) ad0 ad) (hD : va_D A (wsOf G.2.1 ad D)) (hS : va_S A s.heap H locs) (hl : LOK ad G.2.2 (nL k) lsA ls) (hp : leD D0 D) (hzd : pot D = pot D0 → ad = ad0) (hp2 : leD D D2)
    (hnl : (∀ v, v ∈ ls → nvV D v) ∨ pot D2 = pot D) (hnr : ∀ v, v ∈ rest → nvV D v)
    (hrun : va_Run p l e R s m args below meth c H locs (c0 + (pot D - pot D0)) (s0 + 2 * (pot D - pot D0)) (pot D2 - pot D) (2 * (pot D2 - pot D)) (F0 m pc lsA st0) (rest.map (cv ad G.2.2)) (MC G ad D H.size r D2 As) (va_A (wsOf G.2.1 ad D) H.size))
    (next : PS p l e R c0 s0 s m args below meth c G k A ad0 D0 Qf D1 (pc + 3) ls (r.toList ++ rest) D2) :
    W p l e R s m args below meth c H locs (c0 + (pot D - pot D0)) (s0 + 2 * (pot D - pot D0)) Qf (F0 m pc lsA st0) := by
  have hF : ∀ q, va_A (wsOf G.2.1 ad D) H.size q → A q := by
    intro q hq
    rcases hq with ⟨j, e, hj⟩ | hq
    · exact hD.2 j _ hj
    · exact hA q (Nat.le_trans hS.1 hq)
  refine va_callg (A1 := va_A (wsOf G.2.1 ad D) H.size) (Qx := MX G ad D H.size r D2) hrun hS (fun q _ h => hF q h) hF (fun v t H1 locs1 ht hvm hX hz hkeep hS1 => ?_)
  obtain ⟨ad2, ha2, hv, hP1, hK1, hD1, hz2, hW2⟩ := hX
  have hl2 : LOK ad2 G.2.2 (nL k) lsA ls := by
    rcases hnl with hnl | hnl
    · exact hl.agree ha2 hnl
    · rw [hz2 hnl]; exact hl
  have e1 : v.toList ++ rest.map (cv ad G.2.2) = (r.toList ++ rest).map (cv ad2 G.2.2) := by
    rw [hv, List.map_append, cv_agrees ha2 hnr]
    cases r <;> rfl
  rw [e1]
  have p1 := hp.1
  have p2 := hp2.1
  refine W.cs (cells' := c0 + (pot D2 - pot D0)) (slots' := s0 + 2 * (pot D2 - pot D0)) (by omega) (by omega) ?_
  exact next.2 H1 locs1 ad2 lsA (agree.tr ha ha2 hp.2.1) (by rw [← ht]; exact hP1) (hD1.weaken (fun _ _ _ h => hF _ h)) hS1 hl2 (leD.tr hp hp2) (fun e => (hz2 (by omega)).trans (hzd (by omega))) hW2
theorem jmp_ok {k pc : Nat} {i : Instr} {a b c d : Nat} (hk : k < mnames + 1) (h : ins k pc = some (i, a, b, c, d)) : jOK pc i = true := by
  obtain ⟨_, _, _, h3⟩ := ins_dec hk h
  exact h3
theorem roc_str {o : Nat} (h1 : 2000 ≤ o) (h2 : o < 2019) : roc o = strB.getD (o - 2000) [] := by
  unfold roc; rw [if_neg (by omega), if_neg (by omega)]
theorem lenB_get {i : Nat} : lenB.getD i 0 = (strB.getD i []).length := by
  unfold lenB
  rw [List.getD_eq_getElem?_getD, List.getD_eq_getElem?_getD, List.getElem?_map]
  cases strB[i]? <;> rfl
theorem RO_arr {ad : Nat → Nat} {fv : Value} {A : Nat → Prop} {U : State} {H : Heap} {o : Nat} (h : RO ad fv A U H) (ho : roK o) : va_T .byte (ad o) (roc o).length (fun j => .int ((roc o).getD j 0)) A U H := by
  rcases ho with ⟨h1, h2⟩ | rfl | rfl
  · have h3 := (h.1.1 (o - 2000) (by omega)).2.2.2
    rw [roc_str h1 h2]
    rw [lenB_get] at h3
    have e : 2000 + (o - 2000) = o := by omega
    dsimp only at h3
    rw [e] at h3
    exact h3
  · exact h.2.2.2.2.1
  · exact h.2.2.2.2.2.2.1
theorem clsneAll : (List.range mnames).all (fun k => decide ((nY k).cls ≠ "")) = true := by decide +kernel
theorem clsne {k : Nat} (hk : k < mnames) : (nY k).cls ≠ "" := of_decide_eq_true (List.all_eq_true.mp clsneAll k (List.mem_range.mpr hk))
theorem wsm_in {k : Nat} (hk : k < mnames) : ∀ w ∈ wsm k, w ∈ Tall := fun w hw => (goodW k hk w hw).1
theorem rm_ok {R : Room} {d b x c0 s0 n : Nat} (h1 : 1 ≤ d) (h2 : nL b ≤ 21) (h : RmOK R d c0 s0 n) : (rmD (d - 1) x).frames + 1 ≤ R.frames ∧ 8 + (nL b + 11) + (rmD (d - 1) x).locals ≤ R.locals := by
  obtain ⟨a, b, -, -⟩ := h
  constructor
  · show d - 1 + 1 + 1 ≤ _
    omega
  · show 8 + (_ + 11) + (40 * (d - 1) + 40) ≤ _
    omega
theorem cat_le {ad : Nat → Nat} {fv : Value} (hf : fv.category = 1) {st : List Value} (h : ∀ v, v ∈ st → c1B v = true) (hl : st.length ≤ 8) : ((st.map (cv ad fv)).map fun v => v.category).sum ≤ 8 := by
  have e : ((st.map (cv ad fv)).map fun v => v.category) = List.replicate st.length 1 := by
    apply List.eq_replicate_iff.mpr
    refine ⟨by simp, fun b hb => ?_⟩
    rw [List.map_map, List.mem_map] at hb
    obtain ⟨v, hv, rfl⟩ := hb
    exact c1_cat hf (h v hv)
  rw [e]
  simp
  exact hl
theorem st_split {b : Nat} {st : List Value} {o : Nat} (hn : nA b ≤ st.length) (h1 : 1 ≤ nA b) (h0 : ((st.take (nA b)).reverse)[0]? = some (.ref o)) : ∃ As : List Value, (st.take (nA b)).reverse = .ref o :: As ∧ As.length = nA b - 1 ∧ st = As.reverse ++ .ref o :: st.drop (nA b) := by
  cases hr : (st.take (nA b)).reverse with
  | nil => rw [hr] at h0; simp at h0
  | cons x As =>
    rw [hr] at h0
    simp at h0
    subst h0
    have hlen : ((st.take (nA b)).reverse).length = nA b := by simp; omega
    rw [hr] at hlen
    refine ⟨As, rfl, by simp at hlen; omega, ?_⟩
    have h2 : st.take (nA b) = As.reverse ++ [.ref o] := by
      rw [← List.reverse_reverse (st.take (nA b)), hr]
      simp
    have h3 := List.take_append_drop (nA b) st
    rw [h2, List.append_assoc] at h3
    exact h3.symm
theorem nF_le (k : Nat) : nF k ≤ 4 := by unfold nF; split <;> omega
theorem kd_obj {D : Mm} {o : Nat} (hW : WFD D) (ho : dv D o) (hk : kd D o < 20) : (kd D o = 0 ∨ kd D o = 8 ∨ kd D o = 9) ∧ ∃ q : vw_C, vwCl[kd D o]? = some q ∧ q.2.2 = nF (kd D o) := by
  have h := (hW.2 o ho).1
  rcases h with h | h | h | h | h
  · exact ⟨Or.inl h, by rw [h]; exact ⟨_, rfl, rfl⟩⟩
  · exact ⟨Or.inr (Or.inl h), by rw [h]; exact ⟨_, rfl, rfl⟩⟩
  · exact ⟨Or.inr (Or.inr h), by rw [h]; exact ⟨_, rfl, rfl⟩⟩
  · omega
  · omega
/-- the receiver of a call stands in the heap -/
theorem recv_ok {s : State} {G : Gp} {ad0 ad : Nat → Nat} {D D0 : Mm} {A : Nat → Prop} {H : Heap} {locs : List Loc} {o b : Nat} (ha : agree (nxt D0) ad0 ad) (hK : va_K G.1 vwCl (tysA G.2.1) s) (hRO0 : RO ad0 G.2.2 A s s.heap) (hP : va_P G.1 vwCl (wsOf G.2.1 ad D) H) (hS : va_S A s.heap H locs) (hW : WFD D) (ho : (rk o = b ∧ o < 1019) ∨ (dv D o ∧ kd D o = kb b ∧ kd D o < 20)) (hr : rcN b ≠ "") :
    ∃ cell : Cell, H[ad o]? = some cell ∧ cell.vm.isStatics = false ∧ s.vm.findClass (rcN b) = some cell.cls := by
  rcases ho with ⟨rfl, ho⟩ | ⟨ho, hk, hk2⟩
  · unfold rk at hr ⊢
    by_cases h : 1000 ≤ o ∧ o < 1019
    · rw [if_pos h] at hr ⊢
      have hE := (RO.agree ha hRO0).1
      have h2 := vk_recv hE (i := o - 1000) (by omega) hS
      have eo : 1000 + (o - 1000) = o := by omega
      rw [eo] at h2
      exact h2
    · rw [if_neg h] at hr ⊢
      have hlt : (sh o).1 < 20 := by
        rcases Nat.lt_or_ge (sh o).1 20 with q | q
        · exact q
        · refine absurd ?_ hr
          unfold rcN
          rw [if_neg ?_]
          · rw [List.getElem?_eq_none (by simp [vwCl]; omega)]
            rfl
          · intro e
            have ho2 : o < NC := sh_lt (by omega)
            have hm : sh o ∈ shL := by
              unfold sh
              rw [List.getD_eq_getElem?_getD, List.getElem?_eq_getElem (by rw [shAll.1]; exact ho2)]
              exact List.getElem_mem _
            have h9 : shL.all (fun s => !decide (s.1 = 25)) = true := by decide +kernel
            have := List.all_eq_true.mp h9 _ hm
            rw [e] at this
            cases this
      obtain ⟨-, q, hq, -⟩ := sh_cls hlt
      obtain ⟨cell, h1, h2, h3⟩ := va_recv hK hP (ci := (sh o).1) (q0 := ps o) (fs := (List.range (sh o).2.1).map (fld ad D o (sh o).2.2)) hq (by rw [ws_get (okSt rfl (by omega)), cell_obj hlt])
      refine ⟨cell, h1, h2, ?_⟩
      unfold rcN
      rw [if_neg (by omega), hq]
      exact h3
  · obtain ⟨h9, q, hq, hn⟩ := kd_obj hW ho hk2
    obtain ⟨cell, h1, h2, h3⟩ := va_recv hK hP (ci := kd D o) (q0 := ps o) (fs := (List.range (nF (kd D o))).map (dfl ad D o (kd D o))) hq (by rw [ws_get (Or.inr ho), cell_dobj ⟨ho, rfl⟩ (by omega) (by omega)])
    refine ⟨cell, h1, h2, ?_⟩
    unfold kb at hk
    by_cases e : b = 25
    · subst e
      rw [if_pos rfl] at hk
      rw [hk] at hq
      cases hq
      exact h3
    · rw [if_neg e] at hk
      unfold rcN
      rw [if_neg e, ← hk, hq]
      exact h3
set_option maxHeartbeats 4000000 in
theorem snd_stat {p : Program} {l : Launch} {e : Env} {R : Room} {c0 s0 : Nat} {s : State} {m : MethodId} {args : Array Value} {below : List Frame} {meth : Method} {c : Code} {G : Gp} {d k : Nat} {A : Nat → Prop} {ad0 : Nat → Nat} {D0 : Mm} {Qf : State → Prop} {D1 : Mm} (IH : Snd l G d) (hd1 : ∀ b a D Q, Ct d b a D Q → 1 ≤ d) (hR : RmOK R d c0 s0 (pot D1 - pot D0)) (hA : ∀ q : Nat, s.heap.size ≤ q → A q) (hk : k < mnames + 1)
    (hx : p.tables.exec = Jvm.exec) (hb : c.code = nB k) (hml : c.maxLocals = nL k) (hown : s.vm.findClass (cN (nO k)) = some m.cls) (htT : ∀ w ∈ Tall, w.before args s = true)
    (hK : va_K G.1 vwCl (tysA G.2.1) s) (hRO0 : RO ad0 G.2.2 A s s.heap) (hSX0 : SX ad0 (D0 4000) A s s.heap)
    {pc : Nat} {ls st : List Value} {D : Mm} {idx a b cc dd : Nat}
    (hi : ins k pc = some (.invokestatic idx, a, b, cc, dd)) (h : b < mnames ∧ cc = 1 ∧ callA (Ct d) b ls st D (fun st2 D1x => PS p l e R c0 s0 s m args below meth c G k A ad0 D0 Qf D1 (pc + 3) ls st2 D1x)) : PS p l e R c0 s0 s m args below meth c G k A ad0 D0 Qf D1 pc ls st D := by
  obtain ⟨hbm, hcc, hn, hnr0, h8, hrecv, h⟩ := h
  have hnr : ∀ v, v ∈ st.drop (nA b) → nvV D v := fun v hv => (hnr0 v hv).1
  have hc1 : ∀ v, v ∈ st.drop (nA b) → c1B v = true := fun v hv => (hnr0 v hv).2
  have hf : G.2.2.category = 1 := hRO0.2.2.2.2.2.2.2.2
  obtain ⟨r, D2, ⟨hnl, hnext⟩, hp2, hC⟩ := Ct_exact d _ _ _ _ h
  have hd := hd1 _ _ _ _ hC
  obtain ⟨m1, m2, m3, m4, m6, m7, m8, m9, m10⟩ := mfact hbm
  obtain ⟨hlink, -, g1, -⟩ := call_fact hk hbm (Or.inr (Or.inl rfl)) hi
  have hlink := hlink (by omega)
  have hst := g1 hcc
  rw [if_pos hst] at m2 m6
  refine ⟨Nat.le_trans hp2.1 hnext.1, fun H locs ad lsA ha hP hD hS hl hp hz hw => ?_⟩
  have hM := IH b ((st.take (nA b)).reverse) D r D2 ad H.size hC
  have hpre := MP_pre (as := ((st.take (nA b)).reverse).map (cv ad G.2.2)) hP hK hD hS hA (RO.agree ha hRO0) hw (by rw [hp.2.2]; exact SX.agree ha hSX0)
  have hpd : pot D2 ≤ pot D1 := hnext.1
  have q1 := hp.1
  have q2 := hp2.1
  have hroom : c0 + (pot D - pot D0) + (pot D2 - pot D) ≤ R.cells ∧ s0 + 2 * (pot D - pot D0) + 2 * (pot D2 - pot D) ≤ R.slots := by
    obtain ⟨-, -, r3, r4⟩ := hR
    exact ⟨by omega, by omega⟩
  refine call_arm (As := (((st.take (nA b)).reverse).map (cv ad G.2.2)).toArray) hA ha hD hS hl hp hz hp2 hnl hnr ?_ hnext
  refine va_runS (As := ((st.take (nA b)).reverse).map (cv ad G.2.2)) (n := nA b) (y := nY b) (bytes := nB b) (maxL := nL b) (ret := nR b) ⟨hx, hb, hml, hown, htT⟩ hM ?_ ⟨MP_blind, hpre⟩ rfl (by simp; omega) hl.1 ?_ (lv_room (cat_le hf hc1 h8)) (ins_d hk hi rfl) hroom
  · refine ⟨callB_of (nA b) htT (goodT (wsm_in hbm)) rfl rfl rfl (htT _ m1) (htT _ hlink) ⟨m4.1, m4.2, m6⟩ (rm_ok hd m9 hR), htT _ m2⟩
  · show st.map (cv ad G.2.2) = _
    rw [← List.map_reverse, List.reverse_reverse, ← List.map_append, List.take_append_drop]
set_option maxHeartbeats 4000000 in
theorem snd_virt {p : Program} {l : Launch} {e : Env} {R : Room} {c0 s0 : Nat} {s : State} {m : MethodId} {args : Array Value} {below : List Frame} {meth : Method} {c : Code} {G : Gp} {d k : Nat} {A : Nat → Prop} {ad0 : Nat → Nat} {D0 : Mm} {Qf : State → Prop} {D1 : Mm} (IH : Snd l G d) (hd1 : ∀ b a D Q, Ct d b a D Q → 1 ≤ d) (hR : RmOK R d c0 s0 (pot D1 - pot D0)) (hA : ∀ q : Nat, s.heap.size ≤ q → A q) (hk : k < mnames + 1)
    (hx : p.tables.exec = Jvm.exec) (hb : c.code = nB k) (hml : c.maxLocals = nL k) (hown : s.vm.findClass (cN (nO k)) = some m.cls) (htT : ∀ w ∈ Tall, w.before args s = true)
    (hK : va_K G.1 vwCl (tysA G.2.1) s) (hRO0 : RO ad0 G.2.2 A s s.heap) (hSX0 : SX ad0 (D0 4000) A s s.heap)
    {pc : Nat} {ls st : List Value} {D : Mm} {idx a b cc dd : Nat}
    (hi : ins k pc = some (.invokevirtual idx, a, b, cc, dd)) (h : b < mnames ∧ (cc = 0 ∨ cc = 2 ∨ cc = 6) ∧ callA (Ct d) b ls st D (fun st2 D1x => PS p l e R c0 s0 s m args below meth c G k A ad0 D0 Qf D1 (pc + 3) ls st2 D1x)) : PS p l e R c0 s0 s m args below meth c G k A ad0 D0 Qf D1 pc ls st D := by
  obtain ⟨hbm, hcc, hn, hnr0, h8, hrecv, h⟩ := h
  have hnr : ∀ v, v ∈ st.drop (nA b) → nvV D v := fun v hv => (hnr0 v hv).1
  have hc1 : ∀ v, v ∈ st.drop (nA b) → c1B v = true := fun v hv => (hnr0 v hv).2
  have hf : G.2.2.category = 1 := hRO0.2.2.2.2.2.2.2.2
  obtain ⟨r, D2, ⟨hnl, hnext⟩, hp2, hC⟩ := Ct_exact d _ _ _ _ h
  have hd := hd1 _ _ _ _ hC
  obtain ⟨m1, m2, m3, m4, m6, m7, m8, m9, m10⟩ := mfact hbm
  obtain ⟨hlink, g0, -, g2, -, -, g6⟩ := call_fact hk hbm (Or.inl rfl) hi
  have hst : nS b = 0 := by
    rcases hcc with q | q | q
    · exact (g0 q).1
    · exact (g2 q).1
    · exact (g6 q).1
  rw [if_neg (by omega)] at m2 m6
  obtain ⟨o, ho, hrk⟩ := hrecv hst
  obtain ⟨As, hAs, hAl, hspl⟩ := st_split hn (by omega) ho
  refine ⟨Nat.le_trans hp2.1 hnext.1, fun H locs ad lsA ha hP hD hS hl hp hz hw => ?_⟩
  have hM := IH b ((st.take (nA b)).reverse) D r D2 ad H.size hC
  have hpre := MP_pre (as := ((st.take (nA b)).reverse).map (cv ad G.2.2)) hP hK hD hS hA (RO.agree ha hRO0) hw (by rw [hp.2.2]; exact SX.agree ha hSX0)
  have hpd : pot D2 ≤ pot D1 := hnext.1
  have q1 := hp.1
  have q2 := hp2.1
  have hroom : c0 + (pot D - pot D0) + (pot D2 - pot D) ≤ R.cells ∧ s0 + 2 * (pot D - pot D0) + 2 * (pot D2 - pot D) ≤ R.slots := by
    obtain ⟨-, -, r3, r4⟩ := hR
    exact ⟨by omega, by omega⟩
  rw [hAs] at hM hpre
  refine call_arm (As := (Value.ref (ad o) :: As.map (cv ad G.2.2)).toArray) hA ha hD hS hl hp hz hp2 hnl hnr ?_ hnext
  have hstk : (F0 m pc lsA (st.map (cv ad G.2.2))).stack = (As.map (cv ad G.2.2)).reverse ++ .ref (ad o) :: (st.drop (nA b)).map (cv ad G.2.2) := by
    show st.map (cv ad G.2.2) = _
    conv => lhs; rw [hspl]
    rw [List.map_append, List.map_reverse]
    rfl
  rcases hcc with hcc | hcc | hcc
  · have hlink := hlink (by omega)
    obtain ⟨-, g5, g7⟩ := g0 hcc
    have hcell := recv_ok ha hK hRO0 hP hS hw hrk (by rw [g5]; exact clsne hbm)
    rw [g5] at hcell
    refine va_runV (As := As.map (cv ad G.2.2)) (n := nA b - 1) (y := nY b) (bytes := nB b) (maxL := nL b) (ret := nR b) (C := (nY b).cls) ⟨hx, hb, hml, hown, htT⟩ hM ?_ ⟨MP_blind, hcell, hpre⟩ rfl (by simp; omega) hl.1 hstk (lv_room (cat_le hf hc1 h8)) (ins_d hk hi rfl) hroom
    refine cwV (nA b - 1) htT (goodT ?_) rfl rfl rfl ⟨rfl, m4.1, m4.2, m6⟩ (rm_ok hd m9 hR)
    intro w hw
    unfold wsV at hw
    simp only [List.cons_append, List.nil_append, List.mem_cons] at hw
    rcases hw with rfl | rfl | rfl | rfl | hw
    · exact hlink
    · exact m2
    · exact g7
    · exact m1
    · exact wsm_in hbm w (by simpa using hw)
  · have hlink := hlink (by omega)
    obtain ⟨-, g5, g7, g8⟩ := g2 hcc
    have hcell := recv_ok ha hK hRO0 hP hS hw hrk (by rw [g5]; decide)
    rw [g5] at hcell
    refine va_runU (As := As.map (cv ad G.2.2)) (n := nA b - 1) (x := nY b) (y := nY b) (owner := (nY b).cls) (bytes := nB b) (maxL := nL b) (ret := nR b) (C := "java/lang/StringBuilder") ⟨hx, hb, hml, hown, htT⟩ hM ?_ ⟨MP_blind, hcell, hpre⟩ rfl (by simp; omega) hl.1 hstk (lv_room (cat_le hf hc1 h8)) (ins_d hk hi rfl) hroom
    refine va_cwU (nA b - 1) htT (goodT ?_) rfl rfl rfl rfl ⟨m4.1, m4.2, m6⟩ (rm_ok hd m9 hR)
    intro w hw
    unfold va_wsU at hw
    simp only [List.cons_append, List.nil_append, List.mem_cons] at hw
    rcases hw with rfl | rfl | rfl | rfl | rfl | hw
    · exact hlink
    · exact g8
    · exact g7
    · exact m2
    · exact m1
    · exact wsm_in hbm w (by simpa using hw)
  · obtain ⟨-, g5, g7, g8, g9, gl, gs, gm⟩ := g6 hcc
    have hcell := recv_ok ha hK hRO0 hP hS hw hrk (by rw [g5]; decide)
    rw [g5] at hcell
    obtain ⟨-, n2, -, -, -, -, -, -, -⟩ := mfact g8
    rw [if_neg (by omega), g7] at n2
    have hcd := codeIn (k6 b) g8
    rw [g7] at hcd
    refine va_runU (As := As.map (cv ad G.2.2)) (n := nA b - 1) (x := ⟨"java/lang/AbstractStringBuilder", (nY b).name, (nY b).desc⟩) (y := nY b) (owner := "java/lang/AbstractStringBuilder") (bytes := nB b) (maxL := nL b) (ret := nR b) (C := "java/lang/StringBuilder") ⟨hx, hb, hml, hown, htT⟩ hM ?_ ⟨MP_blind, hcell, hpre⟩ rfl (by simp; omega) hl.1 hstk (lv_room (cat_le hf hc1 h8)) (ins_d hk hi rfl) hroom
    refine va_cwO (nA b - 1) htT (goodT ?_) rfl rfl rfl hcd ⟨by decide, by decide, m6⟩ (rm_ok hd m9 hR)
    intro w hw
    unfold va_wsO at hw
    simp only [List.cons_append, List.nil_append, List.mem_cons] at hw
    rcases hw with rfl | rfl | rfl | rfl | rfl | rfl | hw
    · exact gl
    · exact gm
    · exact n2
    · exact gs
    · exact m2
    · exact m1
    · exact wsm_in hbm w (by simpa using hw)
set_option maxHeartbeats 4000000 in
theorem snd_spec {p : Program} {l : Launch} {e : Env} {R : Room} {c0 s0 : Nat} {s : State} {m : MethodId} {args : Array Value} {below : List Frame} {meth : Method} {c : Code} {G : Gp} {d k : Nat} {A : Nat → Prop} {ad0 : Nat → Nat} {D0 : Mm} {Qf : State → Prop} {D1 : Mm} (IH : Snd l G d) (hd1 : ∀ b a D Q, Ct d b a D Q → 1 ≤ d) (hR : RmOK R d c0 s0 (pot D1 - pot D0)) (hA : ∀ q : Nat, s.heap.size ≤ q → A q) (hk : k < mnames + 1)
    (hx : p.tables.exec = Jvm.exec) (hb : c.code = nB k) (hml : c.maxLocals = nL k) (hown : s.vm.findClass (cN (nO k)) = some m.cls) (htT : ∀ w ∈ Tall, w.before args s = true)
    (hK : va_K G.1 vwCl (tysA G.2.1) s) (hRO0 : RO ad0 G.2.2 A s s.heap) (hSX0 : SX ad0 (D0 4000) A s s.heap)
    {pc : Nat} {ls st : List Value} {D : Mm} {idx a b cc dd : Nat}
    (hi : ins k pc = some (.invokespecial idx, a, b, cc, dd)) (h : b < mnames ∧ (cc = 3 ∨ cc = 4) ∧ callA (Ct d) b ls st D (fun st2 D1x => PS p l e R c0 s0 s m args below meth c G k A ad0 D0 Qf D1 (pc + 3) ls st2 D1x)) : PS p l e R c0 s0 s m args below meth c G k A ad0 D0 Qf D1 pc ls st D := by
  obtain ⟨hbm, hcc, hn, hnr0, h8, hrecv, h⟩ := h
  have hnr : ∀ v, v ∈ st.drop (nA b) → nvV D v := fun v hv => (hnr0 v hv).1
  have hc1 : ∀ v, v ∈ st.drop (nA b) → c1B v = true := fun v hv => (hnr0 v hv).2
  have hf : G.2.2.category = 1 := hRO0.2.2.2.2.2.2.2.2
  obtain ⟨r, D2, ⟨hnl, hnext⟩, hp2, hC⟩ := Ct_exact d _ _ _ _ h
  have hd := hd1 _ _ _ _ hC
  obtain ⟨m1, m2, m3, m4, m6, m7, m8, m9, m10⟩ := mfact hbm
  obtain ⟨hlink, -, -, -, g3, g4, -⟩ := call_fact hk hbm (Or.inr (Or.inr rfl)) hi
  have hlink := hlink (by rcases hcc with q | q <;> (rw [q]; decide))
  have hst : nS b = 0 := by
    rcases hcc with q | q
    · exact (g3 q).1
    · exact (g4 q).1
  rw [if_neg (by omega)] at m2 m6
  obtain ⟨o, ho, hrk⟩ := hrecv hst
  obtain ⟨As, hAs, hAl, hspl⟩ := st_split hn (by omega) ho
  refine ⟨Nat.le_trans hp2.1 hnext.1, fun H locs ad lsA ha hP hD hS hl hp hz hw => ?_⟩
  have hM := IH b ((st.take (nA b)).reverse) D r D2 ad H.size hC
  have hpre := MP_pre (as := ((st.take (nA b)).reverse).map (cv ad G.2.2)) hP hK hD hS hA (RO.agree ha hRO0) hw (by rw [hp.2.2]; exact SX.agree ha hSX0)
  have hpd : pot D2 ≤ pot D1 := hnext.1
  have q1 := hp.1
  have q2 := hp2.1
  have hroom : c0 + (pot D - pot D0) + (pot D2 - pot D) ≤ R.cells ∧ s0 + 2 * (pot D - pot D0) + 2 * (pot D2 - pot D) ≤ R.slots := by
    obtain ⟨-, -, r3, r4⟩ := hR
    exact ⟨by omega, by omega⟩
  rw [hAs] at hM hpre
  refine call_arm (As := (Value.ref (ad o) :: As.map (cv ad G.2.2)).toArray) hA ha hD hS hl hp hz hp2 hnl hnr ?_ hnext
  have hstk : (F0 m pc lsA (st.map (cv ad G.2.2))).stack = (As.map (cv ad G.2.2)).reverse ++ .ref (ad o) :: (st.drop (nA b)).map (cv ad G.2.2) := by
    show st.map (cv ad G.2.2) = _
    conv => lhs; rw [hspl]
    rw [List.map_append, List.map_reverse]
    rfl
  rcases hcc with hcc | hcc
  · obtain ⟨-, g5, g7, g8, g9⟩ := g3 hcc
    have hcell := recv_ok ha hK hRO0 hP hS hw hrk (by rw [g5]; decide)
    rw [g5] at hcell
    refine va_runSU (As := As.map (cv ad G.2.2)) (n := nA b - 1) (y := nY b) (bytes := nB b) (maxL := nL b) (ret := nR b) (C := "java/lang/StringBuilder") (hK.1 0 _ rfl).2 ⟨hx, hb, hml, hown, htT⟩ hM ?_ ⟨MP_blind, hcell, hpre⟩ rfl (by simp; omega) hl.1 hstk (lv_room (cat_le hf hc1 h8)) (ins_d hk hi rfl) hroom
    refine va_cwSU (nA b - 1) htT (goodT ?_) rfl rfl rfl ⟨g9, m6⟩ (rm_ok hd m9 hR)
    intro w hw
    unfold va_wsSU at hw
    simp only [List.cons_append, List.nil_append, List.mem_cons] at hw
    rcases hw with rfl | rfl | rfl | rfl | rfl | hw
    · exact hlink
    · exact g7
    · exact g8
    · exact m2
    · exact m1
    · exact wsm_in hbm w (by simpa using hw)
  · obtain ⟨-, g5, g7⟩ := g4 hcc
    have hM : Met l (nY b) (Cond.code (nY b) (nB b) (nL b) none :: Tall) (rmD (d - 1) (pot D2 - pot D)) (va_Pc ((Value.ref o :: As).map (cv ad G.2.2)) (MP G ad D H.size)) (MC G ad D H.size r D2) (pot D2 - pot D) (2 * (pot D2 - pot D)) (va_A (wsOf G.2.1 ad D) H.size) := by rw [← g7]; exact hM
    have hci := codeIn b hbm
    rw [g7] at hci
    refine va_runI (As := As.map (cv ad G.2.2)) (n := nA b - 1) (y := nY b) (bytes := nB b) (maxL := nL b) ⟨hx, hb, hml, hown, htT⟩ hM ?_ ⟨MP_blind, hpre⟩ rfl (by simp; omega) hl.1 hstk (lv_room (cat_le hf hc1 h8)) (ins_d hk hi rfl) hroom
    refine ⟨callB_of (nA b - 1) htT (goodT ?_) rfl rfl rfl (htT _ m1) (htT _ hlink) ⟨m4.1, m4.2, m6⟩ (rm_ok hd m9 hR), g5, htT _ m2⟩
    intro w hw
    rcases List.mem_cons.mp hw with e9 | e9
    · rw [e9]; exact hci
    · exact e9
theorem zw_a_int : Cond.arrayClass .int ∈ Tall := atT_in (i := 3085) (by decide +kernel)
theorem zw_a_boolean : Cond.arrayClass .boolean ∈ Tall := atT_in (i := 3132) (by decide +kernel)
theorem zw_a_byte : Cond.arrayClass .byte ∈ Tall := atT_in (i := 4012) (by decide +kernel)
theorem zw_oI : Cond.instanceMethod objectInit ∈ Tall := atT_in (i := 3027) (by decide +kernel)
theorem zw_oC : Cond.code objectInit ⟨#[0xb1]⟩ 1 none ∈ Tall := atT_in (i := 3028) (by decide +kernel)
theorem zw_sAC : Cond.static arraycopyName ∈ Tall := atT_in (i := 5173) (by decide +kernel)
theorem zw_nAC : Cond.native arraycopyName ∈ Tall := atT_in (i := 5174) (by decide +kernel)
theorem zw_iSys : Cond.initialized "java/lang/System" ∈ Tall := atT_in (i := 3018) (by decide +kernel)
theorem zw_kSame : Cond.sameMethod "[B" "java/lang/Object" "clone" "()Ljava/lang/Object;" ∈ Tall := atT_in (i := 5165) (by decide +kernel)
theorem zw_kNat : Cond.native ⟨"java/lang/Object", "clone", "()Ljava/lang/Object;"⟩ ∈ Tall := atT_in (i := 5166) (by decide +kernel)
theorem zw_kIns : Cond.instanceMethod ⟨"java/lang/Object", "clone", "()Ljava/lang/Object;"⟩ ∈ Tall := atT_in (i := 5167) (by decide +kernel)
theorem zw_kSel : Cond.selects "[B" ⟨"[B", "clone", "()Ljava/lang/Object;"⟩ ⟨"java/lang/Object", "clone", "()Ljava/lang/Object;"⟩ ∈ Tall := atT_in (i := 5168) (by decide +kernel)
set_option maxHeartbeats 4000000 in
theorem snd_cpy {p : Program} {l : Launch} {e : Env} {R : Room} {c0 s0 : Nat} {s : State} {m : MethodId} {args : Array Value} {below : List Frame} {meth : Method} {c : Code} {G : Gp} {d k : Nat} {A : Nat → Prop} {ad0 : Nat → Nat} {D0 : Mm} {Qf : State → Prop} {D1 : Mm} (hR : RmOK R d c0 s0 (pot D1 - pot D0)) (hA : ∀ q : Nat, s.heap.size ≤ q → A q) (hk : k < mnames + 1)
    (hx : p.tables.exec = Jvm.exec) (hb : c.code = nB k) (hml : c.maxLocals = nL k) (hown : s.vm.findClass (cN (nO k)) = some m.cls) (htT : ∀ w ∈ Tall, w.before args s = true)
    (hK : va_K G.1 vwCl (tysA G.2.1) s) (hRO0 : RO ad0 G.2.2 A s s.heap) (hSX0 : SX ad0 (D0 4000) A s s.heap)
    {pc : Nat} {ls st : List Value} {D : Mm} {idx a b cc dd : Nat}
    (hi : ins k pc = some (.invokestatic idx, a, b, cc, dd)) (hb9 : b = 998) (h : cpyA (PS p l e R c0 s0 s m args below meth c G k A ad0 D0 Qf D1) pc ls D st) : PS p l e R c0 s0 s m args below meth c G k A ad0 D0 Qf D1 pc ls st D := by
  have hf : G.2.2.category = 1 := hRO0.2.2.2.2.2.2.2.2
  unfold cpyA at h
  split at h
  · next n dp dst sp src r =>
    obtain ⟨y1, y2, y3, y4, y5, y6, y7, y8, y9, y9b, y10, h⟩ := h
    have hdd := y2.1.1
    have hpt : pot (cpD D src dst sp.toNatClampNeg dp.toNatClampNeg n.toNatClampNeg) = pot D := by
      unfold DB at hdd
      unfold pot cap usd
      rw [cp_ne (by omega), cp_ne (by omega), cp_ne (by omega)]
    have hle := leD_cp (D := D) (src := src) (sp := sp.toNatClampNeg) (dp := dp.toNatClampNeg) (n := n.toNatClampNeg) y2.1
    have hhi : ∀ j, 1000000 ≤ j → cpD D src dst sp.toNatClampNeg dp.toNatClampNeg n.toNatClampNeg dst j = D dst j := fun j hj => by
      show (if dst = dst then va_cpy _ _ _ _ _ _ else _) = _
      rw [if_pos rfl]
      exact pk_cpy_out (Or.inr (by omega))
    have hdy2 : dyn (cpD D src dst sp.toNatClampNeg dp.toNatClampNeg n.toNatClampNeg) dst 22 := ⟨⟨y2.1.1, by unfold nxt; rw [cp_ne (by unfold DB at hdd; omega)]; exact y2.1.2⟩, by unfold kd; rw [hhi _ (by decide)]; exact y2.2⟩
    have hcp2 : cap (cpD D src dst sp.toNatClampNeg dp.toNatClampNeg n.toNatClampNeg) dst = cap D dst := by unfold cap; rw [hhi _ (by decide)]
    refine ⟨by rw [← hpt]; exact h.1, fun H locs ad lsA ha hP hD hS hl hp hz hw => ?_⟩
    have hw2 : WFD (cpD D src dst sp.toNatClampNeg dp.toNatClampNeg n.toNatClampNeg) := hw.row (by unfold nxt; rw [cp_ne (by unfold DB at hdd; omega)]) (fun q hq => by
      by_cases e9 : q = dst
      · subst e9
        exact ⟨by unfold kd; rw [hhi _ (by decide)], fun hr => by rw [y2.2] at hr; cases hr⟩
      · unfold kd
        rw [cp_ne e9]
        exact ⟨rfl, fun _ => Or.inl rfl⟩)
    have hrow : cpD D src dst sp.toNatClampNeg dp.toNatClampNeg n.toNatClampNeg dst = va_cpy (csD D src) (D dst) sp.toNatClampNeg dp.toNatClampNeg n.toNatClampNeg := by
      funext j
      show (if dst = dst then _ else _) = _
      rw [if_pos rfl]
    have hset : (wsOf G.2.1 ad D).set (ps dst) (ad dst, .inl (G.2.1 2, cap D dst, .inl (va_cpy (csD D src) (D dst) sp.toNatClampNeg dp.toNatClampNeg n.toNatClampNeg))) = wsOf G.2.1 ad (cpD D src dst sp.toNatClampNeg dp.toNatClampNeg n.toNatClampNeg) :=
      ws_set (okD y2) (by unfold nxt; rw [cp_ne (by unfold DB at hdd; omega)]) (fun z hz9 => cp_ne hz9) (by rw [cell_dbyte hdy2, hcp2, hrow])
    have hnext : ∀ (H1 : Heap) (locs1 : List Loc), va_P G.1 vwCl ((wsOf G.2.1 ad D).set (ps dst) (ad dst, .inl (G.2.1 2, cap D dst, .inl (va_cpy (csD D src) (D dst) sp.toNatClampNeg dp.toNatClampNeg n.toNatClampNeg)))) H1 → va_D A ((wsOf G.2.1 ad D).set (ps dst) (ad dst, .inl (G.2.1 2, cap D dst, .inl (va_cpy (csD D src) (D dst) sp.toNatClampNeg dp.toNatClampNeg n.toNatClampNeg)))) → va_S A s.heap H1 locs1 →
        W p l e R s m args below meth c H1 locs1 (c0 + (pot D - pot D0)) (s0 + 2 * (pot D - pot D0)) Qf (F0 m (pc + 3) lsA (r.map (cv ad G.2.2))) := by
      intro H1 locs1 hP1 hD1 hS1
      rw [hset] at hP1 hD1
      have h9 := h.2 H1 locs1 ad lsA ha hP1 hD1 hS1 hl (leD.tr hp hle) (by rw [hpt]; exact hz) hw2
      rw [hpt] at h9
      exact h9
    have h3 := cat_le (ad := ad) hf y3 y4
    have hloc : ((r.map (cv ad G.2.2)).map fun v => v.category).sum + (nativeFrameWords "java/lang/System" "arraycopy" 5 + 11) ≤ R.locals := Nat.le_trans (Nat.add_le_add_right h3 _) (Nat.le_trans (Nat.le_of_ble_eq_true rfl : 8 + (nativeFrameWords "java/lang/System" "arraycopy" 5 + 11) ≤ 40) (by have := hR.2.1; omega))
    have hlk := htT _ (cpy_fact hk hb9 hi)
    rcases y1 with y1 | ⟨y1, y1b⟩
    · have e1 : csD D src = D src := by unfold csD; rw [if_neg (by have := y1.1.1; omega)]
      have e2 : csL D src = cap D src := by unfold csL; rw [if_neg (by have := y1.1.1; omega)]
      rw [e2] at y8
      rw [e1] at hnext y10
      exact va_copyi hx hb (hml.trans hl.1.symm) hown hlk (htT _ zw_nAC) (htT _ zw_sAC) (htT _ zw_iSys) hK hP hD hS (ps src) (ps dst) 2 2 (by rw [ws_get (okD y1), cell_dbyte y1]) (by rw [ws_get (okD y2), cell_dbyte y2]) rfl rfl rfl (by rw [Int32.not_lt, Int32.le_iff_toInt_le]; exact y5) (by rw [Int32.not_lt, Int32.le_iff_toInt_le]; exact y6) (by rw [Int32.not_lt, Int32.le_iff_toInt_le]; exact y7) y8 y9 y10 (by have := hR.1; omega) hloc (ins_d hk hi rfl) hnext
    · have e1 : csD D src = fun j => (roc src).getD j 0 := by unfold csD; rw [if_pos (show (src : Nat) < DB from Nat.lt_trans y1b (by decide))]
      have e2 : csL D src = (roc src).length := by unfold csL; rw [if_pos (show (src : Nat) < DB from Nat.lt_trans y1b (by decide))]
      rw [e2] at y8
      rw [e1] at hnext y10
      exact vk_copyt hx hb (hml.trans hl.1.symm) hown hlk (htT _ zw_nAC) (htT _ zw_sAC) (htT _ zw_iSys) hK hP hD hS (RO_arr (RO.agree ha hRO0) (Or.inl ⟨y1, y1b⟩)) (ps dst) 2 (by rw [ws_get (okD y2), cell_dbyte y2]) rfl (by rw [Int32.not_lt, Int32.le_iff_toInt_le]; exact y5) (by rw [Int32.not_lt, Int32.le_iff_toInt_le]; exact y6) (by rw [Int32.not_lt, Int32.le_iff_toInt_le]; exact y7) y8 y9 y10 (by have := hR.1; omega) hloc (ins_d hk hi rfl) hnext
  · exact h.elim
set_option maxHeartbeats 4000000 in
theorem snd_cln {p : Program} {l : Launch} {e : Env} {R : Room} {c0 s0 : Nat} {s : State} {m : MethodId} {args : Array Value} {below : List Frame} {meth : Method} {c : Code} {G : Gp} {d k : Nat} {A : Nat → Prop} {ad0 : Nat → Nat} {D0 : Mm} {Qf : State → Prop} {D1 : Mm} (hR : RmOK R d c0 s0 (pot D1 - pot D0)) (hA : ∀ q : Nat, s.heap.size ≤ q → A q) (hk : k < mnames + 1)
    (hx : p.tables.exec = Jvm.exec) (hb : c.code = nB k) (hml : c.maxLocals = nL k) (hown : s.vm.findClass (cN (nO k)) = some m.cls) (htT : ∀ w ∈ Tall, w.before args s = true)
    (hK : va_K G.1 vwCl (tysA G.2.1) s) (hRO0 : RO ad0 G.2.2 A s s.heap) (hSX0 : SX ad0 (D0 4000) A s s.heap)
    {pc : Nat} {ls st : List Value} {D : Mm} {idx a b cc dd : Nat}
    (hi : ins k pc = some (.invokevirtual idx, a, b, cc, dd)) (hb9 : b = 997) (h : clnA (PS p l e R c0 s0 s m args below meth c G k A ad0 D0 Qf D1) pc ls D st) : PS p l e R c0 s0 s m args below meth c G k A ad0 D0 Qf D1 pc ls st D := by
  have hf : G.2.2.category = 1 := hRO0.2.2.2.2.2.2.2.2
  unfold clnA at h
  split at h
  · next ar r =>
    obtain ⟨y1, y2, y3, y4, y4b, hls, hst0, hfit, h⟩ := h
    have hst : lsok D r := fun v hv => hst0 v (List.mem_cons_of_mem _ hv)
    have hpd := h.1
    rw [al_pot hfit] at hpd
    refine ⟨by omega, fun H locs ad lsA ha hP hD hS hl hp hz hw => ?_⟩
    have q1' := hp.1
    obtain ⟨r1, r2, r3, r4⟩ := hR
    have h3 := cat_le (ad := ad) hf y3 y4
    have hdy : dyn (alD D (D ar) (cap D ar)) (DB + nxt D) 22 := ⟨⟨by omega, by rw [al_nxt hfit]; omega⟩, by unfold kd; rw [al_new]; exact y1.2⟩
    have hcp : cap (alD D (D ar) (cap D ar)) (DB + nxt D) = cap D ar := by unfold cap; rw [al_new]
    refine va_clone (x := (cap D ar, .inl (D ar))) (ty := .byte) hx hb (hml.trans hl.1.symm) hown (htT _ (cln_fact hk hb9 hi)) (htT _ zw_kSame) (htT _ zw_kNat) (htT _ zw_kIns) (htT _ zw_kSel) hSX0.2.2.2 hK hP hD hS hA (ps ar) 2 (cA := G.2.1 2) (by rw [ws_get (okD y1), cell_dbyte y1]) rfl (hK.2 2 (G.2.1 2, .byte) rfl).2 (fun i v hv => ?_) (by omega) (by omega) (by omega) (by show _ + cap D ar ≤ _; omega) (ins_d hk hi rfl) (fun q H1 hK1 hP1 hD1 hS1 => ?_)
    · have hv : (arrV (G.2.1 2) (cap D ar) (fun j => Value.int (D ar j))).slots[i]? = some v := hv
      unfold arrV at hv
      rw [Array.getElem?_ofFn] at hv
      split at hv
      · next hi9 => cases hv; exact y2 i hi9
      · cases hv
    · skip
      have hadA : agreeA (nxt D) ad (fun z => if z = DB + nxt D then q else ad z) := fun z hz9 => if_neg (by omega)
      have hws : wsOf G.2.1 (fun z => if z = DB + nxt D then q else ad z) (alD D (D ar) (cap D ar)) = wsOf G.2.1 ad D ++ [(q, .inl (G.2.1 2, cap D ar, .inl (D ar)))] := ws_al hw hfit hadA (if_pos rfl) (by rw [cell_dbyte hdy, hcp, al_new])
      rw [← hws] at hP1 hD1
      have hle := leD_al (f := (D ar)) hfit
      have hpa := al_pot (f := (D ar)) hfit
      have q1 := hp.1
      have h9 := h.2 H1 locs (fun z => if z = DB + nxt D then q else ad z) lsA (agree.tr ha hadA.a hp.2.1) hP1 hD1 hS1 (hl.agreeA hadA hls) (leD.tr hp hle) (fun e9 => by omega) (hw.al hfit (by have := y1.2; unfold kd at this; rw [this]; decide) (fun z => by have := y1.2; unfold kd at this; rw [this] at z; cases z))
      have e1 : (Value.ref (DB + nxt D) :: r : List Value).map (cv (fun z => if z = DB + nxt D then q else ad z) G.2.2) = Value.ref q :: (r : List Value).map (cv ad G.2.2) := by
        rw [List.map_cons, show cv (fun z => if z = DB + nxt D then q else ad z) G.2.2 (.ref (DB + nxt D)) = Value.ref q from congrArg Value.ref (if_pos rfl)]
        exact congrArg _ (List.map_congr_left (fun v hv => cv_agreeA hadA (hst v hv)))
      rw [e1] at h9
      exact W.widen (by omega) (by omega) h9
  · exact h.elim
set_option maxHeartbeats 8000000 in
theorem snd_step {p : Program} {l : Launch} {e : Env} {R : Room} {c0 s0 : Nat} {s : State} {m : MethodId} {args : Array Value} {below : List Frame} {meth : Method} {c : Code} {G : Gp} {d k : Nat} {A : Nat → Prop} {ad0 : Nat → Nat} {D0 : Mm} {Qf : State → Prop} {D1 : Mm} (IH : Snd l G d) (hd1 : ∀ b a D Q, Ct d b a D Q → 1 ≤ d) (hR : RmOK R d c0 s0 (pot D1 - pot D0)) (hA : ∀ q : Nat, s.heap.size ≤ q → A q) (hk : k < mnames + 1)
    (hx : p.tables.exec = Jvm.exec) (hb : c.code = nB k) (hml : c.maxLocals = nL k) (hown : s.vm.findClass (cN (nO k)) = some m.cls) (htT : ∀ w ∈ Tall, w.before args s = true)
    (hK : va_K G.1 vwCl (tysA G.2.1) s) (hRO0 : RO ad0 G.2.2 A s s.heap) (hSX0 : SX ad0 (D0 4000) A s s.heap)
    (hnmI : (nY k).name = "<init>" → meth.name = "<init>") {Qr : Option Value → Mm → Prop} (hret : ∀ (pc : Nat) (ls st : List Value) (D : Mm) (i : Instr) (a b cc dd : Nat), ins k pc = some (i, a, b, cc, dd) → (i = .ireturn ∨ i = .areturn ∨ i = .return_ ∨ i = .dreturn ∨ i = .freturn) → Step (Ct d) k Qr (PS p l e R c0 s0 s m args below meth c G k A ad0 D0 Qf D1) pc ls st D → PS p l e R c0 s0 s m args below meth c G k A ad0 D0 Qf D1 pc ls st D)
    (pc : Nat) (ls st : List Value) (D : Mm) (h : Step (Ct d) k Qr (PS p l e R c0 s0 s m args below meth c G k A ad0 D0 Qf D1) pc ls st D) : PS p l e R c0 s0 s m args below meth c G k A ad0 D0 Qf D1 pc ls st D := by
  have hf : G.2.2.category = 1 := hRO0.2.2.2.2.2.2.2.2
  cases hi : ins k pc with
  | none => unfold Step at h; rw [hi] at h; exact h.elim
  | some e0 =>
    obtain ⟨i, a, b, cc, dd⟩ := e0
    unfold Step at h
    rw [hi] at h
    cases i
    case iconst =>
      refine ⟨h.1, fun H locs ad lsA ha hP hD hS hl hp hz hw => ?_⟩
      exact lv_iconst hx hb (ins_d hk hi rfl) rfl (h.2 H locs ad lsA ha hP hD hS hl hp hz hw)
    case bipush =>
      refine ⟨h.1, fun H locs ad lsA ha hP hD hS hl hp hz hw => ?_⟩
      exact lv_bipush hx hb (ins_d hk hi rfl) rfl (h.2 H locs ad lsA ha hP hD hS hl hp hz hw)
    case sipush =>
      refine ⟨h.1, fun H locs ad lsA ha hP hD hS hl hp hz hw => ?_⟩
      exact lv_sipush hx hb (ins_d hk hi rfl) rfl (h.2 H locs ad lsA ha hP hD hS hl hp hz hw)
    case goto =>
      refine ⟨h.1, fun H locs ad lsA ha hP hD hS hl hp hz hw => ?_⟩
      exact lv_goto hx hb (ins_d hk hi rfl) (tg_eq (of_decide_eq_true (jmp_ok hk hi))) (h.2 H locs ad lsA ha hP hD hS hl hp hz hw)
    case iload_n =>
      obtain ⟨v, e1, h⟩ := lI_spec h
      refine ⟨h.1, fun H locs ad lsA ha hP hD hS hl hp hz hw => ?_⟩
      exact lv_iload_n hx hb (ins_d hk hi rfl) rfl (hl.get e1 rfl) (h.2 H locs ad lsA ha hP hD hS hl hp hz hw)
    case iload =>
      obtain ⟨v, e1, h⟩ := lI_spec h
      refine ⟨h.1, fun H locs ad lsA ha hP hD hS hl hp hz hw => ?_⟩
      exact lv_iload hx hb (ins_d hk hi rfl) (hl.get e1 rfl) (h.2 H locs ad lsA ha hP hD hS hl hp hz hw)
    case aload_n =>
      obtain ⟨v, e1, h⟩ := lA_spec h
      refine ⟨h.1, fun H locs ad lsA ha hP hD hS hl hp hz hw => ?_⟩
      exact lv_aload_n hx hb (ins_d hk hi rfl) rfl (hl.get e1 rfl) (h.2 H locs ad lsA ha hP hD hS hl hp hz hw)
    case aload =>
      obtain ⟨v, e1, h⟩ := lA_spec h
      refine ⟨h.1, fun H locs ad lsA ha hP hD hS hl hp hz hw => ?_⟩
      exact lv_aload hx hb (ins_d hk hi rfl) (hl.get e1 rfl) (h.2 H locs ad lsA ha hP hD hS hl hp hz hw)
    case istore_n =>
      obtain ⟨v, r, rfl, h0, h⟩ := sI_spec h
      refine ⟨h.1, fun H locs ad lsA ha hP hD hS hl hp hz hw => ?_⟩
      exact lv_istore_n hx hb (ins_d hk hi rfl) rfl hl.has (by rw [← hl.2.2.1]; exact h0) rfl (fun lsB hB => h.2 H locs ad lsB ha hP hD hS (hl.set hf h0 rfl (by simp) hB) hp hz hw)
    case istore =>
      obtain ⟨v, r, rfl, h0, h⟩ := sI_spec h
      refine ⟨h.1, fun H locs ad lsA ha hP hD hS hl hp hz hw => ?_⟩
      exact lv_istore hx hb (ins_d hk hi rfl) hl.has (by rw [← hl.2.2.1]; exact h0) rfl (fun lsB hB => h.2 H locs ad lsB ha hP hD hS (hl.set hf h0 rfl (by simp) hB) hp hz hw)
    case astore_n =>
      obtain ⟨v, r, rfl, h0, h⟩ := sA_spec h
      refine ⟨h.1, fun H locs ad lsA ha hP hD hS hl hp hz hw => ?_⟩
      exact lv_astore_n hx hb (ins_d hk hi rfl) rfl hl.has (by rw [← hl.2.2.1]; exact h0) rfl (fun lsB hB => h.2 H locs ad lsB ha hP hD hS (hl.set hf h0 rfl (by simp) hB) hp hz hw)
    case astore =>
      obtain ⟨v, r, rfl, h0, h⟩ := sA_spec h
      refine ⟨h.1, fun H locs ad lsA ha hP hD hS hl hp hz hw => ?_⟩
      exact lv_astore hx hb (ins_d hk hi rfl) hl.has (by rw [← hl.2.2.1]; exact h0) rfl (fun lsB hB => h.2 H locs ad lsB ha hP hD hS (hl.set hf h0 rfl (by simp) hB) hp hz hw)
    case iinc x n =>
      obtain ⟨v, e1, h⟩ := lI_spec h
      have h0 : x < ls.length := (List.getElem?_eq_some_iff.mp e1).1
      refine ⟨h.1, fun H locs ad lsA ha hP hD hS hl hp hz hw => ?_⟩
      obtain ⟨kk, hkk⟩ := List.getElem?_of_mem (lpair_in (ad := ad) (fv := G.2.2) (q := (x, .int v)) |>.mpr ⟨_, e1, by simp, by simp, (fun z => by cases z), rfl⟩)
      exact lv_iinc hx hb (ins_d hk hi rfl) hl.has hkk rfl (by rw [← hl.2.2.1]; exact h0) rfl (fun lsB hB => h.2 H locs ad lsB ha hP hD hS (hl.set hf h0 rfl (by simp) hB) hp hz hw)
    case iadd =>
      obtain ⟨x, y, r, rfl, h⟩ := sII_spec h
      refine ⟨h.1, fun H locs ad lsA ha hP hD hS hl hp hz hw => ?_⟩
      exact lv_iadd hx hb (ins_d hk hi rfl) (h.2 H locs ad lsA ha hP hD hS hl hp hz hw)
    case isub =>
      obtain ⟨x, y, r, rfl, h⟩ := sII_spec h
      refine ⟨h.1, fun H locs ad lsA ha hP hD hS hl hp hz hw => ?_⟩
      exact lv_isub hx hb (ins_d hk hi rfl) (h.2 H locs ad lsA ha hP hD hS hl hp hz hw)
    case imul =>
      obtain ⟨x, y, r, rfl, h⟩ := sII_spec h
      refine ⟨h.1, fun H locs ad lsA ha hP hD hS hl hp hz hw => ?_⟩
      exact lv_imul hx hb (ins_d hk hi rfl) (h.2 H locs ad lsA ha hP hD hS hl hp hz hw)
    case iand =>
      obtain ⟨x, y, r, rfl, h⟩ := sII_spec h
      refine ⟨h.1, fun H locs ad lsA ha hP hD hS hl hp hz hw => ?_⟩
      exact lv_iand hx hb (ins_d hk hi rfl) (h.2 H locs ad lsA ha hP hD hS hl hp hz hw)
    case ior =>
      obtain ⟨x, y, r, rfl, h⟩ := sII_spec h
      refine ⟨h.1, fun H locs ad lsA ha hP hD hS hl hp hz hw => ?_⟩
      exact lv_ior hx hb (ins_d hk hi rfl) (h.2 H locs ad lsA ha hP hD hS hl hp hz hw)
    case ishr =>
      obtain ⟨x, y, r, rfl, h⟩ := sII_spec h
      refine ⟨h.1, fun H locs ad lsA ha hP hD hS hl hp hz hw => ?_⟩
      exact lv_ishr hx hb (ins_d hk hi rfl) (h.2 H locs ad lsA ha hP hD hS hl hp hz hw)
    case idiv =>
      obtain ⟨x, y, r, rfl, h0, h⟩ := sII_spec h
      refine ⟨h.1, fun H locs ad lsA ha hP hD hS hl hp hz hw => ?_⟩
      exact lv_idiv hx hb (ins_d hk hi rfl) h0 (h.2 H locs ad lsA ha hP hD hS hl hp hz hw)
    case irem =>
      obtain ⟨x, y, r, rfl, h0, h⟩ := sII_spec h
      refine ⟨h.1, fun H locs ad lsA ha hP hD hS hl hp hz hw => ?_⟩
      exact lv_irem hx hb (ins_d hk hi rfl) h0 (h.2 H locs ad lsA ha hP hD hS hl hp hz hw)
    case ineg =>
      obtain ⟨x, r, rfl, h⟩ := sI_spec h
      refine ⟨h.1, fun H locs ad lsA ha hP hD hS hl hp hz hw => ?_⟩
      exact lv_ineg hx hb (ins_d hk hi rfl) (h.2 H locs ad lsA ha hP hD hS hl hp hz hw)
    case i2b =>
      obtain ⟨x, r, rfl, h⟩ := sI_spec h
      refine ⟨h.1, fun H locs ad lsA ha hP hD hS hl hp hz hw => ?_⟩
      exact lv_i2b hx hb (ins_d hk hi rfl) rfl (h.2 H locs ad lsA ha hP hD hS hl hp hz hw)
    case i2c =>
      obtain ⟨x, r, rfl, h⟩ := sI_spec h
      refine ⟨h.1, fun H locs ad lsA ha hP hD hS hl hp hz hw => ?_⟩
      exact lv_i2c hx hb (ins_d hk hi rfl) rfl (h.2 H locs ad lsA ha hP hD hS hl hp hz hw)
    case dup =>
      match st, h with
      | v :: r, ⟨h0, h⟩ =>
        refine ⟨h.1, fun H locs ad lsA ha hP hD hS hl hp hz hw => ?_⟩
        exact lv_dup hx hb (ins_d hk hi rfl) (c1_cat hf h0) (h.2 H locs ad lsA ha hP hD hS hl hp hz hw)
    case pop =>
      match st, h with
      | v :: r, ⟨h0, h⟩ =>
        refine ⟨h.1, fun H locs ad lsA ha hP hD hS hl hp hz hw => ?_⟩
        exact lv_pop hx hb (ins_d hk hi rfl) (c1_cat hf h0) (h.2 H locs ad lsA ha hP hD hS hl hp hz hw)
    case dup_x1 =>
      match st, h with
      | v :: w :: r, ⟨h0, h1, h⟩ =>
        refine ⟨h.1, fun H locs ad lsA ha hP hD hS hl hp hz hw => ?_⟩
        exact lv_dup_x1 hx hb (ins_d hk hi rfl) (c1_cat hf h0) (c1_cat hf h1) (h.2 H locs ad lsA ha hP hD hS hl hp hz hw)
    case dup2 =>
      match st, h with
      | v :: w :: r, ⟨h0, h1, h⟩ =>
        refine ⟨h.1, fun H locs ad lsA ha hP hD hS hl hp hz hw => ?_⟩
        exact lv_dup2_11 hx hb (ins_d hk hi rfl) (c1_cat hf h0) (c1_cat hf h1) (h.2 H locs ad lsA ha hP hD hS hl hp hz hw)
    case ifCond cd off =>
      obtain ⟨x, r, rfl, hht, hhf⟩ := sI_spec h
      have hj := tg_eq (of_decide_eq_true (jmp_ok hk hi))
      refine ⟨(Classical.em (icmp cd x 0)).elim (fun q => (hht q).1) (fun q => (hhf q).1), fun H locs ad lsA ha hP hD hS hl hp hz hw => ?_⟩
      have k1 := fun q => (hht q).2 H locs ad lsA ha hP hD hS hl hp hz hw
      have k2 := fun q => (hhf q).2 H locs ad lsA ha hP hD hS hl hp hz hw
      cases cd
      case eq => exact lv_if_eq hx hb (ins_d hk hi rfl) hj k1 k2
      case ne => exact lv_if_ne hx hb (ins_d hk hi rfl) hj k1 (fun q => k2 (fun z => z q))
      case lt => exact lv_if_lt hx hb (ins_d hk hi rfl) hj k1 k2
      case ge => exact lv_if_ge hx hb (ins_d hk hi rfl) hj k1 k2
      case gt => exact lv_if_gt hx hb (ins_d hk hi rfl) hj k1 k2
      case le => exact lv_if_le hx hb (ins_d hk hi rfl) hj k1 k2
    case if_icmp cd off =>
      obtain ⟨x, y, r, rfl, hht, hhf⟩ := sII_spec h
      have hj := tg_eq (of_decide_eq_true (jmp_ok hk hi))
      refine ⟨(Classical.em (icmp cd x y)).elim (fun q => (hht q).1) (fun q => (hhf q).1), fun H locs ad lsA ha hP hD hS hl hp hz hw => ?_⟩
      have k1 := fun q => (hht q).2 H locs ad lsA ha hP hD hS hl hp hz hw
      have k2 := fun q => (hhf q).2 H locs ad lsA ha hP hD hS hl hp hz hw
      cases cd
      case eq => exact lv_icmp_eq hx hb (ins_d hk hi rfl) hj k1 k2
      case ne => exact lv_icmp_ne hx hb (ins_d hk hi rfl) hj k1 (fun q => k2 (fun z => z q))
      case lt => exact lv_icmp_lt hx hb (ins_d hk hi rfl) hj k1 k2
      case ge => exact lv_icmp_ge hx hb (ins_d hk hi rfl) hj k1 k2
      case gt => exact lv_icmp_gt hx hb (ins_d hk hi rfl) hj k1 k2
      case le => exact lv_icmp_le hx hb (ins_d hk hi rfl) hj k1 k2
    case tableswitch dv lo hv os =>
      obtain ⟨x, r, rfl, t, ht, h⟩ := sI_spec h
      refine ⟨h.1, fun H locs ad lsA ha hP hD hS hl hp hz hw => ?_⟩
      obtain ⟨L, hdec, -, hj⟩ := ins_dec hk hi
      simp only [jOK, Bool.and_eq_true, decide_eq_true_eq, List.all_eq_true] at hj
      unfold tsel at ht
      by_cases hq : x.toInt < lo ∨ hv < x.toInt
      · rw [if_pos hq] at ht
        cases ht
        exact lv_tableOut hx hb hdec hq (tg_eq hj.1) (h.2 H locs ad lsA ha hP hD hS hl hp hz hw)
      · rw [if_neg hq] at ht
        cases hof : os[(x.toInt - lo).toNat]? with
        | none => rw [hof] at ht; cases ht
        | some off =>
          rw [hof] at ht
          cases ht
          exact lv_tableIn hx hb hdec (fun z => hq (Or.inl z)) (fun z => hq (Or.inr z)) hof (tg_eq (hj.2 off (by
            have := Array.mem_of_getElem? hof
            exact this.val))) (h.2 H locs ad lsA ha hP hD hS hl hp hz hw)
    case getfield idx =>
      obtain ⟨o, r, rfl, h⟩ := sA_spec h
      have h : gfA _ b cc pc ls D o r := h
      unfold gfA at h
      rcases h with ⟨hdy, hkb, hcF, hb2, h⟩ | h
      · have hdl : ∀ ad : Nat → Nat, dfl ad D o (kb b) cc = cv ad G.2.2 (dvl D o (kb b) cc) := fun ad => by
          unfold dfl dvl rv
          by_cases h1 : rfB (kb b) cc = true
          · rw [if_pos h1, if_pos h1]
            by_cases h2 : DB ≤ (D o cc).toNatClampNeg
            · rw [if_pos h2, if_pos h2]; rfl
            · rw [if_neg h2, if_neg h2]; rfl
          · rw [if_neg h1, if_neg h1]; rfl
        have hne : kb b ≠ 20 ∧ kb b ≠ 22 := by omega
        have hget : ∀ (ad : Nat → Nat), (wsOf G.2.1 ad D)[ps o]? = some (ad o, .inr (kb b, (List.range (nF (kb b))).map (dfl ad D o (kb b)))) := fun ad => by rw [ws_get (okD hdy), cell_dobj hdy hne.1 hne.2]
        refine ⟨h.1, fun H locs ad lsA ha hP hD hS hl hp hz hw => ?_⟩
        have hfl : ((List.range (nF (kb b))).map (dfl ad D o (kb b)))[cc]? = some (cv ad G.2.2 (dvl D o (kb b) cc)) := by rw [ds_get hcF, hdl]
        by_cases hb25 : b = 25
        · obtain ⟨s1, s2⟩ := str_fact hk hb25 (Or.inl rfl) hi
          have hkb9 : kb b = 9 := by unfold kb; rw [if_pos hb25]
          obtain ⟨hq1, -⟩ := clsF 9 _ rfl
          have hlink : Cond.fieldLink (cN (nO k)) idx "java/lang/String" (TJ0 cc).2.1 (TJ0 cc).2.2.1 ∈ Tall := by
            have := hb2 hb25
            match cc, this, s1, s2 with
            | 0, _, s1, _ => exact s1 rfl
            | 1, _, _, s2 => exact s2 rfl
          have hsame : ∀ x, s.fieldFound? (TJ0 cc).1 (TJ0 cc).2.1 (TJ0 cc).2.2.1 = some x → s.fieldFound? "java/lang/String" (TJ0 cc).2.1 (TJ0 cc).2.2.1 = some x := fun x hx9 => by
            have := hb2 hb25
            match cc, this, hx9 with
            | 0, _, hx9 => exact hx9
            | 1, _, hx9 => exact hx9
          have hget2 := hget ad
          rw [hkb9] at hget2 hfl hcF
          have h9 := h.2 H locs ad lsA ha hP hD hS hl hp hz hw
          rw [hkb9] at h9
          exact va_get hx hb htT hq1 hown hK hP (ps o) hget2 rfl cc hcF (htT _ hlink) hsame hfl (ins_d hk hi rfl) h9
        · obtain ⟨q, hq, hcN, hlink, -⟩ := fld_fact hk (Or.inl rfl) hb25 hi
          have hkbb : kb b = b := by unfold kb; rw [if_neg hb25]
          obtain ⟨hq1, -⟩ := clsF b q hq
          have hget2 := hget ad
          rw [hkbb] at hget2 hfl
          have h9 := h.2 H locs ad lsA ha hP hD hS hl hp hz hw
          rw [hkbb] at h9
          exact va_get hx hb htT hq1 hown hK hP (ps o) hget2 hq cc hcN (htT _ hlink) (fun _ z => z) hfl (ins_d hk hi rfl) h9
      by_cases hb25 : b = 25
      · rw [if_pos hb25] at h
        obtain ⟨h0, h1, h⟩ := h
        obtain ⟨s1, s2⟩ := str_fact hk hb25 (Or.inl rfl) hi
        have eo : 1000 + (o - 1000) = o := by omega
        have eo2 : 2000 + (o - 1000) = o + 1000 := by omega
        by_cases hc : cc = 0
        · rw [if_pos hc] at h
          refine ⟨h.1, fun H locs ad lsA ha hP hD hS hl hp hz hw => ?_⟩
          have hE := ((RO.agree ha hRO0).1.1 (o - 1000) (by omega)).2.2.1
          dsimp only at hE
          rw [eo, eo2] at hE
          exact vk_getf hx hb hE hS hown (htT _ (s1 hc)) (fun _ z => z) (ins_d hk hi rfl) (h.2 H locs ad lsA ha hP hD hS hl hp hz hw)
        · rw [if_neg hc] at h
          obtain ⟨hc1, h⟩ := h
          refine ⟨h.1, fun H locs ad lsA ha hP hD hS hl hp hz hw => ?_⟩
          have hE := ((RO.agree ha hRO0).1.1 (o - 1000) (by omega)).2.1
          dsimp only at hE
          rw [eo] at hE
          exact vk_getf hx hb hE hS hown (htT _ (s2 hc1)) (fun _ z => z) (ins_d hk hi rfl) (h.2 H locs ad lsA ha hP hD hS hl hp hz hw)
      · rw [if_neg hb25] at h
        obtain ⟨h0, h⟩ := h
        obtain ⟨q, hq, hcN, hlink, -⟩ := fld_fact hk (Or.inl rfl) hb25 hi
        have hlt : b < 20 := by have h9 := (List.getElem?_eq_some_iff.mp hq).1; simp [vwCl] at h9; omega
        have hsh : (sh o).1 < 20 := by omega
        obtain ⟨hq1, -⟩ := clsF b q hq
        obtain ⟨hlen, q2, hq2, hN⟩ := sh_cls hsh
        rw [h0, hq] at hq2
        cases hq2
        have hget : ∀ (ad : Nat → Nat), (wsOf G.2.1 ad D)[ps o]? = some (ad o, .inr (b, (List.range (sh o).2.1).map (fld ad D o (sh o).2.2))) := fun ad => by rw [ws_get (okSt h0 (by omega)), cell_obj hsh, h0]
        have hfl : ∀ (ad : Nat → Nat), ((List.range (sh o).2.1).map (fld ad D o (sh o).2.2))[cc]? = some (fld ad D o (sh o).2.2 cc) := fun ad => fs_get (by rw [← hN]; exact hcN)
        cases hrf : (sh o).2.2[cc]? with
        | none => rw [hrf] at h; exact h.elim
        | some z =>
          rw [hrf] at h
          cases z with
          | none =>
            refine ⟨h.1, fun H locs ad lsA ha hP hD hS hl hp hz hw => ?_⟩
            exact va_get hx hb htT hq1 hown hK hP (ps o) (hget ad) hq cc hcN (htT _ hlink) (fun _ z => z) (v := .int (D o cc)) (by rw [hfl]; unfold fld; rw [hrf]) (ins_d hk hi rfl) (h.2 H locs ad lsA ha hP hD hS hl hp hz hw)
          | some z =>
            refine ⟨h.1, fun H locs ad lsA ha hP hD hS hl hp hz hw => ?_⟩
            exact va_get hx hb htT hq1 hown hK hP (ps o) (hget ad) hq cc hcN (htT _ hlink) (fun _ z => z) (v := .ref (ad z)) (by rw [hfl]; unfold fld; rw [hrf]) (ins_d hk hi rfl) (h.2 H locs ad lsA ha hP hD hS hl hp hz hw)
    case putfield idx =>
      have h : pfA _ k b cc dd pc ls D st := h
      unfold pfA at h
      match st, h with
      | .int v :: .ref (o : Nat) :: r, Or.inl h =>
        obtain ⟨hdy, hkb, hcF, hrf, h25, hty, h⟩ := h
        have hne : kb b ≠ 20 ∧ kb b ≠ 22 := by omega
        have hpt : pot (mup D o cc v) = pot D := pot_mup (okc_ne (okD hdy)).1 (Or.inl (by rw [sh_big (by have := hdy.1.1; unfold DB at this; omega)]; decide))
        have hle : leD D (mup D o cc v) := leD_dy hdy.1
        refine ⟨by rw [← hpt]; exact h.1, fun H locs ad lsA ha hP hD hS hl hp hz hw => ?_⟩
        have hw2 : WFD (mup D o cc v) := hw.mup (okc_ne (okD hdy)).1 (by have := nF_le (kb b); unfold KND; omega) (fun _ hr hc => by subst hc; rw [hdy.2] at hr; rw [hr] at hrf; cases hrf)
        have hget : (wsOf G.2.1 ad D)[ps o]? = some (ad o, .inr (kb b, (List.range (nF (kb b))).map (dfl ad D o (kb b)))) := by rw [ws_get (okD hdy), cell_dobj hdy hne.1 hne.2]
        have hdy2 : dyn (mup D o cc v) o (kb b) := ⟨⟨hdy.1.1, by rw [nxt_mup (okc_ne (okD hdy)).1]; exact hdy.1.2⟩, by
          unfold kd; rw [mup_same]; unfold upd; rw [if_neg (by have := nF_le (kb b); unfold KND; omega)]; exact hdy.2⟩
        have hset : (wsOf G.2.1 ad D).set (ps o) (ad o, .inr (kb b, ((List.range (nF (kb b))).map (dfl ad D o (kb b))).set cc (.int v))) = wsOf G.2.1 ad (mup D o cc v) := ws_mup (okD hdy) (by rw [cell_dobj hdy2 hne.1 hne.2, ds_set hcF (v := .int v) (by unfold dfl; rw [if_neg (by rw [hrf]; decide), mup_same]; unfold upd; rw [if_pos rfl])])
        have hlen : cc < ((List.range (nF (kb b))).map (dfl ad D o (kb b))).length := by simpa using hcF
        have hnext : ∀ (H1 : Heap) (locs1 : List Loc), va_P G.1 vwCl ((wsOf G.2.1 ad D).set (ps o) (ad o, .inr (kb b, ((List.range (nF (kb b))).map (dfl ad D o (kb b))).set cc (.int v)))) H1 → va_D A ((wsOf G.2.1 ad D).set (ps o) (ad o, .inr (kb b, ((List.range (nF (kb b))).map (dfl ad D o (kb b))).set cc (.int v)))) → va_S A s.heap H1 locs1 →
            W p l e R s m args below meth c H1 locs1 (c0 + (pot D - pot D0)) (s0 + 2 * (pot D - pot D0)) Qf (F0 m (pc + 3) lsA (r.map (cv ad G.2.2))) := by
          intro H1 locs1 hP1 hD1 hS1
          rw [hset] at hP1 hD1
          have h9 := h.2 H1 locs1 ad lsA ha hP1 hD1 hS1 hl (leD.tr hp hle) (by rw [hpt]; exact hz) hw2
          rw [hpt] at h9
          exact h9
        by_cases hb25 : b = 25
        · obtain ⟨hc1, hnm0, hO⟩ := h25 hb25
          have hkb9 : kb b = 9 := by unfold kb; rw [if_pos hb25]
          obtain ⟨hq1, ty0, hty0, hnm⟩ := clsF 9 _ rfl
          obtain ⟨s1, s2⟩ := str_fact hk hb25 (Or.inr rfl) hi
          obtain ⟨hf1, hf2⟩ : fits .byte (.int v) = true ∧ narrow .byte (.int v) = .int v := by
            rcases hty with ⟨q, _⟩ | ⟨q, _⟩ | ⟨_, q⟩
            · exact absurd hb25 q
            · exact absurd hb25 q
            · exact q
          subst hc1
          rw [hkb9] at hget hnext hlen
          exact va_putF hx hb htT hq1 ty0 hty0 hnm hown hK hP hD hS (ps o) hget rfl 1 (by decide) (htT _ (s2 rfl)) (fun _ z => z) rfl (hnmI hnm0) (by show "java/lang/String" = _; rw [hO]; rfl) (ty := .byte) rfl hf2 hf1 hlen (ins_d hk hi rfl) hnext
        · obtain ⟨q, hq, hcN, hlink, t0, t1, t2, -⟩ := fld_fact hk (Or.inr rfl) hb25 hi
          have hkbb : kb b = b := by unfold kb; rw [if_neg hb25]
          obtain ⟨hq1, ty0, hty0, hnm⟩ := clsF b q hq
          rw [hkbb] at hget hnext hlen
          rcases hty with ⟨_, hdd⟩ | ⟨_, hdd, hv⟩ | ⟨hdd, hf1, hf2⟩
          · obtain ⟨e1, e2⟩ := t0 hdd
            exact va_put hx hb htT hq1 ty0 hty0 hnm hown hK hP hD hS (ps o) hget hq cc hcN (htT _ hlink) (fun _ z => z) e2 (ty := .int) (by rw [e1]; rfl) rfl rfl hlen (ins_d hk hi rfl) hnext
          · obtain ⟨e1, e2⟩ := t1 hdd
            exact va_put hx hb htT hq1 ty0 hty0 hnm hown hK hP hD hS (ps o) hget hq cc hcN (htT _ hlink) (fun _ z => z) e2 (ty := .boolean) (by rw [e1]; rfl) (by rcases hv with rfl | rfl <;> rfl) (by rcases hv with rfl | rfl <;> rfl) hlen (ins_d hk hi rfl) hnext
          · obtain ⟨e1, e2⟩ := t2 (hdd.resolve_left hb25)
            exact va_put hx hb htT hq1 ty0 hty0 hnm hown hK hP hD hS (ps o) hget hq cc hcN (htT _ hlink) (fun _ z => z) e2 (ty := .byte) (by rw [e1]; rfl) hf2 hf1 hlen (ins_d hk hi rfl) hnext
      | .int v :: .ref (o : Nat) :: r, Or.inr h =>
        obtain ⟨hb20, h0, hrf, hdd, h⟩ := h
        obtain ⟨q, hq, hcN, hlink, t0, t1, -⟩ := fld_fact hk (Or.inr rfl) (by omega) hi
        have hsh : (sh o).1 < 20 := by omega
        have hoc : okc D o := okSt h0 (by omega)
        obtain ⟨hq1, ty0, hty, hnm⟩ := clsF b q hq
        have hpt : pot (mup D o cc v) = pot D := pot_mup (okc_ne hoc).1 (Or.inl (by omega))
        have hle : leD D (mup D o cc v) := leD_st h0 (by omega) (Or.inl (by omega))
        refine ⟨by rw [← hpt]; exact h.1, fun H locs ad lsA ha hP hD hS hl hp hz hw => ?_⟩
        have hw2 : WFD (mup D o cc v) := hw.lo (fun z hz => mup_ne (fun e => by have := sh_lt (o := o) (by omega); unfold NC at this; unfold DB at hz; omega))
        have hget : (wsOf G.2.1 ad D)[ps o]? = some (ad o, .inr (b, (List.range (sh o).2.1).map (fld ad D o (sh o).2.2))) := by rw [ws_get hoc, cell_obj hsh, h0]
        have hset : (wsOf G.2.1 ad D).set (ps o) (ad o, .inr (b, ((List.range (sh o).2.1).map (fld ad D o (sh o).2.2)).set cc (.int v))) = wsOf G.2.1 ad (mup D o cc v) := ws_mup hoc (by rw [cell_obj hsh, h0, fs_set hsh hrf])
        have hlen : cc < ((List.range (sh o).2.1).map (fld ad D o (sh o).2.2)).length := by
          have := (sh_cls hsh).1
          have h9 := (List.getElem?_eq_some_iff.mp hrf).1
          simp
          omega
        have hnext : ∀ (H1 : Heap) (locs1 : List Loc), va_P G.1 vwCl ((wsOf G.2.1 ad D).set (ps o) (ad o, .inr (b, ((List.range (sh o).2.1).map (fld ad D o (sh o).2.2)).set cc (.int v)))) H1 → va_D A ((wsOf G.2.1 ad D).set (ps o) (ad o, .inr (b, ((List.range (sh o).2.1).map (fld ad D o (sh o).2.2)).set cc (.int v)))) → va_S A s.heap H1 locs1 →
            W p l e R s m args below meth c H1 locs1 (c0 + (pot D - pot D0)) (s0 + 2 * (pot D - pot D0)) Qf (F0 m (pc + 3) lsA (r.map (cv ad G.2.2))) := by
          intro H1 locs1 hP1 hD1 hS1
          rw [hset] at hP1 hD1
          have h9 := h.2 H1 locs1 ad lsA ha hP1 hD1 hS1 hl (leD.tr hp hle) (by rw [hpt]; exact hz) hw2
          rw [hpt] at h9
          exact h9
        rcases hdd with hdd | ⟨hdd, hv⟩
        · obtain ⟨e1, e2⟩ := t0 hdd
          exact va_put hx hb htT hq1 ty0 hty hnm hown hK hP hD hS (ps o) hget hq cc hcN (htT _ hlink) (fun _ z => z) e2 (ty := .int) (by rw [e1]; rfl) rfl rfl hlen (ins_d hk hi rfl) hnext
        · obtain ⟨e1, e2⟩ := t1 hdd
          exact va_put hx hb htT hq1 ty0 hty hnm hown hK hP hD hS (ps o) hget hq cc hcN (htT _ hlink) (fun _ z => z) e2 (ty := .boolean) (by rw [e1]; rfl) (by rcases hv with rfl | rfl <;> rfl) (by rcases hv with rfl | rfl <;> rfl) hlen (ins_d hk hi rfl) hnext
      | .ref (q : Nat) :: .ref (o : Nat) :: r, ⟨hdy, h⟩ =>
        obtain ⟨hb0, hc0, hd3, hdq, h⟩ := h
        have hkb : kb b = 0 ∨ kb b = 8 ∨ kb b = 9 := by
          rcases hb0 with q | q
          · rw [q]; exact Or.inl rfl
          · rw [q.1]; exact Or.inr (Or.inr rfl)
        have hcF : cc < nF (kb b) := by
          subst hc0
          unfold nF; split <;> omega
        have hrf : rfB (kb b) cc = true := by
          subst hc0
          rcases hb0 with q | q
          · rw [q]; rfl
          · rw [q.1]; rfl
        have hqn : WFD D → (nI q).toNatClampNeg = q := fun hw => nI_clamp (by have := hdq.2; have := hw.1; unfold DB at *; omega)
        have hne : kb b ≠ 20 ∧ kb b ≠ 22 := by omega
        have hpt : pot (mup D o cc (nI q)) = pot D := pot_mup (okc_ne (okD hdy)).1 (Or.inl (by rw [sh_big (by have := hdy.1.1; unfold DB at this; omega)]; decide))
        have hle : leD D (mup D o cc (nI q)) := leD_dy hdy.1
        refine ⟨by rw [← hpt]; exact h.1, fun H locs ad lsA ha hP hD hS hl hp hz hw => ?_⟩
        have hw2 : WFD (mup D o cc (nI q)) := hw.mup (okc_ne (okD hdy)).1 (by have := nF_le (kb b); unfold KND; omega) (fun _ _ _ => by rw [hqn hw]; exact hdq.2)
        have hget : (wsOf G.2.1 ad D)[ps o]? = some (ad o, .inr (kb b, (List.range (nF (kb b))).map (dfl ad D o (kb b)))) := by rw [ws_get (okD hdy), cell_dobj hdy hne.1 hne.2]
        have hdy2 : dyn (mup D o cc (nI q)) o (kb b) := ⟨⟨hdy.1.1, by rw [nxt_mup (okc_ne (okD hdy)).1]; exact hdy.1.2⟩, by
          unfold kd; rw [mup_same]; unfold upd; rw [if_neg (by have := nF_le (kb b); unfold KND; omega)]; exact hdy.2⟩
        have hset : (wsOf G.2.1 ad D).set (ps o) (ad o, .inr (kb b, ((List.range (nF (kb b))).map (dfl ad D o (kb b))).set cc (.ref (ad q)))) = wsOf G.2.1 ad (mup D o cc (nI q)) := ws_mup (okD hdy) (by rw [cell_dobj hdy2 hne.1 hne.2, ds_set hcF (v := .ref (ad q)) (by unfold dfl; rw [if_pos hrf, mup_same]; unfold upd; rw [if_pos rfl, hqn hw, if_pos hdq.1])])
        have hlen : cc < ((List.range (nF (kb b))).map (dfl ad D o (kb b))).length := by simpa using hcF
        have hnext : ∀ (H1 : Heap) (locs1 : List Loc), va_P G.1 vwCl ((wsOf G.2.1 ad D).set (ps o) (ad o, .inr (kb b, ((List.range (nF (kb b))).map (dfl ad D o (kb b))).set cc (.ref (ad q))))) H1 → va_D A ((wsOf G.2.1 ad D).set (ps o) (ad o, .inr (kb b, ((List.range (nF (kb b))).map (dfl ad D o (kb b))).set cc (.ref (ad q))))) → va_S A s.heap H1 locs1 →
            W p l e R s m args below meth c H1 locs1 (c0 + (pot D - pot D0)) (s0 + 2 * (pot D - pot D0)) Qf (F0 m (pc + 3) lsA (r.map (cv ad G.2.2))) := by
          intro H1 locs1 hP1 hD1 hS1
          rw [hset] at hP1 hD1
          have h9 := h.2 H1 locs1 ad lsA ha hP1 hD1 hS1 hl (leD.tr hp hle) (by rw [hpt]; exact hz) hw2
          rw [hpt] at h9
          exact h9
        rcases hb0 with hb0 | ⟨hb25, hnm0, hO⟩
        · obtain ⟨q2, hq, hcN, hlink, -, -, -, t3⟩ := fld_fact hk (Or.inr rfl) (by omega) hi
          have hkbb : kb b = b := by unfold kb; rw [if_neg (by omega)]
          obtain ⟨hq1, ty0, hty0, hnm⟩ := clsF b q2 hq
          rw [hkbb] at hget hnext hlen
          obtain ⟨e1, e2⟩ := t3 hd3 hb0
          exact va_put hx hb htT hq1 ty0 hty0 hnm hown hK hP hD hS (ps o) hget hq cc hcN (htT _ hlink) (fun _ z => z) e2 (ty := .array .byte) (by rw [e1]; rfl) rfl rfl hlen (ins_d hk hi rfl) hnext
        · have hkb9 : kb b = 9 := by unfold kb; rw [if_pos hb25]
          obtain ⟨hq1, ty0, hty0, hnm⟩ := clsF 9 _ rfl
          obtain ⟨s1, s2⟩ := str_fact hk hb25 (Or.inr rfl) hi
          subst hc0
          rw [hkb9] at hget hnext hlen
          exact va_putF hx hb htT hq1 ty0 hty0 hnm hown hK hP hD hS (ps o) hget rfl 0 (by decide) (htT _ (s1 rfl)) (fun _ z => z) rfl (hnmI hnm0) (by show "java/lang/String" = _; rw [hO]; rfl) (ty := .array .byte) rfl rfl rfl hlen (ins_d hk hi rfl) hnext
    case iaload =>
      obtain ⟨o, j, r, rfl, h⟩ := sIA_spec h
      rcases h with ⟨h0, h1, h⟩ | ⟨h0, h1, h⟩ | ⟨h0, h1, h⟩
      · refine ⟨h.1, fun H locs ad lsA ha hP hD hS hl hp hz hw => ?_⟩
        exact va_iald hx hb hK hP (ps o) 0 (by rw [ws_get (okSt h0), cell_int h0]) rfl h1 (ins_d hk hi rfl) (h.2 H locs ad lsA ha hP hD hS hl hp hz hw)
      · refine ⟨h.1, fun H locs ad lsA ha hP hD hS hl hp hz hw => ?_⟩
        exact va_iald hx hb hK hP (ps o) 0 (by rw [ws_get (okD h0), cell_dint h0]) rfl h1 (ins_d hk hi rfl) (h.2 H locs ad lsA ha hP hD hS hl hp hz hw)
      · refine ⟨h.1, fun H locs ad lsA ha hP hD hS hl hp hz hw => ?_⟩
        subst h0
        have hX := SX.agree ha hSX0
        rw [← hp.2.2] at hX
        exact va_sld hx hb hX.1 hX.2.1 hX.2.2.1 hS h1 (ins_d hk hi rfl) (h.2 H locs ad lsA ha hP hD hS hl hp hz hw)
    case aaload =>
      obtain ⟨o, j, r, rfl, h0, h1, q, hq, h⟩ := sIA_spec h
      refine ⟨h.1, fun H locs ad lsA ha hP hD hS hl hp hz hw => ?_⟩
      refine va_aldq hx hb hK hP (ps o) 3 (by rw [ws_get (okSt h0), cell_refs h0]) rfl h1 (ins_d hk hi rfl) ?_
      have h9 := (h.2 H locs ad lsA ha hP hD hS hl hp hz hw)
      rw [hq]
      exact h9
    case iastore =>
      obtain ⟨o, j, x, r, rfl, h⟩ := sIIA_spec h
      rcases h with ⟨h0, h1, h⟩ | ⟨h0, h1, h1b, h⟩
      · skip
        have hoc : okc D o := okSt h0
        have hpt : pot (mup D o j.toNatClampNeg x) = pot D := pot_mup (okc_ne hoc).1 (Or.inl (by omega))
        have hle : leD D (mup D o j.toNatClampNeg x) := leD_st h0 (by decide) (Or.inl (by decide))
        refine ⟨by rw [← hpt]; exact h.1, fun H locs ad lsA ha hP hD hS hl hp hz hw => ?_⟩
        refine va_iast hx hb hK hP hD hS (ps o) 0 (by rw [ws_get hoc, cell_int h0]) rfl h1 (ins_d hk hi rfl) (fun H1 locs1 hP1 hD1 hS1 => ?_)
        rw [ws_mup (D := D) (j := j.toNatClampNeg) (x := x) hoc (by rw [cell_int h0, mup_same])] at hP1 hD1
        have h9 := h.2 H1 locs1 ad lsA ha hP1 hD1 hS1 hl (leD.tr hp hle) (by rw [hpt]; exact hz) (hw.lo (fun z hz => mup_ne (fun e => by have := sh_lt (o := o) (by omega); unfold NC at this; unfold DB at hz; omega)))
        rw [hpt] at h9
        exact h9
      · skip
        have hoc : okc D o := okD h0
        have hpt : pot (mup D o j.toNatClampNeg x) = pot D := pot_mup (okc_ne hoc).1 (Or.inl (by rw [sh_big (by have := h0.1.1; unfold DB at this; omega)]; decide))
        have hle : leD D (mup D o j.toNatClampNeg x) := leD_dy h0.1
        refine ⟨by rw [← hpt]; exact h.1, fun H locs ad lsA ha hP hD hS hl hp hz hw => ?_⟩
        refine va_iast hx hb hK hP hD hS (ps o) 0 (by rw [ws_get hoc, cell_dint h0]) rfl h1 (ins_d hk hi rfl) (fun H1 locs1 hP1 hD1 hS1 => ?_)
        rw [ws_mup (D := D) (j := j.toNatClampNeg) (x := x) hoc (by rw [cell_dint (show dyn (mup D o j.toNatClampNeg x) o 20 from ⟨⟨h0.1.1, by rw [nxt_mup (okc_ne hoc).1]; exact h0.1.2⟩, by unfold kd; rw [mup_same]; unfold upd; rw [if_neg (by unfold KND; unfold LEN at h1b; omega)]; exact h0.2⟩), mup_same, cap_mup (Or.inr (by omega))])] at hP1 hD1
        have h9 := h.2 H1 locs1 ad lsA ha hP1 hD1 hS1 hl (leD.tr hp hle) (by rw [hpt]; exact hz) (hw.mup (okc_ne hoc).1 (by unfold KND; unfold LEN at h1b; omega) (fun _ hr _ => by rw [h0.2] at hr; cases hr))
        rw [hpt] at h9
        exact h9
    case baload =>
      obtain ⟨o, j, r, rfl, h⟩ := sIA_spec h
      rcases h with ⟨h0, h1, h⟩ | ⟨h0, h1, h1b, h⟩ | ⟨h0, h1, h⟩ | ⟨h0, h1, h⟩
      · refine ⟨h.1, fun H locs ad lsA ha hP hD hS hl hp hz hw => ?_⟩
        exact va_zald hx hb hK hP (ps o) 1 (by rw [ws_get (okSt h0), cell_bool h0]) rfl h1 (ins_d hk hi rfl) (h.2 H locs ad lsA ha hP hD hS hl hp hz hw)
      · refine ⟨h.1, fun H locs ad lsA ha hP hD hS hl hp hz hw => ?_⟩
        exact va_bald hx hb hK hP (ps o) 2 (by rw [ws_get (okSt h0), cell_byte h0]) rfl h1 (ins_d hk hi rfl) (h.2 H locs ad lsA ha hP hD hS hl hp hz hw)
      · refine ⟨h.1, fun H locs ad lsA ha hP hD hS hl hp hz hw => ?_⟩
        exact va_tb hx hb (RO_arr (RO.agree ha hRO0) h0) hS h1 rfl (ins_d hk hi rfl) (h.2 H locs ad lsA ha hP hD hS hl hp hz hw)
      · refine ⟨h.1, fun H locs ad lsA ha hP hD hS hl hp hz hw => ?_⟩
        exact va_bald hx hb hK hP (ps o) 2 (by rw [ws_get (okD h0), cell_dbyte h0]) rfl h1 (ins_d hk hi rfl) (h.2 H locs ad lsA ha hP hD hS hl hp hz hw)
    case bastore =>
      obtain ⟨o, j, x, r, rfl, h⟩ := sIIA_spec h
      rcases h with ⟨h0, h1, h⟩ | ⟨h0, h1, h1b, h⟩ | ⟨h0, h1, h1b, h⟩
      · skip
        have hoc : okc D o := okSt h0
        have hpt : pot (mup D o j.toNatClampNeg (vp_nar .boolean x)) = pot D := pot_mup (okc_ne hoc).1 (Or.inl (by omega))
        have hle : leD D (mup D o j.toNatClampNeg (vp_nar .boolean x)) := leD_st h0 (by decide) (Or.inl (by decide))
        refine ⟨by rw [← hpt]; exact h.1, fun H locs ad lsA ha hP hD hS hl hp hz hw => ?_⟩
        refine va_zast hx hb hK hP hD hS (ps o) 1 (by rw [ws_get hoc, cell_bool h0]) rfl h1 (ins_d hk hi rfl) (fun H1 locs1 hP1 hD1 hS1 => ?_)
        rw [ws_mup (D := D) (j := j.toNatClampNeg) (x := (vp_nar .boolean x)) hoc (by rw [cell_bool h0, mup_same])] at hP1 hD1
        have h9 := h.2 H1 locs1 ad lsA ha hP1 hD1 hS1 hl (leD.tr hp hle) (by rw [hpt]; exact hz) (hw.lo (fun z hz => mup_ne (fun e => by have := sh_lt (o := o) (by omega); unfold NC at this; unfold DB at hz; omega)))
        rw [hpt] at h9
        exact h9
      · skip
        have hoc : okc D o := okSt h0
        have hpt : pot (mup D o j.toNatClampNeg (vp_nar .byte x)) = pot D := pot_mup (okc_ne hoc).1 (Or.inr (by omega))
        have hle : leD D (mup D o j.toNatClampNeg (vp_nar .byte x)) := leD_st h0 (by decide) (Or.inr (by omega))
        refine ⟨by rw [← hpt]; exact h.1, fun H locs ad lsA ha hP hD hS hl hp hz hw => ?_⟩
        refine va_bast hx hb hK hP hD hS (ps o) 2 (by rw [ws_get hoc, cell_byte h0]) rfl h1 (ins_d hk hi rfl) (fun H1 locs1 hP1 hD1 hS1 => ?_)
        rw [ws_mup (D := D) (j := j.toNatClampNeg) (x := (vp_nar .byte x)) hoc (by rw [cell_byte h0, mup_same, cap_mup (Or.inr (by omega))])] at hP1 hD1
        have h9 := h.2 H1 locs1 ad lsA ha hP1 hD1 hS1 hl (leD.tr hp hle) (by rw [hpt]; exact hz) (hw.lo (fun z hz => mup_ne (fun e => by have := sh_lt (o := o) (by omega); unfold NC at this; unfold DB at hz; omega)))
        rw [hpt] at h9
        exact h9
      · skip
        have hoc : okc D o := okD h0
        have hpt : pot (mup D o j.toNatClampNeg (vp_nar .byte x)) = pot D := pot_mup (okc_ne hoc).1 (Or.inl (by rw [sh_big (by have := h0.1.1; unfold DB at this; omega)]; decide))
        have hle : leD D (mup D o j.toNatClampNeg (vp_nar .byte x)) := leD_dy h0.1
        refine ⟨by rw [← hpt]; exact h.1, fun H locs ad lsA ha hP hD hS hl hp hz hw => ?_⟩
        refine va_bast hx hb hK hP hD hS (ps o) 2 (by rw [ws_get hoc, cell_dbyte h0]) rfl h1 (ins_d hk hi rfl) (fun H1 locs1 hP1 hD1 hS1 => ?_)
        rw [ws_mup (D := D) (j := j.toNatClampNeg) (x := (vp_nar .byte x)) hoc (by rw [cell_dbyte (show dyn (mup D o j.toNatClampNeg (vp_nar .byte x)) o 22 from ⟨⟨h0.1.1, by rw [nxt_mup (okc_ne hoc).1]; exact h0.1.2⟩, by unfold kd; rw [mup_same]; unfold upd; rw [if_neg (by unfold KND; unfold LEN at h1b; omega)]; exact h0.2⟩), mup_same, cap_mup (Or.inr (by omega))])] at hP1 hD1
        have h9 := h.2 H1 locs1 ad lsA ha hP1 hD1 hS1 hl (leD.tr hp hle) (by rw [hpt]; exact hz) (hw.mup (okc_ne hoc).1 (by unfold KND; unfold LEN at h1b; omega) (fun _ hr _ => by rw [h0.2] at hr; cases hr))
        rw [hpt] at h9
        exact h9
    case arraylength =>
      obtain ⟨o, r, rfl, h⟩ := sA_spec h
      rcases h with ⟨h0, h⟩ | ⟨h0, h⟩ | ⟨h0, h⟩ | ⟨h0, h⟩
      · refine ⟨h.1, fun H locs ad lsA ha hP hD hS hl hp hz hw => ?_⟩
        exact va_alen (x := (cap D o, .inl (D o))) hx hb hK hP (ps o) 2 (by rw [ws_get (okSt h0), cell_byte h0]) rfl rfl (ins_d hk hi rfl) (h.2 H locs ad lsA ha hP hD hS hl hp hz hw)
      · refine ⟨h.1, fun H locs ad lsA ha hP hD hS hl hp hz hw => ?_⟩
        exact va_alen (x := ((sh o).2.1, .inl (D o))) hx hb hK hP (ps o) 0 (by rw [ws_get (okSt h0), cell_int h0]) rfl rfl (ins_d hk hi rfl) (h.2 H locs ad lsA ha hP hD hS hl hp hz hw)
      · refine ⟨h.1, fun H locs ad lsA ha hP hD hS hl hp hz hw => ?_⟩
        exact va_tlen hx hb (RO_arr (RO.agree ha hRO0) h0) hS rfl (ins_d hk hi rfl) (h.2 H locs ad lsA ha hP hD hS hl hp hz hw)
      · refine ⟨h.1, fun H locs ad lsA ha hP hD hS hl hp hz hw => ?_⟩
        rcases h0 with h0 | h0 | h0
        · exact va_alen (x := (cap D o, .inl (D o))) hx hb hK hP (ps o) 2 (by rw [ws_get (okD h0), cell_dbyte h0]) rfl rfl (ins_d hk hi rfl) (h.2 H locs ad lsA ha hP hD hS hl hp hz hw)
        · exact va_alen (x := (cap D o, .inl (D o))) hx hb hK hP (ps o) 0 (by rw [ws_get (okD h0), cell_dint h0]) rfl rfl (ins_d hk hi rfl) (h.2 H locs ad lsA ha hP hD hS hl hp hz hw)
        · subst h0
          have hX := SX.agree ha hSX0
          rw [← hp.2.2] at hX
          exact va_slen hx hb hX.1 hX.2.1 hX.2.2.1 hS (ins_d hk hi rfl) (h.2 H locs ad lsA ha hP hD hS hl hp hz hw)
    case getstatic idx =>
      obtain ⟨v, hv, h⟩ := h
      obtain ⟨f0, f1, f2, f3⟩ := stat_fact hk hi
      refine ⟨h.1, fun H locs ad lsA ha hP hD hS hl hp hz hw => ?_⟩
      have hR := RO.agree ha hRO0
      match b, hv, f0, f1, f2, f3 with
      | 0, hv, f0, _, _, _ => cases hv; exact va_gets hx hb hR.2.1 hS hown (htT _ (f0 rfl)) (fun _ z => z) (ins_d hk hi rfl) (h.2 H locs ad lsA ha hP hD hS hl hp hz hw)
      | 1, hv, _, f1, _, _ => cases hv; exact va_gets hx hb hR.2.2.1 hS hown (htT _ (f1 rfl)) (fun _ z => z) (ins_d hk hi rfl) (h.2 H locs ad lsA ha hP hD hS hl hp hz hw)
      | 2, hv, _, _, f2, _ => cases hv; exact va_gets hx hb hR.2.2.2.1 hS hown (htT _ (f2 rfl)) (fun _ z => z) (ins_d hk hi rfl) (h.2 H locs ad lsA ha hP hD hS hl hp hz hw)
      | 3, hv, _, _, _, f3 => cases hv; exact va_gets hx hb hR.2.2.2.2.2.1 hS hown (htT _ (f3 rfl)) (fun _ z => z) (ins_d hk hi rfl) (h.2 H locs ad lsA ha hP hD hS hl hp hz hw)
    case ldc idx =>
      rcases h with ⟨h0, h1, h⟩ | ⟨h0, f, h1, h⟩
      · obtain ⟨q, hq, e1, e2, e3⟩ := ldc_fact hk h0 hi
        refine ⟨h.1, fun H locs ad lsA ha hP hD hS hl hp hz hw => ?_⟩
        have hZ := (RO.agree ha hRO0).2.2.2.2.2.2.2.1 a (by have h9 := (List.getElem?_eq_some_iff.mp hq).1; simp [ltab] at h9; omega) q hq
        rw [e1, e2, ← e3] at hZ
        exact va_ldcS hx hb hown hZ (ins_d hk hi rfl) (h.2 H locs ad lsA ha hP hD hS hl hp hz hw)
      · refine ⟨h.1, fun H locs ad lsA ha hP hD hS hl hp hz hw => ?_⟩
        exact lv_ldc hx hb hown (htT _ (ldcI_fact hk h0 hi f h1)) (ins_d hk hi rfl) (h.2 H locs ad lsA ha hP hD hS hl hp hz hw)
    case ireturn => exact hret pc ls st D _ _ _ _ _ hi (Or.inl rfl) (by unfold Step; rw [hi]; exact h)
    case areturn => exact hret pc ls st D _ _ _ _ _ hi (Or.inr (Or.inl rfl)) (by unfold Step; rw [hi]; exact h)
    case return_ => exact hret pc ls st D _ _ _ _ _ hi (Or.inr (Or.inr (Or.inl rfl))) (by unfold Step; rw [hi]; exact h)
    case invokevirtual idx =>
      rcases h with h | ⟨h0, h⟩
      · exact snd_virt IH hd1 hR hA hk hx hb hml hown htT hK hRO0 hSX0 hi h
      · exact snd_cln hR hA hk hx hb hml hown htT hK hRO0 hSX0 hi h0 h
    case invokestatic idx =>
      rcases h with h | ⟨h0, h⟩
      · exact snd_stat IH hd1 hR hA hk hx hb hml hown htT hK hRO0 hSX0 hi h
      · exact snd_cpy hR hA hk hx hb hml hown htT hK hRO0 hSX0 hi h0 h
    case invokespecial idx =>
      rcases h with h | ⟨h0, h1, h2, h⟩
      · exact snd_spec IH hd1 hR hA hk hx hb hml hown htT hK hRO0 hSX0 hi h
      · obtain ⟨o, r, rfl, h⟩ := sA_spec h
        refine ⟨h.1, fun H locs ad lsA ha hP hD hS hl hp hz hw => ?_⟩
        have h3 := cat_le (ad := ad) hf (fun v hv => h1 v (List.mem_cons_of_mem _ hv)) (Nat.le_trans (Nat.le_succ _) h2)
        refine W.objInit hx hb hown (htT _ (oin_fact hk h0 hi)) (htT _ zw_oI) (htT _ zw_oC) rfl (by rw [hml]; exact hl.1) rfl (ins_d hk hi rfl) (by have := hR.1; omega) ?_ (h.2 H locs ad lsA ha hP hD hS hl hp hz hw)
        have h5 := lv_room (m := m) (pc := pc) (ls := lsA) (rest := Value.ref (ad o) :: r.map (cv ad G.2.2)) h3
        have h6 := hR.2.1
        exact Nat.le_trans (Nat.add_le_add_right h5 12) (by omega)
    case new idx =>
      obtain ⟨hb3, hls, hst, hfit, h⟩ := h
      obtain ⟨q0, hq0, w1, w2, w3⟩ := new_fact hk (by omega) hi
      obtain ⟨hq1, ty0, hty0, hnm⟩ := clsF b q0 hq0
      have hN : q0.2.2 = nF b := by
        rcases hb3 with rfl | rfl | rfl <;> (cases hq0; rfl)
      have hpd := h.1
      rw [al_pot hfit] at hpd
      refine ⟨by omega, fun H locs ad lsA ha hP hD hS hl hp hz hw => ?_⟩
      have q1' := hp.1
      obtain ⟨-, -, r3, r4⟩ := hR
      refine va_new (N := nF b) (fs := (List.range (nF b)).map (fun j => if rfB b j = true then Value.null else .int 0)) hx hb htT (by rw [← hN]; exact hq1) ty0 (by rw [← hN]; exact hty0) hown (htT _ w1) (by rw [← hN]; exact htT _ w2) (htT _ w3) hK hP hD hS hA (T := q0.2.1) (by rw [← hN]; exact hq0) (fun j hj => ?_) (by omega) (by omega) (ins_d hk hi rfl) (fun q H1 hP1 hD1 hS1 => ?_)
      · have e8 : vp_V ((List.range (nF b)).map (fun j => if rfB b j = true then Value.null else .int 0)) j = if rfB b j = true then Value.null else .int 0 := by
          unfold vp_V
          rw [List.getD_eq_getElem?_getD, List.getElem?_map, List.getElem?_range hj]
          rfl
        rw [e8]
        have e7 := hty0 j (by rw [hN]; exact hj)
        rcases hb3 with rfl | rfl | rfl
        · cases hq0
          match j, hj, e7 with
          | 0, _, e7 => rw [show ty0 0 = .array .byte from Option.some.inj (e7.symm.trans rfl)]; rfl
          | 1, _, e7 => rw [show ty0 1 = .byte from Option.some.inj (e7.symm.trans rfl)]; rfl
          | 2, _, e7 => rw [show ty0 2 = .boolean from Option.some.inj (e7.symm.trans rfl)]; rfl
          | 3, _, e7 => rw [show ty0 3 = .int from Option.some.inj (e7.symm.trans rfl)]; rfl
        · cases hq0
          match j, hj, e7 with
          | 0, _, e7 => rw [show ty0 0 = .int from Option.some.inj (e7.symm.trans rfl)]; rfl
        · cases hq0
          match j, hj, e7 with
          | 0, _, e7 => rw [show ty0 0 = .array .byte from Option.some.inj (e7.symm.trans rfl)]; rfl
          | 1, _, e7 => rw [show ty0 1 = .byte from Option.some.inj (e7.symm.trans rfl)]; rfl
          | 2, _, e7 => rw [show ty0 2 = .int from Option.some.inj (e7.symm.trans rfl)]; rfl
          | 3, _, e7 => rw [show ty0 3 = .boolean from Option.some.inj (e7.symm.trans rfl)]; rfl
      · have hkd : (rwO b KND).toNatClampNeg = b := by
          unfold rwO; rw [if_pos rfl]; exact nI_clamp (by omega)
        have hdy : dyn (alD D (rwO b) (nF b)) (DB + nxt D) b := ⟨⟨by omega, by rw [al_nxt hfit]; omega⟩, by unfold kd; rw [al_new]; exact hkd⟩
        have hadA : agreeA (nxt D) ad (fun z => if z = DB + nxt D then q else ad z) := fun z hz9 => if_neg (by omega)
        have hws : wsOf G.2.1 (fun z => if z = DB + nxt D then q else ad z) (alD D (rwO b) (nF b)) = wsOf G.2.1 ad D ++ [(q, .inr (b, (List.range (nF b)).map (fun j => if rfB b j = true then Value.null else .int 0)))] := ws_al hw hfit hadA (if_pos rfl) (by
          rw [cell_dobj hdy (by omega) (by omega)]
          congr 2
          apply List.map_congr_left
          intro j hj
          have hj := List.mem_range.mp hj
          have := nF_le b
          have e6 : rwO b j = if rfB b j = true then -1 else 0 := if_neg (by unfold KND; omega)
          unfold dfl
          rw [al_new, e6]
          by_cases hr : rfB b j = true
          · rw [if_pos hr, if_pos hr, if_pos hr, if_neg (by decide)]
          · rw [if_neg hr, if_neg hr, if_neg hr])
        rw [← hws] at hP1 hD1
        have hle := leD_al (f := (rwO b)) hfit
        have hpa := al_pot (f := (rwO b)) hfit
        have q1 := hp.1
        have h9 := h.2 H1 locs (fun z => if z = DB + nxt D then q else ad z) lsA (agree.tr ha hadA.a hp.2.1) hP1 hD1 hS1 (hl.agreeA hadA hls) (leD.tr hp hle) (fun e9 => by omega) (hw.al hfit (by rw [hkd]; omega) (fun _ => by
          have e9 : rwO b 0 = -1 ∨ rwO b 0 = 0 := by
            unfold rwO
            rw [if_neg (by decide)]
            by_cases hr : rfB b 0 = true
            · rw [if_pos hr]; exact Or.inl rfl
            · rw [if_neg hr]; exact Or.inr rfl
          rcases e9 with e9 | e9 <;> (rw [e9]; decide)))
        have e1 : (Value.ref (DB + nxt D) :: st : List Value).map (cv (fun z => if z = DB + nxt D then q else ad z) G.2.2) = Value.ref q :: (st : List Value).map (cv ad G.2.2) := by
          rw [List.map_cons, show cv (fun z => if z = DB + nxt D then q else ad z) G.2.2 (.ref (DB + nxt D)) = Value.ref q from congrArg Value.ref (if_pos rfl)]
          exact congrArg _ (List.map_congr_left (fun v hv => cv_agreeA hadA (hst v hv)))
        rw [e1] at h9
        exact W.widen (by omega) (by omega) h9
    case newarray ty =>
      obtain ⟨x, r, rfl, hq9, hx0, hx1, hls, hst, hfit⟩ := sI_spec h
      rcases hq9 with ⟨hty, hq9⟩ | ⟨hty, hq9⟩
      · subst hty
        have h := hq9
        have hpd := h.1
        rw [al_pot hfit] at hpd
        refine ⟨by omega, fun H locs ad lsA ha hP hD hS hl hp hz hw => ?_⟩
        have q1' := hp.1
        obtain ⟨-, -, r3, r4⟩ := hR
        have hz0 : ∀ cA : ClassId, vp_cell cA (x.toNatClampNeg, .inl (rwA 20 x.toNatClampNeg)) = arrV cA x.toNatClampNeg (fun _ => defaultValue .int) := by
          intro cA
          show arrV cA x.toNatClampNeg (fun j => .int (rwA 20 x.toNatClampNeg j)) = arrV cA x.toNatClampNeg (fun _ => .int 0)
          unfold arrV
          congr 2
          funext j
          have h7 : rwA 20 x.toNatClampNeg j.val = 0 := by
            have := j.isLt
            unfold rwA
            rw [if_neg (by unfold KND; omega), if_neg (by unfold LEN; omega)]
          show Value.int (rwA 20 x.toNatClampNeg j.val) = .int 0
          rw [h7]
        refine va_newa (atype := .int) (ty := .int) (N' := x.toNatClampNeg) (a0 := (x.toNatClampNeg, .inl (rwA 20 x.toNatClampNeg))) hx hb (htT _ zw_a_int) rfl hK hP hD hS hA hz0 (by rw [Int32.not_lt, Int32.le_iff_toInt_le]; exact hx0) rfl (by show x.toNatClampNeg * 4 ≤ _; omega) (by omega) (by omega) (ins_d hk hi rfl) (fun q cA H1 hK1 hP1 hD1 hS1 => ?_)
        have k1 : s.vm.findClass ("[" ++ FieldType.toString .int) = some cA := (hK1.2 4 (cA, .int) rfl).2
        have k2 : s.vm.findClass ("[" ++ FieldType.toString .int) = some (G.2.1 0) := (hK.2 0 (G.2.1 0, .int) rfl).2
        have e9 : cA = G.2.1 0 := Option.some.inj (k1.symm.trans k2)
        subst e9
        have hkd : (rwA 20 x.toNatClampNeg KND).toNatClampNeg = 20 := rfl
        have hdy : dyn (alD D (rwA 20 x.toNatClampNeg) x.toNatClampNeg) (DB + nxt D) 20 := ⟨⟨by omega, by rw [al_nxt hfit]; omega⟩, by unfold kd; rw [al_new]; exact hkd⟩
        have hcp : cap (alD D (rwA 20 x.toNatClampNeg) x.toNatClampNeg) (DB + nxt D) = x.toNatClampNeg := by
          unfold cap
          rw [al_new]
          unfold rwA
          rw [if_neg (by decide), if_pos rfl]
          exact nI_clamp (by omega)
        have hadA : agreeA (nxt D) ad (fun z => if z = DB + nxt D then q else ad z) := fun z hz9 => if_neg (by omega)
        have hws : wsOf G.2.1 (fun z => if z = DB + nxt D then q else ad z) (alD D (rwA 20 x.toNatClampNeg) x.toNatClampNeg) = wsOf G.2.1 ad D ++ [(q, .inl (G.2.1 0, x.toNatClampNeg, .inl (rwA 20 x.toNatClampNeg)))] := ws_al hw hfit hadA (if_pos rfl) (by rw [cell_dint hdy, hcp, al_new])
        rw [← hws] at hP1 hD1
        have hle := leD_al (f := (rwA 20 x.toNatClampNeg)) hfit
        have hpa := al_pot (f := (rwA 20 x.toNatClampNeg)) hfit
        have q1 := hp.1
        have h9 := h.2 H1 locs (fun z => if z = DB + nxt D then q else ad z) lsA (agree.tr ha hadA.a hp.2.1) hP1 hD1 hS1 (hl.agreeA hadA hls) (leD.tr hp hle) (fun e9 => by omega) (hw.al hfit (by rw [hkd]; decide) (fun z => by cases z))
        have e1 : (Value.ref (DB + nxt D) :: r : List Value).map (cv (fun z => if z = DB + nxt D then q else ad z) G.2.2) = Value.ref q :: (r : List Value).map (cv ad G.2.2) := by
          rw [List.map_cons, show cv (fun z => if z = DB + nxt D then q else ad z) G.2.2 (.ref (DB + nxt D)) = Value.ref q from congrArg Value.ref (if_pos rfl)]
          exact congrArg _ (List.map_congr_left (fun v hv => cv_agreeA hadA (hst v hv)))
        rw [e1] at h9
        exact W.widen (by omega) (by omega) h9
      · subst hty
        have h := hq9
        have hpd := h.1
        rw [al_pot hfit] at hpd
        refine ⟨by omega, fun H locs ad lsA ha hP hD hS hl hp hz hw => ?_⟩
        have q1' := hp.1
        obtain ⟨-, -, r3, r4⟩ := hR
        have hz0 : ∀ cA : ClassId, vp_cell cA (x.toNatClampNeg, .inl (rwA 22 x.toNatClampNeg)) = arrV cA x.toNatClampNeg (fun _ => defaultValue .byte) := by
          intro cA
          show arrV cA x.toNatClampNeg (fun j => .int (rwA 22 x.toNatClampNeg j)) = arrV cA x.toNatClampNeg (fun _ => .int 0)
          unfold arrV
          congr 2
          funext j
          have h7 : rwA 22 x.toNatClampNeg j.val = 0 := by
            have := j.isLt
            unfold rwA
            rw [if_neg (by unfold KND; omega), if_neg (by unfold LEN; omega)]
          show Value.int (rwA 22 x.toNatClampNeg j.val) = .int 0
          rw [h7]
        refine va_newa (atype := .byte) (ty := .byte) (N' := x.toNatClampNeg) (a0 := (x.toNatClampNeg, .inl (rwA 22 x.toNatClampNeg))) hx hb (htT _ zw_a_byte) rfl hK hP hD hS hA hz0 (by rw [Int32.not_lt, Int32.le_iff_toInt_le]; exact hx0) rfl (by show x.toNatClampNeg * 1 ≤ _; omega) (by omega) (by omega) (ins_d hk hi rfl) (fun q cA H1 hK1 hP1 hD1 hS1 => ?_)
        have k1 : s.vm.findClass ("[" ++ FieldType.toString .byte) = some cA := (hK1.2 4 (cA, .byte) rfl).2
        have k2 : s.vm.findClass ("[" ++ FieldType.toString .byte) = some (G.2.1 2) := (hK.2 2 (G.2.1 2, .byte) rfl).2
        have e9 : cA = G.2.1 2 := Option.some.inj (k1.symm.trans k2)
        subst e9
        have hkd : (rwA 22 x.toNatClampNeg KND).toNatClampNeg = 22 := rfl
        have hdy : dyn (alD D (rwA 22 x.toNatClampNeg) x.toNatClampNeg) (DB + nxt D) 22 := ⟨⟨by omega, by rw [al_nxt hfit]; omega⟩, by unfold kd; rw [al_new]; exact hkd⟩
        have hcp : cap (alD D (rwA 22 x.toNatClampNeg) x.toNatClampNeg) (DB + nxt D) = x.toNatClampNeg := by
          unfold cap
          rw [al_new]
          unfold rwA
          rw [if_neg (by decide), if_pos rfl]
          exact nI_clamp (by omega)
        have hadA : agreeA (nxt D) ad (fun z => if z = DB + nxt D then q else ad z) := fun z hz9 => if_neg (by omega)
        have hws : wsOf G.2.1 (fun z => if z = DB + nxt D then q else ad z) (alD D (rwA 22 x.toNatClampNeg) x.toNatClampNeg) = wsOf G.2.1 ad D ++ [(q, .inl (G.2.1 2, x.toNatClampNeg, .inl (rwA 22 x.toNatClampNeg)))] := ws_al hw hfit hadA (if_pos rfl) (by rw [cell_dbyte hdy, hcp, al_new])
        rw [← hws] at hP1 hD1
        have hle := leD_al (f := (rwA 22 x.toNatClampNeg)) hfit
        have hpa := al_pot (f := (rwA 22 x.toNatClampNeg)) hfit
        have q1 := hp.1
        have h9 := h.2 H1 locs (fun z => if z = DB + nxt D then q else ad z) lsA (agree.tr ha hadA.a hp.2.1) hP1 hD1 hS1 (hl.agreeA hadA hls) (leD.tr hp hle) (fun e9 => by omega) (hw.al hfit (by rw [hkd]; decide) (fun z => by cases z))
        have e1 : (Value.ref (DB + nxt D) :: r : List Value).map (cv (fun z => if z = DB + nxt D then q else ad z) G.2.2) = Value.ref q :: (r : List Value).map (cv ad G.2.2) := by
          rw [List.map_cons, show cv (fun z => if z = DB + nxt D then q else ad z) G.2.2 (.ref (DB + nxt D)) = Value.ref q from congrArg Value.ref (if_pos rfl)]
          exact congrArg _ (List.map_congr_left (fun v hv => cv_agreeA hadA (hst v hv)))
        rw [e1] at h9
        exact W.widen (by omega) (by omega) h9
    case aconst_null =>
      refine ⟨h.1, fun H locs ad lsA ha hP hD hS hl hp hz hw => ?_⟩
      exact lv_null hx hb (ins_d hk hi rfl) (h.2 H locs ad lsA ha hP hD hS hl hp hz hw)
    case if_acmp cd off =>
      match st, h with
      | .ref (y : Nat) :: .ref (x : Nat) :: r, ⟨hcd, hvx, hvy, ht, hf2⟩ =>
        subst hcd
        have hj := tg_eq (of_decide_eq_true (jmp_ok hk hi))
        refine ⟨(Classical.em (x = y)).elim (fun q => (hf2 q).1) (fun q => (ht q).1), fun H locs ad lsA ha hP hD hS hl hp hz hw => ?_⟩
        refine lv_acmp_ne (rx := some (ad x)) (ry := some (ad y)) hx hb (ins_d hk hi rfl) hj (fun q => (ht (fun e9 => q (by rw [e9]))).2 H locs ad lsA ha hP hD hS hl hp hz hw) (fun q => (hf2 ?_).2 H locs ad lsA ha hP hD hS hl hp hz hw)
        have e9 : ad x = ad y := Option.some.inj q
        have e8 := hD.1 (ps x) (ps y) _ _ (ws_get (Or.inr hvx)) (ws_get (Or.inr hvy)) e9
        rw [← nm_ps (D := D) (o := x) (Or.inr hvx), e8, nm_ps (Or.inr hvy)]
    case ifnonnull off =>
      obtain ⟨o, r, rfl, h⟩ := sA_spec h
      have hj := tg_eq (of_decide_eq_true (jmp_ok hk hi))
      refine ⟨h.1, fun H locs ad lsA ha hP hD hS hl hp hz hw => ?_⟩
      exact lv_ifnonnull hx hb (ins_d hk hi rfl) hj (h.2 H locs ad lsA ha hP hD hS hl hp hz hw)
    case instanceof idx =>
      obtain ⟨o, r, rfl, h0, h1, h⟩ := sA_spec h
      refine ⟨h.1, fun H locs ad lsA ha hP hD hS hl hp hz hw => ?_⟩
      have w1 := cls_fact hk (Or.inl rfl) (by omega) hi
      rw [if_pos h0] at w1
      exact va_instS hx hb hown (htT _ w1) (hK.1 9 _ rfl).2 (va_recv hK hP (ci := 9) (q0 := ps o) (q := (RJ0, TJ0, 4)) rfl (by rw [ws_get (okD h1), cell_dobj h1 (by decide) (by decide)])) (ins_d hk hi rfl) (h.2 H locs ad lsA ha hP hD hS hl hp hz hw)
    case checkcast idx =>
      obtain ⟨o, r, rfl, h0, h⟩ := sA_spec h
      refine ⟨h.1, fun H locs ad lsA ha hP hD hS hl hp hz hw => ?_⟩
      have w1 := cls_fact hk (Or.inr rfl) (by omega) hi
      rcases h0 with ⟨h0, h1⟩ | ⟨h0, h1⟩
      · rw [if_pos h0] at w1
        exact va_castS hx hb hown (htT _ w1) (hK.1 9 _ rfl).2 (va_recv hK hP (ci := 9) (q0 := ps o) (q := (RJ0, TJ0, 4)) rfl (by rw [ws_get (okD h1), cell_dobj h1 (by decide) (by decide)])) (ins_d hk hi rfl) (h.2 H locs ad lsA ha hP hD hS hl hp hz hw)
      · rw [if_neg (by omega)] at w1
        exact va_castA hx hb hown (htT _ w1) hP (ps o) (by rw [ws_get (okD h1), cell_dbyte h1]) (hK.2 2 (G.2.1 2, .byte) rfl).2 (ins_d hk hi rfl) (h.2 H locs ad lsA ha hP hD hS hl hp hz hw)
    case iushr =>
      obtain ⟨x, y, r, rfl, h⟩ := sII_spec h
      refine ⟨h.1, fun H locs ad lsA ha hP hD hS hl hp hz hw => ?_⟩
      exact lv_iushr hx hb (ins_d hk hi rfl) rfl (h.2 H locs ad lsA ha hP hD hS hl hp hz hw)
    case ishl =>
      obtain ⟨x, y, r, rfl, h⟩ := sII_spec h
      refine ⟨h.1, fun H locs ad lsA ha hP hD hS hl hp hz hw => ?_⟩
      exact lv_ishl hx hb (ins_d hk hi rfl) (h.2 H locs ad lsA ha hP hD hS hl hp hz hw)
    case i2d =>
      obtain ⟨x, r, rfl, h⟩ := sI_spec h
      refine ⟨h.1, fun H locs ad lsA ha hP hD hS hl hp hz hw => ?_⟩
      exact lv_i2d hx hb (ins_d hk hi rfl) (h.2 H locs ad lsA ha hP hD hS hl hp hz hw)
    case i2f =>
      obtain ⟨x, r, rfl, h⟩ := sI_spec h
      refine ⟨h.1, fun H locs ad lsA ha hP hD hS hl hp hz hw => ?_⟩
      exact lv_i2f hx hb (ins_d hk hi rfl) (h.2 H locs ad lsA ha hP hD hS hl hp hz hw)
    case ddiv =>
      match st, h with
      | .double y :: .double x :: r, ⟨h0, h⟩ =>
        refine ⟨h.1, fun H locs ad lsA ha hP hD hS hl hp hz hw => ?_⟩
        exact lv_ddiv hx hb (ins_d hk hi rfl) h0 (h.2 H locs ad lsA ha hP hD hS hl hp hz hw)
    case fdiv =>
      match st, h with
      | .float y :: .float x :: r, ⟨h0, h⟩ =>
        refine ⟨h.1, fun H locs ad lsA ha hP hD hS hl hp hz hw => ?_⟩
        exact lv_fdiv hx hb (ins_d hk hi rfl) h0 (h.2 H locs ad lsA ha hP hD hS hl hp hz hw)
    case dcmp op =>
      match st, h with
      | .double y :: .double x :: r, h =>
        refine ⟨h.1, fun H locs ad lsA ha hP hD hS hl hp hz hw => ?_⟩
        exact lv_dcmp hx hb (ins_d hk hi rfl) (h.2 H locs ad lsA ha hP hD hS hl hp hz hw)
    case fcmp op =>
      match st, h with
      | .float y :: .float x :: r, h =>
        refine ⟨h.1, fun H locs ad lsA ha hP hD hS hl hp hz hw => ?_⟩
        exact lv_fcmp hx hb (ins_d hk hi rfl) (h.2 H locs ad lsA ha hP hD hS hl hp hz hw)
    case dconst n =>
      obtain ⟨rfl, h⟩ := h
      refine ⟨h.1, fun H locs ad lsA ha hP hD hS hl hp hz hw => ?_⟩
      exact lv_dconst0 hx hb (ins_d hk hi rfl) (h.2 H locs ad lsA ha hP hD hS hl hp hz hw)
    case fconst n =>
      obtain ⟨rfl, h⟩ := h
      refine ⟨h.1, fun H locs ad lsA ha hP hD hS hl hp hz hw => ?_⟩
      exact lv_fconst0 hx hb (ins_d hk hi rfl) (h.2 H locs ad lsA ha hP hD hS hl hp hz hw)
    case dload x =>
      dsimp only at h
      split at h
      next v hv =>
        obtain ⟨h0, h⟩ := h
        refine ⟨h.1, fun H locs ad lsA ha hP hD hS hl hp hz hw => ?_⟩
        exact lv_dload hx hb (ins_d hk hi rfl) (hl.2.2.2 x (.double v) hv (by simp) (by simp) (fun _ => h0)).2 (h.2 H locs ad lsA ha hP hD hS hl hp hz hw)
      next => exact h.elim
    case fload x =>
      dsimp only at h
      split at h
      next v hv =>
        refine ⟨h.1, fun H locs ad lsA ha hP hD hS hl hp hz hw => ?_⟩
        exact lv_fload hx hb (ins_d hk hi rfl) (hl.get hv rfl) (h.2 H locs ad lsA ha hP hD hS hl hp hz hw)
      next => exact h.elim
    case dstore x =>
      match st, h with
      | .double v :: r, ⟨h0, h⟩ =>
        refine ⟨h.1, fun H locs ad lsA ha hP hD hS hl hp hz hw => ?_⟩
        exact lv_dstore hx hb (ins_d hk hi rfl) hl.has (by rw [← hl.2.2.1]; exact h0) rfl (fun lsB hB => h.2 H locs ad lsB ha hP hD hS (hl.setD hf h0 hB) hp hz hw)
    case fstore x =>
      match st, h with
      | .float v :: r, ⟨h0, h⟩ =>
        refine ⟨h.1, fun H locs ad lsA ha hP hD hS hl hp hz hw => ?_⟩
        exact lv_fstore hx hb (ins_d hk hi rfl) hl.has (by rw [← hl.2.2.1]; exact h0) rfl (fun lsB hB => h.2 H locs ad lsB ha hP hD hS (hl.set hf h0 rfl (by simp) hB) hp hz hw)
    case dreturn => exact hret pc ls st D _ _ _ _ _ hi (Or.inr (Or.inr (Or.inr (Or.inl rfl)))) (by unfold Step; rw [hi]; exact h)
    case freturn => exact hret pc ls st D _ _ _ _ _ hi (Or.inr (Or.inr (Or.inr (Or.inr rfl)))) (by unfold Step; rw [hi]; exact h)
    all_goals exact h.elim
theorem Ct_pos : ∀ d b a D Q, Ct d b a D Q → 1 ≤ d
  | 0, _, _, _, _, h => h.elim
  | d + 1, _, _, _, _, _ => by omega
end
section
/-! a method's frame: its end, and the whole -/
set_option maxHeartbeats 4000000 in
theorem snd_ret {p : Program} {l : Launch} {e : Env} {R : Room} {s : State} {m : MethodId} {args : Array Value} {below : List Frame} {meth : Method} {c : Code} {G : Gp} {d k : Nat} {ad0 : Nat → Nat} {D0 : Mm} {rr : Option Value} {D1 : Mm} (hk : k < mnames + 1)
    (hx : p.tables.exec = Jvm.exec) (hb : c.code = nB k) (hr : meth.sig.returnType = nR k) (hlocks : meth.locks = false) (hK : va_K G.1 vwCl (tysA G.2.1) s)
    (pc : Nat) (ls st : List Value) (D : Mm) (i : Instr) (a b cc dd : Nat) (hi : ins k pc = some (i, a, b, cc, dd)) (hh : i = .ireturn ∨ i = .areturn ∨ i = .return_ ∨ i = .dreturn ∨ i = .freturn)
    (h : Step (Ct d) k (fun r2 D2 => r2 = rr ∧ D2 = D1) (PS p l e R 0 0 s m args below meth c G k (va_A (wsOf G.2.1 ad0 D0) s.heap.size) ad0 D0 (MQ below (MC G ad0 D0 s.heap.size rr D1) args s (pot D1 - pot D0) (2 * (pot D1 - pot D0)) (va_A (wsOf G.2.1 ad0 D0) s.heap.size)) D1) pc ls st D) : PS p l e R 0 0 s m args below meth c G k (va_A (wsOf G.2.1 ad0 D0) s.heap.size) ad0 D0 (MQ below (MC G ad0 D0 s.heap.size rr D1) args s (pot D1 - pot D0) (2 * (pot D1 - pot D0)) (va_A (wsOf G.2.1 ad0 D0) s.heap.size)) D1 pc ls st D := by
  unfold Step at h
  rw [hi] at h
  rcases hh with rfl | rfl | rfl | rfl | rfl
  · match st, h with
    | [.int v], ⟨h0, h⟩ =>
      obtain ⟨rfl, rfl⟩ := h
      refine ⟨Nat.le_refl _, fun H locs ad lsA ha hP hD hS hl hp hz hw => ?_⟩
      have hq : ∀ t : State, t.heap = H → s.WarmedH t.vm → MC G ad0 D0 s.heap.size (some (.int v)) D args s (.returned (some (.int v))) t := fun t ht hW => ⟨⟨_, rfl, ad, ha, rfl, by rw [ht]; exact hP, va_K.moved hW.alike hK, hD, hz, hw⟩, hS.F ht⟩
      refine W.cs (cells' := pot D - pot D0) (slots' := 2 * (pot D - pot D0)) (by omega) (by omega) ?_
      unfold retK at h0
      split at h0
      next e1 => exact W.iret hx hb (by rw [hr]; exact e1) hq hS.2.2 (ins_d hk hi rfl) hlocks
      next ty hty e1 => exact W.zret hx hb (by rw [hr]; exact e1) h0.2 hq hS.2.2 (ins_d hk hi rfl) hlocks
      next => exact h0.elim
  · match st, h with
    | [.ref v], ⟨h0, h1, h⟩ =>
      obtain ⟨rfl, rfl⟩ := h
      refine ⟨Nat.le_refl _, fun H locs ad lsA ha hP hD hS hl hp hz hw => ?_⟩
      have hq : ∀ t : State, t.heap = H → s.WarmedH t.vm → MC G ad0 D0 s.heap.size (some (.ref v)) D args s (.returned (some (.ref (ad v)))) t := fun t ht hW => ⟨⟨_, rfl, ad, ha, rfl, by rw [ht]; exact hP, va_K.moved hW.alike hK, hD, hz, hw⟩, hS.F ht⟩
      refine W.cs (cells' := pot D - pot D0) (slots' := 2 * (pot D - pot D0)) (by omega) (by omega) ?_
      unfold retA at h1
      split at h1
      next n e1 => exact W.aret hx hb (by rw [hr]; exact e1) (Or.inl ⟨_, rfl⟩) (Or.inr ⟨_, rfl⟩) hq hS.2.2 (ins_d hk hi rfl) hlocks
      next n e1 => exact W.aret hx hb (by rw [hr]; exact e1) (Or.inr ⟨_, rfl⟩) (Or.inr ⟨_, rfl⟩) hq hS.2.2 (ins_d hk hi rfl) hlocks
      next => exact h1.elim
  · obtain ⟨h1, rfl, h⟩ := h
    obtain ⟨rfl, rfl⟩ := h
    refine ⟨Nat.le_refl _, fun H locs ad lsA ha hP hD hS hl hp hz hw => ?_⟩
    refine W.cs (cells' := pot D - pot D0) (slots' := 2 * (pot D - pot D0)) (by omega) (by omega) ?_
    exact W.vret hx hb (by rw [hr]; exact h1) (fun t ht hW => ⟨⟨_, rfl, ad, ha, rfl, by rw [ht]; exact hP, va_K.moved hW.alike hK, hD, hz, hw⟩, hS.F ht⟩) hS.2.2 (ins_d hk hi rfl) hlocks
  · match st, h with
    | [.double v], ⟨h0, h⟩ =>
      obtain ⟨rfl, rfl⟩ := h
      refine ⟨Nat.le_refl _, fun H locs ad lsA ha hP hD hS hl hp hz hw => ?_⟩
      refine W.cs (cells' := pot D - pot D0) (slots' := 2 * (pot D - pot D0)) (by omega) (by omega) ?_
      exact W.dret hx hb (by rw [hr]; exact h0) (fun t ht hW => ⟨⟨_, rfl, ad, ha, rfl, by rw [ht]; exact hP, va_K.moved hW.alike hK, hD, hz, hw⟩, hS.F ht⟩) hS.2.2 (ins_d hk hi rfl) hlocks
  · match st, h with
    | [.float v], ⟨h0, h⟩ =>
      obtain ⟨rfl, rfl⟩ := h
      refine ⟨Nat.le_refl _, fun H locs ad lsA ha hP hD hS hl hp hz hw => ?_⟩
      refine W.cs (cells' := pot D - pot D0) (slots' := 2 * (pot D - pot D0)) (by omega) (by omega) ?_
      exact W.fret hx hb (by rw [hr]; exact h0) (fun t ht hW => ⟨⟨_, rfl, ad, ha, rfl, by rw [ht]; exact hP, va_K.moved hW.alike hK, hD, hz, hw⟩, hS.F ht⟩) hS.2.2 (ins_d hk hi rfl) hlocks
/-- every contract of the abstract machine is one of the machine's; the capacity of a text of the class's own is a contract of its own -/
theorem snd_all {l : Launch} {G : Gp} (hE : ∀ d, 4 ≤ d → ∀ (args : List Value) (D : Mm) (r : Option Value) (D1 : Mm) (ad : Nat → Nat) (sz : Nat), ensS args D (fun r2 D2 => r2 = r ∧ D2 = D1) →
    Met l (nY ensK) (wsm ensK) (rmD d (pot D1 - pot D)) (va_Pc (args.map (cv ad G.2.2)) (MP G ad D sz)) (MC G ad D sz r D1) (pot D1 - pot D) (2 * (pot D1 - pot D)) (va_A (wsOf G.2.1 ad D) sz)) : ∀ d, Snd l G d
  | 0 => fun _ _ _ _ _ _ _ h => h.elim
  | d + 1 => by
    have IH := snd_all hE d
    intro k args D r D1 ad sz h
    unfold Ct at h
    by_cases hk : k = ensK ∧ dyB args = false
    · rw [if_pos hk] at h
      obtain ⟨hk, -⟩ := hk
      subst hk
      exact hE d h.1 args D r D1 ad sz h.2
    · rw [if_neg hk] at h
      obtain ⟨hkm, hal, hac, hW⟩ := h
      obtain ⟨m1, m2, m3, m4, m6, m7, m8, m9, m10⟩ := mfact hkm
      refine va_MetF (cc := nB k) (maxL := nL k) (ret := nR k) m10 rfl ?_
      intro p e s m args0 below meth c s₁ B hml hv
      obtain ⟨rfl, hsz, hP, hK, hD0, hRO, hWF, hSX⟩ := hv
      have hts := atoms_spec (ws := wsm k) B.pre
      have htT : ∀ w ∈ Tall, w.before ((args.map (cv ad G.2.2)).toArray) s = true := fun w hw => hts w (List.mem_cons_of_mem _ hw)
      have hown : s.vm.findClass (cN (nO k)) = some m.cls := by rw [← m3]; exact findClass_of_methodNamed B.named
      subst hsz
      have hf : G.2.2.category = 1 := hRO.2.2.2.2.2.2.2.2
      have hps := hW (PS p l e (rmD d (pot D1 - pot D)) 0 0 s m ((args.map (cv ad G.2.2)).toArray) below meth c G k (va_A (wsOf G.2.1 ad D) s.heap.size) ad D (MQ below (MC G ad D s.heap.size r D1) ((args.map (cv ad G.2.2)).toArray) s (pot D1 - pot D) (2 * (pot D1 - pot D)) (va_A (wsOf G.2.1 ad D) s.heap.size)) D1) (fun pc ls st D2 hst =>
        snd_step IH (Ct_pos d) ⟨Nat.le_refl _, Nat.le_refl _, by show 0 + _ ≤ pot D1 - pot D; omega, by show 0 + _ ≤ 2 * (pot D1 - pot D); omega⟩ (fun q h => Or.inr h) (by omega) B.exec B.bytes hml hown htT hK hRO hSX (fun h9 => ((name_of_methodNamed B.named B.method).1).trans h9)
          (Qr := fun r2 D2 => r2 = r ∧ D2 = D1) (fun pc ls st D i a b cc dd h1 h2 h3 => snd_ret (by omega) B.exec B.bytes B.returns B.notSynchronized hK pc ls st D i a b cc dd h1 h2 h3) pc ls st D2 hst)
      have hl := LOK.entry (ad := ad) hf hac (n := nL k) (by rw [hal]; exact m8)
      rw [lg_entry_eq]
      have h9 := hps.2 s.heap [] ad _ agree.rf hP hD0.self va_S.rf (by rw [hal] at hl; exact hl) leD.rf (fun _ => rfl) hWF
      rw [Nat.sub_self] at h9
      exact h9
end
