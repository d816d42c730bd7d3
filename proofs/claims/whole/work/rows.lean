section
-- ===== PART A: goes FIRST, ahead of the names: the tables' words, and 'selects' of the private methods out of them =====
/-- a private method of a class that the tables say can be made, by its rows of tables_1 -/
def lw_okq (q : MethodName × Nat) : Prop := (q.1.cls ≠ "java/lang/invoke/MethodHandle" ∧ q.1.cls ≠ "java/lang/invoke/VarHandle") ∧ Cond.instantiable q.1.cls q.2 ∈ tables_1 ∧ Cond.privateMethod q.1 ∈ tables_1 ∧ Cond.instanceMethod q.1 ∈ tables_1
theorem lw_p0 : lw_okq (⟨"CandleStatute$Stubs", "copyStub", "(ILCandleStatute$Stubs;I)V"⟩, 9) := ⟨⟨by decide +kernel, by decide +kernel⟩, List.mem_of_getElem? (i := 36) (by decide +kernel), List.mem_of_getElem? (i := 297) (by decide +kernel), List.mem_of_getElem? (i := 298) (by decide +kernel)⟩
theorem lw_p1 : lw_okq (⟨"CandleStatute", "bringStub", "(III)I"⟩, 9) := ⟨⟨by decide +kernel, by decide +kernel⟩, List.mem_of_getElem? (i := 22) (by decide +kernel), List.mem_of_getElem? (i := 301) (by decide +kernel), List.mem_of_getElem? (i := 302) (by decide +kernel)⟩
theorem lw_p2 : lw_okq (⟨"CandleStatute", "refuse", "(II)I"⟩, 9) := ⟨⟨by decide +kernel, by decide +kernel⟩, List.mem_of_getElem? (i := 22) (by decide +kernel), List.mem_of_getElem? (i := 311) (by decide +kernel), List.mem_of_getElem? (i := 312) (by decide +kernel)⟩
theorem lw_p3 : lw_okq (⟨"CandleStatute", "hasRoomFor", "(II)Z"⟩, 9) := ⟨⟨by decide +kernel, by decide +kernel⟩, List.mem_of_getElem? (i := 22) (by decide +kernel), List.mem_of_getElem? (i := 323) (by decide +kernel), List.mem_of_getElem? (i := 324) (by decide +kernel)⟩
theorem lw_p4 : lw_okq (⟨"CandleStatute", "settle", "(I)I"⟩, 9) := ⟨⟨by decide +kernel, by decide +kernel⟩, List.mem_of_getElem? (i := 22) (by decide +kernel), List.mem_of_getElem? (i := 343) (by decide +kernel), List.mem_of_getElem? (i := 344) (by decide +kernel)⟩
theorem lw_p5 : lw_okq (⟨"CandleStatute", "burnStub", "(II)I"⟩, 9) := ⟨⟨by decide +kernel, by decide +kernel⟩, List.mem_of_getElem? (i := 22) (by decide +kernel), List.mem_of_getElem? (i := 358) (by decide +kernel), List.mem_of_getElem? (i := 359) (by decide +kernel)⟩
theorem lw_p6 : lw_okq (⟨"CandleStatute", "isStub", "(I)Z"⟩, 9) := ⟨⟨by decide +kernel, by decide +kernel⟩, List.mem_of_getElem? (i := 22) (by decide +kernel), List.mem_of_getElem? (i := 362) (by decide +kernel), List.mem_of_getElem? (i := 363) (by decide +kernel)⟩
theorem lw_p7 : lw_okq (⟨"CandleStatute", "oweLight", "(III)I"⟩, 9) := ⟨⟨by decide +kernel, by decide +kernel⟩, List.mem_of_getElem? (i := 22) (by decide +kernel), List.mem_of_getElem? (i := 387) (by decide +kernel), List.mem_of_getElem? (i := 388) (by decide +kernel)⟩
theorem lw_p8 : lw_okq (⟨"CandleStatute", "snuffStub", "(III)I"⟩, 9) := ⟨⟨by decide +kernel, by decide +kernel⟩, List.mem_of_getElem? (i := 22) (by decide +kernel), List.mem_of_getElem? (i := 399) (by decide +kernel), List.mem_of_getElem? (i := 400) (by decide +kernel)⟩
theorem lw_p9 : lw_okq (⟨"CandleStatute", "poolWax", "(II)I"⟩, 9) := ⟨⟨by decide +kernel, by decide +kernel⟩, List.mem_of_getElem? (i := 22) (by decide +kernel), List.mem_of_getElem? (i := 422) (by decide +kernel), List.mem_of_getElem? (i := 423) (by decide +kernel)⟩
theorem lw_p10 : lw_okq (⟨"CandleStatute", "sharePool", "()I"⟩, 9) := ⟨⟨by decide +kernel, by decide +kernel⟩, List.mem_of_getElem? (i := 22) (by decide +kernel), List.mem_of_getElem? (i := 431) (by decide +kernel), List.mem_of_getElem? (i := 432) (by decide +kernel)⟩
theorem lw_p11 : lw_okq (⟨"CandleStatute$Sharing", "giveOneByRest", "()V"⟩, 3) := ⟨⟨by decide +kernel, by decide +kernel⟩, List.mem_of_getElem? (i := 203) (by decide +kernel), List.mem_of_getElem? (i := 450) (by decide +kernel), List.mem_of_getElem? (i := 451) (by decide +kernel)⟩
theorem lw_p12 : lw_okq (⟨"CandleStatute", "mouldStub", "(III)I"⟩, 9) := ⟨⟨by decide +kernel, by decide +kernel⟩, List.mem_of_getElem? (i := 22) (by decide +kernel), List.mem_of_getElem? (i := 473) (by decide +kernel), List.mem_of_getElem? (i := 474) (by decide +kernel)⟩
theorem lw_p13 : lw_okq (⟨"CandleStatute", "tellHeir", "(II)I"⟩, 9) := ⟨⟨by decide +kernel, by decide +kernel⟩, List.mem_of_getElem? (i := 22) (by decide +kernel), List.mem_of_getElem? (i := 481) (by decide +kernel), List.mem_of_getElem? (i := 482) (by decide +kernel)⟩
theorem lw_p14 : lw_okq (⟨"CandleStatute", "endHouse", "(I)I"⟩, 9) := ⟨⟨by decide +kernel, by decide +kernel⟩, List.mem_of_getElem? (i := 22) (by decide +kernel), List.mem_of_getElem? (i := 489) (by decide +kernel), List.mem_of_getElem? (i := 490) (by decide +kernel)⟩
theorem lw_p15 : lw_okq (⟨"CandleStatute$State", "handOverRights", "(II)V"⟩, 11) := ⟨⟨by decide +kernel, by decide +kernel⟩, List.mem_of_getElem? (i := 30) (by decide +kernel), List.mem_of_getElem? (i := 501) (by decide +kernel), List.mem_of_getElem? (i := 502) (by decide +kernel)⟩
def lw_privs_1 : List (MethodName × Nat) := [(⟨"CandleStatute$Stubs", "copyStub", "(ILCandleStatute$Stubs;I)V"⟩, 9), (⟨"CandleStatute", "bringStub", "(III)I"⟩, 9), (⟨"CandleStatute", "refuse", "(II)I"⟩, 9), (⟨"CandleStatute", "hasRoomFor", "(II)Z"⟩, 9), (⟨"CandleStatute", "settle", "(I)I"⟩, 9), (⟨"CandleStatute", "burnStub", "(II)I"⟩, 9), (⟨"CandleStatute", "isStub", "(I)Z"⟩, 9), (⟨"CandleStatute", "oweLight", "(III)I"⟩, 9), (⟨"CandleStatute", "snuffStub", "(III)I"⟩, 9), (⟨"CandleStatute", "poolWax", "(II)I"⟩, 9), (⟨"CandleStatute", "sharePool", "()I"⟩, 9), (⟨"CandleStatute$Sharing", "giveOneByRest", "()V"⟩, 3), (⟨"CandleStatute", "mouldStub", "(III)I"⟩, 9), (⟨"CandleStatute", "tellHeir", "(II)I"⟩, 9), (⟨"CandleStatute", "endHouse", "(I)I"⟩, 9), (⟨"CandleStatute$State", "handOverRights", "(II)V"⟩, 11)]
theorem lw_r1 : ∀ q ∈ lw_privs_1, lw_okq q := List.forall_mem_cons.mpr ⟨lw_p0, List.forall_mem_cons.mpr ⟨lw_p1, List.forall_mem_cons.mpr ⟨lw_p2, List.forall_mem_cons.mpr ⟨lw_p3, List.forall_mem_cons.mpr ⟨lw_p4, List.forall_mem_cons.mpr ⟨lw_p5, List.forall_mem_cons.mpr ⟨lw_p6, List.forall_mem_cons.mpr ⟨lw_p7, List.forall_mem_cons.mpr ⟨lw_p8, List.forall_mem_cons.mpr ⟨lw_p9, List.forall_mem_cons.mpr ⟨lw_p10, List.forall_mem_cons.mpr ⟨lw_p11, List.forall_mem_cons.mpr ⟨lw_p12, List.forall_mem_cons.mpr ⟨lw_p13, List.forall_mem_cons.mpr ⟨lw_p14, List.forall_mem_cons.mpr ⟨lw_p15, fun _ h => absurd h List.not_mem_nil⟩⟩⟩⟩⟩⟩⟩⟩⟩⟩⟩⟩⟩⟩⟩⟩
theorem lw_p16 : lw_okq (⟨"CandleStatute$State", "handOverStubs", "(II)V"⟩, 11) := ⟨⟨by decide +kernel, by decide +kernel⟩, List.mem_of_getElem? (i := 30) (by decide +kernel), List.mem_of_getElem? (i := 506) (by decide +kernel), List.mem_of_getElem? (i := 507) (by decide +kernel)⟩
theorem lw_p17 : lw_okq (⟨"CandleStatute$State", "dropWhatIsOwn", "()V"⟩, 11) := ⟨⟨by decide +kernel, by decide +kernel⟩, List.mem_of_getElem? (i := 30) (by decide +kernel), List.mem_of_getElem? (i := 512) (by decide +kernel), List.mem_of_getElem? (i := 513) (by decide +kernel)⟩
theorem lw_p18 : lw_okq (⟨"CandleStatute", "passHours", "(I)I"⟩, 9) := ⟨⟨by decide +kernel, by decide +kernel⟩, List.mem_of_getElem? (i := 22) (by decide +kernel), List.mem_of_getElem? (i := 521) (by decide +kernel), List.mem_of_getElem? (i := 522) (by decide +kernel)⟩
theorem lw_p19 : lw_okq (⟨"CandleStatute$State", "isAhead", "(II)Z"⟩, 11) := ⟨⟨by decide +kernel, by decide +kernel⟩, List.mem_of_getElem? (i := 30) (by decide +kernel), List.mem_of_getElem? (i := 579) (by decide +kernel), List.mem_of_getElem? (i := 580) (by decide +kernel)⟩
theorem lw_p20 : lw_okq (⟨"CandleStatute$Stubs", "isAhead", "(II)Z"⟩, 9) := ⟨⟨by decide +kernel, by decide +kernel⟩, List.mem_of_getElem? (i := 36) (by decide +kernel), List.mem_of_getElem? (i := 591) (by decide +kernel), List.mem_of_getElem? (i := 592) (by decide +kernel)⟩
theorem lw_p21 : lw_okq (⟨"CandleStatute$Orders", "isOrderRead", "(Ljava/lang/StringBuilder;I)Z"⟩, 6) := ⟨⟨by decide +kernel, by decide +kernel⟩, List.mem_of_getElem? (i := 173) (by decide +kernel), List.mem_of_getElem? (i := 707) (by decide +kernel), List.mem_of_getElem? (i := 708) (by decide +kernel)⟩
theorem lw_p22 : lw_okq (⟨"CandleStatute$Orders", "hasDigit", "(Ljava/lang/StringBuilder;)Z"⟩, 6) := ⟨⟨by decide +kernel, by decide +kernel⟩, List.mem_of_getElem? (i := 173) (by decide +kernel), List.mem_of_getElem? (i := 817) (by decide +kernel), List.mem_of_getElem? (i := 818) (by decide +kernel)⟩
theorem lw_p23 : lw_okq (⟨"CandleStatute$Orders", "readNumber", "(Ljava/lang/StringBuilder;C)I"⟩, 6) := ⟨⟨by decide +kernel, by decide +kernel⟩, List.mem_of_getElem? (i := 173) (by decide +kernel), List.mem_of_getElem? (i := 821) (by decide +kernel), List.mem_of_getElem? (i := 822) (by decide +kernel)⟩
theorem lw_p24 : lw_okq (⟨"CandleStatute$Orders", "keepNumber", "(III)V"⟩, 6) := ⟨⟨by decide +kernel, by decide +kernel⟩, List.mem_of_getElem? (i := 173) (by decide +kernel), List.mem_of_getElem? (i := 825) (by decide +kernel), List.mem_of_getElem? (i := 826) (by decide +kernel)⟩
theorem lw_p25 : lw_okq (⟨"CandleStatute$Orders", "isSignRead", "(Ljava/lang/StringBuilder;C)Z"⟩, 6) := ⟨⟨by decide +kernel, by decide +kernel⟩, List.mem_of_getElem? (i := 173) (by decide +kernel), List.mem_of_getElem? (i := 829) (by decide +kernel), List.mem_of_getElem? (i := 830) (by decide +kernel)⟩
theorem lw_p26 : lw_okq (⟨"CandleStatute", "carryOut", "(I)I"⟩, 9) := ⟨⟨by decide +kernel, by decide +kernel⟩, List.mem_of_getElem? (i := 22) (by decide +kernel), List.mem_of_getElem? (i := 853) (by decide +kernel), List.mem_of_getElem? (i := 854) (by decide +kernel)⟩
theorem lw_p27 : lw_okq (⟨"CandleStatute", "refuseOrder", "(II)I"⟩, 9) := ⟨⟨by decide +kernel, by decide +kernel⟩, List.mem_of_getElem? (i := 22) (by decide +kernel), List.mem_of_getElem? (i := 861) (by decide +kernel), List.mem_of_getElem? (i := 862) (by decide +kernel)⟩
theorem lw_p28 : lw_okq (⟨"CandleStatute", "writeHouse", "(I)V"⟩, 9) := ⟨⟨by decide +kernel, by decide +kernel⟩, List.mem_of_getElem? (i := 22) (by decide +kernel), List.mem_of_getElem? (i := 903) (by decide +kernel), List.mem_of_getElem? (i := 904) (by decide +kernel)⟩
theorem lw_p29 : lw_okq (⟨"CandleStatute", "isWaxAccountedFor", "()Z"⟩, 9) := ⟨⟨by decide +kernel, by decide +kernel⟩, List.mem_of_getElem? (i := 22) (by decide +kernel), List.mem_of_getElem? (i := 937) (by decide +kernel), List.mem_of_getElem? (i := 938) (by decide +kernel)⟩
theorem lw_p30 : lw_okq (⟨"CandleStatute", "areSharesSame", "()Z"⟩, 9) := ⟨⟨by decide +kernel, by decide +kernel⟩, List.mem_of_getElem? (i := 22) (by decide +kernel), List.mem_of_getElem? (i := 945) (by decide +kernel), List.mem_of_getElem? (i := 946) (by decide +kernel)⟩
theorem lw_p31 : lw_okq (⟨"CandleStatute", "areWeightsSame", "()Z"⟩, 9) := ⟨⟨by decide +kernel, by decide +kernel⟩, List.mem_of_getElem? (i := 22) (by decide +kernel), List.mem_of_getElem? (i := 949) (by decide +kernel), List.mem_of_getElem? (i := 950) (by decide +kernel)⟩
def lw_privs_2 : List (MethodName × Nat) := [(⟨"CandleStatute$State", "handOverStubs", "(II)V"⟩, 11), (⟨"CandleStatute$State", "dropWhatIsOwn", "()V"⟩, 11), (⟨"CandleStatute", "passHours", "(I)I"⟩, 9), (⟨"CandleStatute$State", "isAhead", "(II)Z"⟩, 11), (⟨"CandleStatute$Stubs", "isAhead", "(II)Z"⟩, 9), (⟨"CandleStatute$Orders", "isOrderRead", "(Ljava/lang/StringBuilder;I)Z"⟩, 6), (⟨"CandleStatute$Orders", "hasDigit", "(Ljava/lang/StringBuilder;)Z"⟩, 6), (⟨"CandleStatute$Orders", "readNumber", "(Ljava/lang/StringBuilder;C)I"⟩, 6), (⟨"CandleStatute$Orders", "keepNumber", "(III)V"⟩, 6), (⟨"CandleStatute$Orders", "isSignRead", "(Ljava/lang/StringBuilder;C)Z"⟩, 6), (⟨"CandleStatute", "carryOut", "(I)I"⟩, 9), (⟨"CandleStatute", "refuseOrder", "(II)I"⟩, 9), (⟨"CandleStatute", "writeHouse", "(I)V"⟩, 9), (⟨"CandleStatute", "isWaxAccountedFor", "()Z"⟩, 9), (⟨"CandleStatute", "areSharesSame", "()Z"⟩, 9), (⟨"CandleStatute", "areWeightsSame", "()Z"⟩, 9)]
theorem lw_r2 : ∀ q ∈ lw_privs_2, lw_okq q := List.forall_mem_cons.mpr ⟨lw_p16, List.forall_mem_cons.mpr ⟨lw_p17, List.forall_mem_cons.mpr ⟨lw_p18, List.forall_mem_cons.mpr ⟨lw_p19, List.forall_mem_cons.mpr ⟨lw_p20, List.forall_mem_cons.mpr ⟨lw_p21, List.forall_mem_cons.mpr ⟨lw_p22, List.forall_mem_cons.mpr ⟨lw_p23, List.forall_mem_cons.mpr ⟨lw_p24, List.forall_mem_cons.mpr ⟨lw_p25, List.forall_mem_cons.mpr ⟨lw_p26, List.forall_mem_cons.mpr ⟨lw_p27, List.forall_mem_cons.mpr ⟨lw_p28, List.forall_mem_cons.mpr ⟨lw_p29, List.forall_mem_cons.mpr ⟨lw_p30, List.forall_mem_cons.mpr ⟨lw_p31, fun _ h => absurd h List.not_mem_nil⟩⟩⟩⟩⟩⟩⟩⟩⟩⟩⟩⟩⟩⟩⟩⟩
theorem lw_p32 : lw_okq (⟨"CandleStatuteModel", "begins", "()V"⟩, 25) := ⟨⟨by decide +kernel, by decide +kernel⟩, List.mem_of_getElem? (i := 983) (by decide +kernel), List.mem_of_getElem? (i := 1072) (by decide +kernel), List.mem_of_getElem? (i := 1073) (by decide +kernel)⟩
theorem lw_p33 : lw_okq (⟨"CandleStatuteModel", "comes", "(III)I"⟩, 25) := ⟨⟨by decide +kernel, by decide +kernel⟩, List.mem_of_getElem? (i := 983) (by decide +kernel), List.mem_of_getElem? (i := 1079) (by decide +kernel), List.mem_of_getElem? (i := 1080) (by decide +kernel)⟩
theorem lw_p34 : lw_okq (⟨"CandleStatuteModel", "fail", "(I)I"⟩, 25) := ⟨⟨by decide +kernel, by decide +kernel⟩, List.mem_of_getElem? (i := 983) (by decide +kernel), List.mem_of_getElem? (i := 1089) (by decide +kernel), List.mem_of_getElem? (i := 1090) (by decide +kernel)⟩
theorem lw_p35 : lw_okq (⟨"CandleStatuteModel", "isOpen", "(I)Z"⟩, 25) := ⟨⟨by decide +kernel, by decide +kernel⟩, List.mem_of_getElem? (i := 983) (by decide +kernel), List.mem_of_getElem? (i := 1096) (by decide +kernel), List.mem_of_getElem? (i := 1097) (by decide +kernel)⟩
theorem lw_p36 : lw_okq (⟨"CandleStatuteModel", "refuses", "(II)I"⟩, 25) := ⟨⟨by decide +kernel, by decide +kernel⟩, List.mem_of_getElem? (i := 983) (by decide +kernel), List.mem_of_getElem? (i := 1100) (by decide +kernel), List.mem_of_getElem? (i := 1101) (by decide +kernel)⟩
theorem lw_p37 : lw_okq (⟨"CandleStatuteModel", "makes", "(III)I"⟩, 25) := ⟨⟨by decide +kernel, by decide +kernel⟩, List.mem_of_getElem? (i := 983) (by decide +kernel), List.mem_of_getElem? (i := 1104) (by decide +kernel), List.mem_of_getElem? (i := 1105) (by decide +kernel)⟩
theorem lw_p38 : lw_okq (⟨"CandleStatuteModel", "tray", "(I)I"⟩, 25) := ⟨⟨by decide +kernel, by decide +kernel⟩, List.mem_of_getElem? (i := 983) (by decide +kernel), List.mem_of_getElem? (i := 1108) (by decide +kernel), List.mem_of_getElem? (i := 1109) (by decide +kernel)⟩
theorem lw_p39 : lw_okq (⟨"CandleStatuteModel", "ends", "(I)I"⟩, 25) := ⟨⟨by decide +kernel, by decide +kernel⟩, List.mem_of_getElem? (i := 983) (by decide +kernel), List.mem_of_getElem? (i := 1115) (by decide +kernel), List.mem_of_getElem? (i := 1116) (by decide +kernel)⟩
theorem lw_p40 : lw_okq (⟨"CandleStatuteModel", "burns", "(II)I"⟩, 25) := ⟨⟨by decide +kernel, by decide +kernel⟩, List.mem_of_getElem? (i := 983) (by decide +kernel), List.mem_of_getElem? (i := 1123) (by decide +kernel), List.mem_of_getElem? (i := 1124) (by decide +kernel)⟩
theorem lw_p41 : lw_okq (⟨"CandleStatuteModel", "isStub", "(I)Z"⟩, 25) := ⟨⟨by decide +kernel, by decide +kernel⟩, List.mem_of_getElem? (i := 983) (by decide +kernel), List.mem_of_getElem? (i := 1127) (by decide +kernel), List.mem_of_getElem? (i := 1128) (by decide +kernel)⟩
theorem lw_p42 : lw_okq (⟨"CandleStatuteModel", "refusesBurning", "(III)I"⟩, 25) := ⟨⟨by decide +kernel, by decide +kernel⟩, List.mem_of_getElem? (i := 983) (by decide +kernel), List.mem_of_getElem? (i := 1131) (by decide +kernel), List.mem_of_getElem? (i := 1132) (by decide +kernel)⟩
theorem lw_p43 : lw_okq (⟨"CandleStatuteModel", "goes", "(I)V"⟩, 25) := ⟨⟨by decide +kernel, by decide +kernel⟩, List.mem_of_getElem? (i := 983) (by decide +kernel), List.mem_of_getElem? (i := 1135) (by decide +kernel), List.mem_of_getElem? (i := 1136) (by decide +kernel)⟩
theorem lw_p44 : lw_okq (⟨"CandleStatuteModel", "owes", "(III)I"⟩, 25) := ⟨⟨by decide +kernel, by decide +kernel⟩, List.mem_of_getElem? (i := 983) (by decide +kernel), List.mem_of_getElem? (i := 1143) (by decide +kernel), List.mem_of_getElem? (i := 1144) (by decide +kernel)⟩
theorem lw_p45 : lw_okq (⟨"CandleStatuteModel", "owed", "(I)I"⟩, 25) := ⟨⟨by decide +kernel, by decide +kernel⟩, List.mem_of_getElem? (i := 983) (by decide +kernel), List.mem_of_getElem? (i := 1147) (by decide +kernel), List.mem_of_getElem? (i := 1148) (by decide +kernel)⟩
theorem lw_p46 : lw_okq (⟨"CandleStatuteModel", "snuffs", "(III)I"⟩, 25) := ⟨⟨by decide +kernel, by decide +kernel⟩, List.mem_of_getElem? (i := 983) (by decide +kernel), List.mem_of_getElem? (i := 1155) (by decide +kernel), List.mem_of_getElem? (i := 1156) (by decide +kernel)⟩
theorem lw_p47 : lw_okq (⟨"CandleStatuteModel", "writs", "(I)I"⟩, 25) := ⟨⟨by decide +kernel, by decide +kernel⟩, List.mem_of_getElem? (i := 983) (by decide +kernel), List.mem_of_getElem? (i := 1159) (by decide +kernel), List.mem_of_getElem? (i := 1160) (by decide +kernel)⟩
def lw_privs_3 : List (MethodName × Nat) := [(⟨"CandleStatuteModel", "begins", "()V"⟩, 25), (⟨"CandleStatuteModel", "comes", "(III)I"⟩, 25), (⟨"CandleStatuteModel", "fail", "(I)I"⟩, 25), (⟨"CandleStatuteModel", "isOpen", "(I)Z"⟩, 25), (⟨"CandleStatuteModel", "refuses", "(II)I"⟩, 25), (⟨"CandleStatuteModel", "makes", "(III)I"⟩, 25), (⟨"CandleStatuteModel", "tray", "(I)I"⟩, 25), (⟨"CandleStatuteModel", "ends", "(I)I"⟩, 25), (⟨"CandleStatuteModel", "burns", "(II)I"⟩, 25), (⟨"CandleStatuteModel", "isStub", "(I)Z"⟩, 25), (⟨"CandleStatuteModel", "refusesBurning", "(III)I"⟩, 25), (⟨"CandleStatuteModel", "goes", "(I)V"⟩, 25), (⟨"CandleStatuteModel", "owes", "(III)I"⟩, 25), (⟨"CandleStatuteModel", "owed", "(I)I"⟩, 25), (⟨"CandleStatuteModel", "snuffs", "(III)I"⟩, 25), (⟨"CandleStatuteModel", "writs", "(I)I"⟩, 25)]
theorem lw_r3 : ∀ q ∈ lw_privs_3, lw_okq q := List.forall_mem_cons.mpr ⟨lw_p32, List.forall_mem_cons.mpr ⟨lw_p33, List.forall_mem_cons.mpr ⟨lw_p34, List.forall_mem_cons.mpr ⟨lw_p35, List.forall_mem_cons.mpr ⟨lw_p36, List.forall_mem_cons.mpr ⟨lw_p37, List.forall_mem_cons.mpr ⟨lw_p38, List.forall_mem_cons.mpr ⟨lw_p39, List.forall_mem_cons.mpr ⟨lw_p40, List.forall_mem_cons.mpr ⟨lw_p41, List.forall_mem_cons.mpr ⟨lw_p42, List.forall_mem_cons.mpr ⟨lw_p43, List.forall_mem_cons.mpr ⟨lw_p44, List.forall_mem_cons.mpr ⟨lw_p45, List.forall_mem_cons.mpr ⟨lw_p46, List.forall_mem_cons.mpr ⟨lw_p47, fun _ h => absurd h List.not_mem_nil⟩⟩⟩⟩⟩⟩⟩⟩⟩⟩⟩⟩⟩⟩⟩⟩
theorem lw_p48 : lw_okq (⟨"CandleStatuteModel", "pools", "(II)I"⟩, 25) := ⟨⟨by decide +kernel, by decide +kernel⟩, List.mem_of_getElem? (i := 983) (by decide +kernel), List.mem_of_getElem? (i := 1171) (by decide +kernel), List.mem_of_getElem? (i := 1172) (by decide +kernel)⟩
theorem lw_p49 : lw_okq (⟨"CandleStatuteModel", "pooled", "()I"⟩, 25) := ⟨⟨by decide +kernel, by decide +kernel⟩, List.mem_of_getElem? (i := 983) (by decide +kernel), List.mem_of_getElem? (i := 1175) (by decide +kernel), List.mem_of_getElem? (i := 1176) (by decide +kernel)⟩
theorem lw_p50 : lw_okq (⟨"CandleStatuteModel", "shares", "()I"⟩, 25) := ⟨⟨by decide +kernel, by decide +kernel⟩, List.mem_of_getElem? (i := 983) (by decide +kernel), List.mem_of_getElem? (i := 1183) (by decide +kernel), List.mem_of_getElem? (i := 1184) (by decide +kernel)⟩
theorem lw_p51 : lw_okq (⟨"CandleStatuteModel", "claims", "()I"⟩, 25) := ⟨⟨by decide +kernel, by decide +kernel⟩, List.mem_of_getElem? (i := 983) (by decide +kernel), List.mem_of_getElem? (i := 1187) (by decide +kernel), List.mem_of_getElem? (i := 1188) (by decide +kernel)⟩
theorem lw_p52 : lw_okq (⟨"CandleStatuteModel", "claim", "(I)I"⟩, 25) := ⟨⟨by decide +kernel, by decide +kernel⟩, List.mem_of_getElem? (i := 983) (by decide +kernel), List.mem_of_getElem? (i := 1191) (by decide +kernel), List.mem_of_getElem? (i := 1192) (by decide +kernel)⟩
theorem lw_p53 : lw_okq (⟨"CandleStatuteModel", "finds", "()V"⟩, 25) := ⟨⟨by decide +kernel, by decide +kernel⟩, List.mem_of_getElem? (i := 983) (by decide +kernel), List.mem_of_getElem? (i := 1195) (by decide +kernel), List.mem_of_getElem? (i := 1196) (by decide +kernel)⟩
theorem lw_p54 : lw_okq (⟨"CandleStatuteModel", "moulds", "(III)I"⟩, 25) := ⟨⟨by decide +kernel, by decide +kernel⟩, List.mem_of_getElem? (i := 983) (by decide +kernel), List.mem_of_getElem? (i := 1212) (by decide +kernel), List.mem_of_getElem? (i := 1213) (by decide +kernel)⟩
theorem lw_p55 : lw_okq (⟨"CandleStatuteModel", "tellsHeir", "(II)I"⟩, 25) := ⟨⟨by decide +kernel, by decide +kernel⟩, List.mem_of_getElem? (i := 983) (by decide +kernel), List.mem_of_getElem? (i := 1220) (by decide +kernel), List.mem_of_getElem? (i := 1221) (by decide +kernel)⟩
theorem lw_p56 : lw_okq (⟨"CandleStatuteModel", "closes", "(I)I"⟩, 25) := ⟨⟨by decide +kernel, by decide +kernel⟩, List.mem_of_getElem? (i := 983) (by decide +kernel), List.mem_of_getElem? (i := 1228) (by decide +kernel), List.mem_of_getElem? (i := 1229) (by decide +kernel)⟩
theorem lw_p57 : lw_okq (⟨"CandleStatuteModel", "opens", "()I"⟩, 25) := ⟨⟨by decide +kernel, by decide +kernel⟩, List.mem_of_getElem? (i := 983) (by decide +kernel), List.mem_of_getElem? (i := 1232) (by decide +kernel), List.mem_of_getElem? (i := 1233) (by decide +kernel)⟩
theorem lw_p58 : lw_okq (⟨"CandleStatuteModel", "inForce", "(I)I"⟩, 25) := ⟨⟨by decide +kernel, by decide +kernel⟩, List.mem_of_getElem? (i := 983) (by decide +kernel), List.mem_of_getElem? (i := 1236) (by decide +kernel), List.mem_of_getElem? (i := 1237) (by decide +kernel)⟩
theorem lw_p59 : lw_okq (⟨"CandleStatuteModel", "inheritsStubs", "(II)I"⟩, 25) := ⟨⟨by decide +kernel, by decide +kernel⟩, List.mem_of_getElem? (i := 983) (by decide +kernel), List.mem_of_getElem? (i := 1240) (by decide +kernel), List.mem_of_getElem? (i := 1241) (by decide +kernel)⟩
theorem lw_p60 : lw_okq (⟨"CandleStatuteModel", "frees", "(I)V"⟩, 25) := ⟨⟨by decide +kernel, by decide +kernel⟩, List.mem_of_getElem? (i := 983) (by decide +kernel), List.mem_of_getElem? (i := 1244) (by decide +kernel), List.mem_of_getElem? (i := 1245) (by decide +kernel)⟩
theorem lw_p61 : lw_okq (⟨"CandleStatuteModel", "passes", "(I)I"⟩, 25) := ⟨⟨by decide +kernel, by decide +kernel⟩, List.mem_of_getElem? (i := 983) (by decide +kernel), List.mem_of_getElem? (i := 1252) (by decide +kernel), List.mem_of_getElem? (i := 1253) (by decide +kernel)⟩
theorem lw_p62 : lw_okq (⟨"CandleStatuteModel", "ofStubs", "(II)I"⟩, 25) := ⟨⟨by decide +kernel, by decide +kernel⟩, List.mem_of_getElem? (i := 983) (by decide +kernel), List.mem_of_getElem? (i := 1260) (by decide +kernel), List.mem_of_getElem? (i := 1261) (by decide +kernel)⟩
theorem lw_p63 : lw_okq (⟨"CandleStatuteModel", "orders", "()I"⟩, 25) := ⟨⟨by decide +kernel, by decide +kernel⟩, List.mem_of_getElem? (i := 983) (by decide +kernel), List.mem_of_getElem? (i := 1297) (by decide +kernel), List.mem_of_getElem? (i := 1298) (by decide +kernel)⟩
def lw_privs_4 : List (MethodName × Nat) := [(⟨"CandleStatuteModel", "pools", "(II)I"⟩, 25), (⟨"CandleStatuteModel", "pooled", "()I"⟩, 25), (⟨"CandleStatuteModel", "shares", "()I"⟩, 25), (⟨"CandleStatuteModel", "claims", "()I"⟩, 25), (⟨"CandleStatuteModel", "claim", "(I)I"⟩, 25), (⟨"CandleStatuteModel", "finds", "()V"⟩, 25), (⟨"CandleStatuteModel", "moulds", "(III)I"⟩, 25), (⟨"CandleStatuteModel", "tellsHeir", "(II)I"⟩, 25), (⟨"CandleStatuteModel", "closes", "(I)I"⟩, 25), (⟨"CandleStatuteModel", "opens", "()I"⟩, 25), (⟨"CandleStatuteModel", "inForce", "(I)I"⟩, 25), (⟨"CandleStatuteModel", "inheritsStubs", "(II)I"⟩, 25), (⟨"CandleStatuteModel", "frees", "(I)V"⟩, 25), (⟨"CandleStatuteModel", "passes", "(I)I"⟩, 25), (⟨"CandleStatuteModel", "ofStubs", "(II)I"⟩, 25), (⟨"CandleStatuteModel", "orders", "()I"⟩, 25)]
theorem lw_r4 : ∀ q ∈ lw_privs_4, lw_okq q := List.forall_mem_cons.mpr ⟨lw_p48, List.forall_mem_cons.mpr ⟨lw_p49, List.forall_mem_cons.mpr ⟨lw_p50, List.forall_mem_cons.mpr ⟨lw_p51, List.forall_mem_cons.mpr ⟨lw_p52, List.forall_mem_cons.mpr ⟨lw_p53, List.forall_mem_cons.mpr ⟨lw_p54, List.forall_mem_cons.mpr ⟨lw_p55, List.forall_mem_cons.mpr ⟨lw_p56, List.forall_mem_cons.mpr ⟨lw_p57, List.forall_mem_cons.mpr ⟨lw_p58, List.forall_mem_cons.mpr ⟨lw_p59, List.forall_mem_cons.mpr ⟨lw_p60, List.forall_mem_cons.mpr ⟨lw_p61, List.forall_mem_cons.mpr ⟨lw_p62, List.forall_mem_cons.mpr ⟨lw_p63, fun _ h => absurd h List.not_mem_nil⟩⟩⟩⟩⟩⟩⟩⟩⟩⟩⟩⟩⟩⟩⟩⟩
theorem lw_p64 : lw_okq (⟨"CandleStatuteModel", "order", "()V"⟩, 25) := ⟨⟨by decide +kernel, by decide +kernel⟩, List.mem_of_getElem? (i := 983) (by decide +kernel), List.mem_of_getElem? (i := 1301) (by decide +kernel), List.mem_of_getElem? (i := 1302) (by decide +kernel)⟩
theorem lw_p65 : lw_okq (⟨"CandleStatuteModel", "sign", "()I"⟩, 25) := ⟨⟨by decide +kernel, by decide +kernel⟩, List.mem_of_getElem? (i := 983) (by decide +kernel), List.mem_of_getElem? (i := 1305) (by decide +kernel), List.mem_of_getElem? (i := 1306) (by decide +kernel)⟩
theorem lw_p66 : lw_okq (⟨"CandleStatuteModel", "digits", "(I)I"⟩, 25) := ⟨⟨by decide +kernel, by decide +kernel⟩, List.mem_of_getElem? (i := 983) (by decide +kernel), List.mem_of_getElem? (i := 1312) (by decide +kernel), List.mem_of_getElem? (i := 1313) (by decide +kernel)⟩
theorem lw_p67 : lw_okq (⟨"CandleStatuteModel", "behind", "(II)I"⟩, 25) := ⟨⟨by decide +kernel, by decide +kernel⟩, List.mem_of_getElem? (i := 983) (by decide +kernel), List.mem_of_getElem? (i := 1316) (by decide +kernel), List.mem_of_getElem? (i := 1317) (by decide +kernel)⟩
theorem lw_p68 : lw_okq (⟨"CandleStatuteModel", "mark", "(I)V"⟩, 25) := ⟨⟨by decide +kernel, by decide +kernel⟩, List.mem_of_getElem? (i := 983) (by decide +kernel), List.mem_of_getElem? (i := 1320) (by decide +kernel), List.mem_of_getElem? (i := 1321) (by decide +kernel)⟩
theorem lw_p69 : lw_okq (⟨"CandleStatuteModel", "does", "(IIII)I"⟩, 25) := ⟨⟨by decide +kernel, by decide +kernel⟩, List.mem_of_getElem? (i := 983) (by decide +kernel), List.mem_of_getElem? (i := 1324) (by decide +kernel), List.mem_of_getElem? (i := 1325) (by decide +kernel)⟩
theorem lw_p70 : lw_okq (⟨"CandleStatuteModel", "refusesOrder", "(I)I"⟩, 25) := ⟨⟨by decide +kernel, by decide +kernel⟩, List.mem_of_getElem? (i := 983) (by decide +kernel), List.mem_of_getElem? (i := 1328) (by decide +kernel), List.mem_of_getElem? (i := 1329) (by decide +kernel)⟩
theorem lw_p71 : lw_okq (⟨"CandleStatuteModel", "writesNumber", "(I)V"⟩, 25) := ⟨⟨by decide +kernel, by decide +kernel⟩, List.mem_of_getElem? (i := 983) (by decide +kernel), List.mem_of_getElem? (i := 1336) (by decide +kernel), List.mem_of_getElem? (i := 1337) (by decide +kernel)⟩
theorem lw_p72 : lw_okq (⟨"CandleStatuteModel", "writes", "(I)V"⟩, 25) := ⟨⟨by decide +kernel, by decide +kernel⟩, List.mem_of_getElem? (i := 983) (by decide +kernel), List.mem_of_getElem? (i := 1340) (by decide +kernel), List.mem_of_getElem? (i := 1341) (by decide +kernel)⟩
theorem lw_p73 : lw_okq (⟨"CandleStatuteModel", "ofAll", "(I)I"⟩, 25) := ⟨⟨by decide +kernel, by decide +kernel⟩, List.mem_of_getElem? (i := 983) (by decide +kernel), List.mem_of_getElem? (i := 1360) (by decide +kernel), List.mem_of_getElem? (i := 1361) (by decide +kernel)⟩
theorem lw_p74 : lw_okq (⟨"CandleStatuteModel", "stores", "()I"⟩, 25) := ⟨⟨by decide +kernel, by decide +kernel⟩, List.mem_of_getElem? (i := 983) (by decide +kernel), List.mem_of_getElem? (i := 1364) (by decide +kernel), List.mem_of_getElem? (i := 1365) (by decide +kernel)⟩
def lw_privs_5 : List (MethodName × Nat) := [(⟨"CandleStatuteModel", "order", "()V"⟩, 25), (⟨"CandleStatuteModel", "sign", "()I"⟩, 25), (⟨"CandleStatuteModel", "digits", "(I)I"⟩, 25), (⟨"CandleStatuteModel", "behind", "(II)I"⟩, 25), (⟨"CandleStatuteModel", "mark", "(I)V"⟩, 25), (⟨"CandleStatuteModel", "does", "(IIII)I"⟩, 25), (⟨"CandleStatuteModel", "refusesOrder", "(I)I"⟩, 25), (⟨"CandleStatuteModel", "writesNumber", "(I)V"⟩, 25), (⟨"CandleStatuteModel", "writes", "(I)V"⟩, 25), (⟨"CandleStatuteModel", "ofAll", "(I)I"⟩, 25), (⟨"CandleStatuteModel", "stores", "()I"⟩, 25)]
theorem lw_r5 : ∀ q ∈ lw_privs_5, lw_okq q := List.forall_mem_cons.mpr ⟨lw_p64, List.forall_mem_cons.mpr ⟨lw_p65, List.forall_mem_cons.mpr ⟨lw_p66, List.forall_mem_cons.mpr ⟨lw_p67, List.forall_mem_cons.mpr ⟨lw_p68, List.forall_mem_cons.mpr ⟨lw_p69, List.forall_mem_cons.mpr ⟨lw_p70, List.forall_mem_cons.mpr ⟨lw_p71, List.forall_mem_cons.mpr ⟨lw_p72, List.forall_mem_cons.mpr ⟨lw_p73, List.forall_mem_cons.mpr ⟨lw_p74, fun _ h => absurd h List.not_mem_nil⟩⟩⟩⟩⟩⟩⟩⟩⟩⟩⟩
def lw_privs : List (MethodName × Nat) := lw_privs_1 ++ (lw_privs_2 ++ (lw_privs_3 ++ (lw_privs_4 ++ (lw_privs_5))))
def lw_tbl : List Cond := k2_sels lw_privs ++ tables_1
theorem lw_privs_ok : ∀ q ∈ lw_privs, lw_okq q := by
  show ∀ q ∈ lw_privs_1 ++ (lw_privs_2 ++ (lw_privs_3 ++ (lw_privs_4 ++ (lw_privs_5)))), lw_okq q
  exact List.forall_mem_append.mpr ⟨lw_r1, List.forall_mem_append.mpr ⟨lw_r2, List.forall_mem_append.mpr ⟨lw_r3, List.forall_mem_append.mpr ⟨lw_r4, lw_r5⟩⟩⟩⟩
/-- the streams that the claim lets the run draw from -/
abbrev lw_cs : List Choice := [Jvm.Choice.named "NaN.bits"]
theorem lw_bits : nanBits ∈ lw_cs := by first | decide | exact List.mem_cons_self | simp [lw_cs, nanBits]
-- ===== end of PART A; then your names; then what follows =====
def RX0 : String := "CandleStatute$History"
def TX0 : u_T := fun k => match k with
  | 0 => ("CandleStatute$History", "rows", "[LCandleStatute$State;", true)
  | 1 => ("CandleStatute$History", "next", "I", false)
  | _ => ("CandleStatute$History", "count", "I", false)
def tyX0 : Nat → FieldType := fun k => match k with
  | 0 => .array (.object "CandleStatute$State")
  | 1 => .int
  | _ => .int
abbrev wsX00 : List Cond := u_ws RX0 TX0 3
theorem nmX0 : ∀ a, a < 3 → ∀ b, b < 3 → a ≠ b → (TX0 a).2.1 ≠ (TX0 b).2.1 := by decide +kernel
theorem tyX0_ok : ∀ k, k < 3 → parseFieldDescriptor (TX0 k).2.2.1 = some (tyX0 k) := by decide +kernel
abbrev cX0_init : ByteArray := prog_2_method_1_code
def yX0_init : MethodName := ⟨RX0, "<init>", "()V"⟩
abbrev cX0_begin : ByteArray := prog_2_method_2_code
def yX0_begin : MethodName := ⟨RX0, "begin", "(LCandleStatute$State;)V"⟩
abbrev cX0_takeBack : ByteArray := prog_2_method_3_code
def yX0_takeBack : MethodName := ⟨RX0, "takeBack", "(LCandleStatute$State;)V"⟩
abbrev cX0_keep : ByteArray := prog_2_method_4_code
def yX0_keep : MethodName := ⟨RX0, "keep", "()V"⟩
abbrev cX0_stepBack : ByteArray := prog_2_method_5_code
def yX0_stepBack : MethodName := ⟨RX0, "stepBack", "(LCandleStatute$State;)Z"⟩
abbrev cX0_forget : ByteArray := prog_2_method_6_code
def yX0_forget : MethodName := ⟨RX0, "forget", "()V"⟩
def RX1 : String := "CandleStatute$Orders"
def TX1 : u_T := fun k => match k with
  | 0 => ("CandleStatute$Orders", "kinds", "[I", true)
  | 1 => ("CandleStatute$Orders", "firsts", "[I", true)
  | 2 => ("CandleStatute$Orders", "seconds", "[I", true)
  | 3 => ("CandleStatute$Orders", "thirds", "[I", true)
  | 4 => ("CandleStatute$Orders", "count", "I", false)
  | _ => ("CandleStatute$Orders", "at", "I", false)
def tyX1 : Nat → FieldType := fun k => match k with
  | 0 => .array .int
  | 1 => .array .int
  | 2 => .array .int
  | 3 => .array .int
  | 4 => .int
  | _ => .int
abbrev wsX10 : List Cond := u_ws RX1 TX1 6
theorem nmX1 : ∀ a, a < 6 → ∀ b, b < 6 → a ≠ b → (TX1 a).2.1 ≠ (TX1 b).2.1 := by decide +kernel
theorem tyX1_ok : ∀ k, k < 6 → parseFieldDescriptor (TX1 k).2.2.1 = some (tyX1 k) := by decide +kernel
abbrev cX1_init : ByteArray := prog_3_method_1_code
def yX1_init : MethodName := ⟨RX1, "<init>", "()V"⟩
abbrev cX1_read : ByteArray := prog_3_method_2_code
def yX1_read : MethodName := ⟨RX1, "read", "(Ljava/lang/StringBuilder;)I"⟩
abbrev cX1_isOrderRead : ByteArray := prog_3_method_3_code
def yX1_isOrderRead : MethodName := ⟨RX1, "isOrderRead", "(Ljava/lang/StringBuilder;I)Z"⟩
abbrev cX1_patternOf : ByteArray := prog_3_method_4_code
def yX1_patternOf : MethodName := ⟨RX1, "patternOf", "(C)Ljava/lang/String;"⟩
abbrev cX1_isSignRead : ByteArray := prog_3_method_5_code
def yX1_isSignRead : MethodName := ⟨RX1, "isSignRead", "(Ljava/lang/StringBuilder;C)Z"⟩
abbrev cX1_hasDigit : ByteArray := prog_3_method_6_code
def yX1_hasDigit : MethodName := ⟨RX1, "hasDigit", "(Ljava/lang/StringBuilder;)Z"⟩
abbrev cX1_readNumber : ByteArray := prog_3_method_7_code
def yX1_readNumber : MethodName := ⟨RX1, "readNumber", "(Ljava/lang/StringBuilder;C)I"⟩
abbrev cX1_keepNumber : ByteArray := prog_3_method_8_code
def yX1_keepNumber : MethodName := ⟨RX1, "keepNumber", "(III)V"⟩
def RX2 : String := "CandleStatute$Reasons"
def TX2 : u_T := fun k => match k with
  | 0 => ("CandleStatute$Reasons", "codes", "[I", true)
  | 1 => ("CandleStatute$Reasons", "details", "[I", true)
  | _ => ("CandleStatute$Reasons", "count", "I", false)
def tyX2 : Nat → FieldType := fun k => match k with
  | 0 => .array .int
  | 1 => .array .int
  | _ => .int
abbrev wsX20 : List Cond := u_ws RX2 TX2 3
theorem nmX2 : ∀ a, a < 3 → ∀ b, b < 3 → a ≠ b → (TX2 a).2.1 ≠ (TX2 b).2.1 := by decide +kernel
theorem tyX2_ok : ∀ k, k < 3 → parseFieldDescriptor (TX2 k).2.2.1 = some (tyX2 k) := by decide +kernel
abbrev cX2_init : ByteArray := prog_4_method_1_code
def yX2_init : MethodName := ⟨RX2, "<init>", "()V"⟩
abbrev cX2_clear : ByteArray := prog_4_method_2_code
def yX2_clear : MethodName := ⟨RX2, "clear", "()V"⟩
abbrev cX2_putBehind : ByteArray := prog_4_method_3_code
def yX2_putBehind : MethodName := ⟨RX2, "putBehind", "(II)V"⟩
abbrev cX2_putAhead : ByteArray := prog_4_method_4_code
def yX2_putAhead : MethodName := ⟨RX2, "putAhead", "(II)V"⟩
def RX3 : String := "CandleStatute$Sharing"
def TX3 : u_T := fun k => match k with
  | 0 => ("CandleStatute$Sharing", "parts", "[I", true)
  | 1 => ("CandleStatute$Sharing", "pieces", "[I", true)
  | _ => ("CandleStatute$Sharing", "rests", "[I", true)
def tyX3 : Nat → FieldType := fun k => match k with
  | 0 => .array .int
  | 1 => .array .int
  | _ => .array .int
abbrev wsX30 : List Cond := u_ws RX3 TX3 3
theorem nmX3 : ∀ a, a < 3 → ∀ b, b < 3 → a ≠ b → (TX3 a).2.1 ≠ (TX3 b).2.1 := by decide +kernel
theorem tyX3_ok : ∀ k, k < 3 → parseFieldDescriptor (TX3 k).2.2.1 = some (tyX3 k) := by decide +kernel
abbrev cX3_init : ByteArray := prog_5_method_1_code
def yX3_init : MethodName := ⟨RX3, "<init>", "()V"⟩
abbrev cX3_divide : ByteArray := prog_5_method_2_code
def yX3_divide : MethodName := ⟨RX3, "divide", "(LCandleStatute$State;)V"⟩
abbrev cX3_giveOneByRest : ByteArray := prog_5_method_3_code
def yX3_giveOneByRest : MethodName := ⟨RX3, "giveOneByRest", "()V"⟩
abbrev cX3_deal : ByteArray := prog_5_method_4_code
def yX3_deal : MethodName := ⟨RX3, "deal", "(LCandleStatute$State;)V"⟩
abbrev cX3_greatest : ByteArray := prog_5_method_5_code
def yX3_greatest : MethodName := ⟨RX3, "greatest", "([I)I"⟩
def RX4 : String := "CandleStatute$State"
def TX4 : u_T := fun k => match k with
  | 0 => ("CandleStatute$State", "stubs", "LCandleStatute$Stubs;", true)
  | 1 => ("CandleStatute$State", "isOpen", "[Z", true)
  | 2 => ("CandleStatute$State", "heir", "[I", true)
  | 3 => ("CandleStatute$State", "store", "[I", true)
  | 4 => ("CandleStatute$State", "pooled", "[I", true)
  | 5 => ("CandleStatute$State", "pool", "I", false)
  | 6 => ("CandleStatute$State", "brought", "I", false)
  | 7 => ("CandleStatute$State", "burnt", "I", false)
  | 8 => ("CandleStatute$State", "given", "I", false)
  | 9 => ("CandleStatute$State", "paid", "I", false)
  | _ => ("CandleStatute$State", "hours", "I", false)
def tyX4 : Nat → FieldType := fun k => match k with
  | 0 => .object "CandleStatute$Stubs"
  | 1 => .array .boolean
  | 2 => .array .int
  | 3 => .array .int
  | 4 => .array .int
  | 5 => .int
  | 6 => .int
  | 7 => .int
  | 8 => .int
  | 9 => .int
  | _ => .int
abbrev wsX40 : List Cond := u_ws RX4 TX4 11
theorem nmX4 : ∀ a, a < 11 → ∀ b, b < 11 → a ≠ b → (TX4 a).2.1 ≠ (TX4 b).2.1 := by decide +kernel
theorem tyX4_ok : ∀ k, k < 11 → parseFieldDescriptor (TX4 k).2.2.1 = some (tyX4 k) := by decide +kernel
abbrev cX4_init : ByteArray := prog_6_method_1_code
def yX4_init : MethodName := ⟨RX4, "<init>", "()V"⟩
abbrev cX4_copyFrom : ByteArray := prog_6_method_2_code
def yX4_copyFrom : MethodName := ⟨RX4, "copyFrom", "(LCandleStatute$State;)V"⟩
abbrev cX4_burnDown : ByteArray := prog_6_method_3_code
def yX4_burnDown : MethodName := ⟨RX4, "burnDown", "(II)I"⟩
abbrev cX4_claimOf : ByteArray := prog_6_method_4_code
def yX4_claimOf : MethodName := ⟨RX4, "claimOf", "(I)I"⟩
abbrev cX4_allClaims : ByteArray := prog_6_method_5_code
def yX4_allClaims : MethodName := ⟨RX4, "allClaims", "()I"⟩
abbrev cX4_allStores : ByteArray := prog_6_method_6_code
def yX4_allStores : MethodName := ⟨RX4, "allStores", "()I"⟩
abbrev cX4_allPooled : ByteArray := prog_6_method_7_code
def yX4_allPooled : MethodName := ⟨RX4, "allPooled", "()I"⟩
abbrev cX4_openHouses : ByteArray := prog_6_method_8_code
def yX4_openHouses : MethodName := ⟨RX4, "openHouses", "()I"⟩
abbrev cX4_successorOf : ByteArray := prog_6_method_9_code
def yX4_successorOf : MethodName := ⟨RX4, "successorOf", "(I)I"⟩
abbrev cX4_handOver : ByteArray := prog_6_method_10_code
def yX4_handOver : MethodName := ⟨RX4, "handOver", "(II)V"⟩
abbrev cX4_handOverRights : ByteArray := prog_6_method_11_code
def yX4_handOverRights : MethodName := ⟨RX4, "handOverRights", "(II)V"⟩
abbrev cX4_handOverStubs : ByteArray := prog_6_method_12_code
def yX4_handOverStubs : MethodName := ⟨RX4, "handOverStubs", "(II)V"⟩
abbrev cX4_dropWhatIsOwn : ByteArray := prog_6_method_13_code
def yX4_dropWhatIsOwn : MethodName := ⟨RX4, "dropWhatIsOwn", "()V"⟩
abbrev cX4_housesAheadOf : ByteArray := prog_6_method_14_code
def yX4_housesAheadOf : MethodName := ⟨RX4, "housesAheadOf", "(I)I"⟩
abbrev cX4_isAhead : ByteArray := prog_6_method_15_code
def yX4_isAhead : MethodName := ⟨RX4, "isAhead", "(II)Z"⟩
def RX5 : String := "CandleStatute$Stubs"
def TX5 : u_T := fun k => match k with
  | 0 => ("CandleStatute$Stubs", "house", "[I", true)
  | 1 => ("CandleStatute$Stubs", "wax", "[I", true)
  | 2 => ("CandleStatute$Stubs", "wick", "[I", true)
  | 3 => ("CandleStatute$Stubs", "creditor", "[I", true)
  | 4 => ("CandleStatute$Stubs", "debt", "[I", true)
  | 5 => ("CandleStatute$Stubs", "snuffer", "[I", true)
  | 6 => ("CandleStatute$Stubs", "snuffed", "[I", true)
  | 7 => ("CandleStatute$Stubs", "gave", "[I", true)
  | _ => ("CandleStatute$Stubs", "count", "I", false)
def tyX5 : Nat → FieldType := fun k => match k with
  | 0 => .array .int
  | 1 => .array .int
  | 2 => .array .int
  | 3 => .array .int
  | 4 => .array .int
  | 5 => .array .int
  | 6 => .array .int
  | 7 => .array .int
  | _ => .int
abbrev wsX50 : List Cond := u_ws RX5 TX5 9
theorem nmX5 : ∀ a, a < 9 → ∀ b, b < 9 → a ≠ b → (TX5 a).2.1 ≠ (TX5 b).2.1 := by decide +kernel
theorem tyX5_ok : ∀ k, k < 9 → parseFieldDescriptor (TX5 k).2.2.1 = some (tyX5 k) := by decide +kernel
abbrev cX5_init : ByteArray := prog_7_method_1_code
def yX5_init : MethodName := ⟨RX5, "<init>", "()V"⟩
abbrev cX5_copyFrom : ByteArray := prog_7_method_2_code
def yX5_copyFrom : MethodName := ⟨RX5, "copyFrom", "(LCandleStatute$Stubs;)V"⟩
abbrev cX5_copyStub : ByteArray := prog_7_method_3_code
def yX5_copyStub : MethodName := ⟨RX5, "copyStub", "(ILCandleStatute$Stubs;I)V"⟩
abbrev cX5_put : ByteArray := prog_7_method_4_code
def yX5_put : MethodName := ⟨RX5, "put", "(III)I"⟩
abbrev cX5_remove : ByteArray := prog_7_method_5_code
def yX5_remove : MethodName := ⟨RX5, "remove", "(I)V"⟩
abbrev cX5_takeWax : ByteArray := prog_7_method_6_code
def yX5_takeWax : MethodName := ⟨RX5, "takeWax", "(II)V"⟩
abbrev cX5_forgive : ByteArray := prog_7_method_7_code
def yX5_forgive : MethodName := ⟨RX5, "forgive", "(I)V"⟩
abbrev cX5_release : ByteArray := prog_7_method_8_code
def yX5_release : MethodName := ⟨RX5, "release", "(I)V"⟩
abbrev cX5_payBack : ByteArray := prog_7_method_9_code
def yX5_payBack : MethodName := ⟨RX5, "payBack", "(II)I"⟩
abbrev cX5_shortenWrits : ByteArray := prog_7_method_10_code
def yX5_shortenWrits : MethodName := ⟨RX5, "shortenWrits", "(I)I"⟩
abbrev cX5_countOn : ByteArray := prog_7_method_11_code
def yX5_countOn : MethodName := ⟨RX5, "countOn", "(I)I"⟩
abbrev cX5_weightOn : ByteArray := prog_7_method_12_code
def yX5_weightOn : MethodName := ⟨RX5, "weightOn", "(I)I"⟩
abbrev cX5_weightBesideOthers : ByteArray := prog_7_method_13_code
def yX5_weightBesideOthers : MethodName := ⟨RX5, "weightBesideOthers", "(I)I"⟩
abbrev cX5_tooManyFor : ByteArray := prog_7_method_14_code
def yX5_tooManyFor : MethodName := ⟨RX5, "tooManyFor", "(II)I"⟩
abbrev cX5_writsBy : ByteArray := prog_7_method_15_code
def yX5_writsBy : MethodName := ⟨RX5, "writsBy", "(I)I"⟩
abbrev cX5_owedTo : ByteArray := prog_7_method_16_code
def yX5_owedTo : MethodName := ⟨RX5, "owedTo", "(I)I"⟩
abbrev cX5_owedBy : ByteArray := prog_7_method_17_code
def yX5_owedBy : MethodName := ⟨RX5, "owedBy", "(I)I"⟩
abbrev cX5_allWrits : ByteArray := prog_7_method_18_code
def yX5_allWrits : MethodName := ⟨RX5, "allWrits", "()I"⟩
abbrev cX5_allWax : ByteArray := prog_7_method_19_code
def yX5_allWax : MethodName := ⟨RX5, "allWax", "()I"⟩
abbrev cX5_allDebts : ByteArray := prog_7_method_20_code
def yX5_allDebts : MethodName := ⟨RX5, "allDebts", "()I"⟩
abbrev cX5_stubsAheadOf : ByteArray := prog_7_method_21_code
def yX5_stubsAheadOf : MethodName := ⟨RX5, "stubsAheadOf", "(I)I"⟩
abbrev cX5_isAhead : ByteArray := prog_7_method_22_code
def yX5_isAhead : MethodName := ⟨RX5, "isAhead", "(II)Z"⟩
def RX6 : String := "CandleStatute"
def TX6 : u_T := fun k => match k with
  | 0 => ("CandleStatute", "now", "LCandleStatute$State;", true)
  | 1 => ("CandleStatute", "snapshot", "LCandleStatute$State;", true)
  | 2 => ("CandleStatute", "hasSnapshot", "Z", false)
  | 3 => ("CandleStatute", "history", "LCandleStatute$History;", true)
  | 4 => ("CandleStatute", "reasons", "LCandleStatute$Reasons;", true)
  | 5 => ("CandleStatute", "orders", "LCandleStatute$Orders;", true)
  | 6 => ("CandleStatute", "sharing", "LCandleStatute$Sharing;", true)
  | 7 => ("CandleStatute", "text", "Ljava/lang/StringBuilder;", true)
  | _ => ("CandleStatute", "line", "Ljava/lang/StringBuilder;", true)
def tyX6 : Nat → FieldType := fun k => match k with
  | 0 => .object "CandleStatute$State"
  | 1 => .object "CandleStatute$State"
  | 2 => .boolean
  | 3 => .object "CandleStatute$History"
  | 4 => .object "CandleStatute$Reasons"
  | 5 => .object "CandleStatute$Orders"
  | 6 => .object "CandleStatute$Sharing"
  | 7 => .object "java/lang/StringBuilder"
  | _ => .object "java/lang/StringBuilder"
abbrev wsX60 : List Cond := u_ws RX6 TX6 9
theorem nmX6 : ∀ a, a < 9 → ∀ b, b < 9 → a ≠ b → (TX6 a).2.1 ≠ (TX6 b).2.1 := by decide +kernel
theorem tyX6_ok : ∀ k, k < 9 → parseFieldDescriptor (TX6 k).2.2.1 = some (tyX6 k) := by decide +kernel
abbrev cX6_init : ByteArray := prog_1_method_1_code
def yX6_init : MethodName := ⟨RX6, "<init>", "()V"⟩
abbrev cX6_stub : ByteArray := prog_1_method_2_code
def yX6_stub : MethodName := ⟨RX6, "stub", "(III)I"⟩
abbrev cX6_burn : ByteArray := prog_1_method_3_code
def yX6_burn : MethodName := ⟨RX6, "burn", "(II)I"⟩
abbrev cX6_owe : ByteArray := prog_1_method_4_code
def yX6_owe : MethodName := ⟨RX6, "owe", "(III)I"⟩
abbrev cX6_writ : ByteArray := prog_1_method_5_code
def yX6_writ : MethodName := ⟨RX6, "writ", "(III)I"⟩
abbrev cX6_stubOf : ByteArray := prog_1_method_6_code
def yX6_stubOf : MethodName := ⟨RX6, "stubOf", "(II)I"⟩
abbrev cX6_pool : ByteArray := prog_1_method_7_code
def yX6_pool : MethodName := ⟨RX6, "pool", "(II)I"⟩
abbrev cX6_share : ByteArray := prog_1_method_8_code
def yX6_share : MethodName := ⟨RX6, "share", "()I"⟩
abbrev cX6_part : ByteArray := prog_1_method_9_code
def yX6_part : MethodName := ⟨RX6, "part", "(I)I"⟩
abbrev cX6_partAgain : ByteArray := prog_1_method_10_code
def yX6_partAgain : MethodName := ⟨RX6, "partAgain", "(I)I"⟩
abbrev cX6_mould : ByteArray := prog_1_method_11_code
def yX6_mould : MethodName := ⟨RX6, "mould", "(III)I"⟩
abbrev cX6_heir : ByteArray := prog_1_method_12_code
def yX6_heir : MethodName := ⟨RX6, "heir", "(II)I"⟩
abbrev cX6_end : ByteArray := prog_1_method_13_code
def yX6_end : MethodName := ⟨RX6, "end", "(I)I"⟩
abbrev cX6_pass : ByteArray := prog_1_method_14_code
def yX6_pass : MethodName := ⟨RX6, "pass", "(I)I"⟩
abbrev cX6_houseOf : ByteArray := prog_1_method_15_code
def yX6_houseOf : MethodName := ⟨RX6, "houseOf", "(II)I"⟩
abbrev cX6_inherits : ByteArray := prog_1_method_16_code
def yX6_inherits : MethodName := ⟨RX6, "inherits", "(I)I"⟩
abbrev cX6_wouldMelt : ByteArray := prog_1_method_17_code
def yX6_wouldMelt : MethodName := ⟨RX6, "wouldMelt", "(I)I"⟩
abbrev cX6_weight : ByteArray := prog_1_method_18_code
def yX6_weight : MethodName := ⟨RX6, "weight", "(I)I"⟩
abbrev cX6_weightAgain : ByteArray := prog_1_method_19_code
def yX6_weightAgain : MethodName := ⟨RX6, "weightAgain", "(I)I"⟩
abbrev cX6_ranked : ByteArray := prog_1_method_20_code
def yX6_ranked : MethodName := ⟨RX6, "ranked", "(I)I"⟩
abbrev cX6_brightest : ByteArray := prog_1_method_21_code
def yX6_brightest : MethodName := ⟨RX6, "brightest", "(I)I"⟩
abbrev cX6_append : ByteArray := prog_1_method_22_code
def yX6_append : MethodName := ⟨RX6, "append", "(I)I"⟩
abbrev cX6_run : ByteArray := prog_1_method_23_code
def yX6_run : MethodName := ⟨RX6, "run", "()I"⟩
abbrev cX6_tell : ByteArray := prog_1_method_24_code
def yX6_tell : MethodName := ⟨RX6, "tell", "(I)I"⟩
abbrev cX6_tellHouses : ByteArray := prog_1_method_25_code
def yX6_tellHouses : MethodName := ⟨RX6, "tellHouses", "()I"⟩
abbrev cX6_character : ByteArray := prog_1_method_26_code
def yX6_character : MethodName := ⟨RX6, "character", "(I)I"⟩
abbrev cX6_reason : ByteArray := prog_1_method_27_code
def yX6_reason : MethodName := ⟨RX6, "reason", "(IZ)I"⟩
abbrev cX6_account : ByteArray := prog_1_method_28_code
def yX6_account : MethodName := ⟨RX6, "account", "(I)I"⟩
abbrev cX6_isBalanced : ByteArray := prog_1_method_29_code
def yX6_isBalanced : MethodName := ⟨RX6, "isBalanced", "()I"⟩
abbrev cX6_meanWax : ByteArray := prog_1_method_30_code
def yX6_meanWax : MethodName := ⟨RX6, "meanWax", "()D"⟩
abbrev cX6_snuffedShare : ByteArray := prog_1_method_31_code
def yX6_snuffedShare : MethodName := ⟨RX6, "snuffedShare", "()F"⟩
abbrev cX6_undo : ByteArray := prog_1_method_32_code
def yX6_undo : MethodName := ⟨RX6, "undo", "()I"⟩
abbrev cX6_save : ByteArray := prog_1_method_33_code
def yX6_save : MethodName := ⟨RX6, "save", "()I"⟩
abbrev cX6_restore : ByteArray := prog_1_method_34_code
def yX6_restore : MethodName := ⟨RX6, "restore", "()I"⟩
abbrev cX6_settle : ByteArray := prog_1_method_35_code
def yX6_settle : MethodName := ⟨RX6, "settle", "(I)I"⟩
abbrev cX6_bringStub : ByteArray := prog_1_method_36_code
def yX6_bringStub : MethodName := ⟨RX6, "bringStub", "(III)I"⟩
abbrev cX6_mouldStub : ByteArray := prog_1_method_37_code
def yX6_mouldStub : MethodName := ⟨RX6, "mouldStub", "(III)I"⟩
abbrev cX6_hasRoomFor : ByteArray := prog_1_method_38_code
def yX6_hasRoomFor : MethodName := ⟨RX6, "hasRoomFor", "(II)Z"⟩
abbrev cX6_burnStub : ByteArray := prog_1_method_39_code
def yX6_burnStub : MethodName := ⟨RX6, "burnStub", "(II)I"⟩
abbrev cX6_oweLight : ByteArray := prog_1_method_40_code
def yX6_oweLight : MethodName := ⟨RX6, "oweLight", "(III)I"⟩
abbrev cX6_snuffStub : ByteArray := prog_1_method_41_code
def yX6_snuffStub : MethodName := ⟨RX6, "snuffStub", "(III)I"⟩
abbrev cX6_poolWax : ByteArray := prog_1_method_42_code
def yX6_poolWax : MethodName := ⟨RX6, "poolWax", "(II)I"⟩
abbrev cX6_sharePool : ByteArray := prog_1_method_43_code
def yX6_sharePool : MethodName := ⟨RX6, "sharePool", "()I"⟩
abbrev cX6_tellHeir : ByteArray := prog_1_method_44_code
def yX6_tellHeir : MethodName := ⟨RX6, "tellHeir", "(II)I"⟩
abbrev cX6_endHouse : ByteArray := prog_1_method_45_code
def yX6_endHouse : MethodName := ⟨RX6, "endHouse", "(I)I"⟩
abbrev cX6_passHours : ByteArray := prog_1_method_46_code
def yX6_passHours : MethodName := ⟨RX6, "passHours", "(I)I"⟩
abbrev cX6_carryOut : ByteArray := prog_1_method_47_code
def yX6_carryOut : MethodName := ⟨RX6, "carryOut", "(I)I"⟩
abbrev cX6_isFrom : ByteArray := prog_1_method_48_code
def yX6_isFrom : MethodName := ⟨RX6, "isFrom", "(III)Z"⟩
abbrev cX6_isHouse : ByteArray := prog_1_method_49_code
def yX6_isHouse : MethodName := ⟨RX6, "isHouse", "(I)Z"⟩
abbrev cX6_isStub : ByteArray := prog_1_method_50_code
def yX6_isStub : MethodName := ⟨RX6, "isStub", "(I)Z"⟩
abbrev cX6_orNothing : ByteArray := prog_1_method_51_code
def yX6_orNothing : MethodName := ⟨RX6, "orNothing", "(I)I"⟩
abbrev cX6_refuse : ByteArray := prog_1_method_52_code
def yX6_refuse : MethodName := ⟨RX6, "refuse", "(II)I"⟩
abbrev cX6_refuseOrder : ByteArray := prog_1_method_53_code
def yX6_refuseOrder : MethodName := ⟨RX6, "refuseOrder", "(II)I"⟩
abbrev cX6_writeHouse : ByteArray := prog_1_method_54_code
def yX6_writeHouse : MethodName := ⟨RX6, "writeHouse", "(I)V"⟩
abbrev cX6_isWaxAccountedFor : ByteArray := prog_1_method_55_code
def yX6_isWaxAccountedFor : MethodName := ⟨RX6, "isWaxAccountedFor", "()Z"⟩
abbrev cX6_areSharesSame : ByteArray := prog_1_method_56_code
def yX6_areSharesSame : MethodName := ⟨RX6, "areSharesSame", "()Z"⟩
abbrev cX6_areWeightsSame : ByteArray := prog_1_method_57_code
def yX6_areWeightsSame : MethodName := ⟨RX6, "areWeightsSame", "()Z"⟩
def RX7 : String := "CandleStatuteModel"
def TX7 : u_T := fun k => match k with
  | 0 => ("CandleStatuteModel", "fails", "I", false)
  | 1 => ("CandleStatuteModel", "changes", "I", false)
  | 2 => ("CandleStatuteModel", "why", "I", false)
  | 3 => ("CandleStatuteModel", "detail", "I", false)
  | 4 => ("CandleStatuteModel", "behindWhy", "I", false)
  | 5 => ("CandleStatuteModel", "behindDetail", "I", false)
  | 6 => ("CandleStatuteModel", "lastWhy", "I", false)
  | 7 => ("CandleStatuteModel", "lastDetail", "I", false)
  | 8 => ("CandleStatuteModel", "isSaved", "Z", false)
  | 9 => ("CandleStatuteModel", "v", "[I", true)
  | 10 => ("CandleStatuteModel", "before", "[I", true)
  | 11 => ("CandleStatuteModel", "saved", "[I", true)
  | 12 => ("CandleStatuteModel", "kept", "[I", true)
  | 13 => ("CandleStatuteModel", "past", "[I", true)
  | 14 => ("CandleStatuteModel", "parts", "[I", true)
  | 15 => ("CandleStatuteModel", "rests", "[I", true)
  | 16 => ("CandleStatuteModel", "melted", "I", false)
  | 17 => ("CandleStatuteModel", "text", "[I", true)
  | 18 => ("CandleStatuteModel", "line", "[I", true)
  | 19 => ("CandleStatuteModel", "textN", "I", false)
  | 20 => ("CandleStatuteModel", "here", "I", false)
  | 21 => ("CandleStatuteModel", "end", "I", false)
  | 22 => ("CandleStatuteModel", "lineN", "I", false)
  | 23 => ("CandleStatuteModel", "isWrong", "Z", false)
  | _ => ("CandleStatuteModel", "isDoing", "Z", false)
def tyX7 : Nat → FieldType := fun k => match k with
  | 0 => .int
  | 1 => .int
  | 2 => .int
  | 3 => .int
  | 4 => .int
  | 5 => .int
  | 6 => .int
  | 7 => .int
  | 8 => .boolean
  | 9 => .array .int
  | 10 => .array .int
  | 11 => .array .int
  | 12 => .array .int
  | 13 => .array .int
  | 14 => .array .int
  | 15 => .array .int
  | 16 => .int
  | 17 => .array .int
  | 18 => .array .int
  | 19 => .int
  | 20 => .int
  | 21 => .int
  | 22 => .int
  | 23 => .boolean
  | _ => .boolean
abbrev wsX70 : List Cond := u_ws RX7 TX7 25
theorem nmX7 : ∀ a, a < 25 → ∀ b, b < 25 → a ≠ b → (TX7 a).2.1 ≠ (TX7 b).2.1 := by decide +kernel
theorem tyX7_ok : ∀ k, k < 25 → parseFieldDescriptor (TX7 k).2.2.1 = some (tyX7 k) := by decide +kernel
abbrev cX7_init : ByteArray := prog_9_method_1_code
def yX7_init : MethodName := ⟨RX7, "<init>", "()V"⟩
abbrev cX7_fail : ByteArray := prog_9_method_2_code
def yX7_fail : MethodName := ⟨RX7, "fail", "(I)I"⟩
abbrev cX7_refuses : ByteArray := prog_9_method_3_code
def yX7_refuses : MethodName := ⟨RX7, "refuses", "(II)I"⟩
abbrev cX7_isIn : ByteArray := prog_9_method_4_code
def yX7_isIn : MethodName := ⟨RX7, "isIn", "(III)Z"⟩
abbrev cX7_lays : ByteArray := prog_9_method_5_code
def yX7_lays : MethodName := ⟨RX7, "lays", "([I[I)V"⟩
abbrev cX7_begins : ByteArray := prog_9_method_6_code
def yX7_begins : MethodName := ⟨RX7, "begins", "()V"⟩
abbrev cX7_ends : ByteArray := prog_9_method_7_code
def yX7_ends : MethodName := ⟨RX7, "ends", "(I)I"⟩
abbrev cX7_at : ByteArray := prog_9_method_8_code
def yX7_at : MethodName := ⟨RX7, "at", "(II)I"⟩
abbrev cX7_in : ByteArray := prog_9_method_9_code
def yX7_in : MethodName := ⟨RX7, "in", "(II)I"⟩
abbrev cX7_isHouse : ByteArray := prog_9_method_10_code
def yX7_isHouse : MethodName := ⟨RX7, "isHouse", "(I)Z"⟩
abbrev cX7_isStub : ByteArray := prog_9_method_11_code
def yX7_isStub : MethodName := ⟨RX7, "isStub", "(I)Z"⟩
abbrev cX7_isOpen : ByteArray := prog_9_method_12_code
def yX7_isOpen : MethodName := ⟨RX7, "isOpen", "(I)Z"⟩
abbrev cX7_opens : ByteArray := prog_9_method_13_code
def yX7_opens : MethodName := ⟨RX7, "opens", "()I"⟩
abbrev cX7_tray : ByteArray := prog_9_method_14_code
def yX7_tray : MethodName := ⟨RX7, "tray", "(I)I"⟩
abbrev cX7_goes : ByteArray := prog_9_method_15_code
def yX7_goes : MethodName := ⟨RX7, "goes", "(I)V"⟩
abbrev cX7_owed : ByteArray := prog_9_method_16_code
def yX7_owed : MethodName := ⟨RX7, "owed", "(I)I"⟩
abbrev cX7_writs : ByteArray := prog_9_method_17_code
def yX7_writs : MethodName := ⟨RX7, "writs", "(I)I"⟩
abbrev cX7_isMade : ByteArray := prog_9_method_18_code
def yX7_isMade : MethodName := ⟨RX7, "isMade", "(II)Z"⟩
abbrev cX7_makes : ByteArray := prog_9_method_19_code
def yX7_makes : MethodName := ⟨RX7, "makes", "(III)I"⟩
abbrev cX7_comes : ByteArray := prog_9_method_20_code
def yX7_comes : MethodName := ⟨RX7, "comes", "(III)I"⟩
abbrev cX7_stub : ByteArray := prog_9_method_21_code
def yX7_stub : MethodName := ⟨RX7, "stub", "(III)I"⟩
abbrev cX7_refusesBurning : ByteArray := prog_9_method_22_code
def yX7_refusesBurning : MethodName := ⟨RX7, "refusesBurning", "(III)I"⟩
abbrev cX7_burns : ByteArray := prog_9_method_23_code
def yX7_burns : MethodName := ⟨RX7, "burns", "(II)I"⟩
abbrev cX7_burn : ByteArray := prog_9_method_24_code
def yX7_burn : MethodName := ⟨RX7, "burn", "(II)I"⟩
abbrev cX7_owes : ByteArray := prog_9_method_25_code
def yX7_owes : MethodName := ⟨RX7, "owes", "(III)I"⟩
abbrev cX7_owe : ByteArray := prog_9_method_26_code
def yX7_owe : MethodName := ⟨RX7, "owe", "(III)I"⟩
abbrev cX7_snuffs : ByteArray := prog_9_method_27_code
def yX7_snuffs : MethodName := ⟨RX7, "snuffs", "(III)I"⟩
abbrev cX7_writ : ByteArray := prog_9_method_28_code
def yX7_writ : MethodName := ⟨RX7, "writ", "(III)I"⟩
abbrev cX7_stubOf : ByteArray := prog_9_method_29_code
def yX7_stubOf : MethodName := ⟨RX7, "stubOf", "(II)I"⟩
abbrev cX7_pooled : ByteArray := prog_9_method_30_code
def yX7_pooled : MethodName := ⟨RX7, "pooled", "()I"⟩
abbrev cX7_pools : ByteArray := prog_9_method_31_code
def yX7_pools : MethodName := ⟨RX7, "pools", "(II)I"⟩
abbrev cX7_pool : ByteArray := prog_9_method_32_code
def yX7_pool : MethodName := ⟨RX7, "pool", "(II)I"⟩
abbrev cX7_claim : ByteArray := prog_9_method_33_code
def yX7_claim : MethodName := ⟨RX7, "claim", "(I)I"⟩
abbrev cX7_claims : ByteArray := prog_9_method_34_code
def yX7_claims : MethodName := ⟨RX7, "claims", "()I"⟩
abbrev cX7_finds : ByteArray := prog_9_method_35_code
def yX7_finds : MethodName := ⟨RX7, "finds", "()V"⟩
abbrev cX7_shares : ByteArray := prog_9_method_36_code
def yX7_shares : MethodName := ⟨RX7, "shares", "()I"⟩
abbrev cX7_share : ByteArray := prog_9_method_37_code
def yX7_share : MethodName := ⟨RX7, "share", "()I"⟩
abbrev cX7_part : ByteArray := prog_9_method_38_code
def yX7_part : MethodName := ⟨RX7, "part", "(I)I"⟩
abbrev cX7_partAgain : ByteArray := prog_9_method_39_code
def yX7_partAgain : MethodName := ⟨RX7, "partAgain", "(I)I"⟩
abbrev cX7_moulds : ByteArray := prog_9_method_40_code
def yX7_moulds : MethodName := ⟨RX7, "moulds", "(III)I"⟩
abbrev cX7_mould : ByteArray := prog_9_method_41_code
def yX7_mould : MethodName := ⟨RX7, "mould", "(III)I"⟩
abbrev cX7_tellsHeir : ByteArray := prog_9_method_42_code
def yX7_tellsHeir : MethodName := ⟨RX7, "tellsHeir", "(II)I"⟩
abbrev cX7_heir : ByteArray := prog_9_method_43_code
def yX7_heir : MethodName := ⟨RX7, "heir", "(II)I"⟩
abbrev cX7_inForce : ByteArray := prog_9_method_44_code
def yX7_inForce : MethodName := ⟨RX7, "inForce", "(I)I"⟩
abbrev cX7_inheritsStubs : ByteArray := prog_9_method_45_code
def yX7_inheritsStubs : MethodName := ⟨RX7, "inheritsStubs", "(II)I"⟩
abbrev cX7_frees : ByteArray := prog_9_method_46_code
def yX7_frees : MethodName := ⟨RX7, "frees", "(I)V"⟩
abbrev cX7_closes : ByteArray := prog_9_method_47_code
def yX7_closes : MethodName := ⟨RX7, "closes", "(I)I"⟩
abbrev cX7_end : ByteArray := prog_9_method_48_code
def yX7_end : MethodName := ⟨RX7, "end", "(I)I"⟩
abbrev cX7_passes : ByteArray := prog_9_method_49_code
def yX7_passes : MethodName := ⟨RX7, "passes", "(I)I"⟩
abbrev cX7_pass : ByteArray := prog_9_method_50_code
def yX7_pass : MethodName := ⟨RX7, "pass", "(I)I"⟩
abbrev cX7_ofStubs : ByteArray := prog_9_method_51_code
def yX7_ofStubs : MethodName := ⟨RX7, "ofStubs", "(II)I"⟩
abbrev cX7_houseOf : ByteArray := prog_9_method_52_code
def yX7_houseOf : MethodName := ⟨RX7, "houseOf", "(II)I"⟩
abbrev cX7_inherits : ByteArray := prog_9_method_53_code
def yX7_inherits : MethodName := ⟨RX7, "inherits", "(I)I"⟩
abbrev cX7_wouldMelt : ByteArray := prog_9_method_54_code
def yX7_wouldMelt : MethodName := ⟨RX7, "wouldMelt", "(I)I"⟩
abbrev cX7_weight : ByteArray := prog_9_method_55_code
def yX7_weight : MethodName := ⟨RX7, "weight", "(I)I"⟩
abbrev cX7_weightAgain : ByteArray := prog_9_method_56_code
def yX7_weightAgain : MethodName := ⟨RX7, "weightAgain", "(I)I"⟩
abbrev cX7_ranked : ByteArray := prog_9_method_57_code
def yX7_ranked : MethodName := ⟨RX7, "ranked", "(I)I"⟩
abbrev cX7_brightest : ByteArray := prog_9_method_58_code
def yX7_brightest : MethodName := ⟨RX7, "brightest", "(I)I"⟩
abbrev cX7_writes : ByteArray := prog_9_method_59_code
def yX7_writes : MethodName := ⟨RX7, "writes", "(I)V"⟩
abbrev cX7_writesNumber : ByteArray := prog_9_method_60_code
def yX7_writesNumber : MethodName := ⟨RX7, "writesNumber", "(I)V"⟩
abbrev cX7_append : ByteArray := prog_9_method_61_code
def yX7_append : MethodName := ⟨RX7, "append", "(I)I"⟩
abbrev cX7_sign : ByteArray := prog_9_method_62_code
def yX7_sign : MethodName := ⟨RX7, "sign", "()I"⟩
abbrev cX7_mark : ByteArray := prog_9_method_63_code
def yX7_mark : MethodName := ⟨RX7, "mark", "(I)V"⟩
abbrev cX7_digits : ByteArray := prog_9_method_64_code
def yX7_digits : MethodName := ⟨RX7, "digits", "(I)I"⟩
abbrev cX7_behind : ByteArray := prog_9_method_65_code
def yX7_behind : MethodName := ⟨RX7, "behind", "(II)I"⟩
abbrev cX7_does : ByteArray := prog_9_method_66_code
def yX7_does : MethodName := ⟨RX7, "does", "(IIII)I"⟩
abbrev cX7_isKnown : ByteArray := prog_9_method_67_code
def yX7_isKnown : MethodName := ⟨RX7, "isKnown", "(I)Z"⟩
abbrev cX7_order : ByteArray := prog_9_method_68_code
def yX7_order : MethodName := ⟨RX7, "order", "()V"⟩
abbrev cX7_orders : ByteArray := prog_9_method_69_code
def yX7_orders : MethodName := ⟨RX7, "orders", "()I"⟩
abbrev cX7_refusesOrder : ByteArray := prog_9_method_70_code
def yX7_refusesOrder : MethodName := ⟨RX7, "refusesOrder", "(I)I"⟩
abbrev cX7_run : ByteArray := prog_9_method_71_code
def yX7_run : MethodName := ⟨RX7, "run", "()I"⟩
abbrev cX7_tell : ByteArray := prog_9_method_72_code
def yX7_tell : MethodName := ⟨RX7, "tell", "(I)I"⟩
abbrev cX7_tellHouses : ByteArray := prog_9_method_73_code
def yX7_tellHouses : MethodName := ⟨RX7, "tellHouses", "()I"⟩
abbrev cX7_character : ByteArray := prog_9_method_74_code
def yX7_character : MethodName := ⟨RX7, "character", "(I)I"⟩
abbrev cX7_reason : ByteArray := prog_9_method_75_code
def yX7_reason : MethodName := ⟨RX7, "reason", "(IZ)I"⟩
abbrev cX7_ofAll : ByteArray := prog_9_method_76_code
def yX7_ofAll : MethodName := ⟨RX7, "ofAll", "(I)I"⟩
abbrev cX7_stores : ByteArray := prog_9_method_77_code
def yX7_stores : MethodName := ⟨RX7, "stores", "()I"⟩
abbrev cX7_account : ByteArray := prog_9_method_78_code
def yX7_account : MethodName := ⟨RX7, "account", "(I)I"⟩
abbrev cX7_isBalanced : ByteArray := prog_9_method_79_code
def yX7_isBalanced : MethodName := ⟨RX7, "isBalanced", "()I"⟩
abbrev cX7_meanWax : ByteArray := prog_9_method_80_code
def yX7_meanWax : MethodName := ⟨RX7, "meanWax", "()D"⟩
abbrev cX7_snuffedShare : ByteArray := prog_9_method_81_code
def yX7_snuffedShare : MethodName := ⟨RX7, "snuffedShare", "()F"⟩
abbrev cX7_undo : ByteArray := prog_9_method_82_code
def yX7_undo : MethodName := ⟨RX7, "undo", "()I"⟩
abbrev cX7_save : ByteArray := prog_9_method_83_code
def yX7_save : MethodName := ⟨RX7, "save", "()I"⟩
abbrev cX7_restore : ByteArray := prog_9_method_84_code
def yX7_restore : MethodName := ⟨RX7, "restore", "()I"⟩
def RJ5 : String := "java/lang/AbstractStringBuilder"
abbrev cJ5_init_d00df : ByteArray := prog_10_method_2_code
def yJ5_init_d00df : MethodName := ⟨RJ5, "<init>", "(I)V"⟩
abbrev cJ5_length_8abf5 : ByteArray := prog_10_method_6_code
def yJ5_length_8abf5 : MethodName := ⟨RJ5, "length", "()I"⟩
abbrev cJ5_ensureCapacityInternal_d00df : ByteArray := prog_10_method_9_code
def yJ5_ensureCapacityInternal_d00df : MethodName := ⟨RJ5, "ensureCapacityInternal", "(I)V"⟩
abbrev cJ5_newCapacity_0f7a4 : ByteArray := prog_10_method_10_code
def yJ5_newCapacity_0f7a4 : MethodName := ⟨RJ5, "newCapacity", "(I)I"⟩
abbrev cJ5_inflate_da8c8 : ByteArray := prog_10_method_11_code
def yJ5_inflate_da8c8 : MethodName := ⟨RJ5, "inflate", "()V"⟩
abbrev cJ5_setLength_d00df : ByteArray := prog_10_method_13_code
def yJ5_setLength_d00df : MethodName := ⟨RJ5, "setLength", "(I)V"⟩
abbrev cJ5_charAt_5068e : ByteArray := prog_10_method_14_code
def yJ5_charAt_5068e : MethodName := ⟨RJ5, "charAt", "(I)C"⟩
abbrev cJ5_append_3fe6f : ByteArray := prog_10_method_31_code
def yJ5_append_3fe6f : MethodName := ⟨RJ5, "append", "(C)Ljava/lang/AbstractStringBuilder;"⟩
abbrev cJ5_append_c97b9 : ByteArray := prog_10_method_32_code
def yJ5_append_c97b9 : MethodName := ⟨RJ5, "append", "(I)Ljava/lang/AbstractStringBuilder;"⟩
abbrev cJ5_isLatin1_aae02 : ByteArray := prog_10_method_68_code
def yJ5_isLatin1_aae02 : MethodName := ⟨RJ5, "isLatin1", "()Z"⟩
def RJ11 : String := "java/lang/Character"
abbrev cJ11_isValidCodePoint_9a6ad : ByteArray := prog_11_method_11_code
def yJ11_isValidCodePoint_9a6ad : MethodName := ⟨RJ11, "isValidCodePoint", "(I)Z"⟩
abbrev cJ11_highSurrogate_5068e : ByteArray := prog_11_method_28_code
def yJ11_highSurrogate_5068e : MethodName := ⟨RJ11, "highSurrogate", "(I)C"⟩
abbrev cJ11_lowSurrogate_5068e : ByteArray := prog_11_method_29_code
def yJ11_lowSurrogate_5068e : MethodName := ⟨RJ11, "lowSurrogate", "(I)C"⟩
def RJ6 : String := "java/lang/Integer"
abbrev cJ6_getChars_ba4f3 : ByteArray := prog_13_method_12_code
def yJ6_getChars_ba4f3 : MethodName := ⟨RJ6, "getChars", "(II[B)I"⟩
abbrev cJ6_stringSize_0f7a4 : ByteArray := prog_13_method_13_code
def yJ6_stringSize_0f7a4 : MethodName := ⟨RJ6, "stringSize", "(I)I"⟩
def RJ9 : String := "java/lang/Math"
abbrev cJ9_max_7cf53 : ByteArray := prog_14_method_65_code
def yJ9_max_7cf53 : MethodName := ⟨RJ9, "max", "(II)I"⟩
abbrev cJ9_min_7cf53 : ByteArray := prog_14_method_69_code
def yJ9_min_7cf53 : MethodName := ⟨RJ9, "min", "(II)I"⟩
def RJ0 : String := "java/lang/String"
abbrev cJ0_length_8abf5 : ByteArray := prog_15_method_54_code
def yJ0_length_8abf5 : MethodName := ⟨RJ0, "length", "()I"⟩
abbrev cJ0_charAt_5068e : ByteArray := prog_15_method_56_code
def yJ0_charAt_5068e : MethodName := ⟨RJ0, "charAt", "(I)C"⟩
abbrev cJ0_indexOf_0f7a4 : ByteArray := prog_15_method_79_code
def yJ0_indexOf_0f7a4 : MethodName := ⟨RJ0, "indexOf", "(I)I"⟩
abbrev cJ0_indexOf_7cf53 : ByteArray := prog_15_method_80_code
def yJ0_indexOf_7cf53 : MethodName := ⟨RJ0, "indexOf", "(II)I"⟩
abbrev cJ0_coder_7d493 : ByteArray := prog_15_method_152_code
def yJ0_coder_7d493 : MethodName := ⟨RJ0, "coder", "()B"⟩
abbrev cJ0_isLatin1_aae02 : ByteArray := prog_15_method_154_code
def yJ0_isLatin1_aae02 : MethodName := ⟨RJ0, "isLatin1", "()Z"⟩
abbrev cJ0_checkIndex_df160 : ByteArray := prog_15_method_155_code
def yJ0_checkIndex_df160 : MethodName := ⟨RJ0, "checkIndex", "(II)V"⟩
abbrev cJ0_checkBoundsOffCount_cabcc : ByteArray := prog_15_method_157_code
def yJ0_checkBoundsOffCount_cabcc : MethodName := ⟨RJ0, "checkBoundsOffCount", "(III)I"⟩
abbrev cJ0_checkBoundsBeginEnd_23922 : ByteArray := prog_15_method_158_code
def yJ0_checkBoundsBeginEnd_23922 : MethodName := ⟨RJ0, "checkBoundsBeginEnd", "(III)V"⟩
def RJ4 : String := "java/lang/StringBuilder"
def TJ4 : u_T := fun k => match k with
  | 0 => ("java/lang/AbstractStringBuilder", "value", "[B", false)
  | 1 => ("java/lang/AbstractStringBuilder", "coder", "B", false)
  | 2 => ("java/lang/AbstractStringBuilder", "maybeLatin1", "Z", false)
  | _ => ("java/lang/AbstractStringBuilder", "count", "I", false)
def tyJ4 : Nat → FieldType := fun k => match k with
  | 0 => .array .byte
  | 1 => .byte
  | 2 => .boolean
  | _ => .int
abbrev wsJ40 : List Cond := u_ws RJ4 TJ4 4
theorem nmJ4 : ∀ a, a < 4 → ∀ b, b < 4 → a ≠ b → (TJ4 a).2.1 ≠ (TJ4 b).2.1 := by decide +kernel
theorem tyJ4_ok : ∀ k, k < 4 → parseFieldDescriptor (TJ4 k).2.2.1 = some (tyJ4 k) := by decide +kernel
abbrev cJ4_init_da8c8 : ByteArray := prog_16_method_1_code
def yJ4_init_da8c8 : MethodName := ⟨RJ4, "<init>", "()V"⟩
abbrev cJ4_append_cf468 : ByteArray := prog_16_method_14_code
def yJ4_append_cf468 : MethodName := ⟨RJ4, "append", "(C)Ljava/lang/StringBuilder;"⟩
abbrev cJ4_append_bf812 : ByteArray := prog_16_method_15_code
def yJ4_append_bf812 : MethodName := ⟨RJ4, "append", "(I)Ljava/lang/StringBuilder;"⟩
abbrev cJ4_charAt_5068e : ByteArray := prog_16_method_88_code
def yJ4_charAt_5068e : MethodName := ⟨RJ4, "charAt", "(I)C"⟩
abbrev cJ4_setLength_d00df : ByteArray := prog_16_method_89_code
def yJ4_setLength_d00df : MethodName := ⟨RJ4, "setLength", "(I)V"⟩
abbrev cJ4_length_8abf5 : ByteArray := prog_16_method_93_code
def yJ4_length_8abf5 : MethodName := ⟨RJ4, "length", "()I"⟩
def RJ1 : String := "java/lang/StringLatin1"
abbrev cJ1_charAt_3b067 : ByteArray := prog_17_method_2_code
def yJ1_charAt_3b067 : MethodName := ⟨RJ1, "charAt", "([BI)C"⟩
abbrev cJ1_canEncode_fc78d : ByteArray := prog_17_method_3_code
def yJ1_canEncode_fc78d : MethodName := ⟨RJ1, "canEncode", "(C)Z"⟩
abbrev cJ1_canEncode_9a6ad : ByteArray := prog_17_method_4_code
def yJ1_canEncode_9a6ad : MethodName := ⟨RJ1, "canEncode", "(I)Z"⟩
abbrev cJ1_indexOf_4cfef : ByteArray := prog_17_method_22_code
def yJ1_indexOf_4cfef : MethodName := ⟨RJ1, "indexOf", "([BIII)I"⟩
abbrev cJ1_indexOfChar_4cfef : ByteArray := prog_17_method_23_code
def yJ1_indexOfChar_4cfef : MethodName := ⟨RJ1, "indexOfChar", "([BIII)I"⟩
abbrev cJ1_fillNull_b72d1 : ByteArray := prog_17_method_48_code
def yJ1_fillNull_b72d1 : MethodName := ⟨RJ1, "fillNull", "([BII)V"⟩
abbrev cJ1_inflate_0e8fd : ByteArray := prog_17_method_50_code
def yJ1_inflate_0e8fd : MethodName := ⟨RJ1, "inflate", "([BI[BII)V"⟩
def RJ2 : String := "java/lang/StringUTF16"
abbrev cJ2_newBytesFor_77867 : ByteArray := prog_18_method_2_code
def yJ2_newBytesFor_77867 : MethodName := ⟨RJ2, "newBytesFor", "(I)[B"⟩
abbrev cJ2_newBytesLength_0f7a4 : ByteArray := prog_18_method_3_code
def yJ2_newBytesLength_0f7a4 : MethodName := ⟨RJ2, "newBytesLength", "(I)I"⟩
abbrev cJ2_putChar_b72d1 : ByteArray := prog_18_method_4_code
def yJ2_putChar_b72d1 : MethodName := ⟨RJ2, "putChar", "([BII)V"⟩
abbrev cJ2_getChar_3b067 : ByteArray := prog_18_method_5_code
def yJ2_getChar_3b067 : MethodName := ⟨RJ2, "getChar", "([BI)C"⟩
abbrev cJ2_length_9d52b : ByteArray := prog_18_method_6_code
def yJ2_length_9d52b : MethodName := ⟨RJ2, "length", "([B)I"⟩
abbrev cJ2_indexOf_4cfef : ByteArray := prog_18_method_40_code
def yJ2_indexOf_4cfef : MethodName := ⟨RJ2, "indexOf", "([BIII)I"⟩
abbrev cJ2_indexOfChar_4cfef : ByteArray := prog_18_method_47_code
def yJ2_indexOfChar_4cfef : MethodName := ⟨RJ2, "indexOfChar", "([BIII)I"⟩
abbrev cJ2_indexOfCharUnsafe_4cfef : ByteArray := prog_18_method_48_code
def yJ2_indexOfCharUnsafe_4cfef : MethodName := ⟨RJ2, "indexOfCharUnsafe", "([BIII)I"⟩
abbrev cJ2_indexOfSupplementary_4cfef : ByteArray := prog_18_method_49_code
def yJ2_indexOfSupplementary_4cfef : MethodName := ⟨RJ2, "indexOfSupplementary", "([BIII)I"⟩
abbrev cJ2_fillNull_b72d1 : ByteArray := prog_18_method_70_code
def yJ2_fillNull_b72d1 : MethodName := ⟨RJ2, "fillNull", "([BII)V"⟩
abbrev cJ2_putCharSB_b72d1 : ByteArray := prog_18_method_71_code
def yJ2_putCharSB_b72d1 : MethodName := ⟨RJ2, "putCharSB", "([BII)V"⟩
abbrev cJ2_getChars_46870 : ByteArray := prog_18_method_77_code
def yJ2_getChars_46870 : MethodName := ⟨RJ2, "getChars", "(III[B)I"⟩
abbrev cJ2_charAt_3b067 : ByteArray := prog_18_method_83_code
def yJ2_charAt_3b067 : MethodName := ⟨RJ2, "charAt", "([BI)C"⟩
abbrev cJ2_inflate_0e8fd : ByteArray := prog_18_method_86_code
def yJ2_inflate_0e8fd : MethodName := ⟨RJ2, "inflate", "([BI[BII)V"⟩
abbrev cJ2_getChars_ba4f3 : ByteArray := prog_18_method_89_code
def yJ2_getChars_ba4f3 : MethodName := ⟨RJ2, "getChars", "(II[B)I"⟩
abbrev cJ2_checkIndex_2214a : ByteArray := prog_18_method_91_code
def yJ2_checkIndex_2214a : MethodName := ⟨RJ2, "checkIndex", "(I[B)V"⟩
abbrev cJ2_checkBoundsBeginEnd_d044e : ByteArray := prog_18_method_93_code
def yJ2_checkBoundsBeginEnd_d044e : MethodName := ⟨RJ2, "checkBoundsBeginEnd", "(II[B)V"⟩
abbrev cJ2_checkBoundsOffCount_d044e : ByteArray := prog_18_method_94_code
def yJ2_checkBoundsOffCount_d044e : MethodName := ⟨RJ2, "checkBoundsOffCount", "(II[B)V"⟩
def RJ10 : String := "java/lang/System"
def RJ7 : String := "java/util/Arrays"
abbrev cJ7_rangeCheck_23922 : ByteArray := prog_20_method_30_code
def yJ7_rangeCheck_23922 : MethodName := ⟨RJ7, "rangeCheck", "(III)V"⟩
abbrev cJ7_fill_eb02e : ByteArray := prog_20_method_110_code
def yJ7_fill_eb02e : MethodName := ⟨RJ7, "fill", "([BIIB)V"⟩
abbrev cJ7_copyOf_9075b : ByteArray := prog_20_method_121_code
def yJ7_copyOf_9075b : MethodName := ⟨RJ7, "copyOf", "([BI)[B"⟩
def RJ8 : String := "jdk/internal/util/ArraysSupport"
abbrev cJ8_newLength_cabcc : ByteArray := prog_21_method_27_code
def yJ8_newLength_cabcc : MethodName := ⟨RJ8, "newLength", "(III)I"⟩
abbrev cJ8_hugeLength_7cf53 : ByteArray := prog_21_method_28_code
def yJ8_hugeLength_7cf53 : MethodName := ⟨RJ8, "hugeLength", "(II)I"⟩
def RJ3 : String := "jdk/internal/util/Preconditions"
abbrev cJ3_checkIndex_8e157 : ByteArray := prog_22_method_11_code
def yJ3_checkIndex_8e157 : MethodName := ⟨RJ3, "checkIndex", "(IILjava/util/function/BiFunction;)I"⟩
abbrev cJ3_checkFromToIndex_8c36e : ByteArray := prog_22_method_12_code
def yJ3_checkFromToIndex_8c36e : MethodName := ⟨RJ3, "checkFromToIndex", "(IIILjava/util/function/BiFunction;)I"⟩
abbrev cJ3_checkFromIndexSize_8c36e : ByteArray := prog_22_method_13_code
def yJ3_checkFromIndexSize_8c36e : MethodName := ⟨RJ3, "checkFromIndexSize", "(IIILjava/util/function/BiFunction;)I"⟩
def RL : String := "CandleStatuteLaw"
abbrev cL_law : ByteArray := code
def yL_law : MethodName := ⟨RL, "law", "([I)Z"⟩
abbrev vwCl : List vw_C := [(RJ4, TJ4, 4), (RX0, TX0, 3), (RX1, TX1, 6), (RX2, TX2, 3), (RX3, TX3, 3), (RX4, TX4, 11), (RX5, TX5, 9), (RX6, TX6, 9), (RX7, TX7, 25)]
end
section
/-! resolved code of the interpreted methods, as the tables name them -/
def sbX : List Cond := [.selects "java/lang/StringBuilder" ⟨"java/lang/AbstractStringBuilder", "ensureCapacityInternal", "(I)V"⟩ ⟨"java/lang/AbstractStringBuilder", "ensureCapacityInternal", "(I)V"⟩, .selects "java/lang/StringBuilder" ⟨"java/lang/AbstractStringBuilder", "newCapacity", "(I)I"⟩ ⟨"java/lang/AbstractStringBuilder", "newCapacity", "(I)I"⟩]
def TT : List Cond := sbX ++ lw_tbl
def Tall : List Cond := TT.filter goodWord
def TTs (j : Nat) : List Cond := match j with
  | 0 => sbX
  | 1 => k2_sels lw_privs_1
  | 2 => k2_sels lw_privs_2
  | 3 => k2_sels lw_privs_3
  | 4 => k2_sels lw_privs_4
  | 5 => k2_sels lw_privs_5
  | 6 => tables_1_1
  | 7 => tables_1_2
  | 8 => tables_1_3
  | 9 => tables_1_4
  | 10 => tables_1_5
  | 11 => tables_1_6
  | _ => []
theorem TTs_in {j : Nat} {w : Cond} (h : w ∈ TTs j) : w ∈ TT := by
  unfold TT lw_tbl lw_privs tables_1
  simp only [k2_sels, List.map_append, List.mem_append]
  match j, h with
  | 0, h => simp only [TTs, k2_sels] at h; simp only [h, true_or, or_true]
  | 1, h => simp only [TTs, k2_sels] at h; simp only [h, true_or, or_true]
  | 2, h => simp only [TTs, k2_sels] at h; simp only [h, true_or, or_true]
  | 3, h => simp only [TTs, k2_sels] at h; simp only [h, true_or, or_true]
  | 4, h => simp only [TTs, k2_sels] at h; simp only [h, true_or, or_true]
  | 5, h => simp only [TTs, k2_sels] at h; simp only [h, true_or, or_true]
  | 6, h => simp only [TTs, k2_sels] at h; simp only [h, true_or, or_true]
  | 7, h => simp only [TTs, k2_sels] at h; simp only [h, true_or, or_true]
  | 8, h => simp only [TTs, k2_sels] at h; simp only [h, true_or, or_true]
  | 9, h => simp only [TTs, k2_sels] at h; simp only [h, true_or, or_true]
  | 10, h => simp only [TTs, k2_sels] at h; simp only [h, true_or, or_true]
  | 11, h => simp only [TTs, k2_sels] at h; simp only [h, true_or, or_true]
  | n + 12, h => cases h
def atT (p : Nat) (w : Cond) : Bool := match (TTs (p / 1000))[p % 1000]? with
  | some w2 => decide (w2 = w) && goodWord w
  | none => false
theorem atT_in {i : Nat} {w : Cond} (h : atT i w = true) : w ∈ Tall := by
  unfold atT at h
  cases hq : (TTs (i / 1000))[i % 1000]? with
  | none => rw [hq] at h; cases h
  | some w2 =>
    rw [hq] at h
    simp only [Bool.and_eq_true, decide_eq_true_eq] at h
    obtain ⟨rfl, hg⟩ := h
    exact List.mem_filter.mpr ⟨TTs_in (List.mem_of_getElem? hq), hg⟩
theorem goodTall : GoodIn Tall Tall := fun w h => ⟨h, good_of_word (List.mem_filter.mp h).2⟩
abbrev Ent : Type := Nat × Instr × Nat × Nat × Nat × Nat
def clsN : List String := ["CandleStatute$History", "CandleStatute$Orders", "CandleStatute$Reasons", "CandleStatute$Sharing", "CandleStatute$State", "CandleStatute$Stubs", "CandleStatute", "CandleStatuteModel", "", "", "java/lang/String", "java/lang/StringLatin1", "java/lang/StringUTF16", "jdk/internal/util/Preconditions", "java/lang/StringBuilder", "java/lang/AbstractStringBuilder", "java/lang/Integer", "java/util/Arrays", "jdk/internal/util/ArraysSupport", "java/lang/Math"]
def e_X0_begin : List Ent := [(0, .aload_n 0, 0, 0, 0, 0), (1, .getfield 11, 0, 1, 0, 2), (4, .aload_n 0, 0, 0, 0, 0), (5, .getfield 18, 1, 1, 1, 0), (8, .aaload, 0, 0, 0, 0), (9, .aload_n 1, 0, 0, 0, 0), (10, .invokevirtual 22, 0, 19, 0, 0), (13, .return_, 0, 0, 0, 0)]
def e_X0_takeBack : List Ent := [(0, .aload_n 1, 0, 0, 0, 0), (1, .aload_n 0, 0, 0, 0, 0), (2, .getfield 11, 0, 1, 0, 2), (5, .aload_n 0, 0, 0, 0, 0), (6, .getfield 18, 1, 1, 1, 0), (9, .aaload, 0, 0, 0, 0), (10, .invokevirtual 22, 0, 19, 0, 0), (13, .return_, 0, 0, 0, 0)]
def e_X0_keep : List Ent := [(0, .aload_n 0, 0, 0, 0, 0), (1, .aload_n 0, 0, 0, 0, 0), (2, .getfield 18, 1, 1, 1, 0), (5, .bipush 8, 0, 0, 0, 0), (7, .if_icmp .ge 12, 0, 0, 0, 0), (10, .aload_n 0, 0, 0, 0, 0), (11, .getfield 18, 1, 1, 1, 0), (14, .iconst 1, 0, 0, 0, 0), (15, .iadd, 0, 0, 0, 0), (16, .goto 4, 0, 0, 0, 0), (19, .iconst 0, 0, 0, 0, 0), (20, .putfield 18, 1, 1, 1, 0), (23, .aload_n 0, 0, 0, 0, 0), (24, .aload_n 0, 0, 0, 0, 0), (25, .getfield 26, 2, 1, 2, 0), (28, .iconst 1, 0, 0, 0, 0), (29, .iadd, 0, 0, 0, 0), (30, .bipush 8, 0, 0, 0, 0), (32, .invokestatic 29, 1, 202, 1, 0), (35, .putfield 26, 2, 1, 2, 0), (38, .return_, 0, 0, 0, 0)]
def e_X0_stepBack : List Ent := [(0, .aload_n 0, 0, 0, 0, 0), (1, .getfield 26, 2, 1, 2, 0), (4, .ifCond .ne 5, 0, 0, 0, 0), (7, .iconst 0, 0, 0, 0, 0), (8, .ireturn, 0, 0, 0, 0), (9, .aload_n 0, 0, 0, 0, 0), (10, .dup, 0, 0, 0, 0), (11, .getfield 26, 2, 1, 2, 0), (14, .iconst 1, 0, 0, 0, 0), (15, .isub, 0, 0, 0, 0), (16, .putfield 26, 2, 1, 2, 0), (19, .aload_n 0, 0, 0, 0, 0), (20, .aload_n 0, 0, 0, 0, 0), (21, .getfield 18, 1, 1, 1, 0), (24, .ifCond .le 12, 0, 0, 0, 0), (27, .aload_n 0, 0, 0, 0, 0), (28, .getfield 18, 1, 1, 1, 0), (31, .iconst 1, 0, 0, 0, 0), (32, .isub, 0, 0, 0, 0), (33, .goto 5, 0, 0, 0, 0), (36, .bipush 8, 0, 0, 0, 0), (38, .putfield 18, 1, 1, 1, 0), (41, .aload_n 0, 0, 0, 0, 0), (42, .aload_n 1, 0, 0, 0, 0), (43, .invokevirtual 35, 2, 1, 0, 0), (46, .iconst 1, 0, 0, 0, 0), (47, .ireturn, 0, 0, 0, 0)]
def e_X0_forget : List Ent := [(0, .aload_n 0, 0, 0, 0, 0), (1, .iconst 0, 0, 0, 0, 0), (2, .putfield 26, 2, 1, 2, 0), (5, .return_, 0, 0, 0, 0)]
def e_X1_read : List Ent := [(0, .aload_n 0, 0, 0, 0, 0), (1, .iconst 0, 0, 0, 0, 0), (2, .putfield 24, 3, 2, 4, 0), (5, .aload_n 0, 0, 0, 0, 0), (6, .iconst 0, 0, 0, 0, 0), (7, .putfield 28, 4, 2, 5, 0), (10, .iconst 0, 0, 0, 0, 0), (11, .istore_n 2, 0, 0, 0, 0), (12, .iload_n 2, 0, 0, 0, 0), (13, .bipush 60, 0, 0, 0, 0), (15, .if_icmp .ge 58, 0, 0, 0, 0), (18, .aload_n 0, 0, 0, 0, 0), (19, .aload_n 1, 0, 0, 0, 0), (20, .iload_n 2, 0, 0, 0, 0), (21, .invokevirtual 31, 3, 6, 0, 0), (24, .ifCond .ne 8, 0, 0, 0, 0), (27, .aload_n 0, 0, 0, 0, 0), (28, .getfield 28, 4, 2, 5, 0), (31, .ireturn, 0, 0, 0, 0), (32, .aload_n 0, 0, 0, 0, 0), (33, .iload_n 2, 0, 0, 0, 0), (34, .iconst 1, 0, 0, 0, 0), (35, .iadd, 0, 0, 0, 0), (36, .putfield 24, 3, 2, 4, 0), (39, .aload_n 0, 0, 0, 0, 0), (40, .getfield 28, 4, 2, 5, 0), (43, .aload_n 1, 0, 0, 0, 0), (44, .invokevirtual 35, 4, 193, 0, 0), (47, .if_icmp .lt 5, 0, 0, 0, 0), (50, .iconst (-1), 0, 0, 0, 0), (51, .ireturn, 0, 0, 0, 0), (52, .aload_n 0, 0, 0, 0, 0), (53, .aload_n 1, 0, 0, 0, 0), (54, .bipush 59, 0, 0, 0, 0), (56, .invokevirtual 41, 5, 8, 0, 0), (59, .ifCond .ne 8, 0, 0, 0, 0), (62, .aload_n 0, 0, 0, 0, 0), (63, .getfield 28, 4, 2, 5, 0), (66, .ireturn, 0, 0, 0, 0), (67, .iinc 2 1, 0, 0, 0, 0), (70, .goto (-58), 0, 0, 0, 0), (73, .aload_n 0, 0, 0, 0, 0), (74, .getfield 28, 4, 2, 5, 0), (77, .ireturn, 0, 0, 0, 0)]
def e_X1_isOrderRead : List Ent := [(0, .aload_n 0, 0, 0, 0, 0), (1, .getfield 28, 4, 2, 5, 0), (4, .aload_n 1, 0, 0, 0, 0), (5, .invokevirtual 35, 4, 193, 0, 0), (8, .if_icmp .ge 19, 0, 0, 0, 0), (11, .ldc 45, 0, 1, 0, 0), (13, .aload_n 1, 0, 0, 0, 0), (14, .aload_n 0, 0, 0, 0, 0), (15, .getfield 28, 4, 2, 5, 0), (18, .invokevirtual 47, 6, 191, 0, 0), (21, .invokevirtual 51, 7, 206, 0, 0), (24, .ifCond .ge 5, 0, 0, 0, 0), (27, .iconst 0, 0, 0, 0, 0), (28, .ireturn, 0, 0, 0, 0), (29, .aload_n 1, 0, 0, 0, 0), (30, .aload_n 0, 0, 0, 0, 0), (31, .getfield 28, 4, 2, 5, 0), (34, .invokevirtual 47, 6, 191, 0, 0), (37, .istore_n 3, 0, 0, 0, 0), (38, .iload_n 3, 0, 0, 0, 0), (39, .invokestatic 57, 8, 7, 1, 0), (42, .astore 4, 0, 0, 0, 0), (44, .aload_n 0, 0, 0, 0, 0), (45, .getfield 9, 5, 2, 0, 2), (48, .iload_n 2, 0, 0, 0, 0), (49, .iload_n 3, 0, 0, 0, 0), (50, .iastore, 0, 0, 0, 0), (51, .aload_n 0, 0, 0, 0, 0), (52, .dup, 0, 0, 0, 0), (53, .getfield 28, 4, 2, 5, 0), (56, .iconst 1, 0, 0, 0, 0), (57, .iadd, 0, 0, 0, 0), (58, .putfield 28, 4, 2, 5, 0), (61, .iconst 0, 0, 0, 0, 0), (62, .istore 5, 0, 0, 0, 0), (64, .iconst 0, 0, 0, 0, 0), (65, .istore 6, 0, 0, 0, 0), (67, .iload 6, 0, 0, 0, 0), (69, .aload 4, 0, 0, 0, 0), (71, .invokevirtual 61, 9, 204, 0, 0), (74, .if_icmp .ge 74, 0, 0, 0, 0), (77, .aload 4, 0, 0, 0, 0), (79, .iload 6, 0, 0, 0, 0), (81, .invokevirtual 62, 10, 205, 0, 0), (84, .istore 7, 0, 0, 0, 0), (86, .iload 7, 0, 0, 0, 0), (88, .bipush 49, 0, 0, 0, 0), (90, .if_icmp .eq 10, 0, 0, 0, 0), (93, .iload 7, 0, 0, 0, 0), (95, .bipush 50, 0, 0, 0, 0), (97, .if_icmp .ne 33, 0, 0, 0, 0), (100, .aload_n 0, 0, 0, 0, 0), (101, .aload_n 1, 0, 0, 0, 0), (102, .invokevirtual 63, 11, 9, 0, 0), (105, .ifCond .ne 5, 0, 0, 0, 0), (108, .iconst 0, 0, 0, 0, 0), (109, .ireturn, 0, 0, 0, 0), (110, .aload_n 0, 0, 0, 0, 0), (111, .iload_n 2, 0, 0, 0, 0), (112, .iload 5, 0, 0, 0, 0), (114, .aload_n 0, 0, 0, 0, 0), (115, .aload_n 1, 0, 0, 0, 0), (116, .iload 7, 0, 0, 0, 0), (118, .invokevirtual 67, 12, 10, 0, 0), (121, .invokevirtual 71, 13, 11, 0, 0), (124, .iinc 5 1, 0, 0, 0, 0), (127, .goto 15, 0, 0, 0, 0), (130, .aload_n 0, 0, 0, 0, 0), (131, .aload_n 1, 0, 0, 0, 0), (132, .iload 7, 0, 0, 0, 0), (134, .invokevirtual 41, 5, 8, 0, 0), (137, .ifCond .ne 5, 0, 0, 0, 0), (140, .iconst 0, 0, 0, 0, 0), (141, .ireturn, 0, 0, 0, 0), (142, .iinc 6 1, 0, 0, 0, 0), (145, .goto (-78), 0, 0, 0, 0), (148, .iconst 1, 0, 0, 0, 0), (149, .ireturn, 0, 0, 0, 0)]
def e_X1_patternOf : List Ent := [(0, .iload_n 0, 0, 0, 0, 0), (1, .tableswitch 130 98 119 #[106, 130, 130, 124, 130, 130, 121, 130, 130, 130, 130, 118, 130, 109, 115, 130, 130, 103, 127, 130, 130, 112], 0, 0, 0, 0), (104, .ldc 75, 1, 1, 1, 0), (106, .areturn, 0, 0, 0, 0), (107, .ldc 77, 2, 1, 2, 0), (109, .areturn, 0, 0, 0, 0), (110, .ldc 79, 3, 1, 3, 0), (112, .areturn, 0, 0, 0, 0), (113, .ldc 81, 4, 1, 4, 0), (115, .areturn, 0, 0, 0, 0), (116, .ldc 83, 5, 1, 5, 0), (118, .areturn, 0, 0, 0, 0), (119, .ldc 75, 1, 1, 1, 0), (121, .areturn, 0, 0, 0, 0), (122, .ldc 85, 6, 1, 6, 0), (124, .areturn, 0, 0, 0, 0), (125, .ldc 87, 7, 1, 7, 0), (127, .areturn, 0, 0, 0, 0), (128, .ldc 89, 8, 1, 8, 0), (130, .areturn, 0, 0, 0, 0), (131, .ldc 91, 9, 1, 9, 0), (133, .areturn, 0, 0, 0, 0)]
def e_X1_isSignRead : List Ent := [(0, .aload_n 0, 0, 0, 0, 0), (1, .getfield 28, 4, 2, 5, 0), (4, .aload_n 1, 0, 0, 0, 0), (5, .invokevirtual 35, 4, 193, 0, 0), (8, .if_icmp .ge 15, 0, 0, 0, 0), (11, .aload_n 1, 0, 0, 0, 0), (12, .aload_n 0, 0, 0, 0, 0), (13, .getfield 28, 4, 2, 5, 0), (16, .invokevirtual 47, 6, 191, 0, 0), (19, .iload_n 2, 0, 0, 0, 0), (20, .if_icmp .eq 5, 0, 0, 0, 0), (23, .iconst 0, 0, 0, 0, 0), (24, .ireturn, 0, 0, 0, 0), (25, .aload_n 0, 0, 0, 0, 0), (26, .dup, 0, 0, 0, 0), (27, .getfield 28, 4, 2, 5, 0), (30, .iconst 1, 0, 0, 0, 0), (31, .iadd, 0, 0, 0, 0), (32, .putfield 28, 4, 2, 5, 0), (35, .iconst 1, 0, 0, 0, 0), (36, .ireturn, 0, 0, 0, 0)]
def e_X1_hasDigit : List Ent := [(0, .aload_n 0, 0, 0, 0, 0), (1, .getfield 28, 4, 2, 5, 0), (4, .aload_n 1, 0, 0, 0, 0), (5, .invokevirtual 35, 4, 193, 0, 0), (8, .if_icmp .ge 33, 0, 0, 0, 0), (11, .aload_n 1, 0, 0, 0, 0), (12, .aload_n 0, 0, 0, 0, 0), (13, .getfield 28, 4, 2, 5, 0), (16, .invokevirtual 47, 6, 191, 0, 0), (19, .bipush 48, 0, 0, 0, 0), (21, .if_icmp .lt 20, 0, 0, 0, 0), (24, .aload_n 1, 0, 0, 0, 0), (25, .aload_n 0, 0, 0, 0, 0), (26, .getfield 28, 4, 2, 5, 0), (29, .invokevirtual 47, 6, 191, 0, 0), (32, .bipush 57, 0, 0, 0, 0), (34, .if_icmp .gt 7, 0, 0, 0, 0), (37, .iconst 1, 0, 0, 0, 0), (38, .goto 4, 0, 0, 0, 0), (41, .iconst 0, 0, 0, 0, 0), (42, .ireturn, 0, 0, 0, 0)]
def e_X1_readNumber : List Ent := [(0, .iconst 0, 0, 0, 0, 0), (1, .istore_n 3, 0, 0, 0, 0), (2, .iload_n 2, 0, 0, 0, 0), (3, .bipush 49, 0, 0, 0, 0), (5, .if_icmp .ne 7, 0, 0, 0, 0), (8, .iconst 1, 0, 0, 0, 0), (9, .goto 4, 0, 0, 0, 0), (12, .iconst 2, 0, 0, 0, 0), (13, .istore 4, 0, 0, 0, 0), (15, .iconst 0, 0, 0, 0, 0), (16, .istore 5, 0, 0, 0, 0), (18, .iload 5, 0, 0, 0, 0), (20, .iload 4, 0, 0, 0, 0), (22, .if_icmp .ge 44, 0, 0, 0, 0), (25, .aload_n 0, 0, 0, 0, 0), (26, .aload_n 1, 0, 0, 0, 0), (27, .invokevirtual 63, 11, 9, 0, 0), (30, .ifCond .eq 36, 0, 0, 0, 0), (33, .iload_n 3, 0, 0, 0, 0), (34, .bipush 10, 0, 0, 0, 0), (36, .imul, 0, 0, 0, 0), (37, .aload_n 1, 0, 0, 0, 0), (38, .aload_n 0, 0, 0, 0, 0), (39, .getfield 28, 4, 2, 5, 0), (42, .invokevirtual 47, 6, 191, 0, 0), (45, .bipush 48, 0, 0, 0, 0), (47, .isub, 0, 0, 0, 0), (48, .iadd, 0, 0, 0, 0), (49, .istore_n 3, 0, 0, 0, 0), (50, .aload_n 0, 0, 0, 0, 0), (51, .dup, 0, 0, 0, 0), (52, .getfield 28, 4, 2, 5, 0), (55, .iconst 1, 0, 0, 0, 0), (56, .iadd, 0, 0, 0, 0), (57, .putfield 28, 4, 2, 5, 0), (60, .iinc 5 1, 0, 0, 0, 0), (63, .goto (-45), 0, 0, 0, 0), (66, .iload_n 3, 0, 0, 0, 0), (67, .ireturn, 0, 0, 0, 0)]
def e_X1_keepNumber : List Ent := [(0, .iload_n 2, 0, 0, 0, 0), (1, .ifCond .ne 13, 0, 0, 0, 0), (4, .aload_n 0, 0, 0, 0, 0), (5, .getfield 15, 6, 2, 1, 2), (8, .iload_n 1, 0, 0, 0, 0), (9, .iload_n 3, 0, 0, 0, 0), (10, .iastore, 0, 0, 0, 0), (11, .goto 25, 0, 0, 0, 0), (14, .iload_n 2, 0, 0, 0, 0), (15, .iconst 1, 0, 0, 0, 0), (16, .if_icmp .ne 13, 0, 0, 0, 0), (19, .aload_n 0, 0, 0, 0, 0), (20, .getfield 18, 7, 2, 2, 2), (23, .iload_n 1, 0, 0, 0, 0), (24, .iload_n 3, 0, 0, 0, 0), (25, .iastore, 0, 0, 0, 0), (26, .goto 10, 0, 0, 0, 0), (29, .aload_n 0, 0, 0, 0, 0), (30, .getfield 21, 8, 2, 3, 2), (33, .iload_n 1, 0, 0, 0, 0), (34, .iload_n 3, 0, 0, 0, 0), (35, .iastore, 0, 0, 0, 0), (36, .return_, 0, 0, 0, 0)]
def e_X2_clear : List Ent := [(0, .aload_n 0, 0, 0, 0, 0), (1, .iconst 0, 0, 0, 0, 0), (2, .putfield 18, 9, 3, 2, 0), (5, .return_, 0, 0, 0, 0)]
def e_X2_putBehind : List Ent := [(0, .aload_n 0, 0, 0, 0, 0), (1, .getfield 18, 9, 3, 2, 0), (4, .iconst 3, 0, 0, 0, 0), (5, .if_icmp .ge 33, 0, 0, 0, 0), (8, .aload_n 0, 0, 0, 0, 0), (9, .getfield 9, 10, 3, 0, 2), (12, .aload_n 0, 0, 0, 0, 0), (13, .getfield 18, 9, 3, 2, 0), (16, .iload_n 1, 0, 0, 0, 0), (17, .iastore, 0, 0, 0, 0), (18, .aload_n 0, 0, 0, 0, 0), (19, .getfield 15, 11, 3, 1, 2), (22, .aload_n 0, 0, 0, 0, 0), (23, .getfield 18, 9, 3, 2, 0), (26, .iload_n 2, 0, 0, 0, 0), (27, .iastore, 0, 0, 0, 0), (28, .aload_n 0, 0, 0, 0, 0), (29, .dup, 0, 0, 0, 0), (30, .getfield 18, 9, 3, 2, 0), (33, .iconst 1, 0, 0, 0, 0), (34, .iadd, 0, 0, 0, 0), (35, .putfield 18, 9, 3, 2, 0), (38, .return_, 0, 0, 0, 0)]
def e_X2_putAhead : List Ent := [(0, .aload_n 0, 0, 0, 0, 0), (1, .aload_n 0, 0, 0, 0, 0), (2, .getfield 18, 9, 3, 2, 0), (5, .iconst 1, 0, 0, 0, 0), (6, .iadd, 0, 0, 0, 0), (7, .iconst 3, 0, 0, 0, 0), (8, .invokestatic 22, 14, 202, 1, 0), (11, .putfield 18, 9, 3, 2, 0), (14, .aload_n 0, 0, 0, 0, 0), (15, .getfield 18, 9, 3, 2, 0), (18, .iconst 1, 0, 0, 0, 0), (19, .isub, 0, 0, 0, 0), (20, .istore_n 3, 0, 0, 0, 0), (21, .iload_n 3, 0, 0, 0, 0), (22, .ifCond .le 37, 0, 0, 0, 0), (25, .aload_n 0, 0, 0, 0, 0), (26, .getfield 9, 10, 3, 0, 2), (29, .iload_n 3, 0, 0, 0, 0), (30, .aload_n 0, 0, 0, 0, 0), (31, .getfield 9, 10, 3, 0, 2), (34, .iload_n 3, 0, 0, 0, 0), (35, .iconst 1, 0, 0, 0, 0), (36, .isub, 0, 0, 0, 0), (37, .iaload, 0, 0, 0, 0), (38, .iastore, 0, 0, 0, 0), (39, .aload_n 0, 0, 0, 0, 0), (40, .getfield 15, 11, 3, 1, 2), (43, .iload_n 3, 0, 0, 0, 0), (44, .aload_n 0, 0, 0, 0, 0), (45, .getfield 15, 11, 3, 1, 2), (48, .iload_n 3, 0, 0, 0, 0), (49, .iconst 1, 0, 0, 0, 0), (50, .isub, 0, 0, 0, 0), (51, .iaload, 0, 0, 0, 0), (52, .iastore, 0, 0, 0, 0), (53, .iinc 3 (-1), 0, 0, 0, 0), (56, .goto (-35), 0, 0, 0, 0), (59, .aload_n 0, 0, 0, 0, 0), (60, .getfield 9, 10, 3, 0, 2), (63, .iconst 0, 0, 0, 0, 0), (64, .iload_n 1, 0, 0, 0, 0), (65, .iastore, 0, 0, 0, 0), (66, .aload_n 0, 0, 0, 0, 0), (67, .getfield 15, 11, 3, 1, 2), (70, .iconst 0, 0, 0, 0, 0), (71, .iload_n 2, 0, 0, 0, 0), (72, .iastore, 0, 0, 0, 0), (73, .return_, 0, 0, 0, 0)]
def e_X3_divide : List Ent := [(0, .aload_n 1, 0, 0, 0, 0), (1, .invokevirtual 21, 15, 22, 0, 0), (4, .istore_n 2, 0, 0, 0, 0), (5, .iload_n 2, 0, 0, 0, 0), (6, .ifCond .ne 7, 0, 0, 0, 0), (9, .iconst 0, 0, 0, 0, 0), (10, .goto 7, 0, 0, 0, 0), (13, .aload_n 1, 0, 0, 0, 0), (14, .getfield 27, 12, 5, 5, 0), (17, .istore_n 3, 0, 0, 0, 0), (18, .iconst 0, 0, 0, 0, 0), (19, .istore 4, 0, 0, 0, 0), (21, .iload 4, 0, 0, 0, 0), (23, .bipush 6, 0, 0, 0, 0), (25, .if_icmp .ge 70, 0, 0, 0, 0), (28, .aload_n 1, 0, 0, 0, 0), (29, .getfield 27, 12, 5, 5, 0), (32, .aload_n 1, 0, 0, 0, 0), (33, .iload 4, 0, 0, 0, 0), (35, .invokevirtual 31, 16, 21, 0, 0), (38, .imul, 0, 0, 0, 0), (39, .istore 5, 0, 0, 0, 0), (41, .aload_n 0, 0, 0, 0, 0), (42, .getfield 9, 13, 4, 0, 2), (45, .iload 4, 0, 0, 0, 0), (47, .iload_n 2, 0, 0, 0, 0), (48, .ifCond .ne 7, 0, 0, 0, 0), (51, .iconst 0, 0, 0, 0, 0), (52, .goto 7, 0, 0, 0, 0), (55, .iload 5, 0, 0, 0, 0), (57, .iload_n 2, 0, 0, 0, 0), (58, .idiv, 0, 0, 0, 0), (59, .iastore, 0, 0, 0, 0), (60, .aload_n 0, 0, 0, 0, 0), (61, .getfield 18, 14, 4, 2, 2), (64, .iload 4, 0, 0, 0, 0), (66, .iload_n 2, 0, 0, 0, 0), (67, .ifCond .ne 7, 0, 0, 0, 0), (70, .iconst 0, 0, 0, 0, 0), (71, .goto 7, 0, 0, 0, 0), (74, .iload 5, 0, 0, 0, 0), (76, .iload_n 2, 0, 0, 0, 0), (77, .irem, 0, 0, 0, 0), (78, .iastore, 0, 0, 0, 0), (79, .iload_n 3, 0, 0, 0, 0), (80, .aload_n 0, 0, 0, 0, 0), (81, .getfield 9, 13, 4, 0, 2), (84, .iload 4, 0, 0, 0, 0), (86, .iaload, 0, 0, 0, 0), (87, .isub, 0, 0, 0, 0), (88, .istore_n 3, 0, 0, 0, 0), (89, .iinc 4 1, 0, 0, 0, 0), (92, .goto (-71), 0, 0, 0, 0), (95, .iconst 0, 0, 0, 0, 0), (96, .istore 4, 0, 0, 0, 0), (98, .iload 4, 0, 0, 0, 0), (100, .bipush 6, 0, 0, 0, 0), (102, .if_icmp .ge 19, 0, 0, 0, 0), (105, .iload 4, 0, 0, 0, 0), (107, .iload_n 3, 0, 0, 0, 0), (108, .if_icmp .ge 13, 0, 0, 0, 0), (111, .aload_n 0, 0, 0, 0, 0), (112, .invokevirtual 35, 17, 16, 0, 0), (115, .iinc 4 1, 0, 0, 0, 0), (118, .goto (-20), 0, 0, 0, 0), (121, .return_, 0, 0, 0, 0)]
def e_X3_giveOneByRest : List Ent := [(0, .aload_n 0, 0, 0, 0, 0), (1, .getfield 18, 14, 4, 2, 2), (4, .invokestatic 38, 18, 18, 1, 0), (7, .istore_n 1, 0, 0, 0, 0), (8, .aload_n 0, 0, 0, 0, 0), (9, .getfield 18, 14, 4, 2, 2), (12, .iload_n 1, 0, 0, 0, 0), (13, .iaload, 0, 0, 0, 0), (14, .ifCond .le 20, 0, 0, 0, 0), (17, .aload_n 0, 0, 0, 0, 0), (18, .getfield 9, 13, 4, 0, 2), (21, .iload_n 1, 0, 0, 0, 0), (22, .dup2, 0, 0, 0, 0), (23, .iaload, 0, 0, 0, 0), (24, .iconst 1, 0, 0, 0, 0), (25, .iadd, 0, 0, 0, 0), (26, .iastore, 0, 0, 0, 0), (27, .aload_n 0, 0, 0, 0, 0), (28, .getfield 18, 14, 4, 2, 2), (31, .iload_n 1, 0, 0, 0, 0), (32, .iconst 0, 0, 0, 0, 0), (33, .iastore, 0, 0, 0, 0), (34, .return_, 0, 0, 0, 0)]
def e_X3_deal : List Ent := [(0, .aload_n 1, 0, 0, 0, 0), (1, .invokevirtual 21, 15, 22, 0, 0), (4, .istore_n 2, 0, 0, 0, 0), (5, .iconst 0, 0, 0, 0, 0), (6, .istore_n 3, 0, 0, 0, 0), (7, .iload_n 3, 0, 0, 0, 0), (8, .bipush 6, 0, 0, 0, 0), (10, .if_icmp .ge 32, 0, 0, 0, 0), (13, .aload_n 0, 0, 0, 0, 0), (14, .getfield 15, 15, 4, 1, 2), (17, .iload_n 3, 0, 0, 0, 0), (18, .iconst 0, 0, 0, 0, 0), (19, .iastore, 0, 0, 0, 0), (20, .aload_n 0, 0, 0, 0, 0), (21, .getfield 18, 14, 4, 2, 2), (24, .iload_n 3, 0, 0, 0, 0), (25, .aload_n 1, 0, 0, 0, 0), (26, .getfield 27, 12, 5, 5, 0), (29, .aload_n 1, 0, 0, 0, 0), (30, .iload_n 3, 0, 0, 0, 0), (31, .invokevirtual 31, 16, 21, 0, 0), (34, .imul, 0, 0, 0, 0), (35, .iastore, 0, 0, 0, 0), (36, .iinc 3 1, 0, 0, 0, 0), (39, .goto (-32), 0, 0, 0, 0), (42, .iload_n 2, 0, 0, 0, 0), (43, .ifCond .ne 7, 0, 0, 0, 0), (46, .iconst 0, 0, 0, 0, 0), (47, .goto 7, 0, 0, 0, 0), (50, .aload_n 1, 0, 0, 0, 0), (51, .getfield 27, 12, 5, 5, 0), (54, .istore_n 3, 0, 0, 0, 0), (55, .iconst 0, 0, 0, 0, 0), (56, .istore 4, 0, 0, 0, 0), (58, .iload 4, 0, 0, 0, 0), (60, .iload_n 3, 0, 0, 0, 0), (61, .if_icmp .ge 40, 0, 0, 0, 0), (64, .aload_n 0, 0, 0, 0, 0), (65, .getfield 18, 14, 4, 2, 2), (68, .invokestatic 38, 18, 18, 1, 0), (71, .istore 5, 0, 0, 0, 0), (73, .aload_n 0, 0, 0, 0, 0), (74, .getfield 15, 15, 4, 1, 2), (77, .iload 5, 0, 0, 0, 0), (79, .dup2, 0, 0, 0, 0), (80, .iaload, 0, 0, 0, 0), (81, .iconst 1, 0, 0, 0, 0), (82, .iadd, 0, 0, 0, 0), (83, .iastore, 0, 0, 0, 0), (84, .aload_n 0, 0, 0, 0, 0), (85, .getfield 18, 14, 4, 2, 2), (88, .iload 5, 0, 0, 0, 0), (90, .dup2, 0, 0, 0, 0), (91, .iaload, 0, 0, 0, 0), (92, .iload_n 2, 0, 0, 0, 0), (93, .isub, 0, 0, 0, 0), (94, .iastore, 0, 0, 0, 0), (95, .iinc 4 1, 0, 0, 0, 0), (98, .goto (-40), 0, 0, 0, 0), (101, .return_, 0, 0, 0, 0)]
def e_X3_greatest : List Ent := [(0, .iconst 0, 0, 0, 0, 0), (1, .istore_n 1, 0, 0, 0, 0), (2, .iconst 1, 0, 0, 0, 0), (3, .istore_n 2, 0, 0, 0, 0), (4, .iload_n 2, 0, 0, 0, 0), (5, .bipush 6, 0, 0, 0, 0), (7, .if_icmp .ge 20, 0, 0, 0, 0), (10, .aload_n 0, 0, 0, 0, 0), (11, .iload_n 2, 0, 0, 0, 0), (12, .iaload, 0, 0, 0, 0), (13, .aload_n 0, 0, 0, 0, 0), (14, .iload_n 1, 0, 0, 0, 0), (15, .iaload, 0, 0, 0, 0), (16, .if_icmp .le 5, 0, 0, 0, 0), (19, .iload_n 2, 0, 0, 0, 0), (20, .istore_n 1, 0, 0, 0, 0), (21, .iinc 2 1, 0, 0, 0, 0), (24, .goto (-20), 0, 0, 0, 0), (27, .iload_n 1, 0, 0, 0, 0), (28, .ireturn, 0, 0, 0, 0)]
def e_X4_copyFrom : List Ent := [(0, .aload_n 0, 0, 0, 0, 0), (1, .getfield 12, 16, 5, 0, 2), (4, .aload_n 1, 0, 0, 0, 0), (5, .getfield 12, 16, 5, 0, 2), (8, .invokevirtual 32, 19, 33, 0, 0), (11, .iconst 0, 0, 0, 0, 0), (12, .istore_n 2, 0, 0, 0, 0), (13, .iload_n 2, 0, 0, 0, 0), (14, .bipush 6, 0, 0, 0, 0), (16, .if_icmp .ge 57, 0, 0, 0, 0), (19, .aload_n 0, 0, 0, 0, 0), (20, .getfield 18, 17, 5, 1, 2), (23, .iload_n 2, 0, 0, 0, 0), (24, .aload_n 1, 0, 0, 0, 0), (25, .getfield 18, 17, 5, 1, 2), (28, .iload_n 2, 0, 0, 0, 0), (29, .baload, 0, 0, 0, 0), (30, .bastore, 0, 0, 0, 0), (31, .aload_n 0, 0, 0, 0, 0), (32, .getfield 22, 18, 5, 2, 2), (35, .iload_n 2, 0, 0, 0, 0), (36, .aload_n 1, 0, 0, 0, 0), (37, .getfield 22, 18, 5, 2, 2), (40, .iload_n 2, 0, 0, 0, 0), (41, .iaload, 0, 0, 0, 0), (42, .iastore, 0, 0, 0, 0), (43, .aload_n 0, 0, 0, 0, 0), (44, .getfield 26, 19, 5, 3, 2), (47, .iload_n 2, 0, 0, 0, 0), (48, .aload_n 1, 0, 0, 0, 0), (49, .getfield 26, 19, 5, 3, 2), (52, .iload_n 2, 0, 0, 0, 0), (53, .iaload, 0, 0, 0, 0), (54, .iastore, 0, 0, 0, 0), (55, .aload_n 0, 0, 0, 0, 0), (56, .getfield 29, 20, 5, 4, 2), (59, .iload_n 2, 0, 0, 0, 0), (60, .aload_n 1, 0, 0, 0, 0), (61, .getfield 29, 20, 5, 4, 2), (64, .iload_n 2, 0, 0, 0, 0), (65, .iaload, 0, 0, 0, 0), (66, .iastore, 0, 0, 0, 0), (67, .iinc 2 1, 0, 0, 0, 0), (70, .goto (-57), 0, 0, 0, 0), (73, .aload_n 0, 0, 0, 0, 0), (74, .aload_n 1, 0, 0, 0, 0), (75, .getfield 36, 21, 5, 5, 0), (78, .putfield 36, 21, 5, 5, 0), (81, .aload_n 0, 0, 0, 0, 0), (82, .aload_n 1, 0, 0, 0, 0), (83, .getfield 40, 22, 5, 6, 0), (86, .putfield 40, 22, 5, 6, 0), (89, .aload_n 0, 0, 0, 0, 0), (90, .aload_n 1, 0, 0, 0, 0), (91, .getfield 43, 23, 5, 7, 0), (94, .putfield 43, 23, 5, 7, 0), (97, .aload_n 0, 0, 0, 0, 0), (98, .aload_n 1, 0, 0, 0, 0), (99, .getfield 46, 24, 5, 8, 0), (102, .putfield 46, 24, 5, 8, 0), (105, .aload_n 0, 0, 0, 0, 0), (106, .aload_n 1, 0, 0, 0, 0), (107, .getfield 49, 25, 5, 9, 0), (110, .putfield 49, 25, 5, 9, 0), (113, .aload_n 0, 0, 0, 0, 0), (114, .aload_n 1, 0, 0, 0, 0), (115, .getfield 52, 26, 5, 10, 0), (118, .putfield 52, 26, 5, 10, 0), (121, .return_, 0, 0, 0, 0)]
def e_X4_burnDown : List Ent := [(0, .iload_n 2, 0, 0, 0, 0), (1, .aload_n 0, 0, 0, 0, 0), (2, .getfield 12, 16, 5, 0, 2), (5, .getfield 55, 27, 6, 2, 2), (8, .iload_n 1, 0, 0, 0, 0), (9, .iaload, 0, 0, 0, 0), (10, .imul, 0, 0, 0, 0), (11, .istore_n 3, 0, 0, 0, 0), (12, .aload_n 0, 0, 0, 0, 0), (13, .getfield 12, 16, 5, 0, 2), (16, .iload_n 1, 0, 0, 0, 0), (17, .iload_n 3, 0, 0, 0, 0), (18, .invokevirtual 58, 20, 40, 0, 0), (21, .istore 4, 0, 0, 0, 0), (23, .aload_n 0, 0, 0, 0, 0), (24, .getfield 12, 16, 5, 0, 2), (27, .getfield 62, 28, 6, 7, 2), (30, .iload_n 1, 0, 0, 0, 0), (31, .dup2, 0, 0, 0, 0), (32, .iaload, 0, 0, 0, 0), (33, .iload_n 3, 0, 0, 0, 0), (34, .iadd, 0, 0, 0, 0), (35, .iastore, 0, 0, 0, 0), (36, .aload_n 0, 0, 0, 0, 0), (37, .dup, 0, 0, 0, 0), (38, .getfield 46, 24, 5, 8, 0), (41, .iload_n 3, 0, 0, 0, 0), (42, .iadd, 0, 0, 0, 0), (43, .putfield 46, 24, 5, 8, 0), (46, .aload_n 0, 0, 0, 0, 0), (47, .dup, 0, 0, 0, 0), (48, .getfield 49, 25, 5, 9, 0), (51, .iload 4, 0, 0, 0, 0), (53, .iadd, 0, 0, 0, 0), (54, .putfield 49, 25, 5, 9, 0), (57, .aload_n 0, 0, 0, 0, 0), (58, .dup, 0, 0, 0, 0), (59, .getfield 43, 23, 5, 7, 0), (62, .iload_n 2, 0, 0, 0, 0), (63, .iadd, 0, 0, 0, 0), (64, .putfield 43, 23, 5, 7, 0), (67, .aload_n 0, 0, 0, 0, 0), (68, .getfield 12, 16, 5, 0, 2), (71, .iload_n 1, 0, 0, 0, 0), (72, .iload_n 2, 0, 0, 0, 0), (73, .invokevirtual 65, 21, 37, 0, 0), (76, .iload 4, 0, 0, 0, 0), (78, .ireturn, 0, 0, 0, 0)]
def e_X4_claimOf : List Ent := [(0, .aload_n 0, 0, 0, 0, 0), (1, .getfield 18, 17, 5, 1, 2), (4, .iload_n 1, 0, 0, 0, 0), (5, .baload, 0, 0, 0, 0), (6, .ifCond .eq 21, 0, 0, 0, 0), (9, .aload_n 0, 0, 0, 0, 0), (10, .getfield 29, 20, 5, 4, 2), (13, .iload_n 1, 0, 0, 0, 0), (14, .iaload, 0, 0, 0, 0), (15, .aload_n 0, 0, 0, 0, 0), (16, .getfield 12, 16, 5, 0, 2), (19, .iload_n 1, 0, 0, 0, 0), (20, .invokevirtual 69, 22, 47, 0, 0), (23, .iadd, 0, 0, 0, 0), (24, .goto 4, 0, 0, 0, 0), (27, .iconst 0, 0, 0, 0, 0), (28, .ireturn, 0, 0, 0, 0)]
def e_X4_allClaims : List Ent := [(0, .iconst 0, 0, 0, 0, 0), (1, .istore_n 1, 0, 0, 0, 0), (2, .iconst 0, 0, 0, 0, 0), (3, .istore_n 2, 0, 0, 0, 0), (4, .iload_n 2, 0, 0, 0, 0), (5, .bipush 6, 0, 0, 0, 0), (7, .if_icmp .ge 17, 0, 0, 0, 0), (10, .iload_n 1, 0, 0, 0, 0), (11, .aload_n 0, 0, 0, 0, 0), (12, .iload_n 2, 0, 0, 0, 0), (13, .invokevirtual 73, 23, 21, 0, 0), (16, .iadd, 0, 0, 0, 0), (17, .istore_n 1, 0, 0, 0, 0), (18, .iinc 2 1, 0, 0, 0, 0), (21, .goto (-17), 0, 0, 0, 0), (24, .iload_n 1, 0, 0, 0, 0), (25, .ireturn, 0, 0, 0, 0)]
def e_X4_allStores : List Ent := [(0, .iconst 0, 0, 0, 0, 0), (1, .istore_n 1, 0, 0, 0, 0), (2, .iconst 0, 0, 0, 0, 0), (3, .istore_n 2, 0, 0, 0, 0), (4, .iload_n 2, 0, 0, 0, 0), (5, .bipush 6, 0, 0, 0, 0), (7, .if_icmp .ge 18, 0, 0, 0, 0), (10, .iload_n 1, 0, 0, 0, 0), (11, .aload_n 0, 0, 0, 0, 0), (12, .getfield 26, 19, 5, 3, 2), (15, .iload_n 2, 0, 0, 0, 0), (16, .iaload, 0, 0, 0, 0), (17, .iadd, 0, 0, 0, 0), (18, .istore_n 1, 0, 0, 0, 0), (19, .iinc 2 1, 0, 0, 0, 0), (22, .goto (-18), 0, 0, 0, 0), (25, .iload_n 1, 0, 0, 0, 0), (26, .ireturn, 0, 0, 0, 0)]
def e_X4_allPooled : List Ent := [(0, .iconst 0, 0, 0, 0, 0), (1, .istore_n 1, 0, 0, 0, 0), (2, .iconst 0, 0, 0, 0, 0), (3, .istore_n 2, 0, 0, 0, 0), (4, .iload_n 2, 0, 0, 0, 0), (5, .bipush 6, 0, 0, 0, 0), (7, .if_icmp .ge 18, 0, 0, 0, 0), (10, .iload_n 1, 0, 0, 0, 0), (11, .aload_n 0, 0, 0, 0, 0), (12, .getfield 29, 20, 5, 4, 2), (15, .iload_n 2, 0, 0, 0, 0), (16, .iaload, 0, 0, 0, 0), (17, .iadd, 0, 0, 0, 0), (18, .istore_n 1, 0, 0, 0, 0), (19, .iinc 2 1, 0, 0, 0, 0), (22, .goto (-18), 0, 0, 0, 0), (25, .iload_n 1, 0, 0, 0, 0), (26, .ireturn, 0, 0, 0, 0)]
def e_X4_openHouses : List Ent := [(0, .iconst 0, 0, 0, 0, 0), (1, .istore_n 1, 0, 0, 0, 0), (2, .iconst 0, 0, 0, 0, 0), (3, .istore_n 2, 0, 0, 0, 0), (4, .iload_n 2, 0, 0, 0, 0), (5, .bipush 6, 0, 0, 0, 0), (7, .if_icmp .ge 26, 0, 0, 0, 0), (10, .iload_n 1, 0, 0, 0, 0), (11, .aload_n 0, 0, 0, 0, 0), (12, .getfield 18, 17, 5, 1, 2), (15, .iload_n 2, 0, 0, 0, 0), (16, .baload, 0, 0, 0, 0), (17, .ifCond .eq 7, 0, 0, 0, 0), (20, .iconst 1, 0, 0, 0, 0), (21, .goto 4, 0, 0, 0, 0), (24, .iconst 0, 0, 0, 0, 0), (25, .iadd, 0, 0, 0, 0), (26, .istore_n 1, 0, 0, 0, 0), (27, .iinc 2 1, 0, 0, 0, 0), (30, .goto (-26), 0, 0, 0, 0), (33, .iload_n 1, 0, 0, 0, 0), (34, .ireturn, 0, 0, 0, 0)]
def e_X4_successorOf : List Ent := [(0, .aload_n 0, 0, 0, 0, 0), (1, .getfield 18, 17, 5, 1, 2), (4, .iload_n 1, 0, 0, 0, 0), (5, .baload, 0, 0, 0, 0), (6, .ifCond .ne 5, 0, 0, 0, 0), (9, .iconst (-1), 0, 0, 0, 0), (10, .ireturn, 0, 0, 0, 0), (11, .aload_n 0, 0, 0, 0, 0), (12, .getfield 22, 18, 5, 2, 2), (15, .iload_n 1, 0, 0, 0, 0), (16, .iaload, 0, 0, 0, 0), (17, .istore_n 2, 0, 0, 0, 0), (18, .iconst 0, 0, 0, 0, 0), (19, .istore_n 3, 0, 0, 0, 0), (20, .iload_n 3, 0, 0, 0, 0), (21, .bipush 6, 0, 0, 0, 0), (23, .if_icmp .ge 32, 0, 0, 0, 0), (26, .iload_n 2, 0, 0, 0, 0), (27, .iload_n 1, 0, 0, 0, 0), (28, .if_icmp .eq 14, 0, 0, 0, 0), (31, .aload_n 0, 0, 0, 0, 0), (32, .getfield 18, 17, 5, 1, 2), (35, .iload_n 2, 0, 0, 0, 0), (36, .baload, 0, 0, 0, 0), (37, .ifCond .eq 5, 0, 0, 0, 0), (40, .iload_n 2, 0, 0, 0, 0), (41, .ireturn, 0, 0, 0, 0), (42, .aload_n 0, 0, 0, 0, 0), (43, .getfield 22, 18, 5, 2, 2), (46, .iload_n 2, 0, 0, 0, 0), (47, .iaload, 0, 0, 0, 0), (48, .istore_n 2, 0, 0, 0, 0), (49, .iinc 3 1, 0, 0, 0, 0), (52, .goto (-32), 0, 0, 0, 0), (55, .iconst 0, 0, 0, 0, 0), (56, .istore_n 3, 0, 0, 0, 0), (57, .iload_n 3, 0, 0, 0, 0), (58, .bipush 6, 0, 0, 0, 0), (60, .if_icmp .ge 25, 0, 0, 0, 0), (63, .iload_n 3, 0, 0, 0, 0), (64, .iload_n 1, 0, 0, 0, 0), (65, .if_icmp .eq 14, 0, 0, 0, 0), (68, .aload_n 0, 0, 0, 0, 0), (69, .getfield 18, 17, 5, 1, 2), (72, .iload_n 3, 0, 0, 0, 0), (73, .baload, 0, 0, 0, 0), (74, .ifCond .eq 5, 0, 0, 0, 0), (77, .iload_n 3, 0, 0, 0, 0), (78, .ireturn, 0, 0, 0, 0), (79, .iinc 3 1, 0, 0, 0, 0), (82, .goto (-25), 0, 0, 0, 0), (85, .iconst (-1), 0, 0, 0, 0), (86, .ireturn, 0, 0, 0, 0)]
def e_X4_handOver : List Ent := [(0, .aload_n 0, 0, 0, 0, 0), (1, .getfield 18, 17, 5, 1, 2), (4, .iload_n 1, 0, 0, 0, 0), (5, .iconst 0, 0, 0, 0, 0), (6, .bastore, 0, 0, 0, 0), (7, .aload_n 0, 0, 0, 0, 0), (8, .getfield 26, 19, 5, 3, 2), (11, .iload_n 2, 0, 0, 0, 0), (12, .dup2, 0, 0, 0, 0), (13, .iaload, 0, 0, 0, 0), (14, .aload_n 0, 0, 0, 0, 0), (15, .getfield 26, 19, 5, 3, 2), (18, .iload_n 1, 0, 0, 0, 0), (19, .iaload, 0, 0, 0, 0), (20, .iadd, 0, 0, 0, 0), (21, .iastore, 0, 0, 0, 0), (22, .aload_n 0, 0, 0, 0, 0), (23, .getfield 26, 19, 5, 3, 2), (26, .iload_n 1, 0, 0, 0, 0), (27, .iconst 0, 0, 0, 0, 0), (28, .iastore, 0, 0, 0, 0), (29, .aload_n 0, 0, 0, 0, 0), (30, .getfield 29, 20, 5, 4, 2), (33, .iload_n 2, 0, 0, 0, 0), (34, .dup2, 0, 0, 0, 0), (35, .iaload, 0, 0, 0, 0), (36, .aload_n 0, 0, 0, 0, 0), (37, .getfield 29, 20, 5, 4, 2), (40, .iload_n 1, 0, 0, 0, 0), (41, .iaload, 0, 0, 0, 0), (42, .iadd, 0, 0, 0, 0), (43, .iastore, 0, 0, 0, 0), (44, .aload_n 0, 0, 0, 0, 0), (45, .getfield 29, 20, 5, 4, 2), (48, .iload_n 1, 0, 0, 0, 0), (49, .iconst 0, 0, 0, 0, 0), (50, .iastore, 0, 0, 0, 0), (51, .aload_n 0, 0, 0, 0, 0), (52, .iload_n 1, 0, 0, 0, 0), (53, .iload_n 2, 0, 0, 0, 0), (54, .invokevirtual 76, 24, 28, 0, 0), (57, .aload_n 0, 0, 0, 0, 0), (58, .iload_n 1, 0, 0, 0, 0), (59, .iload_n 2, 0, 0, 0, 0), (60, .invokevirtual 79, 25, 29, 0, 0), (63, .aload_n 0, 0, 0, 0, 0), (64, .invokevirtual 82, 26, 30, 0, 0), (67, .return_, 0, 0, 0, 0)]
def e_X4_handOverRights : List Ent := [(0, .iconst 0, 0, 0, 0, 0), (1, .istore_n 3, 0, 0, 0, 0), (2, .iload_n 3, 0, 0, 0, 0), (3, .aload_n 0, 0, 0, 0, 0), (4, .getfield 12, 16, 5, 0, 2), (7, .getfield 85, 29, 6, 8, 0), (10, .if_icmp .ge 53, 0, 0, 0, 0), (13, .aload_n 0, 0, 0, 0, 0), (14, .getfield 12, 16, 5, 0, 2), (17, .getfield 88, 30, 6, 3, 2), (20, .iload_n 3, 0, 0, 0, 0), (21, .iaload, 0, 0, 0, 0), (22, .iload_n 1, 0, 0, 0, 0), (23, .if_icmp .ne 13, 0, 0, 0, 0), (26, .aload_n 0, 0, 0, 0, 0), (27, .getfield 12, 16, 5, 0, 2), (30, .getfield 88, 30, 6, 3, 2), (33, .iload_n 3, 0, 0, 0, 0), (34, .iload_n 2, 0, 0, 0, 0), (35, .iastore, 0, 0, 0, 0), (36, .aload_n 0, 0, 0, 0, 0), (37, .getfield 12, 16, 5, 0, 2), (40, .getfield 91, 31, 6, 5, 2), (43, .iload_n 3, 0, 0, 0, 0), (44, .iaload, 0, 0, 0, 0), (45, .iload_n 1, 0, 0, 0, 0), (46, .if_icmp .ne 11, 0, 0, 0, 0), (49, .aload_n 0, 0, 0, 0, 0), (50, .getfield 12, 16, 5, 0, 2), (53, .iload_n 3, 0, 0, 0, 0), (54, .invokevirtual 94, 27, 39, 0, 0), (57, .iinc 3 1, 0, 0, 0, 0), (60, .goto (-58), 0, 0, 0, 0), (63, .return_, 0, 0, 0, 0)]
def e_X4_handOverStubs : List Ent := [(0, .aload_n 0, 0, 0, 0, 0), (1, .getfield 12, 16, 5, 0, 2), (4, .iload_n 2, 0, 0, 0, 0), (5, .invokevirtual 98, 28, 43, 0, 0), (8, .istore_n 3, 0, 0, 0, 0), (9, .iconst 0, 0, 0, 0, 0), (10, .istore 4, 0, 0, 0, 0), (12, .aload_n 0, 0, 0, 0, 0), (13, .getfield 12, 16, 5, 0, 2), (16, .getfield 85, 29, 6, 8, 0), (19, .istore 5, 0, 0, 0, 0), (21, .iload 5, 0, 0, 0, 0), (23, .ifCond .le 102, 0, 0, 0, 0), (26, .aload_n 0, 0, 0, 0, 0), (27, .getfield 12, 16, 5, 0, 2), (30, .getfield 101, 32, 6, 1, 2), (33, .iload 4, 0, 0, 0, 0), (35, .iaload, 0, 0, 0, 0), (36, .iconst 1, 0, 0, 0, 0), (37, .iadd, 0, 0, 0, 0), (38, .istore 6, 0, 0, 0, 0), (40, .aload_n 0, 0, 0, 0, 0), (41, .getfield 12, 16, 5, 0, 2), (44, .getfield 104, 33, 6, 0, 2), (47, .iload 4, 0, 0, 0, 0), (49, .iaload, 0, 0, 0, 0), (50, .iload_n 1, 0, 0, 0, 0), (51, .if_icmp .eq 9, 0, 0, 0, 0), (54, .iinc 4 1, 0, 0, 0, 0), (57, .goto 62, 0, 0, 0, 0), (60, .iload_n 3, 0, 0, 0, 0), (61, .iload 6, 0, 0, 0, 0), (63, .iadd, 0, 0, 0, 0), (64, .bipush 60, 0, 0, 0, 0), (66, .if_icmp .gt 25, 0, 0, 0, 0), (69, .aload_n 0, 0, 0, 0, 0), (70, .getfield 12, 16, 5, 0, 2), (73, .getfield 104, 33, 6, 0, 2), (76, .iload 4, 0, 0, 0, 0), (78, .iload_n 2, 0, 0, 0, 0), (79, .iastore, 0, 0, 0, 0), (80, .iload_n 3, 0, 0, 0, 0), (81, .iload 6, 0, 0, 0, 0), (83, .iadd, 0, 0, 0, 0), (84, .istore_n 3, 0, 0, 0, 0), (85, .iinc 4 1, 0, 0, 0, 0), (88, .goto 31, 0, 0, 0, 0), (91, .aload_n 0, 0, 0, 0, 0), (92, .getfield 26, 19, 5, 3, 2), (95, .iload_n 2, 0, 0, 0, 0), (96, .dup2, 0, 0, 0, 0), (97, .iaload, 0, 0, 0, 0), (98, .aload_n 0, 0, 0, 0, 0), (99, .getfield 12, 16, 5, 0, 2), (102, .getfield 101, 32, 6, 1, 2), (105, .iload 4, 0, 0, 0, 0), (107, .iaload, 0, 0, 0, 0), (108, .iadd, 0, 0, 0, 0), (109, .iastore, 0, 0, 0, 0), (110, .aload_n 0, 0, 0, 0, 0), (111, .getfield 12, 16, 5, 0, 2), (114, .iload 4, 0, 0, 0, 0), (116, .invokevirtual 107, 29, 36, 0, 0), (119, .iinc 5 (-1), 0, 0, 0, 0), (122, .goto (-101), 0, 0, 0, 0), (125, .return_, 0, 0, 0, 0)]
def e_X4_dropWhatIsOwn : List Ent := [(0, .iconst 0, 0, 0, 0, 0), (1, .istore_n 1, 0, 0, 0, 0), (2, .iload_n 1, 0, 0, 0, 0), (3, .aload_n 0, 0, 0, 0, 0), (4, .getfield 12, 16, 5, 0, 2), (7, .getfield 85, 29, 6, 8, 0), (10, .if_icmp .ge 67, 0, 0, 0, 0), (13, .aload_n 0, 0, 0, 0, 0), (14, .getfield 12, 16, 5, 0, 2), (17, .getfield 88, 30, 6, 3, 2), (20, .iload_n 1, 0, 0, 0, 0), (21, .iaload, 0, 0, 0, 0), (22, .aload_n 0, 0, 0, 0, 0), (23, .getfield 12, 16, 5, 0, 2), (26, .getfield 104, 33, 6, 0, 2), (29, .iload_n 1, 0, 0, 0, 0), (30, .iaload, 0, 0, 0, 0), (31, .if_icmp .ne 11, 0, 0, 0, 0), (34, .aload_n 0, 0, 0, 0, 0), (35, .getfield 12, 16, 5, 0, 2), (38, .iload_n 1, 0, 0, 0, 0), (39, .invokevirtual 110, 30, 38, 0, 0), (42, .aload_n 0, 0, 0, 0, 0), (43, .getfield 12, 16, 5, 0, 2), (46, .getfield 91, 31, 6, 5, 2), (49, .iload_n 1, 0, 0, 0, 0), (50, .iaload, 0, 0, 0, 0), (51, .aload_n 0, 0, 0, 0, 0), (52, .getfield 12, 16, 5, 0, 2), (55, .getfield 104, 33, 6, 0, 2), (58, .iload_n 1, 0, 0, 0, 0), (59, .iaload, 0, 0, 0, 0), (60, .if_icmp .ne 11, 0, 0, 0, 0), (63, .aload_n 0, 0, 0, 0, 0), (64, .getfield 12, 16, 5, 0, 2), (67, .iload_n 1, 0, 0, 0, 0), (68, .invokevirtual 94, 27, 39, 0, 0), (71, .iinc 1 1, 0, 0, 0, 0), (74, .goto (-72), 0, 0, 0, 0), (77, .return_, 0, 0, 0, 0)]
def e_X4_housesAheadOf : List Ent := [(0, .iconst 0, 0, 0, 0, 0), (1, .istore_n 2, 0, 0, 0, 0), (2, .iconst 0, 0, 0, 0, 0), (3, .istore_n 3, 0, 0, 0, 0), (4, .iload_n 3, 0, 0, 0, 0), (5, .bipush 6, 0, 0, 0, 0), (7, .if_icmp .ge 26, 0, 0, 0, 0), (10, .iload_n 2, 0, 0, 0, 0), (11, .aload_n 0, 0, 0, 0, 0), (12, .iload_n 3, 0, 0, 0, 0), (13, .iload_n 1, 0, 0, 0, 0), (14, .invokevirtual 113, 31, 32, 0, 0), (17, .ifCond .eq 7, 0, 0, 0, 0), (20, .iconst 1, 0, 0, 0, 0), (21, .goto 4, 0, 0, 0, 0), (24, .iconst 0, 0, 0, 0, 0), (25, .iadd, 0, 0, 0, 0), (26, .istore_n 2, 0, 0, 0, 0), (27, .iinc 3 1, 0, 0, 0, 0), (30, .goto (-26), 0, 0, 0, 0), (33, .iload_n 2, 0, 0, 0, 0), (34, .ireturn, 0, 0, 0, 0)]
def e_X4_isAhead : List Ent := [(0, .aload_n 0, 0, 0, 0, 0), (1, .iload_n 1, 0, 0, 0, 0), (2, .invokevirtual 73, 23, 21, 0, 0), (5, .istore_n 3, 0, 0, 0, 0), (6, .aload_n 0, 0, 0, 0, 0), (7, .iload_n 2, 0, 0, 0, 0), (8, .invokevirtual 73, 23, 21, 0, 0), (11, .istore 4, 0, 0, 0, 0), (13, .iload_n 3, 0, 0, 0, 0), (14, .iload 4, 0, 0, 0, 0), (16, .if_icmp .eq 15, 0, 0, 0, 0), (19, .iload_n 3, 0, 0, 0, 0), (20, .iload 4, 0, 0, 0, 0), (22, .if_icmp .le 7, 0, 0, 0, 0), (25, .iconst 1, 0, 0, 0, 0), (26, .goto 4, 0, 0, 0, 0), (29, .iconst 0, 0, 0, 0, 0), (30, .ireturn, 0, 0, 0, 0), (31, .aload_n 0, 0, 0, 0, 0), (32, .getfield 26, 19, 5, 3, 2), (35, .iload_n 1, 0, 0, 0, 0), (36, .iaload, 0, 0, 0, 0), (37, .aload_n 0, 0, 0, 0, 0), (38, .getfield 26, 19, 5, 3, 2), (41, .iload_n 2, 0, 0, 0, 0), (42, .iaload, 0, 0, 0, 0), (43, .if_icmp .eq 24, 0, 0, 0, 0), (46, .aload_n 0, 0, 0, 0, 0), (47, .getfield 26, 19, 5, 3, 2), (50, .iload_n 1, 0, 0, 0, 0), (51, .iaload, 0, 0, 0, 0), (52, .aload_n 0, 0, 0, 0, 0), (53, .getfield 26, 19, 5, 3, 2), (56, .iload_n 2, 0, 0, 0, 0), (57, .iaload, 0, 0, 0, 0), (58, .if_icmp .le 7, 0, 0, 0, 0), (61, .iconst 1, 0, 0, 0, 0), (62, .goto 4, 0, 0, 0, 0), (65, .iconst 0, 0, 0, 0, 0), (66, .ireturn, 0, 0, 0, 0), (67, .iload_n 1, 0, 0, 0, 0), (68, .iload_n 2, 0, 0, 0, 0), (69, .if_icmp .ge 7, 0, 0, 0, 0), (72, .iconst 1, 0, 0, 0, 0), (73, .goto 4, 0, 0, 0, 0), (76, .iconst 0, 0, 0, 0, 0), (77, .ireturn, 0, 0, 0, 0)]
def e_X5_copyFrom : List Ent := [(0, .aload_n 0, 0, 0, 0, 0), (1, .aload_n 1, 0, 0, 0, 0), (2, .getfield 36, 34, 6, 8, 0), (5, .putfield 36, 34, 6, 8, 0), (8, .iconst 0, 0, 0, 0, 0), (9, .istore_n 2, 0, 0, 0, 0), (10, .iload_n 2, 0, 0, 0, 0), (11, .bipush 12, 0, 0, 0, 0), (13, .if_icmp .ge 16, 0, 0, 0, 0), (16, .aload_n 0, 0, 0, 0, 0), (17, .iload_n 2, 0, 0, 0, 0), (18, .aload_n 1, 0, 0, 0, 0), (19, .iload_n 2, 0, 0, 0, 0), (20, .invokevirtual 40, 32, 34, 0, 0), (23, .iinc 2 1, 0, 0, 0, 0), (26, .goto (-16), 0, 0, 0, 0), (29, .return_, 0, 0, 0, 0)]
def e_X5_copyStub : List Ent := [(0, .aload_n 0, 0, 0, 0, 0), (1, .getfield 9, 35, 6, 0, 2), (4, .iload_n 1, 0, 0, 0, 0), (5, .aload_n 2, 0, 0, 0, 0), (6, .getfield 9, 35, 6, 0, 2), (9, .iload_n 3, 0, 0, 0, 0), (10, .iaload, 0, 0, 0, 0), (11, .iastore, 0, 0, 0, 0), (12, .aload_n 0, 0, 0, 0, 0), (13, .getfield 15, 36, 6, 1, 2), (16, .iload_n 1, 0, 0, 0, 0), (17, .aload_n 2, 0, 0, 0, 0), (18, .getfield 15, 36, 6, 1, 2), (21, .iload_n 3, 0, 0, 0, 0), (22, .iaload, 0, 0, 0, 0), (23, .iastore, 0, 0, 0, 0), (24, .aload_n 0, 0, 0, 0, 0), (25, .getfield 18, 37, 6, 2, 2), (28, .iload_n 1, 0, 0, 0, 0), (29, .aload_n 2, 0, 0, 0, 0), (30, .getfield 18, 37, 6, 2, 2), (33, .iload_n 3, 0, 0, 0, 0), (34, .iaload, 0, 0, 0, 0), (35, .iastore, 0, 0, 0, 0), (36, .aload_n 0, 0, 0, 0, 0), (37, .getfield 21, 38, 6, 3, 2), (40, .iload_n 1, 0, 0, 0, 0), (41, .aload_n 2, 0, 0, 0, 0), (42, .getfield 21, 38, 6, 3, 2), (45, .iload_n 3, 0, 0, 0, 0), (46, .iaload, 0, 0, 0, 0), (47, .iastore, 0, 0, 0, 0), (48, .aload_n 0, 0, 0, 0, 0), (49, .getfield 24, 39, 6, 4, 2), (52, .iload_n 1, 0, 0, 0, 0), (53, .aload_n 2, 0, 0, 0, 0), (54, .getfield 24, 39, 6, 4, 2), (57, .iload_n 3, 0, 0, 0, 0), (58, .iaload, 0, 0, 0, 0), (59, .iastore, 0, 0, 0, 0), (60, .aload_n 0, 0, 0, 0, 0), (61, .getfield 27, 40, 6, 5, 2), (64, .iload_n 1, 0, 0, 0, 0), (65, .aload_n 2, 0, 0, 0, 0), (66, .getfield 27, 40, 6, 5, 2), (69, .iload_n 3, 0, 0, 0, 0), (70, .iaload, 0, 0, 0, 0), (71, .iastore, 0, 0, 0, 0), (72, .aload_n 0, 0, 0, 0, 0), (73, .getfield 30, 41, 6, 6, 2), (76, .iload_n 1, 0, 0, 0, 0), (77, .aload_n 2, 0, 0, 0, 0), (78, .getfield 30, 41, 6, 6, 2), (81, .iload_n 3, 0, 0, 0, 0), (82, .iaload, 0, 0, 0, 0), (83, .iastore, 0, 0, 0, 0), (84, .aload_n 0, 0, 0, 0, 0), (85, .getfield 33, 42, 6, 7, 2), (88, .iload_n 1, 0, 0, 0, 0), (89, .aload_n 2, 0, 0, 0, 0), (90, .getfield 33, 42, 6, 7, 2), (93, .iload_n 3, 0, 0, 0, 0), (94, .iaload, 0, 0, 0, 0), (95, .iastore, 0, 0, 0, 0), (96, .return_, 0, 0, 0, 0)]
def e_X5_put : List Ent := [(0, .aload_n 0, 0, 0, 0, 0), (1, .getfield 36, 34, 6, 8, 0), (4, .istore 4, 0, 0, 0, 0), (6, .aload_n 0, 0, 0, 0, 0), (7, .getfield 9, 35, 6, 0, 2), (10, .iload 4, 0, 0, 0, 0), (12, .iload_n 1, 0, 0, 0, 0), (13, .iastore, 0, 0, 0, 0), (14, .aload_n 0, 0, 0, 0, 0), (15, .getfield 15, 36, 6, 1, 2), (18, .iload 4, 0, 0, 0, 0), (20, .iload_n 2, 0, 0, 0, 0), (21, .iastore, 0, 0, 0, 0), (22, .aload_n 0, 0, 0, 0, 0), (23, .getfield 18, 37, 6, 2, 2), (26, .iload 4, 0, 0, 0, 0), (28, .iload_n 3, 0, 0, 0, 0), (29, .iastore, 0, 0, 0, 0), (30, .aload_n 0, 0, 0, 0, 0), (31, .iload 4, 0, 0, 0, 0), (33, .invokevirtual 44, 33, 38, 0, 0), (36, .aload_n 0, 0, 0, 0, 0), (37, .iload 4, 0, 0, 0, 0), (39, .invokevirtual 48, 34, 39, 0, 0), (42, .aload_n 0, 0, 0, 0, 0), (43, .getfield 33, 42, 6, 7, 2), (46, .iload 4, 0, 0, 0, 0), (48, .iconst 0, 0, 0, 0, 0), (49, .iastore, 0, 0, 0, 0), (50, .aload_n 0, 0, 0, 0, 0), (51, .dup, 0, 0, 0, 0), (52, .getfield 36, 34, 6, 8, 0), (55, .iconst 1, 0, 0, 0, 0), (56, .iadd, 0, 0, 0, 0), (57, .putfield 36, 34, 6, 8, 0), (60, .iload 4, 0, 0, 0, 0), (62, .ireturn, 0, 0, 0, 0)]
def e_X5_remove : List Ent := [(0, .aload_n 0, 0, 0, 0, 0), (1, .dup, 0, 0, 0, 0), (2, .getfield 36, 34, 6, 8, 0), (5, .iconst 1, 0, 0, 0, 0), (6, .isub, 0, 0, 0, 0), (7, .putfield 36, 34, 6, 8, 0), (10, .iload_n 1, 0, 0, 0, 0), (11, .istore_n 2, 0, 0, 0, 0), (12, .iload_n 2, 0, 0, 0, 0), (13, .aload_n 0, 0, 0, 0, 0), (14, .getfield 36, 34, 6, 8, 0), (17, .if_icmp .ge 18, 0, 0, 0, 0), (20, .aload_n 0, 0, 0, 0, 0), (21, .iload_n 2, 0, 0, 0, 0), (22, .aload_n 0, 0, 0, 0, 0), (23, .iload_n 2, 0, 0, 0, 0), (24, .iconst 1, 0, 0, 0, 0), (25, .iadd, 0, 0, 0, 0), (26, .invokevirtual 40, 32, 34, 0, 0), (29, .iinc 2 1, 0, 0, 0, 0), (32, .goto (-20), 0, 0, 0, 0), (35, .return_, 0, 0, 0, 0)]
def e_X5_takeWax : List Ent := [(0, .aload_n 0, 0, 0, 0, 0), (1, .getfield 15, 36, 6, 1, 2), (4, .iload_n 1, 0, 0, 0, 0), (5, .dup2, 0, 0, 0, 0), (6, .iaload, 0, 0, 0, 0), (7, .iload_n 2, 0, 0, 0, 0), (8, .isub, 0, 0, 0, 0), (9, .iastore, 0, 0, 0, 0), (10, .aload_n 0, 0, 0, 0, 0), (11, .getfield 15, 36, 6, 1, 2), (14, .iload_n 1, 0, 0, 0, 0), (15, .iaload, 0, 0, 0, 0), (16, .ifCond .ne 8, 0, 0, 0, 0), (19, .aload_n 0, 0, 0, 0, 0), (20, .iload_n 1, 0, 0, 0, 0), (21, .invokevirtual 51, 35, 36, 0, 0), (24, .return_, 0, 0, 0, 0)]
def e_X5_forgive : List Ent := [(0, .aload_n 0, 0, 0, 0, 0), (1, .getfield 21, 38, 6, 3, 2), (4, .iload_n 1, 0, 0, 0, 0), (5, .iconst (-1), 0, 0, 0, 0), (6, .iastore, 0, 0, 0, 0), (7, .aload_n 0, 0, 0, 0, 0), (8, .getfield 24, 39, 6, 4, 2), (11, .iload_n 1, 0, 0, 0, 0), (12, .iconst 0, 0, 0, 0, 0), (13, .iastore, 0, 0, 0, 0), (14, .return_, 0, 0, 0, 0)]
def e_X5_release : List Ent := [(0, .aload_n 0, 0, 0, 0, 0), (1, .getfield 27, 40, 6, 5, 2), (4, .iload_n 1, 0, 0, 0, 0), (5, .iconst (-1), 0, 0, 0, 0), (6, .iastore, 0, 0, 0, 0), (7, .aload_n 0, 0, 0, 0, 0), (8, .getfield 30, 41, 6, 6, 2), (11, .iload_n 1, 0, 0, 0, 0), (12, .iconst 0, 0, 0, 0, 0), (13, .iastore, 0, 0, 0, 0), (14, .return_, 0, 0, 0, 0)]
def e_X5_payBack : List Ent := [(0, .iload_n 2, 0, 0, 0, 0), (1, .aload_n 0, 0, 0, 0, 0), (2, .getfield 24, 39, 6, 4, 2), (5, .iload_n 1, 0, 0, 0, 0), (6, .iaload, 0, 0, 0, 0), (7, .invokestatic 54, 36, 202, 1, 0), (10, .istore_n 3, 0, 0, 0, 0), (11, .aload_n 0, 0, 0, 0, 0), (12, .getfield 24, 39, 6, 4, 2), (15, .iload_n 1, 0, 0, 0, 0), (16, .dup2, 0, 0, 0, 0), (17, .iaload, 0, 0, 0, 0), (18, .iload_n 3, 0, 0, 0, 0), (19, .isub, 0, 0, 0, 0), (20, .iastore, 0, 0, 0, 0), (21, .aload_n 0, 0, 0, 0, 0), (22, .getfield 24, 39, 6, 4, 2), (25, .iload_n 1, 0, 0, 0, 0), (26, .iaload, 0, 0, 0, 0), (27, .ifCond .ne 8, 0, 0, 0, 0), (30, .aload_n 0, 0, 0, 0, 0), (31, .iload_n 1, 0, 0, 0, 0), (32, .invokevirtual 44, 33, 38, 0, 0), (35, .iload_n 3, 0, 0, 0, 0), (36, .ireturn, 0, 0, 0, 0)]
def e_X5_shortenWrits : List Ent := [(0, .iconst 0, 0, 0, 0, 0), (1, .istore_n 2, 0, 0, 0, 0), (2, .iconst 0, 0, 0, 0, 0), (3, .istore_n 3, 0, 0, 0, 0), (4, .iload_n 3, 0, 0, 0, 0), (5, .aload_n 0, 0, 0, 0, 0), (6, .getfield 36, 34, 6, 8, 0), (9, .if_icmp .ge 46, 0, 0, 0, 0), (12, .aload_n 0, 0, 0, 0, 0), (13, .getfield 27, 40, 6, 5, 2), (16, .iload_n 3, 0, 0, 0, 0), (17, .iaload, 0, 0, 0, 0), (18, .iconst (-1), 0, 0, 0, 0), (19, .if_icmp .eq 30, 0, 0, 0, 0), (22, .aload_n 0, 0, 0, 0, 0), (23, .getfield 30, 41, 6, 6, 2), (26, .iload_n 3, 0, 0, 0, 0), (27, .dup2, 0, 0, 0, 0), (28, .iaload, 0, 0, 0, 0), (29, .iload_n 1, 0, 0, 0, 0), (30, .isub, 0, 0, 0, 0), (31, .iastore, 0, 0, 0, 0), (32, .aload_n 0, 0, 0, 0, 0), (33, .getfield 30, 41, 6, 6, 2), (36, .iload_n 3, 0, 0, 0, 0), (37, .iaload, 0, 0, 0, 0), (38, .ifCond .gt 11, 0, 0, 0, 0), (41, .aload_n 0, 0, 0, 0, 0), (42, .iload_n 3, 0, 0, 0, 0), (43, .invokevirtual 48, 34, 39, 0, 0), (46, .iinc 2 1, 0, 0, 0, 0), (49, .iinc 3 1, 0, 0, 0, 0), (52, .goto (-48), 0, 0, 0, 0), (55, .iload_n 2, 0, 0, 0, 0), (56, .ireturn, 0, 0, 0, 0)]
def e_X5_countOn : List Ent := [(0, .iconst 0, 0, 0, 0, 0), (1, .istore_n 2, 0, 0, 0, 0), (2, .iconst 0, 0, 0, 0, 0), (3, .istore_n 3, 0, 0, 0, 0), (4, .iload_n 3, 0, 0, 0, 0), (5, .aload_n 0, 0, 0, 0, 0), (6, .getfield 36, 34, 6, 8, 0), (9, .if_icmp .ge 27, 0, 0, 0, 0), (12, .iload_n 2, 0, 0, 0, 0), (13, .aload_n 0, 0, 0, 0, 0), (14, .getfield 9, 35, 6, 0, 2), (17, .iload_n 3, 0, 0, 0, 0), (18, .iaload, 0, 0, 0, 0), (19, .iload_n 1, 0, 0, 0, 0), (20, .if_icmp .ne 7, 0, 0, 0, 0), (23, .iconst 1, 0, 0, 0, 0), (24, .goto 4, 0, 0, 0, 0), (27, .iconst 0, 0, 0, 0, 0), (28, .iadd, 0, 0, 0, 0), (29, .istore_n 2, 0, 0, 0, 0), (30, .iinc 3 1, 0, 0, 0, 0), (33, .goto (-29), 0, 0, 0, 0), (36, .iload_n 2, 0, 0, 0, 0), (37, .ireturn, 0, 0, 0, 0)]
def e_X5_weightOn : List Ent := [(0, .iconst 0, 0, 0, 0, 0), (1, .istore_n 2, 0, 0, 0, 0), (2, .iconst 0, 0, 0, 0, 0), (3, .istore_n 3, 0, 0, 0, 0), (4, .iload_n 3, 0, 0, 0, 0), (5, .aload_n 0, 0, 0, 0, 0), (6, .getfield 36, 34, 6, 8, 0), (9, .if_icmp .ge 34, 0, 0, 0, 0), (12, .iload_n 2, 0, 0, 0, 0), (13, .aload_n 0, 0, 0, 0, 0), (14, .getfield 9, 35, 6, 0, 2), (17, .iload_n 3, 0, 0, 0, 0), (18, .iaload, 0, 0, 0, 0), (19, .iload_n 1, 0, 0, 0, 0), (20, .if_icmp .ne 14, 0, 0, 0, 0), (23, .aload_n 0, 0, 0, 0, 0), (24, .getfield 15, 36, 6, 1, 2), (27, .iload_n 3, 0, 0, 0, 0), (28, .iaload, 0, 0, 0, 0), (29, .iconst 1, 0, 0, 0, 0), (30, .iadd, 0, 0, 0, 0), (31, .goto 4, 0, 0, 0, 0), (34, .iconst 0, 0, 0, 0, 0), (35, .iadd, 0, 0, 0, 0), (36, .istore_n 2, 0, 0, 0, 0), (37, .iinc 3 1, 0, 0, 0, 0), (40, .goto (-36), 0, 0, 0, 0), (43, .iload_n 2, 0, 0, 0, 0), (44, .ireturn, 0, 0, 0, 0)]
def e_X5_weightBesideOthers : List Ent := [(0, .aload_n 0, 0, 0, 0, 0), (1, .invokevirtual 60, 37, 50, 0, 0), (4, .aload_n 0, 0, 0, 0, 0), (5, .getfield 36, 34, 6, 8, 0), (8, .iconst 1, 0, 0, 0, 0), (9, .imul, 0, 0, 0, 0), (10, .iadd, 0, 0, 0, 0), (11, .istore_n 2, 0, 0, 0, 0), (12, .iconst 0, 0, 0, 0, 0), (13, .istore_n 3, 0, 0, 0, 0), (14, .iload_n 3, 0, 0, 0, 0), (15, .bipush 6, 0, 0, 0, 0), (17, .if_icmp .ge 26, 0, 0, 0, 0), (20, .iload_n 2, 0, 0, 0, 0), (21, .iload_n 3, 0, 0, 0, 0), (22, .iload_n 1, 0, 0, 0, 0), (23, .if_icmp .ne 7, 0, 0, 0, 0), (26, .iconst 0, 0, 0, 0, 0), (27, .goto 8, 0, 0, 0, 0), (30, .aload_n 0, 0, 0, 0, 0), (31, .iload_n 3, 0, 0, 0, 0), (32, .invokevirtual 64, 38, 43, 0, 0), (35, .isub, 0, 0, 0, 0), (36, .istore_n 2, 0, 0, 0, 0), (37, .iinc 3 1, 0, 0, 0, 0), (40, .goto (-26), 0, 0, 0, 0), (43, .iload_n 2, 0, 0, 0, 0), (44, .ireturn, 0, 0, 0, 0)]
def e_X5_tooManyFor : List Ent := [(0, .aload_n 0, 0, 0, 0, 0), (1, .iload_n 2, 0, 0, 0, 0), (2, .invokevirtual 64, 38, 43, 0, 0), (5, .istore_n 3, 0, 0, 0, 0), (6, .iconst 0, 0, 0, 0, 0), (7, .istore 4, 0, 0, 0, 0), (9, .iconst 0, 0, 0, 0, 0), (10, .istore 5, 0, 0, 0, 0), (12, .iload 5, 0, 0, 0, 0), (14, .aload_n 0, 0, 0, 0, 0), (15, .getfield 36, 34, 6, 8, 0), (18, .if_icmp .ge 51, 0, 0, 0, 0), (21, .aload_n 0, 0, 0, 0, 0), (22, .getfield 9, 35, 6, 0, 2), (25, .iload 5, 0, 0, 0, 0), (27, .iaload, 0, 0, 0, 0), (28, .iload_n 1, 0, 0, 0, 0), (29, .if_icmp .ne 34, 0, 0, 0, 0), (32, .aload_n 0, 0, 0, 0, 0), (33, .getfield 15, 36, 6, 1, 2), (36, .iload 5, 0, 0, 0, 0), (38, .iaload, 0, 0, 0, 0), (39, .iconst 1, 0, 0, 0, 0), (40, .iadd, 0, 0, 0, 0), (41, .istore 6, 0, 0, 0, 0), (43, .iload_n 3, 0, 0, 0, 0), (44, .iload 6, 0, 0, 0, 0), (46, .iadd, 0, 0, 0, 0), (47, .bipush 60, 0, 0, 0, 0), (49, .if_icmp .gt 11, 0, 0, 0, 0), (52, .iload_n 3, 0, 0, 0, 0), (53, .iload 6, 0, 0, 0, 0), (55, .iadd, 0, 0, 0, 0), (56, .istore_n 3, 0, 0, 0, 0), (57, .goto 6, 0, 0, 0, 0), (60, .iinc 4 1, 0, 0, 0, 0), (63, .iinc 5 1, 0, 0, 0, 0), (66, .goto (-54), 0, 0, 0, 0), (69, .iload 4, 0, 0, 0, 0), (71, .ireturn, 0, 0, 0, 0)]
def e_X5_writsBy : List Ent := [(0, .iconst 0, 0, 0, 0, 0), (1, .istore_n 2, 0, 0, 0, 0), (2, .iconst 0, 0, 0, 0, 0), (3, .istore_n 3, 0, 0, 0, 0), (4, .iload_n 3, 0, 0, 0, 0), (5, .aload_n 0, 0, 0, 0, 0), (6, .getfield 36, 34, 6, 8, 0), (9, .if_icmp .ge 27, 0, 0, 0, 0), (12, .iload_n 2, 0, 0, 0, 0), (13, .aload_n 0, 0, 0, 0, 0), (14, .getfield 27, 40, 6, 5, 2), (17, .iload_n 3, 0, 0, 0, 0), (18, .iaload, 0, 0, 0, 0), (19, .iload_n 1, 0, 0, 0, 0), (20, .if_icmp .ne 7, 0, 0, 0, 0), (23, .iconst 1, 0, 0, 0, 0), (24, .goto 4, 0, 0, 0, 0), (27, .iconst 0, 0, 0, 0, 0), (28, .iadd, 0, 0, 0, 0), (29, .istore_n 2, 0, 0, 0, 0), (30, .iinc 3 1, 0, 0, 0, 0), (33, .goto (-29), 0, 0, 0, 0), (36, .iload_n 2, 0, 0, 0, 0), (37, .ireturn, 0, 0, 0, 0)]
def e_X5_owedTo : List Ent := [(0, .iconst 0, 0, 0, 0, 0), (1, .istore_n 2, 0, 0, 0, 0), (2, .iconst 0, 0, 0, 0, 0), (3, .istore_n 3, 0, 0, 0, 0), (4, .iload_n 3, 0, 0, 0, 0), (5, .aload_n 0, 0, 0, 0, 0), (6, .getfield 36, 34, 6, 8, 0), (9, .if_icmp .ge 32, 0, 0, 0, 0), (12, .iload_n 2, 0, 0, 0, 0), (13, .aload_n 0, 0, 0, 0, 0), (14, .getfield 21, 38, 6, 3, 2), (17, .iload_n 3, 0, 0, 0, 0), (18, .iaload, 0, 0, 0, 0), (19, .iload_n 1, 0, 0, 0, 0), (20, .if_icmp .ne 12, 0, 0, 0, 0), (23, .aload_n 0, 0, 0, 0, 0), (24, .getfield 24, 39, 6, 4, 2), (27, .iload_n 3, 0, 0, 0, 0), (28, .iaload, 0, 0, 0, 0), (29, .goto 4, 0, 0, 0, 0), (32, .iconst 0, 0, 0, 0, 0), (33, .iadd, 0, 0, 0, 0), (34, .istore_n 2, 0, 0, 0, 0), (35, .iinc 3 1, 0, 0, 0, 0), (38, .goto (-34), 0, 0, 0, 0), (41, .iload_n 2, 0, 0, 0, 0), (42, .ireturn, 0, 0, 0, 0)]
def e_X5_owedBy : List Ent := [(0, .iconst 0, 0, 0, 0, 0), (1, .istore_n 2, 0, 0, 0, 0), (2, .iconst 0, 0, 0, 0, 0), (3, .istore_n 3, 0, 0, 0, 0), (4, .iload_n 3, 0, 0, 0, 0), (5, .aload_n 0, 0, 0, 0, 0), (6, .getfield 36, 34, 6, 8, 0), (9, .if_icmp .ge 32, 0, 0, 0, 0), (12, .iload_n 2, 0, 0, 0, 0), (13, .aload_n 0, 0, 0, 0, 0), (14, .getfield 9, 35, 6, 0, 2), (17, .iload_n 3, 0, 0, 0, 0), (18, .iaload, 0, 0, 0, 0), (19, .iload_n 1, 0, 0, 0, 0), (20, .if_icmp .ne 12, 0, 0, 0, 0), (23, .aload_n 0, 0, 0, 0, 0), (24, .getfield 24, 39, 6, 4, 2), (27, .iload_n 3, 0, 0, 0, 0), (28, .iaload, 0, 0, 0, 0), (29, .goto 4, 0, 0, 0, 0), (32, .iconst 0, 0, 0, 0, 0), (33, .iadd, 0, 0, 0, 0), (34, .istore_n 2, 0, 0, 0, 0), (35, .iinc 3 1, 0, 0, 0, 0), (38, .goto (-34), 0, 0, 0, 0), (41, .iload_n 2, 0, 0, 0, 0), (42, .ireturn, 0, 0, 0, 0)]
def e_X5_allWrits : List Ent := [(0, .iconst 0, 0, 0, 0, 0), (1, .istore_n 1, 0, 0, 0, 0), (2, .iconst 0, 0, 0, 0, 0), (3, .istore_n 2, 0, 0, 0, 0), (4, .iload_n 2, 0, 0, 0, 0), (5, .aload_n 0, 0, 0, 0, 0), (6, .getfield 36, 34, 6, 8, 0), (9, .if_icmp .ge 27, 0, 0, 0, 0), (12, .iload_n 1, 0, 0, 0, 0), (13, .aload_n 0, 0, 0, 0, 0), (14, .getfield 27, 40, 6, 5, 2), (17, .iload_n 2, 0, 0, 0, 0), (18, .iaload, 0, 0, 0, 0), (19, .iconst (-1), 0, 0, 0, 0), (20, .if_icmp .ne 7, 0, 0, 0, 0), (23, .iconst 0, 0, 0, 0, 0), (24, .goto 4, 0, 0, 0, 0), (27, .iconst 1, 0, 0, 0, 0), (28, .iadd, 0, 0, 0, 0), (29, .istore_n 1, 0, 0, 0, 0), (30, .iinc 2 1, 0, 0, 0, 0), (33, .goto (-29), 0, 0, 0, 0), (36, .iload_n 1, 0, 0, 0, 0), (37, .ireturn, 0, 0, 0, 0)]
def e_X5_allWax : List Ent := [(0, .iconst 0, 0, 0, 0, 0), (1, .istore_n 1, 0, 0, 0, 0), (2, .iconst 0, 0, 0, 0, 0), (3, .istore_n 2, 0, 0, 0, 0), (4, .iload_n 2, 0, 0, 0, 0), (5, .aload_n 0, 0, 0, 0, 0), (6, .getfield 36, 34, 6, 8, 0), (9, .if_icmp .ge 18, 0, 0, 0, 0), (12, .iload_n 1, 0, 0, 0, 0), (13, .aload_n 0, 0, 0, 0, 0), (14, .getfield 15, 36, 6, 1, 2), (17, .iload_n 2, 0, 0, 0, 0), (18, .iaload, 0, 0, 0, 0), (19, .iadd, 0, 0, 0, 0), (20, .istore_n 1, 0, 0, 0, 0), (21, .iinc 2 1, 0, 0, 0, 0), (24, .goto (-20), 0, 0, 0, 0), (27, .iload_n 1, 0, 0, 0, 0), (28, .ireturn, 0, 0, 0, 0)]
def e_X5_allDebts : List Ent := [(0, .iconst 0, 0, 0, 0, 0), (1, .istore_n 1, 0, 0, 0, 0), (2, .iconst 0, 0, 0, 0, 0), (3, .istore_n 2, 0, 0, 0, 0), (4, .iload_n 2, 0, 0, 0, 0), (5, .aload_n 0, 0, 0, 0, 0), (6, .getfield 36, 34, 6, 8, 0), (9, .if_icmp .ge 18, 0, 0, 0, 0), (12, .iload_n 1, 0, 0, 0, 0), (13, .aload_n 0, 0, 0, 0, 0), (14, .getfield 24, 39, 6, 4, 2), (17, .iload_n 2, 0, 0, 0, 0), (18, .iaload, 0, 0, 0, 0), (19, .iadd, 0, 0, 0, 0), (20, .istore_n 1, 0, 0, 0, 0), (21, .iinc 2 1, 0, 0, 0, 0), (24, .goto (-20), 0, 0, 0, 0), (27, .iload_n 1, 0, 0, 0, 0), (28, .ireturn, 0, 0, 0, 0)]
def e_X5_stubsAheadOf : List Ent := [(0, .iconst 0, 0, 0, 0, 0), (1, .istore_n 2, 0, 0, 0, 0), (2, .iconst 0, 0, 0, 0, 0), (3, .istore_n 3, 0, 0, 0, 0), (4, .iload_n 3, 0, 0, 0, 0), (5, .aload_n 0, 0, 0, 0, 0), (6, .getfield 36, 34, 6, 8, 0), (9, .if_icmp .ge 26, 0, 0, 0, 0), (12, .iload_n 2, 0, 0, 0, 0), (13, .aload_n 0, 0, 0, 0, 0), (14, .iload_n 3, 0, 0, 0, 0), (15, .iload_n 1, 0, 0, 0, 0), (16, .invokevirtual 68, 39, 53, 0, 0), (19, .ifCond .eq 7, 0, 0, 0, 0), (22, .iconst 1, 0, 0, 0, 0), (23, .goto 4, 0, 0, 0, 0), (26, .iconst 0, 0, 0, 0, 0), (27, .iadd, 0, 0, 0, 0), (28, .istore_n 2, 0, 0, 0, 0), (29, .iinc 3 1, 0, 0, 0, 0), (32, .goto (-28), 0, 0, 0, 0), (35, .iload_n 2, 0, 0, 0, 0), (36, .ireturn, 0, 0, 0, 0)]
def e_X5_isAhead : List Ent := [(0, .aload_n 0, 0, 0, 0, 0), (1, .getfield 15, 36, 6, 1, 2), (4, .iload_n 1, 0, 0, 0, 0), (5, .iaload, 0, 0, 0, 0), (6, .aload_n 0, 0, 0, 0, 0), (7, .getfield 18, 37, 6, 2, 2), (10, .iload_n 1, 0, 0, 0, 0), (11, .iaload, 0, 0, 0, 0), (12, .imul, 0, 0, 0, 0), (13, .istore_n 3, 0, 0, 0, 0), (14, .aload_n 0, 0, 0, 0, 0), (15, .getfield 15, 36, 6, 1, 2), (18, .iload_n 2, 0, 0, 0, 0), (19, .iaload, 0, 0, 0, 0), (20, .aload_n 0, 0, 0, 0, 0), (21, .getfield 18, 37, 6, 2, 2), (24, .iload_n 2, 0, 0, 0, 0), (25, .iaload, 0, 0, 0, 0), (26, .imul, 0, 0, 0, 0), (27, .istore 4, 0, 0, 0, 0), (29, .iload_n 3, 0, 0, 0, 0), (30, .iload 4, 0, 0, 0, 0), (32, .if_icmp .eq 15, 0, 0, 0, 0), (35, .iload_n 3, 0, 0, 0, 0), (36, .iload 4, 0, 0, 0, 0), (38, .if_icmp .le 7, 0, 0, 0, 0), (41, .iconst 1, 0, 0, 0, 0), (42, .goto 4, 0, 0, 0, 0), (45, .iconst 0, 0, 0, 0, 0), (46, .ireturn, 0, 0, 0, 0), (47, .aload_n 0, 0, 0, 0, 0), (48, .getfield 24, 39, 6, 4, 2), (51, .iload_n 1, 0, 0, 0, 0), (52, .iaload, 0, 0, 0, 0), (53, .aload_n 0, 0, 0, 0, 0), (54, .getfield 24, 39, 6, 4, 2), (57, .iload_n 2, 0, 0, 0, 0), (58, .iaload, 0, 0, 0, 0), (59, .if_icmp .eq 24, 0, 0, 0, 0), (62, .aload_n 0, 0, 0, 0, 0), (63, .getfield 24, 39, 6, 4, 2), (66, .iload_n 1, 0, 0, 0, 0), (67, .iaload, 0, 0, 0, 0), (68, .aload_n 0, 0, 0, 0, 0), (69, .getfield 24, 39, 6, 4, 2), (72, .iload_n 2, 0, 0, 0, 0), (73, .iaload, 0, 0, 0, 0), (74, .if_icmp .ge 7, 0, 0, 0, 0), (77, .iconst 1, 0, 0, 0, 0), (78, .goto 4, 0, 0, 0, 0), (81, .iconst 0, 0, 0, 0, 0), (82, .ireturn, 0, 0, 0, 0), (83, .iload_n 1, 0, 0, 0, 0), (84, .iload_n 2, 0, 0, 0, 0), (85, .if_icmp .ge 7, 0, 0, 0, 0), (88, .iconst 1, 0, 0, 0, 0), (89, .goto 4, 0, 0, 0, 0), (92, .iconst 0, 0, 0, 0, 0), (93, .ireturn, 0, 0, 0, 0)]
def e_X6_stub : List Ent := [(0, .aload_n 0, 0, 0, 0, 0), (1, .getfield 26, 43, 7, 3, 2), (4, .aload_n 0, 0, 0, 0, 0), (5, .getfield 10, 44, 7, 0, 2), (8, .invokevirtual 61, 40, 0, 0, 0), (11, .aload_n 0, 0, 0, 0, 0), (12, .aload_n 0, 0, 0, 0, 0), (13, .iload_n 1, 0, 0, 0, 0), (14, .iload_n 2, 0, 0, 0, 0), (15, .iload_n 3, 0, 0, 0, 0), (16, .invokevirtual 65, 41, 86, 0, 0), (19, .invokevirtual 69, 42, 85, 0, 0), (22, .ireturn, 0, 0, 0, 0)]
def e_X6_burn : List Ent := [(0, .aload_n 0, 0, 0, 0, 0), (1, .getfield 26, 43, 7, 3, 2), (4, .aload_n 0, 0, 0, 0, 0), (5, .getfield 10, 44, 7, 0, 2), (8, .invokevirtual 61, 40, 0, 0, 0), (11, .aload_n 0, 0, 0, 0, 0), (12, .aload_n 0, 0, 0, 0, 0), (13, .iload_n 1, 0, 0, 0, 0), (14, .iload_n 2, 0, 0, 0, 0), (15, .invokevirtual 73, 43, 89, 0, 0), (18, .invokevirtual 69, 42, 85, 0, 0), (21, .ireturn, 0, 0, 0, 0)]
def e_X6_owe : List Ent := [(0, .aload_n 0, 0, 0, 0, 0), (1, .getfield 26, 43, 7, 3, 2), (4, .aload_n 0, 0, 0, 0, 0), (5, .getfield 10, 44, 7, 0, 2), (8, .invokevirtual 61, 40, 0, 0, 0), (11, .aload_n 0, 0, 0, 0, 0), (12, .aload_n 0, 0, 0, 0, 0), (13, .iload_n 1, 0, 0, 0, 0), (14, .iload_n 2, 0, 0, 0, 0), (15, .iload_n 3, 0, 0, 0, 0), (16, .invokevirtual 77, 44, 90, 0, 0), (19, .invokevirtual 69, 42, 85, 0, 0), (22, .ireturn, 0, 0, 0, 0)]
def e_X6_writ : List Ent := [(0, .aload_n 0, 0, 0, 0, 0), (1, .getfield 26, 43, 7, 3, 2), (4, .aload_n 0, 0, 0, 0, 0), (5, .getfield 10, 44, 7, 0, 2), (8, .invokevirtual 61, 40, 0, 0, 0), (11, .aload_n 0, 0, 0, 0, 0), (12, .aload_n 0, 0, 0, 0, 0), (13, .iload_n 1, 0, 0, 0, 0), (14, .iload_n 2, 0, 0, 0, 0), (15, .iload_n 3, 0, 0, 0, 0), (16, .invokevirtual 80, 45, 91, 0, 0), (19, .invokevirtual 69, 42, 85, 0, 0), (22, .ireturn, 0, 0, 0, 0)]
def e_X6_stubOf : List Ent := [(0, .aload_n 0, 0, 0, 0, 0), (1, .iload_n 1, 0, 0, 0, 0), (2, .invokevirtual 83, 46, 100, 0, 0), (5, .ifCond .ne 7, 0, 0, 0, 0), (8, .sipush (-1011), 0, 0, 0, 0), (11, .ireturn, 0, 0, 0, 0), (12, .aload_n 0, 0, 0, 0, 0), (13, .getfield 10, 44, 7, 0, 2), (16, .getfield 87, 45, 5, 0, 2), (19, .astore_n 3, 0, 0, 0, 0), (20, .iload_n 2, 0, 0, 0, 0), (21, .tableswitch 109 0 7 #[47, 54, 61, 68, 78, 85, 92, 102], 0, 0, 0, 0), (68, .aload_n 3, 0, 0, 0, 0), (69, .getfield 91, 46, 6, 0, 2), (72, .iload_n 1, 0, 0, 0, 0), (73, .iaload, 0, 0, 0, 0), (74, .ireturn, 0, 0, 0, 0), (75, .aload_n 3, 0, 0, 0, 0), (76, .getfield 97, 47, 6, 1, 2), (79, .iload_n 1, 0, 0, 0, 0), (80, .iaload, 0, 0, 0, 0), (81, .ireturn, 0, 0, 0, 0), (82, .aload_n 3, 0, 0, 0, 0), (83, .getfield 100, 48, 6, 2, 2), (86, .iload_n 1, 0, 0, 0, 0), (87, .iaload, 0, 0, 0, 0), (88, .ireturn, 0, 0, 0, 0), (89, .aload_n 3, 0, 0, 0, 0), (90, .getfield 103, 49, 6, 3, 2), (93, .iload_n 1, 0, 0, 0, 0), (94, .iaload, 0, 0, 0, 0), (95, .invokestatic 106, 47, 101, 1, 0), (98, .ireturn, 0, 0, 0, 0), (99, .aload_n 3, 0, 0, 0, 0), (100, .getfield 109, 50, 6, 4, 2), (103, .iload_n 1, 0, 0, 0, 0), (104, .iaload, 0, 0, 0, 0), (105, .ireturn, 0, 0, 0, 0), (106, .aload_n 3, 0, 0, 0, 0), (107, .getfield 112, 51, 6, 6, 2), (110, .iload_n 1, 0, 0, 0, 0), (111, .iaload, 0, 0, 0, 0), (112, .ireturn, 0, 0, 0, 0), (113, .aload_n 3, 0, 0, 0, 0), (114, .getfield 115, 52, 6, 5, 2), (117, .iload_n 1, 0, 0, 0, 0), (118, .iaload, 0, 0, 0, 0), (119, .invokestatic 106, 47, 101, 1, 0), (122, .ireturn, 0, 0, 0, 0), (123, .aload_n 3, 0, 0, 0, 0), (124, .getfield 118, 53, 6, 7, 2), (127, .iload_n 1, 0, 0, 0, 0), (128, .iaload, 0, 0, 0, 0), (129, .ireturn, 0, 0, 0, 0), (130, .sipush (-1012), 0, 0, 0, 0), (133, .ireturn, 0, 0, 0, 0)]
def e_X6_pool : List Ent := [(0, .aload_n 0, 0, 0, 0, 0), (1, .getfield 26, 43, 7, 3, 2), (4, .aload_n 0, 0, 0, 0, 0), (5, .getfield 10, 44, 7, 0, 2), (8, .invokevirtual 61, 40, 0, 0, 0), (11, .aload_n 0, 0, 0, 0, 0), (12, .aload_n 0, 0, 0, 0, 0), (13, .iload_n 1, 0, 0, 0, 0), (14, .iload_n 2, 0, 0, 0, 0), (15, .invokevirtual 121, 48, 92, 0, 0), (18, .invokevirtual 69, 42, 85, 0, 0), (21, .ireturn, 0, 0, 0, 0)]
def e_X6_share : List Ent := [(0, .aload_n 0, 0, 0, 0, 0), (1, .getfield 26, 43, 7, 3, 2), (4, .aload_n 0, 0, 0, 0, 0), (5, .getfield 10, 44, 7, 0, 2), (8, .invokevirtual 61, 40, 0, 0, 0), (11, .aload_n 0, 0, 0, 0, 0), (12, .aload_n 0, 0, 0, 0, 0), (13, .invokevirtual 124, 49, 93, 0, 0), (16, .invokevirtual 69, 42, 85, 0, 0), (19, .ireturn, 0, 0, 0, 0)]
def e_X6_part : List Ent := [(0, .iload_n 1, 0, 0, 0, 0), (1, .invokestatic 128, 50, 99, 1, 0), (4, .ifCond .ne 7, 0, 0, 0, 0), (7, .sipush (-1011), 0, 0, 0, 0), (10, .ireturn, 0, 0, 0, 0), (11, .aload_n 0, 0, 0, 0, 0), (12, .getfield 47, 54, 7, 6, 2), (15, .aload_n 0, 0, 0, 0, 0), (16, .getfield 10, 44, 7, 0, 2), (19, .invokevirtual 131, 51, 15, 0, 0), (22, .aload_n 0, 0, 0, 0, 0), (23, .getfield 47, 54, 7, 6, 2), (26, .getfield 134, 55, 4, 0, 2), (29, .iload_n 1, 0, 0, 0, 0), (30, .iaload, 0, 0, 0, 0), (31, .ireturn, 0, 0, 0, 0)]
def e_X6_partAgain : List Ent := [(0, .iload_n 1, 0, 0, 0, 0), (1, .invokestatic 128, 50, 99, 1, 0), (4, .ifCond .ne 7, 0, 0, 0, 0), (7, .sipush (-1011), 0, 0, 0, 0), (10, .ireturn, 0, 0, 0, 0), (11, .aload_n 0, 0, 0, 0, 0), (12, .getfield 47, 54, 7, 6, 2), (15, .aload_n 0, 0, 0, 0, 0), (16, .getfield 10, 44, 7, 0, 2), (19, .invokevirtual 137, 52, 17, 0, 0), (22, .aload_n 0, 0, 0, 0, 0), (23, .getfield 47, 54, 7, 6, 2), (26, .getfield 140, 56, 4, 1, 2), (29, .iload_n 1, 0, 0, 0, 0), (30, .iaload, 0, 0, 0, 0), (31, .ireturn, 0, 0, 0, 0)]
def e_X6_mould : List Ent := [(0, .aload_n 0, 0, 0, 0, 0), (1, .getfield 26, 43, 7, 3, 2), (4, .aload_n 0, 0, 0, 0, 0), (5, .getfield 10, 44, 7, 0, 2), (8, .invokevirtual 61, 40, 0, 0, 0), (11, .aload_n 0, 0, 0, 0, 0), (12, .aload_n 0, 0, 0, 0, 0), (13, .iload_n 1, 0, 0, 0, 0), (14, .iload_n 2, 0, 0, 0, 0), (15, .iload_n 3, 0, 0, 0, 0), (16, .invokevirtual 143, 53, 87, 0, 0), (19, .invokevirtual 69, 42, 85, 0, 0), (22, .ireturn, 0, 0, 0, 0)]
def e_X6_heir : List Ent := [(0, .aload_n 0, 0, 0, 0, 0), (1, .getfield 26, 43, 7, 3, 2), (4, .aload_n 0, 0, 0, 0, 0), (5, .getfield 10, 44, 7, 0, 2), (8, .invokevirtual 61, 40, 0, 0, 0), (11, .aload_n 0, 0, 0, 0, 0), (12, .aload_n 0, 0, 0, 0, 0), (13, .iload_n 1, 0, 0, 0, 0), (14, .iload_n 2, 0, 0, 0, 0), (15, .invokevirtual 146, 54, 94, 0, 0), (18, .invokevirtual 69, 42, 85, 0, 0), (21, .ireturn, 0, 0, 0, 0)]
def e_X6_end : List Ent := [(0, .aload_n 0, 0, 0, 0, 0), (1, .getfield 26, 43, 7, 3, 2), (4, .aload_n 0, 0, 0, 0, 0), (5, .getfield 10, 44, 7, 0, 2), (8, .invokevirtual 61, 40, 0, 0, 0), (11, .aload_n 0, 0, 0, 0, 0), (12, .aload_n 0, 0, 0, 0, 0), (13, .iload_n 1, 0, 0, 0, 0), (14, .invokevirtual 149, 55, 95, 0, 0), (17, .invokevirtual 69, 42, 85, 0, 0), (20, .ireturn, 0, 0, 0, 0)]
def e_X6_pass : List Ent := [(0, .aload_n 0, 0, 0, 0, 0), (1, .getfield 26, 43, 7, 3, 2), (4, .aload_n 0, 0, 0, 0, 0), (5, .getfield 10, 44, 7, 0, 2), (8, .invokevirtual 61, 40, 0, 0, 0), (11, .aload_n 0, 0, 0, 0, 0), (12, .aload_n 0, 0, 0, 0, 0), (13, .iload_n 1, 0, 0, 0, 0), (14, .invokevirtual 152, 56, 96, 0, 0), (17, .invokevirtual 69, 42, 85, 0, 0), (20, .ireturn, 0, 0, 0, 0)]
def e_X6_houseOf : List Ent := [(0, .iload_n 1, 0, 0, 0, 0), (1, .invokestatic 128, 50, 99, 1, 0), (4, .ifCond .ne 7, 0, 0, 0, 0), (7, .sipush (-1011), 0, 0, 0, 0), (10, .ireturn, 0, 0, 0, 0), (11, .iload_n 2, 0, 0, 0, 0), (12, .tableswitch 141 0 7 #[48, 66, 76, 86, 96, 105, 117, 129], 0, 0, 0, 0), (60, .aload_n 0, 0, 0, 0, 0), (61, .getfield 10, 44, 7, 0, 2), (64, .getfield 155, 57, 5, 1, 2), (67, .iload_n 1, 0, 0, 0, 0), (68, .baload, 0, 0, 0, 0), (69, .ifCond .eq 7, 0, 0, 0, 0), (72, .iconst 1, 0, 0, 0, 0), (73, .goto 4, 0, 0, 0, 0), (76, .iconst 0, 0, 0, 0, 0), (77, .ireturn, 0, 0, 0, 0), (78, .aload_n 0, 0, 0, 0, 0), (79, .getfield 10, 44, 7, 0, 2), (82, .getfield 159, 58, 5, 2, 2), (85, .iload_n 1, 0, 0, 0, 0), (86, .iaload, 0, 0, 0, 0), (87, .ireturn, 0, 0, 0, 0), (88, .aload_n 0, 0, 0, 0, 0), (89, .getfield 10, 44, 7, 0, 2), (92, .getfield 162, 59, 5, 3, 2), (95, .iload_n 1, 0, 0, 0, 0), (96, .iaload, 0, 0, 0, 0), (97, .ireturn, 0, 0, 0, 0), (98, .aload_n 0, 0, 0, 0, 0), (99, .getfield 10, 44, 7, 0, 2), (102, .getfield 165, 60, 5, 4, 2), (105, .iload_n 1, 0, 0, 0, 0), (106, .iaload, 0, 0, 0, 0), (107, .ireturn, 0, 0, 0, 0), (108, .aload_n 0, 0, 0, 0, 0), (109, .getfield 10, 44, 7, 0, 2), (112, .iload_n 1, 0, 0, 0, 0), (113, .invokevirtual 168, 57, 21, 0, 0), (116, .ireturn, 0, 0, 0, 0), (117, .aload_n 0, 0, 0, 0, 0), (118, .getfield 10, 44, 7, 0, 2), (121, .getfield 87, 45, 5, 0, 2), (124, .iload_n 1, 0, 0, 0, 0), (125, .invokevirtual 171, 58, 42, 0, 0), (128, .ireturn, 0, 0, 0, 0), (129, .aload_n 0, 0, 0, 0, 0), (130, .getfield 10, 44, 7, 0, 2), (133, .getfield 87, 45, 5, 0, 2), (136, .iload_n 1, 0, 0, 0, 0), (137, .invokevirtual 174, 59, 46, 0, 0), (140, .ireturn, 0, 0, 0, 0), (141, .aload_n 0, 0, 0, 0, 0), (142, .getfield 10, 44, 7, 0, 2), (145, .getfield 87, 45, 5, 0, 2), (148, .iload_n 1, 0, 0, 0, 0), (149, .invokevirtual 177, 60, 48, 0, 0), (152, .ireturn, 0, 0, 0, 0), (153, .sipush (-1012), 0, 0, 0, 0), (156, .ireturn, 0, 0, 0, 0)]
def e_X6_inherits : List Ent := [(0, .iload_n 1, 0, 0, 0, 0), (1, .invokestatic 128, 50, 99, 1, 0), (4, .ifCond .ne 7, 0, 0, 0, 0), (7, .sipush (-1011), 0, 0, 0, 0), (10, .ireturn, 0, 0, 0, 0), (11, .aload_n 0, 0, 0, 0, 0), (12, .getfield 10, 44, 7, 0, 2), (15, .iload_n 1, 0, 0, 0, 0), (16, .invokevirtual 180, 61, 26, 0, 0), (19, .invokestatic 106, 47, 101, 1, 0), (22, .ireturn, 0, 0, 0, 0)]
def e_X6_wouldMelt : List Ent := [(0, .iload_n 1, 0, 0, 0, 0), (1, .invokestatic 128, 50, 99, 1, 0), (4, .ifCond .ne 7, 0, 0, 0, 0), (7, .sipush (-1011), 0, 0, 0, 0), (10, .ireturn, 0, 0, 0, 0), (11, .aload_n 0, 0, 0, 0, 0), (12, .getfield 10, 44, 7, 0, 2), (15, .iload_n 1, 0, 0, 0, 0), (16, .invokevirtual 180, 61, 26, 0, 0), (19, .istore_n 2, 0, 0, 0, 0), (20, .iload_n 2, 0, 0, 0, 0), (21, .iconst (-1), 0, 0, 0, 0), (22, .if_icmp .ne 9, 0, 0, 0, 0), (25, .sipush (-1015), 0, 0, 0, 0), (28, .goto 15, 0, 0, 0, 0), (31, .aload_n 0, 0, 0, 0, 0), (32, .getfield 10, 44, 7, 0, 2), (35, .getfield 87, 45, 5, 0, 2), (38, .iload_n 1, 0, 0, 0, 0), (39, .iload_n 2, 0, 0, 0, 0), (40, .invokevirtual 183, 62, 45, 0, 0), (43, .ireturn, 0, 0, 0, 0)]
def e_X6_weight : List Ent := [(0, .iload_n 1, 0, 0, 0, 0), (1, .invokestatic 128, 50, 99, 1, 0), (4, .ifCond .eq 17, 0, 0, 0, 0), (7, .aload_n 0, 0, 0, 0, 0), (8, .getfield 10, 44, 7, 0, 2), (11, .getfield 87, 45, 5, 0, 2), (14, .iload_n 1, 0, 0, 0, 0), (15, .invokevirtual 186, 63, 43, 0, 0), (18, .goto 6, 0, 0, 0, 0), (21, .sipush (-1011), 0, 0, 0, 0), (24, .ireturn, 0, 0, 0, 0)]
def e_X6_weightAgain : List Ent := [(0, .iload_n 1, 0, 0, 0, 0), (1, .invokestatic 128, 50, 99, 1, 0), (4, .ifCond .eq 17, 0, 0, 0, 0), (7, .aload_n 0, 0, 0, 0, 0), (8, .getfield 10, 44, 7, 0, 2), (11, .getfield 87, 45, 5, 0, 2), (14, .iload_n 1, 0, 0, 0, 0), (15, .invokevirtual 189, 64, 44, 0, 0), (18, .goto 6, 0, 0, 0, 0), (21, .sipush (-1011), 0, 0, 0, 0), (24, .ireturn, 0, 0, 0, 0)]
def e_X6_ranked : List Ent := [(0, .iconst 0, 0, 0, 0, 0), (1, .istore_n 2, 0, 0, 0, 0), (2, .iload_n 2, 0, 0, 0, 0), (3, .bipush 6, 0, 0, 0, 0), (5, .if_icmp .ge 23, 0, 0, 0, 0), (8, .aload_n 0, 0, 0, 0, 0), (9, .getfield 10, 44, 7, 0, 2), (12, .iload_n 2, 0, 0, 0, 0), (13, .invokevirtual 192, 65, 31, 0, 0), (16, .iload_n 1, 0, 0, 0, 0), (17, .if_icmp .ne 5, 0, 0, 0, 0), (20, .iload_n 2, 0, 0, 0, 0), (21, .ireturn, 0, 0, 0, 0), (22, .iinc 2 1, 0, 0, 0, 0), (25, .goto (-23), 0, 0, 0, 0), (28, .sipush (-1011), 0, 0, 0, 0), (31, .ireturn, 0, 0, 0, 0)]
def e_X6_brightest : List Ent := [(0, .iconst 0, 0, 0, 0, 0), (1, .istore_n 2, 0, 0, 0, 0), (2, .iload_n 2, 0, 0, 0, 0), (3, .aload_n 0, 0, 0, 0, 0), (4, .getfield 10, 44, 7, 0, 2), (7, .getfield 87, 45, 5, 0, 2), (10, .getfield 195, 61, 6, 8, 0), (13, .if_icmp .ge 26, 0, 0, 0, 0), (16, .aload_n 0, 0, 0, 0, 0), (17, .getfield 10, 44, 7, 0, 2), (20, .getfield 87, 45, 5, 0, 2), (23, .iload_n 2, 0, 0, 0, 0), (24, .invokevirtual 199, 66, 52, 0, 0), (27, .iload_n 1, 0, 0, 0, 0), (28, .if_icmp .ne 5, 0, 0, 0, 0), (31, .iload_n 2, 0, 0, 0, 0), (32, .ireturn, 0, 0, 0, 0), (33, .iinc 2 1, 0, 0, 0, 0), (36, .goto (-34), 0, 0, 0, 0), (39, .sipush (-1011), 0, 0, 0, 0), (42, .ireturn, 0, 0, 0, 0)]
def e_X6_append : List Ent := [(0, .iload_n 1, 0, 0, 0, 0), (1, .bipush 32, 0, 0, 0, 0), (3, .bipush 126, 0, 0, 0, 0), (5, .invokestatic 202, 67, 98, 1, 0), (8, .ifCond .ne 7, 0, 0, 0, 0), (11, .sipush (-1012), 0, 0, 0, 0), (14, .ireturn, 0, 0, 0, 0), (15, .aload_n 0, 0, 0, 0, 0), (16, .getfield 54, 62, 7, 7, 2), (19, .invokevirtual 206, 68, 193, 0, 0), (22, .bipush 60, 0, 0, 0, 0), (24, .if_icmp .lt 7, 0, 0, 0, 0), (27, .sipush (-1013), 0, 0, 0, 0), (30, .ireturn, 0, 0, 0, 0), (31, .aload_n 0, 0, 0, 0, 0), (32, .getfield 54, 62, 7, 7, 2), (35, .iload_n 1, 0, 0, 0, 0), (36, .i2c, 0, 0, 0, 0), (37, .invokevirtual 209, 69, 189, 0, 0), (40, .pop, 0, 0, 0, 0), (41, .aload_n 0, 0, 0, 0, 0), (42, .getfield 54, 62, 7, 7, 2), (45, .invokevirtual 206, 68, 193, 0, 0), (48, .ireturn, 0, 0, 0, 0)]
def e_X6_run : List Ent := [(0, .aload_n 0, 0, 0, 0, 0), (1, .getfield 40, 63, 7, 5, 2), (4, .aload_n 0, 0, 0, 0, 0), (5, .getfield 54, 62, 7, 7, 2), (8, .invokevirtual 213, 70, 5, 0, 0), (11, .istore_n 1, 0, 0, 0, 0), (12, .aload_n 0, 0, 0, 0, 0), (13, .getfield 54, 62, 7, 7, 2), (16, .iconst 0, 0, 0, 0, 0), (17, .invokevirtual 217, 71, 192, 0, 0), (20, .iload_n 1, 0, 0, 0, 0), (21, .iconst (-1), 0, 0, 0, 0), (22, .if_icmp .eq 9, 0, 0, 0, 0), (25, .sipush (-2000), 0, 0, 0, 0), (28, .iload_n 1, 0, 0, 0, 0), (29, .isub, 0, 0, 0, 0), (30, .ireturn, 0, 0, 0, 0), (31, .aload_n 0, 0, 0, 0, 0), (32, .getfield 26, 43, 7, 3, 2), (35, .aload_n 0, 0, 0, 0, 0), (36, .getfield 10, 44, 7, 0, 2), (39, .invokevirtual 61, 40, 0, 0, 0), (42, .iconst 0, 0, 0, 0, 0), (43, .istore_n 2, 0, 0, 0, 0), (44, .iload_n 2, 0, 0, 0, 0), (45, .aload_n 0, 0, 0, 0, 0), (46, .getfield 40, 63, 7, 5, 2), (49, .getfield 221, 64, 2, 4, 0), (52, .if_icmp .ge 37, 0, 0, 0, 0), (55, .aload_n 0, 0, 0, 0, 0), (56, .iload_n 2, 0, 0, 0, 0), (57, .invokevirtual 222, 72, 97, 0, 0), (60, .istore_n 3, 0, 0, 0, 0), (61, .iload_n 3, 0, 0, 0, 0), (62, .ifCond .ge 21, 0, 0, 0, 0), (65, .aload_n 0, 0, 0, 0, 0), (66, .getfield 26, 43, 7, 3, 2), (69, .aload_n 0, 0, 0, 0, 0), (70, .getfield 10, 44, 7, 0, 2), (73, .invokevirtual 225, 73, 1, 0, 0), (76, .aload_n 0, 0, 0, 0, 0), (77, .iload_n 2, 0, 0, 0, 0), (78, .iload_n 3, 0, 0, 0, 0), (79, .invokevirtual 228, 74, 103, 0, 0), (82, .ireturn, 0, 0, 0, 0), (83, .iinc 2 1, 0, 0, 0, 0), (86, .goto (-42), 0, 0, 0, 0), (89, .aload_n 0, 0, 0, 0, 0), (90, .aload_n 0, 0, 0, 0, 0), (91, .getfield 40, 63, 7, 5, 2), (94, .getfield 221, 64, 2, 4, 0), (97, .invokevirtual 69, 42, 85, 0, 0), (100, .ireturn, 0, 0, 0, 0)]
def e_X6_tell : List Ent := [(0, .aload_n 0, 0, 0, 0, 0), (1, .iload_n 1, 0, 0, 0, 0), (2, .invokevirtual 83, 46, 100, 0, 0), (5, .ifCond .ne 7, 0, 0, 0, 0), (8, .sipush (-1011), 0, 0, 0, 0), (11, .ireturn, 0, 0, 0, 0), (12, .aload_n 0, 0, 0, 0, 0), (13, .getfield 10, 44, 7, 0, 2), (16, .getfield 87, 45, 5, 0, 2), (19, .astore_n 2, 0, 0, 0, 0), (20, .aload_n 0, 0, 0, 0, 0), (21, .getfield 58, 65, 7, 8, 2), (24, .iconst 0, 0, 0, 0, 0), (25, .invokevirtual 217, 71, 192, 0, 0), (28, .aload_n 0, 0, 0, 0, 0), (29, .getfield 58, 65, 7, 8, 2), (32, .iload_n 1, 0, 0, 0, 0), (33, .invokevirtual 231, 75, 190, 0, 0), (36, .bipush 64, 0, 0, 0, 0), (38, .invokevirtual 209, 69, 189, 0, 0), (41, .aload_n 2, 0, 0, 0, 0), (42, .getfield 91, 46, 6, 0, 2), (45, .iload_n 1, 0, 0, 0, 0), (46, .iaload, 0, 0, 0, 0), (47, .invokevirtual 231, 75, 190, 0, 0), (50, .pop, 0, 0, 0, 0), (51, .aload_n 0, 0, 0, 0, 0), (52, .getfield 58, 65, 7, 8, 2), (55, .bipush 58, 0, 0, 0, 0), (57, .invokevirtual 209, 69, 189, 0, 0), (60, .aload_n 2, 0, 0, 0, 0), (61, .getfield 97, 47, 6, 1, 2), (64, .iload_n 1, 0, 0, 0, 0), (65, .iaload, 0, 0, 0, 0), (66, .invokevirtual 231, 75, 190, 0, 0), (69, .pop, 0, 0, 0, 0), (70, .aload_n 0, 0, 0, 0, 0), (71, .getfield 58, 65, 7, 8, 2), (74, .bipush 47, 0, 0, 0, 0), (76, .invokevirtual 209, 69, 189, 0, 0), (79, .aload_n 2, 0, 0, 0, 0), (80, .getfield 100, 48, 6, 2, 2), (83, .iload_n 1, 0, 0, 0, 0), (84, .iaload, 0, 0, 0, 0), (85, .invokevirtual 231, 75, 190, 0, 0), (88, .pop, 0, 0, 0, 0), (89, .aload_n 2, 0, 0, 0, 0), (90, .getfield 103, 49, 6, 3, 2), (93, .iload_n 1, 0, 0, 0, 0), (94, .iaload, 0, 0, 0, 0), (95, .iconst (-1), 0, 0, 0, 0), (96, .if_icmp .eq 41, 0, 0, 0, 0), (99, .aload_n 0, 0, 0, 0, 0), (100, .getfield 58, 65, 7, 8, 2), (103, .bipush 62, 0, 0, 0, 0), (105, .invokevirtual 209, 69, 189, 0, 0), (108, .aload_n 2, 0, 0, 0, 0), (109, .getfield 103, 49, 6, 3, 2), (112, .iload_n 1, 0, 0, 0, 0), (113, .iaload, 0, 0, 0, 0), (114, .invokevirtual 231, 75, 190, 0, 0), (117, .pop, 0, 0, 0, 0), (118, .aload_n 0, 0, 0, 0, 0), (119, .getfield 58, 65, 7, 8, 2), (122, .bipush 61, 0, 0, 0, 0), (124, .invokevirtual 209, 69, 189, 0, 0), (127, .aload_n 2, 0, 0, 0, 0), (128, .getfield 109, 50, 6, 4, 2), (131, .iload_n 1, 0, 0, 0, 0), (132, .iaload, 0, 0, 0, 0), (133, .invokevirtual 231, 75, 190, 0, 0), (136, .pop, 0, 0, 0, 0), (137, .aload_n 2, 0, 0, 0, 0), (138, .getfield 115, 52, 6, 5, 2), (141, .iload_n 1, 0, 0, 0, 0), (142, .iaload, 0, 0, 0, 0), (143, .iconst (-1), 0, 0, 0, 0), (144, .if_icmp .eq 22, 0, 0, 0, 0), (147, .aload_n 0, 0, 0, 0, 0), (148, .getfield 58, 65, 7, 8, 2), (151, .bipush 33, 0, 0, 0, 0), (153, .invokevirtual 209, 69, 189, 0, 0), (156, .aload_n 2, 0, 0, 0, 0), (157, .getfield 112, 51, 6, 6, 2), (160, .iload_n 1, 0, 0, 0, 0), (161, .iaload, 0, 0, 0, 0), (162, .invokevirtual 231, 75, 190, 0, 0), (165, .pop, 0, 0, 0, 0), (166, .aload_n 0, 0, 0, 0, 0), (167, .getfield 58, 65, 7, 8, 2), (170, .invokevirtual 206, 68, 193, 0, 0), (173, .ireturn, 0, 0, 0, 0)]
def e_X6_tellHouses : List Ent := [(0, .aload_n 0, 0, 0, 0, 0), (1, .getfield 58, 65, 7, 8, 2), (4, .iconst 0, 0, 0, 0, 0), (5, .invokevirtual 217, 71, 192, 0, 0), (8, .iconst 0, 0, 0, 0, 0), (9, .istore_n 1, 0, 0, 0, 0), (10, .iload_n 1, 0, 0, 0, 0), (11, .bipush 6, 0, 0, 0, 0), (13, .if_icmp .ge 28, 0, 0, 0, 0), (16, .iload_n 1, 0, 0, 0, 0), (17, .ifCond .le 13, 0, 0, 0, 0), (20, .aload_n 0, 0, 0, 0, 0), (21, .getfield 58, 65, 7, 8, 2), (24, .bipush 32, 0, 0, 0, 0), (26, .invokevirtual 209, 69, 189, 0, 0), (29, .pop, 0, 0, 0, 0), (30, .aload_n 0, 0, 0, 0, 0), (31, .iload_n 1, 0, 0, 0, 0), (32, .invokevirtual 234, 76, 104, 0, 0), (35, .iinc 1 1, 0, 0, 0, 0), (38, .goto (-28), 0, 0, 0, 0), (41, .aload_n 0, 0, 0, 0, 0), (42, .getfield 58, 65, 7, 8, 2), (45, .invokevirtual 206, 68, 193, 0, 0), (48, .ireturn, 0, 0, 0, 0)]
def e_X6_character : List Ent := [(0, .iload_n 1, 0, 0, 0, 0), (1, .iconst 0, 0, 0, 0, 0), (2, .aload_n 0, 0, 0, 0, 0), (3, .getfield 58, 65, 7, 8, 2), (6, .invokevirtual 206, 68, 193, 0, 0), (9, .iconst 1, 0, 0, 0, 0), (10, .isub, 0, 0, 0, 0), (11, .invokestatic 202, 67, 98, 1, 0), (14, .ifCond .eq 14, 0, 0, 0, 0), (17, .aload_n 0, 0, 0, 0, 0), (18, .getfield 58, 65, 7, 8, 2), (21, .iload_n 1, 0, 0, 0, 0), (22, .invokevirtual 237, 77, 191, 0, 0), (25, .goto 6, 0, 0, 0, 0), (28, .sipush (-1011), 0, 0, 0, 0), (31, .ireturn, 0, 0, 0, 0)]
def e_X6_reason : List Ent := [(0, .iload_n 1, 0, 0, 0, 0), (1, .iconst 0, 0, 0, 0, 0), (2, .iconst 2, 0, 0, 0, 0), (3, .invokestatic 202, 67, 98, 1, 0), (6, .ifCond .ne 7, 0, 0, 0, 0), (9, .sipush (-1012), 0, 0, 0, 0), (12, .ireturn, 0, 0, 0, 0), (13, .iload_n 1, 0, 0, 0, 0), (14, .aload_n 0, 0, 0, 0, 0), (15, .getfield 33, 66, 7, 4, 2), (18, .getfield 241, 67, 3, 2, 0), (21, .if_icmp .lt 7, 0, 0, 0, 0), (24, .sipush (-1015), 0, 0, 0, 0), (27, .ireturn, 0, 0, 0, 0), (28, .iload_n 2, 0, 0, 0, 0), (29, .ifCond .eq 15, 0, 0, 0, 0), (32, .aload_n 0, 0, 0, 0, 0), (33, .getfield 33, 66, 7, 4, 2), (36, .getfield 242, 68, 3, 1, 2), (39, .iload_n 1, 0, 0, 0, 0), (40, .iaload, 0, 0, 0, 0), (41, .goto 12, 0, 0, 0, 0), (44, .aload_n 0, 0, 0, 0, 0), (45, .getfield 33, 66, 7, 4, 2), (48, .getfield 245, 69, 3, 0, 2), (51, .iload_n 1, 0, 0, 0, 0), (52, .iaload, 0, 0, 0, 0), (53, .ireturn, 0, 0, 0, 0)]
def e_X6_account : List Ent := [(0, .iload_n 1, 0, 0, 0, 0), (1, .tableswitch 195 0 13 #[71, 82, 90, 101, 112, 120, 128, 136, 144, 152, 160, 171, 179, 187], 0, 0, 0, 0), (72, .aload_n 0, 0, 0, 0, 0), (73, .getfield 10, 44, 7, 0, 2), (76, .getfield 87, 45, 5, 0, 2), (79, .getfield 195, 61, 6, 8, 0), (82, .ireturn, 0, 0, 0, 0), (83, .aload_n 0, 0, 0, 0, 0), (84, .getfield 10, 44, 7, 0, 2), (87, .invokevirtual 248, 78, 25, 0, 0), (90, .ireturn, 0, 0, 0, 0), (91, .aload_n 0, 0, 0, 0, 0), (92, .getfield 10, 44, 7, 0, 2), (95, .getfield 87, 45, 5, 0, 2), (98, .invokevirtual 251, 79, 49, 0, 0), (101, .ireturn, 0, 0, 0, 0), (102, .aload_n 0, 0, 0, 0, 0), (103, .getfield 10, 44, 7, 0, 2), (106, .getfield 87, 45, 5, 0, 2), (109, .invokevirtual 254, 80, 50, 0, 0), (112, .ireturn, 0, 0, 0, 0), (113, .aload_n 0, 0, 0, 0, 0), (114, .getfield 10, 44, 7, 0, 2), (117, .invokevirtual 257, 81, 23, 0, 0), (120, .ireturn, 0, 0, 0, 0), (121, .aload_n 0, 0, 0, 0, 0), (122, .getfield 10, 44, 7, 0, 2), (125, .getfield 260, 70, 5, 5, 0), (128, .ireturn, 0, 0, 0, 0), (129, .aload_n 0, 0, 0, 0, 0), (130, .getfield 10, 44, 7, 0, 2), (133, .getfield 263, 71, 5, 6, 0), (136, .ireturn, 0, 0, 0, 0), (137, .aload_n 0, 0, 0, 0, 0), (138, .getfield 10, 44, 7, 0, 2), (141, .getfield 266, 72, 5, 7, 0), (144, .ireturn, 0, 0, 0, 0), (145, .aload_n 0, 0, 0, 0, 0), (146, .getfield 10, 44, 7, 0, 2), (149, .getfield 269, 73, 5, 8, 0), (152, .ireturn, 0, 0, 0, 0), (153, .aload_n 0, 0, 0, 0, 0), (154, .getfield 10, 44, 7, 0, 2), (157, .getfield 272, 74, 5, 9, 0), (160, .ireturn, 0, 0, 0, 0), (161, .aload_n 0, 0, 0, 0, 0), (162, .getfield 10, 44, 7, 0, 2), (165, .getfield 87, 45, 5, 0, 2), (168, .invokevirtual 275, 82, 51, 0, 0), (171, .ireturn, 0, 0, 0, 0), (172, .aload_n 0, 0, 0, 0, 0), (173, .getfield 10, 44, 7, 0, 2), (176, .getfield 278, 75, 5, 10, 0), (179, .ireturn, 0, 0, 0, 0), (180, .aload_n 0, 0, 0, 0, 0), (181, .getfield 54, 62, 7, 7, 2), (184, .invokevirtual 206, 68, 193, 0, 0), (187, .ireturn, 0, 0, 0, 0), (188, .aload_n 0, 0, 0, 0, 0), (189, .getfield 26, 43, 7, 3, 2), (192, .getfield 281, 76, 1, 2, 0), (195, .ireturn, 0, 0, 0, 0), (196, .sipush (-1012), 0, 0, 0, 0), (199, .ireturn, 0, 0, 0, 0)]
def e_X6_isBalanced : List Ent := [(0, .aload_n 0, 0, 0, 0, 0), (1, .invokevirtual 282, 83, 105, 0, 0), (4, .ifCond .eq 21, 0, 0, 0, 0), (7, .aload_n 0, 0, 0, 0, 0), (8, .invokevirtual 286, 84, 106, 0, 0), (11, .ifCond .eq 14, 0, 0, 0, 0), (14, .aload_n 0, 0, 0, 0, 0), (15, .invokevirtual 289, 85, 107, 0, 0), (18, .ifCond .eq 7, 0, 0, 0, 0), (21, .iconst 1, 0, 0, 0, 0), (22, .goto 4, 0, 0, 0, 0), (25, .iconst 0, 0, 0, 0, 0), (26, .ireturn, 0, 0, 0, 0)]
def e_X6_undo : List Ent := [(0, .aload_n 0, 0, 0, 0, 0), (1, .getfield 26, 43, 7, 3, 2), (4, .aload_n 0, 0, 0, 0, 0), (5, .getfield 10, 44, 7, 0, 2), (8, .invokevirtual 292, 86, 3, 0, 0), (11, .ifCond .eq 13, 0, 0, 0, 0), (14, .aload_n 0, 0, 0, 0, 0), (15, .getfield 26, 43, 7, 3, 2), (18, .getfield 281, 76, 1, 2, 0), (21, .goto 6, 0, 0, 0, 0), (24, .sipush (-1015), 0, 0, 0, 0), (27, .ireturn, 0, 0, 0, 0)]
def e_X6_save : List Ent := [(0, .aload_n 0, 0, 0, 0, 0), (1, .getfield 16, 77, 7, 1, 2), (4, .aload_n 0, 0, 0, 0, 0), (5, .getfield 10, 44, 7, 0, 2), (8, .invokevirtual 296, 87, 19, 0, 0), (11, .aload_n 0, 0, 0, 0, 0), (12, .iconst 1, 0, 0, 0, 0), (13, .putfield 19, 78, 7, 2, 1), (16, .aload_n 0, 0, 0, 0, 0), (17, .getfield 10, 44, 7, 0, 2), (20, .getfield 87, 45, 5, 0, 2), (23, .getfield 195, 61, 6, 8, 0), (26, .ireturn, 0, 0, 0, 0)]
def e_X6_restore : List Ent := [(0, .aload_n 0, 0, 0, 0, 0), (1, .getfield 19, 78, 7, 2, 1), (4, .ifCond .ne 7, 0, 0, 0, 0), (7, .sipush (-1015), 0, 0, 0, 0), (10, .ireturn, 0, 0, 0, 0), (11, .aload_n 0, 0, 0, 0, 0), (12, .getfield 10, 44, 7, 0, 2), (15, .aload_n 0, 0, 0, 0, 0), (16, .getfield 16, 77, 7, 1, 2), (19, .invokevirtual 296, 87, 19, 0, 0), (22, .aload_n 0, 0, 0, 0, 0), (23, .getfield 26, 43, 7, 3, 2), (26, .invokevirtual 299, 88, 4, 0, 0), (29, .aload_n 0, 0, 0, 0, 0), (30, .getfield 10, 44, 7, 0, 2), (33, .getfield 87, 45, 5, 0, 2), (36, .getfield 195, 61, 6, 8, 0), (39, .ireturn, 0, 0, 0, 0)]
def e_X6_settle : List Ent := [(0, .iload_n 1, 0, 0, 0, 0), (1, .ifCond .lt 10, 0, 0, 0, 0), (4, .aload_n 0, 0, 0, 0, 0), (5, .getfield 26, 43, 7, 3, 2), (8, .invokevirtual 302, 89, 2, 0, 0), (11, .iload_n 1, 0, 0, 0, 0), (12, .ireturn, 0, 0, 0, 0)]
def e_X6_bringStub : List Ent := [(0, .iload_n 1, 0, 0, 0, 0), (1, .invokestatic 128, 50, 99, 1, 0), (4, .ifCond .ne 7, 0, 0, 0, 0), (7, .sipush (-1011), 0, 0, 0, 0), (10, .ireturn, 0, 0, 0, 0), (11, .iload_n 2, 0, 0, 0, 0), (12, .iconst 1, 0, 0, 0, 0), (13, .bipush 30, 0, 0, 0, 0), (15, .invokestatic 202, 67, 98, 1, 0), (18, .ifCond .eq 13, 0, 0, 0, 0), (21, .iload_n 3, 0, 0, 0, 0), (22, .iconst 1, 0, 0, 0, 0), (23, .bipush 9, 0, 0, 0, 0), (25, .invokestatic 202, 67, 98, 1, 0), (28, .ifCond .ne 7, 0, 0, 0, 0), (31, .sipush (-1012), 0, 0, 0, 0), (34, .ireturn, 0, 0, 0, 0), (35, .aload_n 0, 0, 0, 0, 0), (36, .getfield 10, 44, 7, 0, 2), (39, .getfield 155, 57, 5, 1, 2), (42, .iload_n 1, 0, 0, 0, 0), (43, .baload, 0, 0, 0, 0), (44, .ifCond .ne 10, 0, 0, 0, 0), (47, .aload_n 0, 0, 0, 0, 0), (48, .iconst 2, 0, 0, 0, 0), (49, .iload_n 1, 0, 0, 0, 0), (50, .invokevirtual 305, 90, 102, 0, 0), (53, .ireturn, 0, 0, 0, 0), (54, .aload_n 0, 0, 0, 0, 0), (55, .iload_n 1, 0, 0, 0, 0), (56, .iload_n 2, 0, 0, 0, 0), (57, .invokevirtual 308, 91, 88, 0, 0), (60, .ifCond .ne 7, 0, 0, 0, 0), (63, .sipush (-1014), 0, 0, 0, 0), (66, .ireturn, 0, 0, 0, 0), (67, .aload_n 0, 0, 0, 0, 0), (68, .getfield 10, 44, 7, 0, 2), (71, .dup, 0, 0, 0, 0), (72, .getfield 263, 71, 5, 6, 0), (75, .iload_n 2, 0, 0, 0, 0), (76, .iadd, 0, 0, 0, 0), (77, .putfield 263, 71, 5, 6, 0), (80, .aload_n 0, 0, 0, 0, 0), (81, .getfield 10, 44, 7, 0, 2), (84, .getfield 87, 45, 5, 0, 2), (87, .iload_n 1, 0, 0, 0, 0), (88, .iload_n 2, 0, 0, 0, 0), (89, .iload_n 3, 0, 0, 0, 0), (90, .invokevirtual 312, 92, 35, 0, 0), (93, .ireturn, 0, 0, 0, 0)]
def e_X6_mouldStub : List Ent := [(0, .iload_n 1, 0, 0, 0, 0), (1, .invokestatic 128, 50, 99, 1, 0), (4, .ifCond .ne 7, 0, 0, 0, 0), (7, .sipush (-1011), 0, 0, 0, 0), (10, .ireturn, 0, 0, 0, 0), (11, .iload_n 2, 0, 0, 0, 0), (12, .iconst 1, 0, 0, 0, 0), (13, .bipush 30, 0, 0, 0, 0), (15, .invokestatic 202, 67, 98, 1, 0), (18, .ifCond .eq 13, 0, 0, 0, 0), (21, .iload_n 3, 0, 0, 0, 0), (22, .iconst 1, 0, 0, 0, 0), (23, .bipush 9, 0, 0, 0, 0), (25, .invokestatic 202, 67, 98, 1, 0), (28, .ifCond .ne 7, 0, 0, 0, 0), (31, .sipush (-1012), 0, 0, 0, 0), (34, .ireturn, 0, 0, 0, 0), (35, .aload_n 0, 0, 0, 0, 0), (36, .getfield 10, 44, 7, 0, 2), (39, .getfield 155, 57, 5, 1, 2), (42, .iload_n 1, 0, 0, 0, 0), (43, .baload, 0, 0, 0, 0), (44, .ifCond .ne 10, 0, 0, 0, 0), (47, .aload_n 0, 0, 0, 0, 0), (48, .iconst 2, 0, 0, 0, 0), (49, .iload_n 1, 0, 0, 0, 0), (50, .invokevirtual 305, 90, 102, 0, 0), (53, .ireturn, 0, 0, 0, 0), (54, .aload_n 0, 0, 0, 0, 0), (55, .getfield 10, 44, 7, 0, 2), (58, .getfield 162, 59, 5, 3, 2), (61, .iload_n 1, 0, 0, 0, 0), (62, .iaload, 0, 0, 0, 0), (63, .iload_n 2, 0, 0, 0, 0), (64, .if_icmp .ge 19, 0, 0, 0, 0), (67, .aload_n 0, 0, 0, 0, 0), (68, .bipush 13, 0, 0, 0, 0), (70, .aload_n 0, 0, 0, 0, 0), (71, .getfield 10, 44, 7, 0, 2), (74, .getfield 162, 59, 5, 3, 2), (77, .iload_n 1, 0, 0, 0, 0), (78, .iaload, 0, 0, 0, 0), (79, .invokevirtual 305, 90, 102, 0, 0), (82, .ireturn, 0, 0, 0, 0), (83, .aload_n 0, 0, 0, 0, 0), (84, .iload_n 1, 0, 0, 0, 0), (85, .iload_n 2, 0, 0, 0, 0), (86, .invokevirtual 308, 91, 88, 0, 0), (89, .ifCond .ne 7, 0, 0, 0, 0), (92, .sipush (-1014), 0, 0, 0, 0), (95, .ireturn, 0, 0, 0, 0), (96, .aload_n 0, 0, 0, 0, 0), (97, .getfield 10, 44, 7, 0, 2), (100, .getfield 162, 59, 5, 3, 2), (103, .iload_n 1, 0, 0, 0, 0), (104, .dup2, 0, 0, 0, 0), (105, .iaload, 0, 0, 0, 0), (106, .iload_n 2, 0, 0, 0, 0), (107, .isub, 0, 0, 0, 0), (108, .iastore, 0, 0, 0, 0), (109, .aload_n 0, 0, 0, 0, 0), (110, .getfield 10, 44, 7, 0, 2), (113, .getfield 87, 45, 5, 0, 2), (116, .iload_n 1, 0, 0, 0, 0), (117, .iload_n 2, 0, 0, 0, 0), (118, .iload_n 3, 0, 0, 0, 0), (119, .invokevirtual 312, 92, 35, 0, 0), (122, .ireturn, 0, 0, 0, 0)]
def e_X6_hasRoomFor : List Ent := [(0, .aload_n 0, 0, 0, 0, 0), (1, .getfield 10, 44, 7, 0, 2), (4, .getfield 87, 45, 5, 0, 2), (7, .iload_n 1, 0, 0, 0, 0), (8, .invokevirtual 186, 63, 43, 0, 0), (11, .iload_n 2, 0, 0, 0, 0), (12, .iadd, 0, 0, 0, 0), (13, .iconst 1, 0, 0, 0, 0), (14, .iadd, 0, 0, 0, 0), (15, .istore_n 3, 0, 0, 0, 0), (16, .iload_n 3, 0, 0, 0, 0), (17, .bipush 60, 0, 0, 0, 0), (19, .if_icmp .le 12, 0, 0, 0, 0), (22, .aload_n 0, 0, 0, 0, 0), (23, .iconst 3, 0, 0, 0, 0), (24, .iload_n 3, 0, 0, 0, 0), (25, .invokevirtual 305, 90, 102, 0, 0), (28, .pop, 0, 0, 0, 0), (29, .iconst 0, 0, 0, 0, 0), (30, .ireturn, 0, 0, 0, 0), (31, .aload_n 0, 0, 0, 0, 0), (32, .getfield 10, 44, 7, 0, 2), (35, .getfield 87, 45, 5, 0, 2), (38, .getfield 195, 61, 6, 8, 0), (41, .bipush 12, 0, 0, 0, 0), (43, .if_icmp .lt 21, 0, 0, 0, 0), (46, .aload_n 0, 0, 0, 0, 0), (47, .iconst 1, 0, 0, 0, 0), (48, .aload_n 0, 0, 0, 0, 0), (49, .getfield 10, 44, 7, 0, 2), (52, .getfield 87, 45, 5, 0, 2), (55, .getfield 195, 61, 6, 8, 0), (58, .invokevirtual 305, 90, 102, 0, 0), (61, .pop, 0, 0, 0, 0), (62, .iconst 0, 0, 0, 0, 0), (63, .ireturn, 0, 0, 0, 0), (64, .iconst 1, 0, 0, 0, 0), (65, .ireturn, 0, 0, 0, 0)]
def e_X6_burnStub : List Ent := [(0, .aload_n 0, 0, 0, 0, 0), (1, .iload_n 1, 0, 0, 0, 0), (2, .invokevirtual 83, 46, 100, 0, 0), (5, .ifCond .ne 7, 0, 0, 0, 0), (8, .sipush (-1011), 0, 0, 0, 0), (11, .ireturn, 0, 0, 0, 0), (12, .iload_n 2, 0, 0, 0, 0), (13, .iconst 1, 0, 0, 0, 0), (14, .bipush 30, 0, 0, 0, 0), (16, .invokestatic 202, 67, 98, 1, 0), (19, .ifCond .ne 7, 0, 0, 0, 0), (22, .sipush (-1012), 0, 0, 0, 0), (25, .ireturn, 0, 0, 0, 0), (26, .aload_n 0, 0, 0, 0, 0), (27, .getfield 10, 44, 7, 0, 2), (30, .getfield 87, 45, 5, 0, 2), (33, .astore_n 3, 0, 0, 0, 0), (34, .aload_n 3, 0, 0, 0, 0), (35, .getfield 115, 52, 6, 5, 2), (38, .iload_n 1, 0, 0, 0, 0), (39, .iaload, 0, 0, 0, 0), (40, .iconst (-1), 0, 0, 0, 0), (41, .if_icmp .eq 28, 0, 0, 0, 0), (44, .aload_n 0, 0, 0, 0, 0), (45, .iconst 4, 0, 0, 0, 0), (46, .iload_n 1, 0, 0, 0, 0), (47, .invokevirtual 305, 90, 102, 0, 0), (50, .pop, 0, 0, 0, 0), (51, .aload_n 0, 0, 0, 0, 0), (52, .getfield 33, 66, 7, 4, 2), (55, .iconst 5, 0, 0, 0, 0), (56, .aload_n 3, 0, 0, 0, 0), (57, .getfield 112, 51, 6, 6, 2), (60, .iload_n 1, 0, 0, 0, 0), (61, .iaload, 0, 0, 0, 0), (62, .invokevirtual 315, 93, 13, 0, 0), (65, .sipush (-1014), 0, 0, 0, 0), (68, .ireturn, 0, 0, 0, 0), (69, .aload_n 3, 0, 0, 0, 0), (70, .getfield 97, 47, 6, 1, 2), (73, .iload_n 1, 0, 0, 0, 0), (74, .iaload, 0, 0, 0, 0), (75, .iload_n 2, 0, 0, 0, 0), (76, .if_icmp .ge 29, 0, 0, 0, 0), (79, .aload_n 0, 0, 0, 0, 0), (80, .iconst 4, 0, 0, 0, 0), (81, .iload_n 1, 0, 0, 0, 0), (82, .invokevirtual 305, 90, 102, 0, 0), (85, .pop, 0, 0, 0, 0), (86, .aload_n 0, 0, 0, 0, 0), (87, .getfield 33, 66, 7, 4, 2), (90, .bipush 6, 0, 0, 0, 0), (92, .aload_n 3, 0, 0, 0, 0), (93, .getfield 97, 47, 6, 1, 2), (96, .iload_n 1, 0, 0, 0, 0), (97, .iaload, 0, 0, 0, 0), (98, .invokevirtual 315, 93, 13, 0, 0), (101, .sipush (-1014), 0, 0, 0, 0), (104, .ireturn, 0, 0, 0, 0), (105, .aload_n 0, 0, 0, 0, 0), (106, .getfield 10, 44, 7, 0, 2), (109, .iload_n 1, 0, 0, 0, 0), (110, .iload_n 2, 0, 0, 0, 0), (111, .invokevirtual 319, 94, 20, 0, 0), (114, .ireturn, 0, 0, 0, 0)]
def e_X6_oweLight : List Ent := [(0, .aload_n 0, 0, 0, 0, 0), (1, .iload_n 1, 0, 0, 0, 0), (2, .invokevirtual 83, 46, 100, 0, 0), (5, .ifCond .eq 10, 0, 0, 0, 0), (8, .iload_n 2, 0, 0, 0, 0), (9, .invokestatic 128, 50, 99, 1, 0), (12, .ifCond .ne 7, 0, 0, 0, 0), (15, .sipush (-1011), 0, 0, 0, 0), (18, .ireturn, 0, 0, 0, 0), (19, .iload_n 3, 0, 0, 0, 0), (20, .iconst 1, 0, 0, 0, 0), (21, .bipush 90, 0, 0, 0, 0), (23, .invokestatic 202, 67, 98, 1, 0), (26, .ifCond .ne 7, 0, 0, 0, 0), (29, .sipush (-1012), 0, 0, 0, 0), (32, .ireturn, 0, 0, 0, 0), (33, .aload_n 0, 0, 0, 0, 0), (34, .getfield 10, 44, 7, 0, 2), (37, .getfield 87, 45, 5, 0, 2), (40, .astore 4, 0, 0, 0, 0), (42, .aload_n 0, 0, 0, 0, 0), (43, .getfield 10, 44, 7, 0, 2), (46, .getfield 155, 57, 5, 1, 2), (49, .iload_n 2, 0, 0, 0, 0), (50, .baload, 0, 0, 0, 0), (51, .ifCond .ne 10, 0, 0, 0, 0), (54, .aload_n 0, 0, 0, 0, 0), (55, .iconst 2, 0, 0, 0, 0), (56, .iload_n 2, 0, 0, 0, 0), (57, .invokevirtual 305, 90, 102, 0, 0), (60, .ireturn, 0, 0, 0, 0), (61, .aload 4, 0, 0, 0, 0), (63, .getfield 91, 46, 6, 0, 2), (66, .iload_n 1, 0, 0, 0, 0), (67, .iaload, 0, 0, 0, 0), (68, .iload_n 2, 0, 0, 0, 0), (69, .if_icmp .ne 11, 0, 0, 0, 0), (72, .aload_n 0, 0, 0, 0, 0), (73, .bipush 8, 0, 0, 0, 0), (75, .iload_n 2, 0, 0, 0, 0), (76, .invokevirtual 305, 90, 102, 0, 0), (79, .ireturn, 0, 0, 0, 0), (80, .aload 4, 0, 0, 0, 0), (82, .getfield 103, 49, 6, 3, 2), (85, .iload_n 1, 0, 0, 0, 0), (86, .iaload, 0, 0, 0, 0), (87, .iconst (-1), 0, 0, 0, 0), (88, .if_icmp .eq 17, 0, 0, 0, 0), (91, .aload_n 0, 0, 0, 0, 0), (92, .bipush 7, 0, 0, 0, 0), (94, .aload 4, 0, 0, 0, 0), (96, .getfield 103, 49, 6, 3, 2), (99, .iload_n 1, 0, 0, 0, 0), (100, .iaload, 0, 0, 0, 0), (101, .invokevirtual 305, 90, 102, 0, 0), (104, .ireturn, 0, 0, 0, 0), (105, .aload 4, 0, 0, 0, 0), (107, .getfield 103, 49, 6, 3, 2), (110, .iload_n 1, 0, 0, 0, 0), (111, .iload_n 2, 0, 0, 0, 0), (112, .iastore, 0, 0, 0, 0), (113, .aload 4, 0, 0, 0, 0), (115, .getfield 109, 50, 6, 4, 2), (118, .iload_n 1, 0, 0, 0, 0), (119, .iload_n 3, 0, 0, 0, 0), (120, .iastore, 0, 0, 0, 0), (121, .aload 4, 0, 0, 0, 0), (123, .iload_n 2, 0, 0, 0, 0), (124, .invokevirtual 322, 95, 47, 0, 0), (127, .ireturn, 0, 0, 0, 0)]
def e_X6_snuffStub : List Ent := [(0, .iload_n 1, 0, 0, 0, 0), (1, .invokestatic 128, 50, 99, 1, 0), (4, .ifCond .eq 11, 0, 0, 0, 0), (7, .aload_n 0, 0, 0, 0, 0), (8, .iload_n 2, 0, 0, 0, 0), (9, .invokevirtual 83, 46, 100, 0, 0), (12, .ifCond .ne 7, 0, 0, 0, 0), (15, .sipush (-1011), 0, 0, 0, 0), (18, .ireturn, 0, 0, 0, 0), (19, .iload_n 3, 0, 0, 0, 0), (20, .iconst 1, 0, 0, 0, 0), (21, .bipush 24, 0, 0, 0, 0), (23, .invokestatic 202, 67, 98, 1, 0), (26, .ifCond .ne 7, 0, 0, 0, 0), (29, .sipush (-1012), 0, 0, 0, 0), (32, .ireturn, 0, 0, 0, 0), (33, .aload_n 0, 0, 0, 0, 0), (34, .getfield 10, 44, 7, 0, 2), (37, .getfield 87, 45, 5, 0, 2), (40, .astore 4, 0, 0, 0, 0), (42, .aload_n 0, 0, 0, 0, 0), (43, .getfield 10, 44, 7, 0, 2), (46, .getfield 155, 57, 5, 1, 2), (49, .iload_n 1, 0, 0, 0, 0), (50, .baload, 0, 0, 0, 0), (51, .ifCond .ne 10, 0, 0, 0, 0), (54, .aload_n 0, 0, 0, 0, 0), (55, .iconst 2, 0, 0, 0, 0), (56, .iload_n 1, 0, 0, 0, 0), (57, .invokevirtual 305, 90, 102, 0, 0), (60, .ireturn, 0, 0, 0, 0), (61, .aload 4, 0, 0, 0, 0), (63, .getfield 91, 46, 6, 0, 2), (66, .iload_n 2, 0, 0, 0, 0), (67, .iaload, 0, 0, 0, 0), (68, .iload_n 1, 0, 0, 0, 0), (69, .if_icmp .ne 11, 0, 0, 0, 0), (72, .aload_n 0, 0, 0, 0, 0), (73, .bipush 8, 0, 0, 0, 0), (75, .iload_n 1, 0, 0, 0, 0), (76, .invokevirtual 305, 90, 102, 0, 0), (79, .ireturn, 0, 0, 0, 0), (80, .aload 4, 0, 0, 0, 0), (82, .getfield 115, 52, 6, 5, 2), (85, .iload_n 2, 0, 0, 0, 0), (86, .iaload, 0, 0, 0, 0), (87, .iconst (-1), 0, 0, 0, 0), (88, .if_icmp .eq 17, 0, 0, 0, 0), (91, .aload_n 0, 0, 0, 0, 0), (92, .bipush 9, 0, 0, 0, 0), (94, .aload 4, 0, 0, 0, 0), (96, .getfield 112, 51, 6, 6, 2), (99, .iload_n 2, 0, 0, 0, 0), (100, .iaload, 0, 0, 0, 0), (101, .invokevirtual 305, 90, 102, 0, 0), (104, .ireturn, 0, 0, 0, 0), (105, .aload 4, 0, 0, 0, 0), (107, .iload_n 1, 0, 0, 0, 0), (108, .invokevirtual 174, 59, 46, 0, 0), (111, .iconst 2, 0, 0, 0, 0), (112, .if_icmp .lt 15, 0, 0, 0, 0), (115, .aload_n 0, 0, 0, 0, 0), (116, .iconst 1, 0, 0, 0, 0), (117, .aload 4, 0, 0, 0, 0), (119, .iload_n 1, 0, 0, 0, 0), (120, .invokevirtual 174, 59, 46, 0, 0), (123, .invokevirtual 305, 90, 102, 0, 0), (126, .ireturn, 0, 0, 0, 0), (127, .aload 4, 0, 0, 0, 0), (129, .getfield 115, 52, 6, 5, 2), (132, .iload_n 2, 0, 0, 0, 0), (133, .iload_n 1, 0, 0, 0, 0), (134, .iastore, 0, 0, 0, 0), (135, .aload 4, 0, 0, 0, 0), (137, .getfield 112, 51, 6, 6, 2), (140, .iload_n 2, 0, 0, 0, 0), (141, .iload_n 3, 0, 0, 0, 0), (142, .iastore, 0, 0, 0, 0), (143, .aload 4, 0, 0, 0, 0), (145, .invokevirtual 251, 79, 49, 0, 0), (148, .ireturn, 0, 0, 0, 0)]
def e_X6_poolWax : List Ent := [(0, .aload_n 0, 0, 0, 0, 0), (1, .iload_n 1, 0, 0, 0, 0), (2, .invokevirtual 83, 46, 100, 0, 0), (5, .ifCond .ne 7, 0, 0, 0, 0), (8, .sipush (-1011), 0, 0, 0, 0), (11, .ireturn, 0, 0, 0, 0), (12, .iload_n 2, 0, 0, 0, 0), (13, .iconst 1, 0, 0, 0, 0), (14, .bipush 30, 0, 0, 0, 0), (16, .invokestatic 202, 67, 98, 1, 0), (19, .ifCond .ne 7, 0, 0, 0, 0), (22, .sipush (-1012), 0, 0, 0, 0), (25, .ireturn, 0, 0, 0, 0), (26, .aload_n 0, 0, 0, 0, 0), (27, .getfield 10, 44, 7, 0, 2), (30, .getfield 87, 45, 5, 0, 2), (33, .getfield 97, 47, 6, 1, 2), (36, .iload_n 1, 0, 0, 0, 0), (37, .iaload, 0, 0, 0, 0), (38, .iload_n 2, 0, 0, 0, 0), (39, .if_icmp .ge 22, 0, 0, 0, 0), (42, .aload_n 0, 0, 0, 0, 0), (43, .bipush 10, 0, 0, 0, 0), (45, .aload_n 0, 0, 0, 0, 0), (46, .getfield 10, 44, 7, 0, 2), (49, .getfield 87, 45, 5, 0, 2), (52, .getfield 97, 47, 6, 1, 2), (55, .iload_n 1, 0, 0, 0, 0), (56, .iaload, 0, 0, 0, 0), (57, .invokevirtual 305, 90, 102, 0, 0), (60, .ireturn, 0, 0, 0, 0), (61, .aload_n 0, 0, 0, 0, 0), (62, .getfield 10, 44, 7, 0, 2), (65, .getfield 165, 60, 5, 4, 2), (68, .aload_n 0, 0, 0, 0, 0), (69, .getfield 10, 44, 7, 0, 2), (72, .getfield 87, 45, 5, 0, 2), (75, .getfield 91, 46, 6, 0, 2), (78, .iload_n 1, 0, 0, 0, 0), (79, .iaload, 0, 0, 0, 0), (80, .dup2, 0, 0, 0, 0), (81, .iaload, 0, 0, 0, 0), (82, .iload_n 2, 0, 0, 0, 0), (83, .iadd, 0, 0, 0, 0), (84, .iastore, 0, 0, 0, 0), (85, .aload_n 0, 0, 0, 0, 0), (86, .getfield 10, 44, 7, 0, 2), (89, .dup, 0, 0, 0, 0), (90, .getfield 260, 70, 5, 5, 0), (93, .iload_n 2, 0, 0, 0, 0), (94, .iadd, 0, 0, 0, 0), (95, .putfield 260, 70, 5, 5, 0), (98, .aload_n 0, 0, 0, 0, 0), (99, .getfield 10, 44, 7, 0, 2), (102, .getfield 87, 45, 5, 0, 2), (105, .iload_n 1, 0, 0, 0, 0), (106, .iload_n 2, 0, 0, 0, 0), (107, .invokevirtual 325, 96, 37, 0, 0), (110, .aload_n 0, 0, 0, 0, 0), (111, .getfield 10, 44, 7, 0, 2), (114, .getfield 260, 70, 5, 5, 0), (117, .ireturn, 0, 0, 0, 0)]
def e_X6_sharePool : List Ent := [(0, .aload_n 0, 0, 0, 0, 0), (1, .getfield 10, 44, 7, 0, 2), (4, .getfield 260, 70, 5, 5, 0), (7, .ifCond .ne 20, 0, 0, 0, 0), (10, .aload_n 0, 0, 0, 0, 0), (11, .bipush 11, 0, 0, 0, 0), (13, .aload_n 0, 0, 0, 0, 0), (14, .getfield 10, 44, 7, 0, 2), (17, .getfield 87, 45, 5, 0, 2), (20, .getfield 195, 61, 6, 8, 0), (23, .invokevirtual 305, 90, 102, 0, 0), (26, .ireturn, 0, 0, 0, 0), (27, .aload_n 0, 0, 0, 0, 0), (28, .getfield 10, 44, 7, 0, 2), (31, .invokevirtual 328, 97, 22, 0, 0), (34, .ifCond .ne 17, 0, 0, 0, 0), (37, .aload_n 0, 0, 0, 0, 0), (38, .bipush 12, 0, 0, 0, 0), (40, .aload_n 0, 0, 0, 0, 0), (41, .getfield 10, 44, 7, 0, 2), (44, .getfield 260, 70, 5, 5, 0), (47, .invokevirtual 305, 90, 102, 0, 0), (50, .ireturn, 0, 0, 0, 0), (51, .aload_n 0, 0, 0, 0, 0), (52, .getfield 47, 54, 7, 6, 2), (55, .aload_n 0, 0, 0, 0, 0), (56, .getfield 10, 44, 7, 0, 2), (59, .invokevirtual 131, 51, 15, 0, 0), (62, .iconst 0, 0, 0, 0, 0), (63, .istore_n 1, 0, 0, 0, 0), (64, .iconst 0, 0, 0, 0, 0), (65, .istore_n 2, 0, 0, 0, 0), (66, .iload_n 2, 0, 0, 0, 0), (67, .bipush 6, 0, 0, 0, 0), (69, .if_icmp .ge 60, 0, 0, 0, 0), (72, .aload_n 0, 0, 0, 0, 0), (73, .getfield 10, 44, 7, 0, 2), (76, .getfield 162, 59, 5, 3, 2), (79, .iload_n 2, 0, 0, 0, 0), (80, .dup2, 0, 0, 0, 0), (81, .iaload, 0, 0, 0, 0), (82, .aload_n 0, 0, 0, 0, 0), (83, .getfield 47, 54, 7, 6, 2), (86, .getfield 134, 55, 4, 0, 2), (89, .iload_n 2, 0, 0, 0, 0), (90, .iaload, 0, 0, 0, 0), (91, .iadd, 0, 0, 0, 0), (92, .iastore, 0, 0, 0, 0), (93, .aload_n 0, 0, 0, 0, 0), (94, .getfield 10, 44, 7, 0, 2), (97, .getfield 165, 60, 5, 4, 2), (100, .iload_n 2, 0, 0, 0, 0), (101, .iconst 0, 0, 0, 0, 0), (102, .iastore, 0, 0, 0, 0), (103, .iload_n 1, 0, 0, 0, 0), (104, .aload_n 0, 0, 0, 0, 0), (105, .getfield 47, 54, 7, 6, 2), (108, .getfield 134, 55, 4, 0, 2), (111, .iload_n 2, 0, 0, 0, 0), (112, .iaload, 0, 0, 0, 0), (113, .ifCond .le 7, 0, 0, 0, 0), (116, .iconst 1, 0, 0, 0, 0), (117, .goto 4, 0, 0, 0, 0), (120, .iconst 0, 0, 0, 0, 0), (121, .iadd, 0, 0, 0, 0), (122, .istore_n 1, 0, 0, 0, 0), (123, .iinc 2 1, 0, 0, 0, 0), (126, .goto (-60), 0, 0, 0, 0), (129, .aload_n 0, 0, 0, 0, 0), (130, .getfield 10, 44, 7, 0, 2), (133, .iconst 0, 0, 0, 0, 0), (134, .putfield 260, 70, 5, 5, 0), (137, .iload_n 1, 0, 0, 0, 0), (138, .ireturn, 0, 0, 0, 0)]
def e_X6_tellHeir : List Ent := [(0, .iload_n 1, 0, 0, 0, 0), (1, .invokestatic 128, 50, 99, 1, 0), (4, .ifCond .eq 10, 0, 0, 0, 0), (7, .iload_n 2, 0, 0, 0, 0), (8, .invokestatic 128, 50, 99, 1, 0), (11, .ifCond .ne 7, 0, 0, 0, 0), (14, .sipush (-1011), 0, 0, 0, 0), (17, .ireturn, 0, 0, 0, 0), (18, .aload_n 0, 0, 0, 0, 0), (19, .getfield 10, 44, 7, 0, 2), (22, .getfield 159, 58, 5, 2, 2), (25, .iload_n 1, 0, 0, 0, 0), (26, .iaload, 0, 0, 0, 0), (27, .istore_n 3, 0, 0, 0, 0), (28, .iload_n 3, 0, 0, 0, 0), (29, .iload_n 2, 0, 0, 0, 0), (30, .if_icmp .ne 11, 0, 0, 0, 0), (33, .aload_n 0, 0, 0, 0, 0), (34, .bipush 14, 0, 0, 0, 0), (36, .iload_n 2, 0, 0, 0, 0), (37, .invokevirtual 305, 90, 102, 0, 0), (40, .ireturn, 0, 0, 0, 0), (41, .aload_n 0, 0, 0, 0, 0), (42, .getfield 10, 44, 7, 0, 2), (45, .getfield 159, 58, 5, 2, 2), (48, .iload_n 1, 0, 0, 0, 0), (49, .iload_n 2, 0, 0, 0, 0), (50, .iastore, 0, 0, 0, 0), (51, .iload_n 3, 0, 0, 0, 0), (52, .ireturn, 0, 0, 0, 0)]
def e_X6_endHouse : List Ent := [(0, .iload_n 1, 0, 0, 0, 0), (1, .invokestatic 128, 50, 99, 1, 0), (4, .ifCond .ne 7, 0, 0, 0, 0), (7, .sipush (-1011), 0, 0, 0, 0), (10, .ireturn, 0, 0, 0, 0), (11, .aload_n 0, 0, 0, 0, 0), (12, .getfield 10, 44, 7, 0, 2), (15, .getfield 155, 57, 5, 1, 2), (18, .iload_n 1, 0, 0, 0, 0), (19, .baload, 0, 0, 0, 0), (20, .ifCond .ne 10, 0, 0, 0, 0), (23, .aload_n 0, 0, 0, 0, 0), (24, .iconst 2, 0, 0, 0, 0), (25, .iload_n 1, 0, 0, 0, 0), (26, .invokevirtual 305, 90, 102, 0, 0), (29, .ireturn, 0, 0, 0, 0), (30, .aload_n 0, 0, 0, 0, 0), (31, .getfield 10, 44, 7, 0, 2), (34, .iload_n 1, 0, 0, 0, 0), (35, .invokevirtual 180, 61, 26, 0, 0), (38, .istore_n 2, 0, 0, 0, 0), (39, .iload_n 2, 0, 0, 0, 0), (40, .iconst (-1), 0, 0, 0, 0), (41, .if_icmp .ne 11, 0, 0, 0, 0), (44, .aload_n 0, 0, 0, 0, 0), (45, .bipush 15, 0, 0, 0, 0), (47, .iload_n 1, 0, 0, 0, 0), (48, .invokevirtual 305, 90, 102, 0, 0), (51, .ireturn, 0, 0, 0, 0), (52, .aload_n 0, 0, 0, 0, 0), (53, .getfield 10, 44, 7, 0, 2), (56, .iload_n 1, 0, 0, 0, 0), (57, .iload_n 2, 0, 0, 0, 0), (58, .invokevirtual 331, 98, 27, 0, 0), (61, .iload_n 2, 0, 0, 0, 0), (62, .ireturn, 0, 0, 0, 0)]
def e_X6_passHours : List Ent := [(0, .iload_n 1, 0, 0, 0, 0), (1, .iconst 1, 0, 0, 0, 0), (2, .bipush 24, 0, 0, 0, 0), (4, .invokestatic 202, 67, 98, 1, 0), (7, .ifCond .ne 7, 0, 0, 0, 0), (10, .sipush (-1012), 0, 0, 0, 0), (13, .ireturn, 0, 0, 0, 0), (14, .aload_n 0, 0, 0, 0, 0), (15, .getfield 10, 44, 7, 0, 2), (18, .dup, 0, 0, 0, 0), (19, .getfield 278, 75, 5, 10, 0), (22, .iload_n 1, 0, 0, 0, 0), (23, .iadd, 0, 0, 0, 0), (24, .putfield 278, 75, 5, 10, 0), (27, .aload_n 0, 0, 0, 0, 0), (28, .getfield 10, 44, 7, 0, 2), (31, .getfield 87, 45, 5, 0, 2), (34, .iload_n 1, 0, 0, 0, 0), (35, .invokevirtual 334, 99, 41, 0, 0), (38, .ireturn, 0, 0, 0, 0)]
def e_X6_carryOut : List Ent := [(0, .aload_n 0, 0, 0, 0, 0), (1, .getfield 40, 63, 7, 5, 2), (4, .getfield 337, 79, 2, 1, 2), (7, .iload_n 1, 0, 0, 0, 0), (8, .iaload, 0, 0, 0, 0), (9, .istore_n 2, 0, 0, 0, 0), (10, .aload_n 0, 0, 0, 0, 0), (11, .getfield 40, 63, 7, 5, 2), (14, .getfield 340, 80, 2, 2, 2), (17, .iload_n 1, 0, 0, 0, 0), (18, .iaload, 0, 0, 0, 0), (19, .istore_n 3, 0, 0, 0, 0), (20, .aload_n 0, 0, 0, 0, 0), (21, .getfield 40, 63, 7, 5, 2), (24, .getfield 343, 81, 2, 3, 2), (27, .iload_n 1, 0, 0, 0, 0), (28, .iaload, 0, 0, 0, 0), (29, .istore 4, 0, 0, 0, 0), (31, .aload_n 0, 0, 0, 0, 0), (32, .getfield 40, 63, 7, 5, 2), (35, .getfield 346, 82, 2, 0, 2), (38, .iload_n 1, 0, 0, 0, 0), (39, .iaload, 0, 0, 0, 0), (40, .tableswitch 178 98 119 #[113, 178, 145, 166, 178, 178, 159, 178, 178, 178, 178, 150, 178, 120, 138, 178, 178, 104, 172, 178, 178, 129], 0, 0, 0, 0), (144, .aload_n 0, 0, 0, 0, 0), (145, .iload_n 2, 0, 0, 0, 0), (146, .iload_n 3, 0, 0, 0, 0), (147, .iload 4, 0, 0, 0, 0), (149, .invokevirtual 65, 41, 86, 0, 0), (152, .ireturn, 0, 0, 0, 0), (153, .aload_n 0, 0, 0, 0, 0), (154, .iload_n 2, 0, 0, 0, 0), (155, .iload_n 3, 0, 0, 0, 0), (156, .invokevirtual 73, 43, 89, 0, 0), (159, .ireturn, 0, 0, 0, 0), (160, .aload_n 0, 0, 0, 0, 0), (161, .iload_n 2, 0, 0, 0, 0), (162, .iload_n 3, 0, 0, 0, 0), (163, .iload 4, 0, 0, 0, 0), (165, .invokevirtual 77, 44, 90, 0, 0), (168, .ireturn, 0, 0, 0, 0), (169, .aload_n 0, 0, 0, 0, 0), (170, .iload_n 2, 0, 0, 0, 0), (171, .iload_n 3, 0, 0, 0, 0), (172, .iload 4, 0, 0, 0, 0), (174, .invokevirtual 80, 45, 91, 0, 0), (177, .ireturn, 0, 0, 0, 0), (178, .aload_n 0, 0, 0, 0, 0), (179, .iload_n 2, 0, 0, 0, 0), (180, .iload_n 3, 0, 0, 0, 0), (181, .invokevirtual 121, 48, 92, 0, 0), (184, .ireturn, 0, 0, 0, 0), (185, .aload_n 0, 0, 0, 0, 0), (186, .invokevirtual 124, 49, 93, 0, 0), (189, .ireturn, 0, 0, 0, 0), (190, .aload_n 0, 0, 0, 0, 0), (191, .iload_n 2, 0, 0, 0, 0), (192, .iload_n 3, 0, 0, 0, 0), (193, .iload 4, 0, 0, 0, 0), (195, .invokevirtual 143, 53, 87, 0, 0), (198, .ireturn, 0, 0, 0, 0), (199, .aload_n 0, 0, 0, 0, 0), (200, .iload_n 2, 0, 0, 0, 0), (201, .iload_n 3, 0, 0, 0, 0), (202, .invokevirtual 146, 54, 94, 0, 0), (205, .ireturn, 0, 0, 0, 0), (206, .aload_n 0, 0, 0, 0, 0), (207, .iload_n 2, 0, 0, 0, 0), (208, .invokevirtual 149, 55, 95, 0, 0), (211, .ireturn, 0, 0, 0, 0), (212, .aload_n 0, 0, 0, 0, 0), (213, .iload_n 2, 0, 0, 0, 0), (214, .invokevirtual 152, 56, 96, 0, 0), (217, .ireturn, 0, 0, 0, 0), (218, .sipush (-1012), 0, 0, 0, 0), (221, .ireturn, 0, 0, 0, 0)]
def e_X6_isFrom : List Ent := [(0, .iload_n 0, 0, 0, 0, 0), (1, .iload_n 1, 0, 0, 0, 0), (2, .if_icmp .lt 12, 0, 0, 0, 0), (5, .iload_n 0, 0, 0, 0, 0), (6, .iload_n 2, 0, 0, 0, 0), (7, .if_icmp .gt 7, 0, 0, 0, 0), (10, .iconst 1, 0, 0, 0, 0), (11, .goto 4, 0, 0, 0, 0), (14, .iconst 0, 0, 0, 0, 0), (15, .ireturn, 0, 0, 0, 0)]
def e_X6_isHouse : List Ent := [(0, .iload_n 0, 0, 0, 0, 0), (1, .iconst 0, 0, 0, 0, 0), (2, .iconst 5, 0, 0, 0, 0), (3, .invokestatic 202, 67, 98, 1, 0), (6, .ireturn, 0, 0, 0, 0)]
def e_X6_isStub : List Ent := [(0, .iload_n 1, 0, 0, 0, 0), (1, .iconst 0, 0, 0, 0, 0), (2, .aload_n 0, 0, 0, 0, 0), (3, .getfield 10, 44, 7, 0, 2), (6, .getfield 87, 45, 5, 0, 2), (9, .getfield 195, 61, 6, 8, 0), (12, .iconst 1, 0, 0, 0, 0), (13, .isub, 0, 0, 0, 0), (14, .invokestatic 202, 67, 98, 1, 0), (17, .ireturn, 0, 0, 0, 0)]
def e_X6_orNothing : List Ent := [(0, .iload_n 0, 0, 0, 0, 0), (1, .iconst (-1), 0, 0, 0, 0), (2, .if_icmp .ne 9, 0, 0, 0, 0), (5, .sipush (-1015), 0, 0, 0, 0), (8, .goto 4, 0, 0, 0, 0), (11, .iload_n 0, 0, 0, 0, 0), (12, .ireturn, 0, 0, 0, 0)]
def e_X6_refuse : List Ent := [(0, .aload_n 0, 0, 0, 0, 0), (1, .getfield 33, 66, 7, 4, 2), (4, .invokevirtual 349, 100, 12, 0, 0), (7, .aload_n 0, 0, 0, 0, 0), (8, .getfield 33, 66, 7, 4, 2), (11, .iload_n 1, 0, 0, 0, 0), (12, .iload_n 2, 0, 0, 0, 0), (13, .invokevirtual 315, 93, 13, 0, 0), (16, .sipush (-1014), 0, 0, 0, 0), (19, .ireturn, 0, 0, 0, 0)]
def e_X6_refuseOrder : List Ent := [(0, .iload_n 2, 0, 0, 0, 0), (1, .sipush (-1014), 0, 0, 0, 0), (4, .if_icmp .eq 10, 0, 0, 0, 0), (7, .aload_n 0, 0, 0, 0, 0), (8, .getfield 33, 66, 7, 4, 2), (11, .invokevirtual 349, 100, 12, 0, 0), (14, .aload_n 0, 0, 0, 0, 0), (15, .getfield 33, 66, 7, 4, 2), (18, .bipush 16, 0, 0, 0, 0), (20, .iload_n 1, 0, 0, 0, 0), (21, .invokevirtual 352, 101, 14, 0, 0), (24, .sipush (-1014), 0, 0, 0, 0), (27, .ireturn, 0, 0, 0, 0)]
def e_X6_writeHouse : List Ent := [(0, .aload_n 0, 0, 0, 0, 0), (1, .getfield 10, 44, 7, 0, 2), (4, .getfield 155, 57, 5, 1, 2), (7, .iload_n 1, 0, 0, 0, 0), (8, .baload, 0, 0, 0, 0), (9, .ifCond .ne 14, 0, 0, 0, 0), (12, .aload_n 0, 0, 0, 0, 0), (13, .getfield 58, 65, 7, 8, 2), (16, .bipush 120, 0, 0, 0, 0), (18, .invokevirtual 209, 69, 189, 0, 0), (21, .pop, 0, 0, 0, 0), (22, .return_, 0, 0, 0, 0), (23, .aload_n 0, 0, 0, 0, 0), (24, .getfield 58, 65, 7, 8, 2), (27, .aload_n 0, 0, 0, 0, 0), (28, .getfield 10, 44, 7, 0, 2), (31, .getfield 162, 59, 5, 3, 2), (34, .iload_n 1, 0, 0, 0, 0), (35, .iaload, 0, 0, 0, 0), (36, .invokevirtual 231, 75, 190, 0, 0), (39, .pop, 0, 0, 0, 0), (40, .aload_n 0, 0, 0, 0, 0), (41, .getfield 10, 44, 7, 0, 2), (44, .getfield 165, 60, 5, 4, 2), (47, .iload_n 1, 0, 0, 0, 0), (48, .iaload, 0, 0, 0, 0), (49, .ifCond .le 25, 0, 0, 0, 0), (52, .aload_n 0, 0, 0, 0, 0), (53, .getfield 58, 65, 7, 8, 2), (56, .bipush 43, 0, 0, 0, 0), (58, .invokevirtual 209, 69, 189, 0, 0), (61, .aload_n 0, 0, 0, 0, 0), (62, .getfield 10, 44, 7, 0, 2), (65, .getfield 165, 60, 5, 4, 2), (68, .iload_n 1, 0, 0, 0, 0), (69, .iaload, 0, 0, 0, 0), (70, .invokevirtual 231, 75, 190, 0, 0), (73, .pop, 0, 0, 0, 0), (74, .return_, 0, 0, 0, 0)]
def e_X6_isWaxAccountedFor : List Ent := [(0, .aload_n 0, 0, 0, 0, 0), (1, .getfield 10, 44, 7, 0, 2), (4, .getfield 87, 45, 5, 0, 2), (7, .invokevirtual 254, 80, 50, 0, 0), (10, .aload_n 0, 0, 0, 0, 0), (11, .getfield 10, 44, 7, 0, 2), (14, .invokevirtual 257, 81, 23, 0, 0), (17, .iadd, 0, 0, 0, 0), (18, .aload_n 0, 0, 0, 0, 0), (19, .getfield 10, 44, 7, 0, 2), (22, .getfield 260, 70, 5, 5, 0), (25, .iadd, 0, 0, 0, 0), (26, .istore_n 1, 0, 0, 0, 0), (27, .aload_n 0, 0, 0, 0, 0), (28, .getfield 10, 44, 7, 0, 2), (31, .getfield 263, 71, 5, 6, 0), (34, .iload_n 1, 0, 0, 0, 0), (35, .aload_n 0, 0, 0, 0, 0), (36, .getfield 10, 44, 7, 0, 2), (39, .getfield 266, 72, 5, 7, 0), (42, .iadd, 0, 0, 0, 0), (43, .if_icmp .ne 24, 0, 0, 0, 0), (46, .aload_n 0, 0, 0, 0, 0), (47, .getfield 10, 44, 7, 0, 2), (50, .getfield 260, 70, 5, 5, 0), (53, .aload_n 0, 0, 0, 0, 0), (54, .getfield 10, 44, 7, 0, 2), (57, .invokevirtual 355, 102, 24, 0, 0), (60, .if_icmp .ne 7, 0, 0, 0, 0), (63, .iconst 1, 0, 0, 0, 0), (64, .goto 4, 0, 0, 0, 0), (67, .iconst 0, 0, 0, 0, 0), (68, .ireturn, 0, 0, 0, 0)]
def e_X6_areSharesSame : List Ent := [(0, .aload_n 0, 0, 0, 0, 0), (1, .getfield 47, 54, 7, 6, 2), (4, .aload_n 0, 0, 0, 0, 0), (5, .getfield 10, 44, 7, 0, 2), (8, .invokevirtual 131, 51, 15, 0, 0), (11, .aload_n 0, 0, 0, 0, 0), (12, .getfield 47, 54, 7, 6, 2), (15, .aload_n 0, 0, 0, 0, 0), (16, .getfield 10, 44, 7, 0, 2), (19, .invokevirtual 137, 52, 17, 0, 0), (22, .iconst 0, 0, 0, 0, 0), (23, .istore_n 1, 0, 0, 0, 0), (24, .iconst 0, 0, 0, 0, 0), (25, .istore_n 2, 0, 0, 0, 0), (26, .iload_n 2, 0, 0, 0, 0), (27, .bipush 6, 0, 0, 0, 0), (29, .if_icmp .ge 44, 0, 0, 0, 0), (32, .aload_n 0, 0, 0, 0, 0), (33, .getfield 47, 54, 7, 6, 2), (36, .getfield 134, 55, 4, 0, 2), (39, .iload_n 2, 0, 0, 0, 0), (40, .iaload, 0, 0, 0, 0), (41, .aload_n 0, 0, 0, 0, 0), (42, .getfield 47, 54, 7, 6, 2), (45, .getfield 140, 56, 4, 1, 2), (48, .iload_n 2, 0, 0, 0, 0), (49, .iaload, 0, 0, 0, 0), (50, .if_icmp .eq 5, 0, 0, 0, 0), (53, .iconst 0, 0, 0, 0, 0), (54, .ireturn, 0, 0, 0, 0), (55, .iload_n 1, 0, 0, 0, 0), (56, .aload_n 0, 0, 0, 0, 0), (57, .getfield 47, 54, 7, 6, 2), (60, .getfield 134, 55, 4, 0, 2), (63, .iload_n 2, 0, 0, 0, 0), (64, .iaload, 0, 0, 0, 0), (65, .iadd, 0, 0, 0, 0), (66, .istore_n 1, 0, 0, 0, 0), (67, .iinc 2 1, 0, 0, 0, 0), (70, .goto (-44), 0, 0, 0, 0), (73, .aload_n 0, 0, 0, 0, 0), (74, .getfield 10, 44, 7, 0, 2), (77, .invokevirtual 328, 97, 22, 0, 0), (80, .ifCond .eq 14, 0, 0, 0, 0), (83, .iload_n 1, 0, 0, 0, 0), (84, .aload_n 0, 0, 0, 0, 0), (85, .getfield 10, 44, 7, 0, 2), (88, .getfield 260, 70, 5, 5, 0), (91, .if_icmp .ne 7, 0, 0, 0, 0), (94, .iconst 1, 0, 0, 0, 0), (95, .goto 4, 0, 0, 0, 0), (98, .iconst 0, 0, 0, 0, 0), (99, .ireturn, 0, 0, 0, 0)]
def e_X6_areWeightsSame : List Ent := [(0, .iconst 0, 0, 0, 0, 0), (1, .istore_n 1, 0, 0, 0, 0), (2, .iload_n 1, 0, 0, 0, 0), (3, .bipush 6, 0, 0, 0, 0), (5, .if_icmp .ge 36, 0, 0, 0, 0), (8, .aload_n 0, 0, 0, 0, 0), (9, .getfield 10, 44, 7, 0, 2), (12, .getfield 87, 45, 5, 0, 2), (15, .iload_n 1, 0, 0, 0, 0), (16, .invokevirtual 186, 63, 43, 0, 0), (19, .aload_n 0, 0, 0, 0, 0), (20, .getfield 10, 44, 7, 0, 2), (23, .getfield 87, 45, 5, 0, 2), (26, .iload_n 1, 0, 0, 0, 0), (27, .invokevirtual 189, 64, 44, 0, 0), (30, .if_icmp .eq 5, 0, 0, 0, 0), (33, .iconst 0, 0, 0, 0, 0), (34, .ireturn, 0, 0, 0, 0), (35, .iinc 1 1, 0, 0, 0, 0), (38, .goto (-36), 0, 0, 0, 0), (41, .iconst 1, 0, 0, 0, 0), (42, .ireturn, 0, 0, 0, 0)]
def e_X7_fail : List Ent := [(0, .aload_n 0, 0, 0, 0, 0), (1, .iload_n 1, 0, 0, 0, 0), (2, .putfield 41, 83, 8, 0, 0), (5, .iload_n 1, 0, 0, 0, 0), (6, .ireturn, 0, 0, 0, 0)]
def e_X7_refuses : List Ent := [(0, .aload_n 0, 0, 0, 0, 0), (1, .iload_n 1, 0, 0, 0, 0), (2, .putfield 45, 84, 8, 2, 0), (5, .aload_n 0, 0, 0, 0, 0), (6, .iload_n 2, 0, 0, 0, 0), (7, .putfield 48, 85, 8, 3, 0), (10, .aload_n 0, 0, 0, 0, 0), (11, .iconst 0, 0, 0, 0, 0), (12, .putfield 51, 86, 8, 4, 0), (15, .aload_n 0, 0, 0, 0, 0), (16, .iconst 0, 0, 0, 0, 0), (17, .putfield 54, 87, 8, 6, 0), (20, .aload_n 0, 0, 0, 0, 0), (21, .sipush (-1014), 0, 0, 0, 0), (24, .invokevirtual 57, 103, 108, 0, 0), (27, .ireturn, 0, 0, 0, 0)]
def e_X7_isIn : List Ent := [(0, .iload_n 0, 0, 0, 0, 0), (1, .iload_n 1, 0, 0, 0, 0), (2, .if_icmp .lt 12, 0, 0, 0, 0), (5, .iload_n 0, 0, 0, 0, 0), (6, .iload_n 2, 0, 0, 0, 0), (7, .if_icmp .gt 7, 0, 0, 0, 0), (10, .iconst 1, 0, 0, 0, 0), (11, .goto 4, 0, 0, 0, 0), (14, .iconst 0, 0, 0, 0, 0), (15, .ireturn, 0, 0, 0, 0)]
def e_X7_lays : List Ent := [(0, .iconst 0, 0, 0, 0, 0), (1, .istore_n 2, 0, 0, 0, 0), (2, .iload_n 2, 0, 0, 0, 0), (3, .bipush 126, 0, 0, 0, 0), (5, .if_icmp .ge 15, 0, 0, 0, 0), (8, .aload_n 0, 0, 0, 0, 0), (9, .iload_n 2, 0, 0, 0, 0), (10, .aload_n 1, 0, 0, 0, 0), (11, .iload_n 2, 0, 0, 0, 0), (12, .iaload, 0, 0, 0, 0), (13, .iastore, 0, 0, 0, 0), (14, .iinc 2 1, 0, 0, 0, 0), (17, .goto (-15), 0, 0, 0, 0), (20, .return_, 0, 0, 0, 0)]
def e_X7_begins : List Ent := [(0, .aload_n 0, 0, 0, 0, 0), (1, .iconst 0, 0, 0, 0, 0), (2, .putfield 41, 83, 8, 0, 0), (5, .aload_n 0, 0, 0, 0, 0), (6, .getfield 13, 88, 8, 10, 2), (9, .aload_n 0, 0, 0, 0, 0), (10, .getfield 7, 89, 8, 9, 2), (13, .invokestatic 61, 104, 111, 1, 0), (16, .return_, 0, 0, 0, 0)]
def e_X7_ends : List Ent := [(0, .aload_n 0, 0, 0, 0, 0), (1, .getfield 41, 83, 8, 0, 0), (4, .ifCond .eq 19, 0, 0, 0, 0), (7, .aload_n 0, 0, 0, 0, 0), (8, .getfield 7, 89, 8, 9, 2), (11, .aload_n 0, 0, 0, 0, 0), (12, .getfield 13, 88, 8, 10, 2), (15, .invokestatic 61, 104, 111, 1, 0), (18, .aload_n 0, 0, 0, 0, 0), (19, .getfield 41, 83, 8, 0, 0), (22, .ireturn, 0, 0, 0, 0), (23, .aload_n 0, 0, 0, 0, 0), (24, .getfield 65, 90, 8, 1, 0), (27, .bipush 8, 0, 0, 0, 0), (29, .if_icmp .ne 43, 0, 0, 0, 0), (32, .iconst 0, 0, 0, 0, 0), (33, .istore_n 2, 0, 0, 0, 0), (34, .iload_n 2, 0, 0, 0, 0), (35, .sipush 882, 0, 0, 0, 0), (38, .if_icmp .ge 24, 0, 0, 0, 0), (41, .aload_n 0, 0, 0, 0, 0), (42, .getfield 22, 91, 8, 13, 2), (45, .iload_n 2, 0, 0, 0, 0), (46, .aload_n 0, 0, 0, 0, 0), (47, .getfield 22, 91, 8, 13, 2), (50, .iload_n 2, 0, 0, 0, 0), (51, .bipush 126, 0, 0, 0, 0), (53, .iadd, 0, 0, 0, 0), (54, .iaload, 0, 0, 0, 0), (55, .iastore, 0, 0, 0, 0), (56, .iinc 2 1, 0, 0, 0, 0), (59, .goto (-25), 0, 0, 0, 0), (62, .aload_n 0, 0, 0, 0, 0), (63, .dup, 0, 0, 0, 0), (64, .getfield 65, 90, 8, 1, 0), (67, .iconst 1, 0, 0, 0, 0), (68, .isub, 0, 0, 0, 0), (69, .putfield 65, 90, 8, 1, 0), (72, .iconst 0, 0, 0, 0, 0), (73, .istore_n 2, 0, 0, 0, 0), (74, .iload_n 2, 0, 0, 0, 0), (75, .bipush 126, 0, 0, 0, 0), (77, .if_icmp .ge 29, 0, 0, 0, 0), (80, .aload_n 0, 0, 0, 0, 0), (81, .getfield 22, 91, 8, 13, 2), (84, .aload_n 0, 0, 0, 0, 0), (85, .getfield 65, 90, 8, 1, 0), (88, .bipush 126, 0, 0, 0, 0), (90, .imul, 0, 0, 0, 0), (91, .iload_n 2, 0, 0, 0, 0), (92, .iadd, 0, 0, 0, 0), (93, .aload_n 0, 0, 0, 0, 0), (94, .getfield 13, 88, 8, 10, 2), (97, .iload_n 2, 0, 0, 0, 0), (98, .iaload, 0, 0, 0, 0), (99, .iastore, 0, 0, 0, 0), (100, .iinc 2 1, 0, 0, 0, 0), (103, .goto (-29), 0, 0, 0, 0), (106, .aload_n 0, 0, 0, 0, 0), (107, .dup, 0, 0, 0, 0), (108, .getfield 65, 90, 8, 1, 0), (111, .iconst 1, 0, 0, 0, 0), (112, .iadd, 0, 0, 0, 0), (113, .putfield 65, 90, 8, 1, 0), (116, .iload_n 1, 0, 0, 0, 0), (117, .ireturn, 0, 0, 0, 0)]
def e_X7_at : List Ent := [(0, .bipush 6, 0, 0, 0, 0), (2, .iconst 4, 0, 0, 0, 0), (3, .iload_n 0, 0, 0, 0, 0), (4, .imul, 0, 0, 0, 0), (5, .iadd, 0, 0, 0, 0), (6, .iload_n 1, 0, 0, 0, 0), (7, .iadd, 0, 0, 0, 0), (8, .ireturn, 0, 0, 0, 0)]
def e_X7_in : List Ent := [(0, .bipush 30, 0, 0, 0, 0), (2, .bipush 8, 0, 0, 0, 0), (4, .iload_n 0, 0, 0, 0, 0), (5, .imul, 0, 0, 0, 0), (6, .iadd, 0, 0, 0, 0), (7, .iload_n 1, 0, 0, 0, 0), (8, .iadd, 0, 0, 0, 0), (9, .ireturn, 0, 0, 0, 0)]
def e_X7_isHouse : List Ent := [(0, .iload_n 0, 0, 0, 0, 0), (1, .iconst 0, 0, 0, 0, 0), (2, .iconst 5, 0, 0, 0, 0), (3, .invokestatic 68, 105, 110, 1, 0), (6, .ireturn, 0, 0, 0, 0)]
def e_X7_isStub : List Ent := [(0, .iload_n 1, 0, 0, 0, 0), (1, .iconst 0, 0, 0, 0, 0), (2, .aload_n 0, 0, 0, 0, 0), (3, .getfield 7, 89, 8, 9, 2), (6, .iconst 0, 0, 0, 0, 0), (7, .iaload, 0, 0, 0, 0), (8, .iconst 1, 0, 0, 0, 0), (9, .isub, 0, 0, 0, 0), (10, .invokestatic 68, 105, 110, 1, 0), (13, .ireturn, 0, 0, 0, 0)]
def e_X7_isOpen : List Ent := [(0, .aload_n 0, 0, 0, 0, 0), (1, .getfield 7, 89, 8, 9, 2), (4, .iload_n 1, 0, 0, 0, 0), (5, .iconst 0, 0, 0, 0, 0), (6, .invokestatic 37, 106, 114, 1, 0), (9, .iaload, 0, 0, 0, 0), (10, .iconst 1, 0, 0, 0, 0), (11, .if_icmp .ne 7, 0, 0, 0, 0), (14, .iconst 1, 0, 0, 0, 0), (15, .goto 4, 0, 0, 0, 0), (18, .iconst 0, 0, 0, 0, 0), (19, .ireturn, 0, 0, 0, 0)]
def e_X7_opens : List Ent := [(0, .iconst 0, 0, 0, 0, 0), (1, .istore_n 1, 0, 0, 0, 0), (2, .iconst 0, 0, 0, 0, 0), (3, .istore_n 2, 0, 0, 0, 0), (4, .iload_n 2, 0, 0, 0, 0), (5, .bipush 6, 0, 0, 0, 0), (7, .if_icmp .ge 22, 0, 0, 0, 0), (10, .iload_n 1, 0, 0, 0, 0), (11, .aload_n 0, 0, 0, 0, 0), (12, .getfield 7, 89, 8, 9, 2), (15, .iload_n 2, 0, 0, 0, 0), (16, .iconst 0, 0, 0, 0, 0), (17, .invokestatic 37, 106, 114, 1, 0), (20, .iaload, 0, 0, 0, 0), (21, .iadd, 0, 0, 0, 0), (22, .istore_n 1, 0, 0, 0, 0), (23, .iinc 2 1, 0, 0, 0, 0), (26, .goto (-22), 0, 0, 0, 0), (29, .iload_n 1, 0, 0, 0, 0), (30, .ireturn, 0, 0, 0, 0)]
def e_X7_tray : List Ent := [(0, .iconst 0, 0, 0, 0, 0), (1, .istore_n 2, 0, 0, 0, 0), (2, .iconst 0, 0, 0, 0, 0), (3, .istore_n 3, 0, 0, 0, 0), (4, .iload_n 3, 0, 0, 0, 0), (5, .aload_n 0, 0, 0, 0, 0), (6, .getfield 7, 89, 8, 9, 2), (9, .iconst 0, 0, 0, 0, 0), (10, .iaload, 0, 0, 0, 0), (11, .if_icmp .ge 42, 0, 0, 0, 0), (14, .iload_n 2, 0, 0, 0, 0), (15, .aload_n 0, 0, 0, 0, 0), (16, .getfield 7, 89, 8, 9, 2), (19, .iload_n 3, 0, 0, 0, 0), (20, .iconst 0, 0, 0, 0, 0), (21, .invokestatic 72, 107, 115, 1, 0), (24, .iaload, 0, 0, 0, 0), (25, .iload_n 1, 0, 0, 0, 0), (26, .if_icmp .ne 18, 0, 0, 0, 0), (29, .aload_n 0, 0, 0, 0, 0), (30, .getfield 7, 89, 8, 9, 2), (33, .iload_n 3, 0, 0, 0, 0), (34, .iconst 1, 0, 0, 0, 0), (35, .invokestatic 72, 107, 115, 1, 0), (38, .iaload, 0, 0, 0, 0), (39, .iconst 1, 0, 0, 0, 0), (40, .iadd, 0, 0, 0, 0), (41, .goto 4, 0, 0, 0, 0), (44, .iconst 0, 0, 0, 0, 0), (45, .iadd, 0, 0, 0, 0), (46, .istore_n 2, 0, 0, 0, 0), (47, .iinc 3 1, 0, 0, 0, 0), (50, .goto (-46), 0, 0, 0, 0), (53, .iload_n 2, 0, 0, 0, 0), (54, .ireturn, 0, 0, 0, 0)]
def e_X7_goes : List Ent := [(0, .iload_n 1, 0, 0, 0, 0), (1, .iconst 0, 0, 0, 0, 0), (2, .invokestatic 72, 107, 115, 1, 0), (5, .istore_n 2, 0, 0, 0, 0), (6, .iload_n 2, 0, 0, 0, 0), (7, .bipush 126, 0, 0, 0, 0), (9, .if_icmp .ge 37, 0, 0, 0, 0), (12, .aload_n 0, 0, 0, 0, 0), (13, .getfield 7, 89, 8, 9, 2), (16, .iload_n 2, 0, 0, 0, 0), (17, .iload_n 2, 0, 0, 0, 0), (18, .bipush 8, 0, 0, 0, 0), (20, .iadd, 0, 0, 0, 0), (21, .bipush 126, 0, 0, 0, 0), (23, .if_icmp .ge 15, 0, 0, 0, 0), (26, .aload_n 0, 0, 0, 0, 0), (27, .getfield 7, 89, 8, 9, 2), (30, .iload_n 2, 0, 0, 0, 0), (31, .bipush 8, 0, 0, 0, 0), (33, .iadd, 0, 0, 0, 0), (34, .iaload, 0, 0, 0, 0), (35, .goto 4, 0, 0, 0, 0), (38, .iconst 0, 0, 0, 0, 0), (39, .iastore, 0, 0, 0, 0), (40, .iinc 2 1, 0, 0, 0, 0), (43, .goto (-37), 0, 0, 0, 0), (46, .aload_n 0, 0, 0, 0, 0), (47, .getfield 7, 89, 8, 9, 2), (50, .iconst 0, 0, 0, 0, 0), (51, .dup2, 0, 0, 0, 0), (52, .iaload, 0, 0, 0, 0), (53, .iconst 1, 0, 0, 0, 0), (54, .isub, 0, 0, 0, 0), (55, .iastore, 0, 0, 0, 0), (56, .return_, 0, 0, 0, 0)]
def e_X7_owed : List Ent := [(0, .iconst 0, 0, 0, 0, 0), (1, .istore_n 2, 0, 0, 0, 0), (2, .iconst 0, 0, 0, 0, 0), (3, .istore_n 3, 0, 0, 0, 0), (4, .iload_n 3, 0, 0, 0, 0), (5, .aload_n 0, 0, 0, 0, 0), (6, .getfield 7, 89, 8, 9, 2), (9, .iconst 0, 0, 0, 0, 0), (10, .iaload, 0, 0, 0, 0), (11, .if_icmp .ge 42, 0, 0, 0, 0), (14, .iload_n 2, 0, 0, 0, 0), (15, .aload_n 0, 0, 0, 0, 0), (16, .getfield 7, 89, 8, 9, 2), (19, .iload_n 3, 0, 0, 0, 0), (20, .iconst 3, 0, 0, 0, 0), (21, .invokestatic 72, 107, 115, 1, 0), (24, .iaload, 0, 0, 0, 0), (25, .iload_n 1, 0, 0, 0, 0), (26, .iconst 1, 0, 0, 0, 0), (27, .iadd, 0, 0, 0, 0), (28, .if_icmp .ne 16, 0, 0, 0, 0), (31, .aload_n 0, 0, 0, 0, 0), (32, .getfield 7, 89, 8, 9, 2), (35, .iload_n 3, 0, 0, 0, 0), (36, .iconst 4, 0, 0, 0, 0), (37, .invokestatic 72, 107, 115, 1, 0), (40, .iaload, 0, 0, 0, 0), (41, .goto 4, 0, 0, 0, 0), (44, .iconst 0, 0, 0, 0, 0), (45, .iadd, 0, 0, 0, 0), (46, .istore_n 2, 0, 0, 0, 0), (47, .iinc 3 1, 0, 0, 0, 0), (50, .goto (-46), 0, 0, 0, 0), (53, .iload_n 2, 0, 0, 0, 0), (54, .ireturn, 0, 0, 0, 0)]
def e_X7_writs : List Ent := [(0, .iconst 0, 0, 0, 0, 0), (1, .istore_n 2, 0, 0, 0, 0), (2, .iconst 0, 0, 0, 0, 0), (3, .istore_n 3, 0, 0, 0, 0), (4, .iload_n 3, 0, 0, 0, 0), (5, .aload_n 0, 0, 0, 0, 0), (6, .getfield 7, 89, 8, 9, 2), (9, .iconst 0, 0, 0, 0, 0), (10, .iaload, 0, 0, 0, 0), (11, .if_icmp .ge 60, 0, 0, 0, 0), (14, .iload_n 2, 0, 0, 0, 0), (15, .iload_n 1, 0, 0, 0, 0), (16, .ifCond .ge 25, 0, 0, 0, 0), (19, .aload_n 0, 0, 0, 0, 0), (20, .getfield 7, 89, 8, 9, 2), (23, .iload_n 3, 0, 0, 0, 0), (24, .bipush 6, 0, 0, 0, 0), (26, .invokestatic 72, 107, 115, 1, 0), (29, .iaload, 0, 0, 0, 0), (30, .ifCond .le 7, 0, 0, 0, 0), (33, .iconst 1, 0, 0, 0, 0), (34, .goto 29, 0, 0, 0, 0), (37, .iconst 0, 0, 0, 0, 0), (38, .goto 25, 0, 0, 0, 0), (41, .aload_n 0, 0, 0, 0, 0), (42, .getfield 7, 89, 8, 9, 2), (45, .iload_n 3, 0, 0, 0, 0), (46, .bipush 6, 0, 0, 0, 0), (48, .invokestatic 72, 107, 115, 1, 0), (51, .iaload, 0, 0, 0, 0), (52, .iload_n 1, 0, 0, 0, 0), (53, .iconst 1, 0, 0, 0, 0), (54, .iadd, 0, 0, 0, 0), (55, .if_icmp .ne 7, 0, 0, 0, 0), (58, .iconst 1, 0, 0, 0, 0), (59, .goto 4, 0, 0, 0, 0), (62, .iconst 0, 0, 0, 0, 0), (63, .iadd, 0, 0, 0, 0), (64, .istore_n 2, 0, 0, 0, 0), (65, .iinc 3 1, 0, 0, 0, 0), (68, .goto (-64), 0, 0, 0, 0), (71, .iload_n 2, 0, 0, 0, 0), (72, .ireturn, 0, 0, 0, 0)]
def e_X7_isMade : List Ent := [(0, .iload_n 0, 0, 0, 0, 0), (1, .iconst 1, 0, 0, 0, 0), (2, .bipush 30, 0, 0, 0, 0), (4, .invokestatic 68, 105, 110, 1, 0), (7, .ifCond .eq 17, 0, 0, 0, 0), (10, .iload_n 1, 0, 0, 0, 0), (11, .iconst 1, 0, 0, 0, 0), (12, .bipush 9, 0, 0, 0, 0), (14, .invokestatic 68, 105, 110, 1, 0), (17, .ifCond .eq 7, 0, 0, 0, 0), (20, .iconst 1, 0, 0, 0, 0), (21, .goto 4, 0, 0, 0, 0), (24, .iconst 0, 0, 0, 0, 0), (25, .ireturn, 0, 0, 0, 0)]
def e_X7_makes : List Ent := [(0, .aload_n 0, 0, 0, 0, 0), (1, .getfield 7, 89, 8, 9, 2), (4, .iconst 0, 0, 0, 0, 0), (5, .iaload, 0, 0, 0, 0), (6, .istore 4, 0, 0, 0, 0), (8, .aload_n 0, 0, 0, 0, 0), (9, .iload_n 1, 0, 0, 0, 0), (10, .invokevirtual 75, 108, 120, 0, 0), (13, .iload_n 2, 0, 0, 0, 0), (14, .iadd, 0, 0, 0, 0), (15, .iconst 1, 0, 0, 0, 0), (16, .iadd, 0, 0, 0, 0), (17, .istore 5, 0, 0, 0, 0), (19, .iload 5, 0, 0, 0, 0), (21, .bipush 60, 0, 0, 0, 0), (23, .if_icmp .le 11, 0, 0, 0, 0), (26, .aload_n 0, 0, 0, 0, 0), (27, .iconst 3, 0, 0, 0, 0), (28, .iload 5, 0, 0, 0, 0), (30, .invokevirtual 78, 109, 109, 0, 0), (33, .ireturn, 0, 0, 0, 0), (34, .iload 4, 0, 0, 0, 0), (36, .bipush 12, 0, 0, 0, 0), (38, .if_icmp .ne 11, 0, 0, 0, 0), (41, .aload_n 0, 0, 0, 0, 0), (42, .iconst 1, 0, 0, 0, 0), (43, .bipush 12, 0, 0, 0, 0), (45, .invokevirtual 78, 109, 109, 0, 0), (48, .ireturn, 0, 0, 0, 0), (49, .iconst 0, 0, 0, 0, 0), (50, .istore 6, 0, 0, 0, 0), (52, .iload 6, 0, 0, 0, 0), (54, .bipush 8, 0, 0, 0, 0), (56, .if_icmp .ge 22, 0, 0, 0, 0), (59, .aload_n 0, 0, 0, 0, 0), (60, .getfield 7, 89, 8, 9, 2), (63, .iload 4, 0, 0, 0, 0), (65, .iload 6, 0, 0, 0, 0), (67, .invokestatic 72, 107, 115, 1, 0), (70, .iconst 0, 0, 0, 0, 0), (71, .iastore, 0, 0, 0, 0), (72, .iinc 6 1, 0, 0, 0, 0), (75, .goto (-23), 0, 0, 0, 0), (78, .aload_n 0, 0, 0, 0, 0), (79, .getfield 7, 89, 8, 9, 2), (82, .iload 4, 0, 0, 0, 0), (84, .iconst 0, 0, 0, 0, 0), (85, .invokestatic 72, 107, 115, 1, 0), (88, .iload_n 1, 0, 0, 0, 0), (89, .iastore, 0, 0, 0, 0), (90, .aload_n 0, 0, 0, 0, 0), (91, .getfield 7, 89, 8, 9, 2), (94, .iload 4, 0, 0, 0, 0), (96, .iconst 1, 0, 0, 0, 0), (97, .invokestatic 72, 107, 115, 1, 0), (100, .iload_n 2, 0, 0, 0, 0), (101, .iastore, 0, 0, 0, 0), (102, .aload_n 0, 0, 0, 0, 0), (103, .getfield 7, 89, 8, 9, 2), (106, .iload 4, 0, 0, 0, 0), (108, .iconst 2, 0, 0, 0, 0), (109, .invokestatic 72, 107, 115, 1, 0), (112, .iload_n 3, 0, 0, 0, 0), (113, .iastore, 0, 0, 0, 0), (114, .aload_n 0, 0, 0, 0, 0), (115, .getfield 7, 89, 8, 9, 2), (118, .iconst 0, 0, 0, 0, 0), (119, .dup2, 0, 0, 0, 0), (120, .iaload, 0, 0, 0, 0), (121, .iconst 1, 0, 0, 0, 0), (122, .iadd, 0, 0, 0, 0), (123, .iastore, 0, 0, 0, 0), (124, .iload 4, 0, 0, 0, 0), (126, .ireturn, 0, 0, 0, 0)]
def e_X7_comes : List Ent := [(0, .iload_n 1, 0, 0, 0, 0), (1, .invokestatic 81, 110, 116, 1, 0), (4, .ifCond .ne 11, 0, 0, 0, 0), (7, .aload_n 0, 0, 0, 0, 0), (8, .sipush (-1011), 0, 0, 0, 0), (11, .invokevirtual 57, 103, 108, 0, 0), (14, .ireturn, 0, 0, 0, 0), (15, .iload_n 2, 0, 0, 0, 0), (16, .iload_n 3, 0, 0, 0, 0), (17, .invokestatic 85, 111, 124, 1, 0), (20, .ifCond .ne 11, 0, 0, 0, 0), (23, .aload_n 0, 0, 0, 0, 0), (24, .sipush (-1012), 0, 0, 0, 0), (27, .invokevirtual 57, 103, 108, 0, 0), (30, .ireturn, 0, 0, 0, 0), (31, .aload_n 0, 0, 0, 0, 0), (32, .iload_n 1, 0, 0, 0, 0), (33, .invokevirtual 89, 112, 118, 0, 0), (36, .ifCond .ne 10, 0, 0, 0, 0), (39, .aload_n 0, 0, 0, 0, 0), (40, .iconst 2, 0, 0, 0, 0), (41, .iload_n 1, 0, 0, 0, 0), (42, .invokevirtual 78, 109, 109, 0, 0), (45, .ireturn, 0, 0, 0, 0), (46, .aload_n 0, 0, 0, 0, 0), (47, .getfield 7, 89, 8, 9, 2), (50, .iconst 1, 0, 0, 0, 0), (51, .dup2, 0, 0, 0, 0), (52, .iaload, 0, 0, 0, 0), (53, .iload_n 2, 0, 0, 0, 0), (54, .iadd, 0, 0, 0, 0), (55, .iastore, 0, 0, 0, 0), (56, .aload_n 0, 0, 0, 0, 0), (57, .iload_n 1, 0, 0, 0, 0), (58, .iload_n 2, 0, 0, 0, 0), (59, .iload_n 3, 0, 0, 0, 0), (60, .invokevirtual 92, 113, 125, 0, 0), (63, .ireturn, 0, 0, 0, 0)]
def e_X7_stub : List Ent := [(0, .aload_n 0, 0, 0, 0, 0), (1, .invokevirtual 96, 114, 112, 0, 0), (4, .aload_n 0, 0, 0, 0, 0), (5, .aload_n 0, 0, 0, 0, 0), (6, .iload_n 1, 0, 0, 0, 0), (7, .iload_n 2, 0, 0, 0, 0), (8, .iload_n 3, 0, 0, 0, 0), (9, .invokevirtual 99, 115, 126, 0, 0), (12, .invokevirtual 102, 116, 113, 0, 0), (15, .ireturn, 0, 0, 0, 0)]
def e_X7_refusesBurning : List Ent := [(0, .aload_n 0, 0, 0, 0, 0), (1, .iconst 4, 0, 0, 0, 0), (2, .iload_n 1, 0, 0, 0, 0), (3, .invokevirtual 78, 109, 109, 0, 0), (6, .istore 4, 0, 0, 0, 0), (8, .aload_n 0, 0, 0, 0, 0), (9, .iload_n 2, 0, 0, 0, 0), (10, .putfield 51, 86, 8, 4, 0), (13, .aload_n 0, 0, 0, 0, 0), (14, .iload_n 3, 0, 0, 0, 0), (15, .putfield 105, 92, 8, 5, 0), (18, .iload 4, 0, 0, 0, 0), (20, .ireturn, 0, 0, 0, 0)]
def e_X7_burns : List Ent := [(0, .aload_n 0, 0, 0, 0, 0), (1, .iload_n 1, 0, 0, 0, 0), (2, .invokevirtual 108, 117, 117, 0, 0), (5, .ifCond .ne 11, 0, 0, 0, 0), (8, .aload_n 0, 0, 0, 0, 0), (9, .sipush (-1011), 0, 0, 0, 0), (12, .invokevirtual 57, 103, 108, 0, 0), (15, .ireturn, 0, 0, 0, 0), (16, .iload_n 2, 0, 0, 0, 0), (17, .iconst 1, 0, 0, 0, 0), (18, .bipush 30, 0, 0, 0, 0), (20, .invokestatic 68, 105, 110, 1, 0), (23, .ifCond .ne 11, 0, 0, 0, 0), (26, .aload_n 0, 0, 0, 0, 0), (27, .sipush (-1012), 0, 0, 0, 0), (30, .invokevirtual 57, 103, 108, 0, 0), (33, .ireturn, 0, 0, 0, 0), (34, .aload_n 0, 0, 0, 0, 0), (35, .getfield 7, 89, 8, 9, 2), (38, .iload_n 1, 0, 0, 0, 0), (39, .bipush 6, 0, 0, 0, 0), (41, .invokestatic 72, 107, 115, 1, 0), (44, .iaload, 0, 0, 0, 0), (45, .ifCond .le 20, 0, 0, 0, 0), (48, .aload_n 0, 0, 0, 0, 0), (49, .iload_n 1, 0, 0, 0, 0), (50, .iconst 5, 0, 0, 0, 0), (51, .aload_n 0, 0, 0, 0, 0), (52, .getfield 7, 89, 8, 9, 2), (55, .iload_n 1, 0, 0, 0, 0), (56, .iconst 5, 0, 0, 0, 0), (57, .invokestatic 72, 107, 115, 1, 0), (60, .iaload, 0, 0, 0, 0), (61, .invokevirtual 111, 118, 128, 0, 0), (64, .ireturn, 0, 0, 0, 0), (65, .aload_n 0, 0, 0, 0, 0), (66, .getfield 7, 89, 8, 9, 2), (69, .iload_n 1, 0, 0, 0, 0), (70, .iconst 1, 0, 0, 0, 0), (71, .invokestatic 72, 107, 115, 1, 0), (74, .iaload, 0, 0, 0, 0), (75, .iload_n 2, 0, 0, 0, 0), (76, .if_icmp .ge 21, 0, 0, 0, 0), (79, .aload_n 0, 0, 0, 0, 0), (80, .iload_n 1, 0, 0, 0, 0), (81, .bipush 6, 0, 0, 0, 0), (83, .aload_n 0, 0, 0, 0, 0), (84, .getfield 7, 89, 8, 9, 2), (87, .iload_n 1, 0, 0, 0, 0), (88, .iconst 1, 0, 0, 0, 0), (89, .invokestatic 72, 107, 115, 1, 0), (92, .iaload, 0, 0, 0, 0), (93, .invokevirtual 111, 118, 128, 0, 0), (96, .ireturn, 0, 0, 0, 0), (97, .iload_n 2, 0, 0, 0, 0), (98, .aload_n 0, 0, 0, 0, 0), (99, .getfield 7, 89, 8, 9, 2), (102, .iload_n 1, 0, 0, 0, 0), (103, .iconst 2, 0, 0, 0, 0), (104, .invokestatic 72, 107, 115, 1, 0), (107, .iaload, 0, 0, 0, 0), (108, .imul, 0, 0, 0, 0), (109, .istore_n 3, 0, 0, 0, 0), (110, .aload_n 0, 0, 0, 0, 0), (111, .getfield 7, 89, 8, 9, 2), (114, .iload_n 1, 0, 0, 0, 0), (115, .iconst 4, 0, 0, 0, 0), (116, .invokestatic 72, 107, 115, 1, 0), (119, .iaload, 0, 0, 0, 0), (120, .iload_n 3, 0, 0, 0, 0), (121, .if_icmp .ge 16, 0, 0, 0, 0), (124, .aload_n 0, 0, 0, 0, 0), (125, .getfield 7, 89, 8, 9, 2), (128, .iload_n 1, 0, 0, 0, 0), (129, .iconst 4, 0, 0, 0, 0), (130, .invokestatic 72, 107, 115, 1, 0), (133, .iaload, 0, 0, 0, 0), (134, .goto 4, 0, 0, 0, 0), (137, .iload_n 3, 0, 0, 0, 0), (138, .istore 4, 0, 0, 0, 0), (140, .aload_n 0, 0, 0, 0, 0), (141, .getfield 7, 89, 8, 9, 2), (144, .iload_n 1, 0, 0, 0, 0), (145, .iconst 1, 0, 0, 0, 0), (146, .invokestatic 72, 107, 115, 1, 0), (149, .dup2, 0, 0, 0, 0), (150, .iaload, 0, 0, 0, 0), (151, .iload_n 2, 0, 0, 0, 0), (152, .isub, 0, 0, 0, 0), (153, .iastore, 0, 0, 0, 0), (154, .aload_n 0, 0, 0, 0, 0), (155, .getfield 7, 89, 8, 9, 2), (158, .iconst 2, 0, 0, 0, 0), (159, .dup2, 0, 0, 0, 0), (160, .iaload, 0, 0, 0, 0), (161, .iload_n 2, 0, 0, 0, 0), (162, .iadd, 0, 0, 0, 0), (163, .iastore, 0, 0, 0, 0), (164, .aload_n 0, 0, 0, 0, 0), (165, .getfield 7, 89, 8, 9, 2), (168, .iconst 3, 0, 0, 0, 0), (169, .dup2, 0, 0, 0, 0), (170, .iaload, 0, 0, 0, 0), (171, .iload_n 3, 0, 0, 0, 0), (172, .iadd, 0, 0, 0, 0), (173, .iastore, 0, 0, 0, 0), (174, .aload_n 0, 0, 0, 0, 0), (175, .getfield 7, 89, 8, 9, 2), (178, .iload_n 1, 0, 0, 0, 0), (179, .bipush 7, 0, 0, 0, 0), (181, .invokestatic 72, 107, 115, 1, 0), (184, .dup2, 0, 0, 0, 0), (185, .iaload, 0, 0, 0, 0), (186, .iload_n 3, 0, 0, 0, 0), (187, .iadd, 0, 0, 0, 0), (188, .iastore, 0, 0, 0, 0), (189, .aload_n 0, 0, 0, 0, 0), (190, .getfield 7, 89, 8, 9, 2), (193, .iload_n 1, 0, 0, 0, 0), (194, .iconst 4, 0, 0, 0, 0), (195, .invokestatic 72, 107, 115, 1, 0), (198, .dup2, 0, 0, 0, 0), (199, .iaload, 0, 0, 0, 0), (200, .iload 4, 0, 0, 0, 0), (202, .isub, 0, 0, 0, 0), (203, .iastore, 0, 0, 0, 0), (204, .aload_n 0, 0, 0, 0, 0), (205, .getfield 7, 89, 8, 9, 2), (208, .iconst 4, 0, 0, 0, 0), (209, .dup2, 0, 0, 0, 0), (210, .iaload, 0, 0, 0, 0), (211, .iload 4, 0, 0, 0, 0), (213, .iadd, 0, 0, 0, 0), (214, .iastore, 0, 0, 0, 0), (215, .aload_n 0, 0, 0, 0, 0), (216, .getfield 7, 89, 8, 9, 2), (219, .iload_n 1, 0, 0, 0, 0), (220, .iconst 4, 0, 0, 0, 0), (221, .invokestatic 72, 107, 115, 1, 0), (224, .iaload, 0, 0, 0, 0), (225, .ifCond .ne 14, 0, 0, 0, 0), (228, .aload_n 0, 0, 0, 0, 0), (229, .getfield 7, 89, 8, 9, 2), (232, .iload_n 1, 0, 0, 0, 0), (233, .iconst 3, 0, 0, 0, 0), (234, .invokestatic 72, 107, 115, 1, 0), (237, .iconst 0, 0, 0, 0, 0), (238, .iastore, 0, 0, 0, 0), (239, .aload_n 0, 0, 0, 0, 0), (240, .getfield 7, 89, 8, 9, 2), (243, .iload_n 1, 0, 0, 0, 0), (244, .iconst 1, 0, 0, 0, 0), (245, .invokestatic 72, 107, 115, 1, 0), (248, .iaload, 0, 0, 0, 0), (249, .ifCond .ne 8, 0, 0, 0, 0), (252, .aload_n 0, 0, 0, 0, 0), (253, .iload_n 1, 0, 0, 0, 0), (254, .invokevirtual 114, 119, 121, 0, 0), (257, .iload 4, 0, 0, 0, 0), (259, .ireturn, 0, 0, 0, 0)]
def e_X7_burn : List Ent := [(0, .aload_n 0, 0, 0, 0, 0), (1, .invokevirtual 96, 114, 112, 0, 0), (4, .aload_n 0, 0, 0, 0, 0), (5, .aload_n 0, 0, 0, 0, 0), (6, .iload_n 1, 0, 0, 0, 0), (7, .iload_n 2, 0, 0, 0, 0), (8, .invokevirtual 118, 120, 129, 0, 0), (11, .invokevirtual 102, 116, 113, 0, 0), (14, .ireturn, 0, 0, 0, 0)]
def e_X7_owes : List Ent := [(0, .aload_n 0, 0, 0, 0, 0), (1, .iload_n 1, 0, 0, 0, 0), (2, .invokevirtual 108, 117, 117, 0, 0), (5, .ifCond .eq 10, 0, 0, 0, 0), (8, .iload_n 2, 0, 0, 0, 0), (9, .invokestatic 81, 110, 116, 1, 0), (12, .ifCond .ne 11, 0, 0, 0, 0), (15, .aload_n 0, 0, 0, 0, 0), (16, .sipush (-1011), 0, 0, 0, 0), (19, .invokevirtual 57, 103, 108, 0, 0), (22, .ireturn, 0, 0, 0, 0), (23, .iload_n 3, 0, 0, 0, 0), (24, .iconst 1, 0, 0, 0, 0), (25, .bipush 90, 0, 0, 0, 0), (27, .invokestatic 68, 105, 110, 1, 0), (30, .ifCond .ne 11, 0, 0, 0, 0), (33, .aload_n 0, 0, 0, 0, 0), (34, .sipush (-1012), 0, 0, 0, 0), (37, .invokevirtual 57, 103, 108, 0, 0), (40, .ireturn, 0, 0, 0, 0), (41, .aload_n 0, 0, 0, 0, 0), (42, .iload_n 2, 0, 0, 0, 0), (43, .invokevirtual 89, 112, 118, 0, 0), (46, .ifCond .ne 10, 0, 0, 0, 0), (49, .aload_n 0, 0, 0, 0, 0), (50, .iconst 2, 0, 0, 0, 0), (51, .iload_n 2, 0, 0, 0, 0), (52, .invokevirtual 78, 109, 109, 0, 0), (55, .ireturn, 0, 0, 0, 0), (56, .aload_n 0, 0, 0, 0, 0), (57, .getfield 7, 89, 8, 9, 2), (60, .iload_n 1, 0, 0, 0, 0), (61, .iconst 0, 0, 0, 0, 0), (62, .invokestatic 72, 107, 115, 1, 0), (65, .iaload, 0, 0, 0, 0), (66, .iload_n 2, 0, 0, 0, 0), (67, .if_icmp .ne 11, 0, 0, 0, 0), (70, .aload_n 0, 0, 0, 0, 0), (71, .bipush 8, 0, 0, 0, 0), (73, .iload_n 2, 0, 0, 0, 0), (74, .invokevirtual 78, 109, 109, 0, 0), (77, .ireturn, 0, 0, 0, 0), (78, .aload_n 0, 0, 0, 0, 0), (79, .getfield 7, 89, 8, 9, 2), (82, .iload_n 1, 0, 0, 0, 0), (83, .iconst 3, 0, 0, 0, 0), (84, .invokestatic 72, 107, 115, 1, 0), (87, .iaload, 0, 0, 0, 0), (88, .ifCond .le 22, 0, 0, 0, 0), (91, .aload_n 0, 0, 0, 0, 0), (92, .bipush 7, 0, 0, 0, 0), (94, .aload_n 0, 0, 0, 0, 0), (95, .getfield 7, 89, 8, 9, 2), (98, .iload_n 1, 0, 0, 0, 0), (99, .iconst 3, 0, 0, 0, 0), (100, .invokestatic 72, 107, 115, 1, 0), (103, .iaload, 0, 0, 0, 0), (104, .iconst 1, 0, 0, 0, 0), (105, .isub, 0, 0, 0, 0), (106, .invokevirtual 78, 109, 109, 0, 0), (109, .ireturn, 0, 0, 0, 0), (110, .aload_n 0, 0, 0, 0, 0), (111, .getfield 7, 89, 8, 9, 2), (114, .iload_n 1, 0, 0, 0, 0), (115, .iconst 3, 0, 0, 0, 0), (116, .invokestatic 72, 107, 115, 1, 0), (119, .iload_n 2, 0, 0, 0, 0), (120, .iconst 1, 0, 0, 0, 0), (121, .iadd, 0, 0, 0, 0), (122, .iastore, 0, 0, 0, 0), (123, .aload_n 0, 0, 0, 0, 0), (124, .getfield 7, 89, 8, 9, 2), (127, .iload_n 1, 0, 0, 0, 0), (128, .iconst 4, 0, 0, 0, 0), (129, .invokestatic 72, 107, 115, 1, 0), (132, .iload_n 3, 0, 0, 0, 0), (133, .iastore, 0, 0, 0, 0), (134, .aload_n 0, 0, 0, 0, 0), (135, .iload_n 2, 0, 0, 0, 0), (136, .invokevirtual 121, 121, 122, 0, 0), (139, .ireturn, 0, 0, 0, 0)]
def e_X7_owe : List Ent := [(0, .aload_n 0, 0, 0, 0, 0), (1, .invokevirtual 96, 114, 112, 0, 0), (4, .aload_n 0, 0, 0, 0, 0), (5, .aload_n 0, 0, 0, 0, 0), (6, .iload_n 1, 0, 0, 0, 0), (7, .iload_n 2, 0, 0, 0, 0), (8, .iload_n 3, 0, 0, 0, 0), (9, .invokevirtual 124, 122, 131, 0, 0), (12, .invokevirtual 102, 116, 113, 0, 0), (15, .ireturn, 0, 0, 0, 0)]
def e_X7_snuffs : List Ent := [(0, .iload_n 1, 0, 0, 0, 0), (1, .invokestatic 81, 110, 116, 1, 0), (4, .ifCond .eq 11, 0, 0, 0, 0), (7, .aload_n 0, 0, 0, 0, 0), (8, .iload_n 2, 0, 0, 0, 0), (9, .invokevirtual 108, 117, 117, 0, 0), (12, .ifCond .ne 11, 0, 0, 0, 0), (15, .aload_n 0, 0, 0, 0, 0), (16, .sipush (-1011), 0, 0, 0, 0), (19, .invokevirtual 57, 103, 108, 0, 0), (22, .ireturn, 0, 0, 0, 0), (23, .iload_n 3, 0, 0, 0, 0), (24, .iconst 1, 0, 0, 0, 0), (25, .bipush 24, 0, 0, 0, 0), (27, .invokestatic 68, 105, 110, 1, 0), (30, .ifCond .ne 11, 0, 0, 0, 0), (33, .aload_n 0, 0, 0, 0, 0), (34, .sipush (-1012), 0, 0, 0, 0), (37, .invokevirtual 57, 103, 108, 0, 0), (40, .ireturn, 0, 0, 0, 0), (41, .aload_n 0, 0, 0, 0, 0), (42, .iload_n 1, 0, 0, 0, 0), (43, .invokevirtual 89, 112, 118, 0, 0), (46, .ifCond .ne 10, 0, 0, 0, 0), (49, .aload_n 0, 0, 0, 0, 0), (50, .iconst 2, 0, 0, 0, 0), (51, .iload_n 1, 0, 0, 0, 0), (52, .invokevirtual 78, 109, 109, 0, 0), (55, .ireturn, 0, 0, 0, 0), (56, .aload_n 0, 0, 0, 0, 0), (57, .getfield 7, 89, 8, 9, 2), (60, .iload_n 2, 0, 0, 0, 0), (61, .iconst 0, 0, 0, 0, 0), (62, .invokestatic 72, 107, 115, 1, 0), (65, .iaload, 0, 0, 0, 0), (66, .iload_n 1, 0, 0, 0, 0), (67, .if_icmp .ne 11, 0, 0, 0, 0), (70, .aload_n 0, 0, 0, 0, 0), (71, .bipush 8, 0, 0, 0, 0), (73, .iload_n 1, 0, 0, 0, 0), (74, .invokevirtual 78, 109, 109, 0, 0), (77, .ireturn, 0, 0, 0, 0), (78, .aload_n 0, 0, 0, 0, 0), (79, .getfield 7, 89, 8, 9, 2), (82, .iload_n 2, 0, 0, 0, 0), (83, .bipush 6, 0, 0, 0, 0), (85, .invokestatic 72, 107, 115, 1, 0), (88, .iaload, 0, 0, 0, 0), (89, .ifCond .le 20, 0, 0, 0, 0), (92, .aload_n 0, 0, 0, 0, 0), (93, .bipush 9, 0, 0, 0, 0), (95, .aload_n 0, 0, 0, 0, 0), (96, .getfield 7, 89, 8, 9, 2), (99, .iload_n 2, 0, 0, 0, 0), (100, .iconst 5, 0, 0, 0, 0), (101, .invokestatic 72, 107, 115, 1, 0), (104, .iaload, 0, 0, 0, 0), (105, .invokevirtual 78, 109, 109, 0, 0), (108, .ireturn, 0, 0, 0, 0), (109, .aload_n 0, 0, 0, 0, 0), (110, .iload_n 1, 0, 0, 0, 0), (111, .invokevirtual 127, 123, 123, 0, 0), (114, .iconst 2, 0, 0, 0, 0), (115, .if_icmp .ne 10, 0, 0, 0, 0), (118, .aload_n 0, 0, 0, 0, 0), (119, .iconst 1, 0, 0, 0, 0), (120, .iconst 2, 0, 0, 0, 0), (121, .invokevirtual 78, 109, 109, 0, 0), (124, .ireturn, 0, 0, 0, 0), (125, .aload_n 0, 0, 0, 0, 0), (126, .getfield 7, 89, 8, 9, 2), (129, .iload_n 2, 0, 0, 0, 0), (130, .bipush 6, 0, 0, 0, 0), (132, .invokestatic 72, 107, 115, 1, 0), (135, .iload_n 1, 0, 0, 0, 0), (136, .iconst 1, 0, 0, 0, 0), (137, .iadd, 0, 0, 0, 0), (138, .iastore, 0, 0, 0, 0), (139, .aload_n 0, 0, 0, 0, 0), (140, .getfield 7, 89, 8, 9, 2), (143, .iload_n 2, 0, 0, 0, 0), (144, .iconst 5, 0, 0, 0, 0), (145, .invokestatic 72, 107, 115, 1, 0), (148, .iload_n 3, 0, 0, 0, 0), (149, .iastore, 0, 0, 0, 0), (150, .aload_n 0, 0, 0, 0, 0), (151, .iconst (-1), 0, 0, 0, 0), (152, .invokevirtual 127, 123, 123, 0, 0), (155, .ireturn, 0, 0, 0, 0)]
def e_X7_writ : List Ent := [(0, .aload_n 0, 0, 0, 0, 0), (1, .invokevirtual 96, 114, 112, 0, 0), (4, .aload_n 0, 0, 0, 0, 0), (5, .aload_n 0, 0, 0, 0, 0), (6, .iload_n 1, 0, 0, 0, 0), (7, .iload_n 2, 0, 0, 0, 0), (8, .iload_n 3, 0, 0, 0, 0), (9, .invokevirtual 130, 124, 133, 0, 0), (12, .invokevirtual 102, 116, 113, 0, 0), (15, .ireturn, 0, 0, 0, 0)]
def e_X7_stubOf : List Ent := [(0, .aload_n 0, 0, 0, 0, 0), (1, .iload_n 1, 0, 0, 0, 0), (2, .invokevirtual 108, 117, 117, 0, 0), (5, .ifCond .ne 7, 0, 0, 0, 0), (8, .sipush (-1011), 0, 0, 0, 0), (11, .ireturn, 0, 0, 0, 0), (12, .iload_n 2, 0, 0, 0, 0), (13, .iconst 0, 0, 0, 0, 0), (14, .bipush 7, 0, 0, 0, 0), (16, .invokestatic 68, 105, 110, 1, 0), (19, .ifCond .ne 7, 0, 0, 0, 0), (22, .sipush (-1012), 0, 0, 0, 0), (25, .ireturn, 0, 0, 0, 0), (26, .aload_n 0, 0, 0, 0, 0), (27, .getfield 7, 89, 8, 9, 2), (30, .iload_n 1, 0, 0, 0, 0), (31, .iload_n 2, 0, 0, 0, 0), (32, .invokestatic 72, 107, 115, 1, 0), (35, .iaload, 0, 0, 0, 0), (36, .istore_n 3, 0, 0, 0, 0), (37, .iload_n 2, 0, 0, 0, 0), (38, .iconst 3, 0, 0, 0, 0), (39, .if_icmp .eq 13, 0, 0, 0, 0), (42, .iload_n 2, 0, 0, 0, 0), (43, .bipush 6, 0, 0, 0, 0), (45, .if_icmp .eq 7, 0, 0, 0, 0), (48, .iload_n 3, 0, 0, 0, 0), (49, .goto 16, 0, 0, 0, 0), (52, .iload_n 3, 0, 0, 0, 0), (53, .ifCond .ne 9, 0, 0, 0, 0), (56, .sipush (-1015), 0, 0, 0, 0), (59, .goto 6, 0, 0, 0, 0), (62, .iload_n 3, 0, 0, 0, 0), (63, .iconst 1, 0, 0, 0, 0), (64, .isub, 0, 0, 0, 0), (65, .ireturn, 0, 0, 0, 0)]
def e_X7_pooled : List Ent := [(0, .iconst 0, 0, 0, 0, 0), (1, .istore_n 1, 0, 0, 0, 0), (2, .iconst 0, 0, 0, 0, 0), (3, .istore_n 2, 0, 0, 0, 0), (4, .iload_n 2, 0, 0, 0, 0), (5, .bipush 6, 0, 0, 0, 0), (7, .if_icmp .ge 22, 0, 0, 0, 0), (10, .iload_n 1, 0, 0, 0, 0), (11, .aload_n 0, 0, 0, 0, 0), (12, .getfield 7, 89, 8, 9, 2), (15, .iload_n 2, 0, 0, 0, 0), (16, .iconst 3, 0, 0, 0, 0), (17, .invokestatic 37, 106, 114, 1, 0), (20, .iaload, 0, 0, 0, 0), (21, .iadd, 0, 0, 0, 0), (22, .istore_n 1, 0, 0, 0, 0), (23, .iinc 2 1, 0, 0, 0, 0), (26, .goto (-22), 0, 0, 0, 0), (29, .iload_n 1, 0, 0, 0, 0), (30, .ireturn, 0, 0, 0, 0)]
def e_X7_pools : List Ent := [(0, .aload_n 0, 0, 0, 0, 0), (1, .iload_n 1, 0, 0, 0, 0), (2, .invokevirtual 108, 117, 117, 0, 0), (5, .ifCond .ne 11, 0, 0, 0, 0), (8, .aload_n 0, 0, 0, 0, 0), (9, .sipush (-1011), 0, 0, 0, 0), (12, .invokevirtual 57, 103, 108, 0, 0), (15, .ireturn, 0, 0, 0, 0), (16, .iload_n 2, 0, 0, 0, 0), (17, .iconst 1, 0, 0, 0, 0), (18, .bipush 30, 0, 0, 0, 0), (20, .invokestatic 68, 105, 110, 1, 0), (23, .ifCond .ne 11, 0, 0, 0, 0), (26, .aload_n 0, 0, 0, 0, 0), (27, .sipush (-1012), 0, 0, 0, 0), (30, .invokevirtual 57, 103, 108, 0, 0), (33, .ireturn, 0, 0, 0, 0), (34, .aload_n 0, 0, 0, 0, 0), (35, .getfield 7, 89, 8, 9, 2), (38, .iload_n 1, 0, 0, 0, 0), (39, .iconst 1, 0, 0, 0, 0), (40, .invokestatic 72, 107, 115, 1, 0), (43, .iaload, 0, 0, 0, 0), (44, .istore_n 3, 0, 0, 0, 0), (45, .iload_n 3, 0, 0, 0, 0), (46, .iload_n 2, 0, 0, 0, 0), (47, .if_icmp .ge 11, 0, 0, 0, 0), (50, .aload_n 0, 0, 0, 0, 0), (51, .bipush 10, 0, 0, 0, 0), (53, .iload_n 3, 0, 0, 0, 0), (54, .invokevirtual 78, 109, 109, 0, 0), (57, .ireturn, 0, 0, 0, 0), (58, .aload_n 0, 0, 0, 0, 0), (59, .getfield 7, 89, 8, 9, 2), (62, .aload_n 0, 0, 0, 0, 0), (63, .getfield 7, 89, 8, 9, 2), (66, .iload_n 1, 0, 0, 0, 0), (67, .iconst 0, 0, 0, 0, 0), (68, .invokestatic 72, 107, 115, 1, 0), (71, .iaload, 0, 0, 0, 0), (72, .iconst 3, 0, 0, 0, 0), (73, .invokestatic 37, 106, 114, 1, 0), (76, .dup2, 0, 0, 0, 0), (77, .iaload, 0, 0, 0, 0), (78, .iload_n 2, 0, 0, 0, 0), (79, .iadd, 0, 0, 0, 0), (80, .iastore, 0, 0, 0, 0), (81, .aload_n 0, 0, 0, 0, 0), (82, .getfield 7, 89, 8, 9, 2), (85, .iload_n 1, 0, 0, 0, 0), (86, .iconst 1, 0, 0, 0, 0), (87, .invokestatic 72, 107, 115, 1, 0), (90, .dup2, 0, 0, 0, 0), (91, .iaload, 0, 0, 0, 0), (92, .iload_n 2, 0, 0, 0, 0), (93, .isub, 0, 0, 0, 0), (94, .iastore, 0, 0, 0, 0), (95, .iload_n 3, 0, 0, 0, 0), (96, .iload_n 2, 0, 0, 0, 0), (97, .if_icmp .ne 8, 0, 0, 0, 0), (100, .aload_n 0, 0, 0, 0, 0), (101, .iload_n 1, 0, 0, 0, 0), (102, .invokevirtual 114, 119, 121, 0, 0), (105, .aload_n 0, 0, 0, 0, 0), (106, .invokevirtual 133, 125, 136, 0, 0), (109, .ireturn, 0, 0, 0, 0)]
def e_X7_pool : List Ent := [(0, .aload_n 0, 0, 0, 0, 0), (1, .invokevirtual 96, 114, 112, 0, 0), (4, .aload_n 0, 0, 0, 0, 0), (5, .aload_n 0, 0, 0, 0, 0), (6, .iload_n 1, 0, 0, 0, 0), (7, .iload_n 2, 0, 0, 0, 0), (8, .invokevirtual 137, 126, 137, 0, 0), (11, .invokevirtual 102, 116, 113, 0, 0), (14, .ireturn, 0, 0, 0, 0)]
def e_X7_claim : List Ent := [(0, .aload_n 0, 0, 0, 0, 0), (1, .iload_n 1, 0, 0, 0, 0), (2, .invokevirtual 89, 112, 118, 0, 0), (5, .ifCond .eq 22, 0, 0, 0, 0), (8, .aload_n 0, 0, 0, 0, 0), (9, .getfield 7, 89, 8, 9, 2), (12, .iload_n 1, 0, 0, 0, 0), (13, .iconst 3, 0, 0, 0, 0), (14, .invokestatic 37, 106, 114, 1, 0), (17, .iaload, 0, 0, 0, 0), (18, .aload_n 0, 0, 0, 0, 0), (19, .iload_n 1, 0, 0, 0, 0), (20, .invokevirtual 121, 121, 122, 0, 0), (23, .iadd, 0, 0, 0, 0), (24, .goto 4, 0, 0, 0, 0), (27, .iconst 0, 0, 0, 0, 0), (28, .ireturn, 0, 0, 0, 0)]
def e_X7_claims : List Ent := [(0, .iconst 0, 0, 0, 0, 0), (1, .istore_n 1, 0, 0, 0, 0), (2, .iconst 0, 0, 0, 0, 0), (3, .istore_n 2, 0, 0, 0, 0), (4, .iload_n 2, 0, 0, 0, 0), (5, .bipush 6, 0, 0, 0, 0), (7, .if_icmp .ge 17, 0, 0, 0, 0), (10, .iload_n 1, 0, 0, 0, 0), (11, .aload_n 0, 0, 0, 0, 0), (12, .iload_n 2, 0, 0, 0, 0), (13, .invokevirtual 140, 127, 139, 0, 0), (16, .iadd, 0, 0, 0, 0), (17, .istore_n 1, 0, 0, 0, 0), (18, .iinc 2 1, 0, 0, 0, 0), (21, .goto (-17), 0, 0, 0, 0), (24, .iload_n 1, 0, 0, 0, 0), (25, .ireturn, 0, 0, 0, 0)]
def e_X7_finds : List Ent := [(0, .aload_n 0, 0, 0, 0, 0), (1, .invokevirtual 133, 125, 136, 0, 0), (4, .istore_n 1, 0, 0, 0, 0), (5, .aload_n 0, 0, 0, 0, 0), (6, .invokevirtual 143, 128, 140, 0, 0), (9, .istore_n 2, 0, 0, 0, 0), (10, .iload_n 1, 0, 0, 0, 0), (11, .istore_n 3, 0, 0, 0, 0), (12, .iconst 0, 0, 0, 0, 0), (13, .istore 4, 0, 0, 0, 0), (15, .iload 4, 0, 0, 0, 0), (17, .bipush 6, 0, 0, 0, 0), (19, .if_icmp .ge 69, 0, 0, 0, 0), (22, .aload_n 0, 0, 0, 0, 0), (23, .getfield 25, 93, 8, 14, 2), (26, .iload 4, 0, 0, 0, 0), (28, .iload_n 2, 0, 0, 0, 0), (29, .ifCond .ne 7, 0, 0, 0, 0), (32, .iconst 0, 0, 0, 0, 0), (33, .goto 13, 0, 0, 0, 0), (36, .iload_n 1, 0, 0, 0, 0), (37, .aload_n 0, 0, 0, 0, 0), (38, .iload 4, 0, 0, 0, 0), (40, .invokevirtual 140, 127, 139, 0, 0), (43, .imul, 0, 0, 0, 0), (44, .iload_n 2, 0, 0, 0, 0), (45, .idiv, 0, 0, 0, 0), (46, .iastore, 0, 0, 0, 0), (47, .aload_n 0, 0, 0, 0, 0), (48, .getfield 28, 94, 8, 15, 2), (51, .iload 4, 0, 0, 0, 0), (53, .iload_n 2, 0, 0, 0, 0), (54, .ifCond .ne 7, 0, 0, 0, 0), (57, .iconst 0, 0, 0, 0, 0), (58, .goto 13, 0, 0, 0, 0), (61, .iload_n 1, 0, 0, 0, 0), (62, .aload_n 0, 0, 0, 0, 0), (63, .iload 4, 0, 0, 0, 0), (65, .invokevirtual 140, 127, 139, 0, 0), (68, .imul, 0, 0, 0, 0), (69, .iload_n 2, 0, 0, 0, 0), (70, .irem, 0, 0, 0, 0), (71, .iastore, 0, 0, 0, 0), (72, .iload_n 3, 0, 0, 0, 0), (73, .aload_n 0, 0, 0, 0, 0), (74, .getfield 25, 93, 8, 14, 2), (77, .iload 4, 0, 0, 0, 0), (79, .iaload, 0, 0, 0, 0), (80, .isub, 0, 0, 0, 0), (81, .istore_n 3, 0, 0, 0, 0), (82, .iinc 4 1, 0, 0, 0, 0), (85, .goto (-70), 0, 0, 0, 0), (88, .iload_n 3, 0, 0, 0, 0), (89, .ifCond .le 72, 0, 0, 0, 0), (92, .iload_n 2, 0, 0, 0, 0), (93, .ifCond .le 68, 0, 0, 0, 0), (96, .iconst 0, 0, 0, 0, 0), (97, .istore 4, 0, 0, 0, 0), (99, .iconst 1, 0, 0, 0, 0), (100, .istore 5, 0, 0, 0, 0), (102, .iload 5, 0, 0, 0, 0), (104, .bipush 6, 0, 0, 0, 0), (106, .if_icmp .ge 30, 0, 0, 0, 0), (109, .aload_n 0, 0, 0, 0, 0), (110, .getfield 28, 94, 8, 15, 2), (113, .iload 5, 0, 0, 0, 0), (115, .iaload, 0, 0, 0, 0), (116, .aload_n 0, 0, 0, 0, 0), (117, .getfield 28, 94, 8, 15, 2), (120, .iload 4, 0, 0, 0, 0), (122, .iaload, 0, 0, 0, 0), (123, .if_icmp .le 7, 0, 0, 0, 0), (126, .iload 5, 0, 0, 0, 0), (128, .istore 4, 0, 0, 0, 0), (130, .iinc 5 1, 0, 0, 0, 0), (133, .goto (-31), 0, 0, 0, 0), (136, .aload_n 0, 0, 0, 0, 0), (137, .getfield 25, 93, 8, 14, 2), (140, .iload 4, 0, 0, 0, 0), (142, .dup2, 0, 0, 0, 0), (143, .iaload, 0, 0, 0, 0), (144, .iconst 1, 0, 0, 0, 0), (145, .iadd, 0, 0, 0, 0), (146, .iastore, 0, 0, 0, 0), (147, .aload_n 0, 0, 0, 0, 0), (148, .getfield 28, 94, 8, 15, 2), (151, .iload 4, 0, 0, 0, 0), (153, .iconst (-1), 0, 0, 0, 0), (154, .iastore, 0, 0, 0, 0), (155, .iinc 3 (-1), 0, 0, 0, 0), (158, .goto (-70), 0, 0, 0, 0), (161, .return_, 0, 0, 0, 0)]
def e_X7_shares : List Ent := [(0, .aload_n 0, 0, 0, 0, 0), (1, .invokevirtual 133, 125, 136, 0, 0), (4, .ifCond .ne 16, 0, 0, 0, 0), (7, .aload_n 0, 0, 0, 0, 0), (8, .bipush 11, 0, 0, 0, 0), (10, .aload_n 0, 0, 0, 0, 0), (11, .getfield 7, 89, 8, 9, 2), (14, .iconst 0, 0, 0, 0, 0), (15, .iaload, 0, 0, 0, 0), (16, .invokevirtual 78, 109, 109, 0, 0), (19, .ireturn, 0, 0, 0, 0), (20, .aload_n 0, 0, 0, 0, 0), (21, .invokevirtual 143, 128, 140, 0, 0), (24, .ifCond .ne 14, 0, 0, 0, 0), (27, .aload_n 0, 0, 0, 0, 0), (28, .bipush 12, 0, 0, 0, 0), (30, .aload_n 0, 0, 0, 0, 0), (31, .invokevirtual 133, 125, 136, 0, 0), (34, .invokevirtual 78, 109, 109, 0, 0), (37, .ireturn, 0, 0, 0, 0), (38, .iconst 0, 0, 0, 0, 0), (39, .istore_n 1, 0, 0, 0, 0), (40, .aload_n 0, 0, 0, 0, 0), (41, .invokevirtual 146, 129, 141, 0, 0), (44, .iconst 0, 0, 0, 0, 0), (45, .istore_n 2, 0, 0, 0, 0), (46, .iload_n 2, 0, 0, 0, 0), (47, .bipush 6, 0, 0, 0, 0), (49, .if_icmp .ge 56, 0, 0, 0, 0), (52, .iload_n 1, 0, 0, 0, 0), (53, .aload_n 0, 0, 0, 0, 0), (54, .getfield 25, 93, 8, 14, 2), (57, .iload_n 2, 0, 0, 0, 0), (58, .iaload, 0, 0, 0, 0), (59, .ifCond .le 7, 0, 0, 0, 0), (62, .iconst 1, 0, 0, 0, 0), (63, .goto 4, 0, 0, 0, 0), (66, .iconst 0, 0, 0, 0, 0), (67, .iadd, 0, 0, 0, 0), (68, .istore_n 1, 0, 0, 0, 0), (69, .aload_n 0, 0, 0, 0, 0), (70, .getfield 7, 89, 8, 9, 2), (73, .iload_n 2, 0, 0, 0, 0), (74, .iconst 2, 0, 0, 0, 0), (75, .invokestatic 37, 106, 114, 1, 0), (78, .dup2, 0, 0, 0, 0), (79, .iaload, 0, 0, 0, 0), (80, .aload_n 0, 0, 0, 0, 0), (81, .getfield 25, 93, 8, 14, 2), (84, .iload_n 2, 0, 0, 0, 0), (85, .iaload, 0, 0, 0, 0), (86, .iadd, 0, 0, 0, 0), (87, .iastore, 0, 0, 0, 0), (88, .aload_n 0, 0, 0, 0, 0), (89, .getfield 7, 89, 8, 9, 2), (92, .iload_n 2, 0, 0, 0, 0), (93, .iconst 3, 0, 0, 0, 0), (94, .invokestatic 37, 106, 114, 1, 0), (97, .iconst 0, 0, 0, 0, 0), (98, .iastore, 0, 0, 0, 0), (99, .iinc 2 1, 0, 0, 0, 0), (102, .goto (-56), 0, 0, 0, 0), (105, .iload_n 1, 0, 0, 0, 0), (106, .ireturn, 0, 0, 0, 0)]
def e_X7_share : List Ent := [(0, .aload_n 0, 0, 0, 0, 0), (1, .invokevirtual 96, 114, 112, 0, 0), (4, .aload_n 0, 0, 0, 0, 0), (5, .aload_n 0, 0, 0, 0, 0), (6, .invokevirtual 149, 130, 142, 0, 0), (9, .invokevirtual 102, 116, 113, 0, 0), (12, .ireturn, 0, 0, 0, 0)]
def e_X7_part : List Ent := [(0, .iload_n 1, 0, 0, 0, 0), (1, .invokestatic 81, 110, 116, 1, 0), (4, .ifCond .ne 7, 0, 0, 0, 0), (7, .sipush (-1011), 0, 0, 0, 0), (10, .ireturn, 0, 0, 0, 0), (11, .aload_n 0, 0, 0, 0, 0), (12, .invokevirtual 146, 129, 141, 0, 0), (15, .aload_n 0, 0, 0, 0, 0), (16, .getfield 25, 93, 8, 14, 2), (19, .iload_n 1, 0, 0, 0, 0), (20, .iaload, 0, 0, 0, 0), (21, .ireturn, 0, 0, 0, 0)]
def e_X7_partAgain : List Ent := [(0, .aload_n 0, 0, 0, 0, 0), (1, .iload_n 1, 0, 0, 0, 0), (2, .invokevirtual 152, 131, 144, 0, 0), (5, .ireturn, 0, 0, 0, 0)]
def e_X7_moulds : List Ent := [(0, .iload_n 1, 0, 0, 0, 0), (1, .invokestatic 81, 110, 116, 1, 0), (4, .ifCond .ne 11, 0, 0, 0, 0), (7, .aload_n 0, 0, 0, 0, 0), (8, .sipush (-1011), 0, 0, 0, 0), (11, .invokevirtual 57, 103, 108, 0, 0), (14, .ireturn, 0, 0, 0, 0), (15, .iload_n 2, 0, 0, 0, 0), (16, .iload_n 3, 0, 0, 0, 0), (17, .invokestatic 85, 111, 124, 1, 0), (20, .ifCond .ne 11, 0, 0, 0, 0), (23, .aload_n 0, 0, 0, 0, 0), (24, .sipush (-1012), 0, 0, 0, 0), (27, .invokevirtual 57, 103, 108, 0, 0), (30, .ireturn, 0, 0, 0, 0), (31, .aload_n 0, 0, 0, 0, 0), (32, .iload_n 1, 0, 0, 0, 0), (33, .invokevirtual 89, 112, 118, 0, 0), (36, .ifCond .ne 10, 0, 0, 0, 0), (39, .aload_n 0, 0, 0, 0, 0), (40, .iconst 2, 0, 0, 0, 0), (41, .iload_n 1, 0, 0, 0, 0), (42, .invokevirtual 78, 109, 109, 0, 0), (45, .ireturn, 0, 0, 0, 0), (46, .aload_n 0, 0, 0, 0, 0), (47, .getfield 7, 89, 8, 9, 2), (50, .iload_n 1, 0, 0, 0, 0), (51, .iconst 2, 0, 0, 0, 0), (52, .invokestatic 37, 106, 114, 1, 0), (55, .iaload, 0, 0, 0, 0), (56, .iload_n 2, 0, 0, 0, 0), (57, .if_icmp .ge 20, 0, 0, 0, 0), (60, .aload_n 0, 0, 0, 0, 0), (61, .bipush 13, 0, 0, 0, 0), (63, .aload_n 0, 0, 0, 0, 0), (64, .getfield 7, 89, 8, 9, 2), (67, .iload_n 1, 0, 0, 0, 0), (68, .iconst 2, 0, 0, 0, 0), (69, .invokestatic 37, 106, 114, 1, 0), (72, .iaload, 0, 0, 0, 0), (73, .invokevirtual 78, 109, 109, 0, 0), (76, .ireturn, 0, 0, 0, 0), (77, .aload_n 0, 0, 0, 0, 0), (78, .getfield 7, 89, 8, 9, 2), (81, .iload_n 1, 0, 0, 0, 0), (82, .iconst 2, 0, 0, 0, 0), (83, .invokestatic 37, 106, 114, 1, 0), (86, .dup2, 0, 0, 0, 0), (87, .iaload, 0, 0, 0, 0), (88, .iload_n 2, 0, 0, 0, 0), (89, .isub, 0, 0, 0, 0), (90, .iastore, 0, 0, 0, 0), (91, .aload_n 0, 0, 0, 0, 0), (92, .iload_n 1, 0, 0, 0, 0), (93, .iload_n 2, 0, 0, 0, 0), (94, .iload_n 3, 0, 0, 0, 0), (95, .invokevirtual 92, 113, 125, 0, 0), (98, .ireturn, 0, 0, 0, 0)]
def e_X7_mould : List Ent := [(0, .aload_n 0, 0, 0, 0, 0), (1, .invokevirtual 96, 114, 112, 0, 0), (4, .aload_n 0, 0, 0, 0, 0), (5, .aload_n 0, 0, 0, 0, 0), (6, .iload_n 1, 0, 0, 0, 0), (7, .iload_n 2, 0, 0, 0, 0), (8, .iload_n 3, 0, 0, 0, 0), (9, .invokevirtual 155, 132, 146, 0, 0), (12, .invokevirtual 102, 116, 113, 0, 0), (15, .ireturn, 0, 0, 0, 0)]
def e_X7_tellsHeir : List Ent := [(0, .iload_n 1, 0, 0, 0, 0), (1, .invokestatic 81, 110, 116, 1, 0), (4, .ifCond .eq 10, 0, 0, 0, 0), (7, .iload_n 2, 0, 0, 0, 0), (8, .invokestatic 81, 110, 116, 1, 0), (11, .ifCond .ne 11, 0, 0, 0, 0), (14, .aload_n 0, 0, 0, 0, 0), (15, .sipush (-1011), 0, 0, 0, 0), (18, .invokevirtual 57, 103, 108, 0, 0), (21, .ireturn, 0, 0, 0, 0), (22, .aload_n 0, 0, 0, 0, 0), (23, .getfield 7, 89, 8, 9, 2), (26, .iload_n 1, 0, 0, 0, 0), (27, .iconst 1, 0, 0, 0, 0), (28, .invokestatic 37, 106, 114, 1, 0), (31, .iaload, 0, 0, 0, 0), (32, .istore_n 3, 0, 0, 0, 0), (33, .iload_n 3, 0, 0, 0, 0), (34, .iload_n 2, 0, 0, 0, 0), (35, .if_icmp .ne 11, 0, 0, 0, 0), (38, .aload_n 0, 0, 0, 0, 0), (39, .bipush 14, 0, 0, 0, 0), (41, .iload_n 2, 0, 0, 0, 0), (42, .invokevirtual 78, 109, 109, 0, 0), (45, .ireturn, 0, 0, 0, 0), (46, .aload_n 0, 0, 0, 0, 0), (47, .getfield 7, 89, 8, 9, 2), (50, .iload_n 1, 0, 0, 0, 0), (51, .iconst 1, 0, 0, 0, 0), (52, .invokestatic 37, 106, 114, 1, 0), (55, .iload_n 2, 0, 0, 0, 0), (56, .iastore, 0, 0, 0, 0), (57, .iload_n 3, 0, 0, 0, 0), (58, .ireturn, 0, 0, 0, 0)]
def e_X7_heir : List Ent := [(0, .aload_n 0, 0, 0, 0, 0), (1, .invokevirtual 96, 114, 112, 0, 0), (4, .aload_n 0, 0, 0, 0, 0), (5, .aload_n 0, 0, 0, 0, 0), (6, .iload_n 1, 0, 0, 0, 0), (7, .iload_n 2, 0, 0, 0, 0), (8, .invokevirtual 158, 133, 148, 0, 0), (11, .invokevirtual 102, 116, 113, 0, 0), (14, .ireturn, 0, 0, 0, 0)]
def e_X7_inForce : List Ent := [(0, .aload_n 0, 0, 0, 0, 0), (1, .getfield 7, 89, 8, 9, 2), (4, .iload_n 1, 0, 0, 0, 0), (5, .iconst 1, 0, 0, 0, 0), (6, .invokestatic 37, 106, 114, 1, 0), (9, .iaload, 0, 0, 0, 0), (10, .istore_n 2, 0, 0, 0, 0), (11, .iconst 0, 0, 0, 0, 0), (12, .istore_n 3, 0, 0, 0, 0), (13, .iload_n 3, 0, 0, 0, 0), (14, .bipush 6, 0, 0, 0, 0), (16, .if_icmp .ge 35, 0, 0, 0, 0), (19, .iload_n 2, 0, 0, 0, 0), (20, .iload_n 1, 0, 0, 0, 0), (21, .if_icmp .eq 13, 0, 0, 0, 0), (24, .aload_n 0, 0, 0, 0, 0), (25, .iload_n 2, 0, 0, 0, 0), (26, .invokevirtual 89, 112, 118, 0, 0), (29, .ifCond .eq 5, 0, 0, 0, 0), (32, .iload_n 2, 0, 0, 0, 0), (33, .ireturn, 0, 0, 0, 0), (34, .aload_n 0, 0, 0, 0, 0), (35, .getfield 7, 89, 8, 9, 2), (38, .iload_n 2, 0, 0, 0, 0), (39, .iconst 1, 0, 0, 0, 0), (40, .invokestatic 37, 106, 114, 1, 0), (43, .iaload, 0, 0, 0, 0), (44, .istore_n 2, 0, 0, 0, 0), (45, .iinc 3 1, 0, 0, 0, 0), (48, .goto (-35), 0, 0, 0, 0), (51, .iconst 0, 0, 0, 0, 0), (52, .istore_n 2, 0, 0, 0, 0), (53, .iload_n 2, 0, 0, 0, 0), (54, .iload_n 1, 0, 0, 0, 0), (55, .if_icmp .eq 11, 0, 0, 0, 0), (58, .aload_n 0, 0, 0, 0, 0), (59, .iload_n 2, 0, 0, 0, 0), (60, .invokevirtual 89, 112, 118, 0, 0), (63, .ifCond .ne 9, 0, 0, 0, 0), (66, .iinc 2 1, 0, 0, 0, 0), (69, .goto (-16), 0, 0, 0, 0), (72, .iload_n 2, 0, 0, 0, 0), (73, .ireturn, 0, 0, 0, 0)]
def e_X7_inheritsStubs : List Ent := [(0, .iconst 0, 0, 0, 0, 0), (1, .istore_n 3, 0, 0, 0, 0), (2, .iconst 0, 0, 0, 0, 0), (3, .istore 4, 0, 0, 0, 0), (5, .iload 4, 0, 0, 0, 0), (7, .aload_n 0, 0, 0, 0, 0), (8, .getfield 7, 89, 8, 9, 2), (11, .iconst 0, 0, 0, 0, 0), (12, .iaload, 0, 0, 0, 0), (13, .if_icmp .ge 97, 0, 0, 0, 0), (16, .aload_n 0, 0, 0, 0, 0), (17, .getfield 7, 89, 8, 9, 2), (20, .iload 4, 0, 0, 0, 0), (22, .iconst 1, 0, 0, 0, 0), (23, .invokestatic 72, 107, 115, 1, 0), (26, .iaload, 0, 0, 0, 0), (27, .istore 5, 0, 0, 0, 0), (29, .aload_n 0, 0, 0, 0, 0), (30, .getfield 7, 89, 8, 9, 2), (33, .iload 4, 0, 0, 0, 0), (35, .iconst 0, 0, 0, 0, 0), (36, .invokestatic 72, 107, 115, 1, 0), (39, .iaload, 0, 0, 0, 0), (40, .iload_n 1, 0, 0, 0, 0), (41, .if_icmp .eq 9, 0, 0, 0, 0), (44, .iinc 4 1, 0, 0, 0, 0), (47, .goto 60, 0, 0, 0, 0), (50, .aload_n 0, 0, 0, 0, 0), (51, .iload_n 2, 0, 0, 0, 0), (52, .invokevirtual 75, 108, 120, 0, 0), (55, .iload 5, 0, 0, 0, 0), (57, .iadd, 0, 0, 0, 0), (58, .iconst 1, 0, 0, 0, 0), (59, .iadd, 0, 0, 0, 0), (60, .bipush 60, 0, 0, 0, 0), (62, .if_icmp .gt 21, 0, 0, 0, 0), (65, .aload_n 0, 0, 0, 0, 0), (66, .getfield 7, 89, 8, 9, 2), (69, .iload 4, 0, 0, 0, 0), (71, .iconst 0, 0, 0, 0, 0), (72, .invokestatic 72, 107, 115, 1, 0), (75, .iload_n 2, 0, 0, 0, 0), (76, .iastore, 0, 0, 0, 0), (77, .iinc 4 1, 0, 0, 0, 0), (80, .goto 27, 0, 0, 0, 0), (83, .aload_n 0, 0, 0, 0, 0), (84, .getfield 7, 89, 8, 9, 2), (87, .iload_n 2, 0, 0, 0, 0), (88, .iconst 2, 0, 0, 0, 0), (89, .invokestatic 37, 106, 114, 1, 0), (92, .dup2, 0, 0, 0, 0), (93, .iaload, 0, 0, 0, 0), (94, .iload 5, 0, 0, 0, 0), (96, .iadd, 0, 0, 0, 0), (97, .iastore, 0, 0, 0, 0), (98, .aload_n 0, 0, 0, 0, 0), (99, .iload 4, 0, 0, 0, 0), (101, .invokevirtual 114, 119, 121, 0, 0), (104, .iinc 3 1, 0, 0, 0, 0), (107, .goto (-102), 0, 0, 0, 0), (110, .iload_n 3, 0, 0, 0, 0), (111, .ireturn, 0, 0, 0, 0)]
def e_X7_frees : List Ent := [(0, .iconst 0, 0, 0, 0, 0), (1, .istore_n 2, 0, 0, 0, 0), (2, .iload_n 2, 0, 0, 0, 0), (3, .aload_n 0, 0, 0, 0, 0), (4, .getfield 7, 89, 8, 9, 2), (7, .iconst 0, 0, 0, 0, 0), (8, .iaload, 0, 0, 0, 0), (9, .if_icmp .ge 126, 0, 0, 0, 0), (12, .aload_n 0, 0, 0, 0, 0), (13, .getfield 7, 89, 8, 9, 2), (16, .iload_n 2, 0, 0, 0, 0), (17, .iconst 0, 0, 0, 0, 0), (18, .invokestatic 72, 107, 115, 1, 0), (21, .iaload, 0, 0, 0, 0), (22, .iload_n 1, 0, 0, 0, 0), (23, .if_icmp .eq 6, 0, 0, 0, 0), (26, .goto 103, 0, 0, 0, 0), (29, .aload_n 0, 0, 0, 0, 0), (30, .getfield 7, 89, 8, 9, 2), (33, .iload_n 2, 0, 0, 0, 0), (34, .iconst 3, 0, 0, 0, 0), (35, .invokestatic 72, 107, 115, 1, 0), (38, .iaload, 0, 0, 0, 0), (39, .iload_n 1, 0, 0, 0, 0), (40, .iconst 1, 0, 0, 0, 0), (41, .iadd, 0, 0, 0, 0), (42, .if_icmp .ne 7, 0, 0, 0, 0), (45, .iconst 1, 0, 0, 0, 0), (46, .goto 4, 0, 0, 0, 0), (49, .iconst 0, 0, 0, 0, 0), (50, .istore_n 3, 0, 0, 0, 0), (51, .aload_n 0, 0, 0, 0, 0), (52, .getfield 7, 89, 8, 9, 2), (55, .iload_n 2, 0, 0, 0, 0), (56, .bipush 6, 0, 0, 0, 0), (58, .invokestatic 72, 107, 115, 1, 0), (61, .iaload, 0, 0, 0, 0), (62, .iload_n 1, 0, 0, 0, 0), (63, .iconst 1, 0, 0, 0, 0), (64, .iadd, 0, 0, 0, 0), (65, .if_icmp .ne 7, 0, 0, 0, 0), (68, .iconst 1, 0, 0, 0, 0), (69, .goto 4, 0, 0, 0, 0), (72, .iconst 0, 0, 0, 0, 0), (73, .istore 4, 0, 0, 0, 0), (75, .iload_n 3, 0, 0, 0, 0), (76, .ifCond .eq 25, 0, 0, 0, 0), (79, .aload_n 0, 0, 0, 0, 0), (80, .getfield 7, 89, 8, 9, 2), (83, .iload_n 2, 0, 0, 0, 0), (84, .iconst 3, 0, 0, 0, 0), (85, .invokestatic 72, 107, 115, 1, 0), (88, .iconst 0, 0, 0, 0, 0), (89, .iastore, 0, 0, 0, 0), (90, .aload_n 0, 0, 0, 0, 0), (91, .getfield 7, 89, 8, 9, 2), (94, .iload_n 2, 0, 0, 0, 0), (95, .iconst 4, 0, 0, 0, 0), (96, .invokestatic 72, 107, 115, 1, 0), (99, .iconst 0, 0, 0, 0, 0), (100, .iastore, 0, 0, 0, 0), (101, .iload 4, 0, 0, 0, 0), (103, .ifCond .eq 26, 0, 0, 0, 0), (106, .aload_n 0, 0, 0, 0, 0), (107, .getfield 7, 89, 8, 9, 2), (110, .iload_n 2, 0, 0, 0, 0), (111, .bipush 6, 0, 0, 0, 0), (113, .invokestatic 72, 107, 115, 1, 0), (116, .iconst 0, 0, 0, 0, 0), (117, .iastore, 0, 0, 0, 0), (118, .aload_n 0, 0, 0, 0, 0), (119, .getfield 7, 89, 8, 9, 2), (122, .iload_n 2, 0, 0, 0, 0), (123, .iconst 5, 0, 0, 0, 0), (124, .invokestatic 72, 107, 115, 1, 0), (127, .iconst 0, 0, 0, 0, 0), (128, .iastore, 0, 0, 0, 0), (129, .iinc 2 1, 0, 0, 0, 0), (132, .goto (-130), 0, 0, 0, 0), (135, .return_, 0, 0, 0, 0)]
def e_X7_closes : List Ent := [(0, .iload_n 1, 0, 0, 0, 0), (1, .invokestatic 81, 110, 116, 1, 0), (4, .ifCond .ne 11, 0, 0, 0, 0), (7, .aload_n 0, 0, 0, 0, 0), (8, .sipush (-1011), 0, 0, 0, 0), (11, .invokevirtual 57, 103, 108, 0, 0), (14, .ireturn, 0, 0, 0, 0), (15, .aload_n 0, 0, 0, 0, 0), (16, .iload_n 1, 0, 0, 0, 0), (17, .invokevirtual 89, 112, 118, 0, 0), (20, .ifCond .ne 10, 0, 0, 0, 0), (23, .aload_n 0, 0, 0, 0, 0), (24, .iconst 2, 0, 0, 0, 0), (25, .iload_n 1, 0, 0, 0, 0), (26, .invokevirtual 78, 109, 109, 0, 0), (29, .ireturn, 0, 0, 0, 0), (30, .aload_n 0, 0, 0, 0, 0), (31, .invokevirtual 161, 134, 119, 0, 0), (34, .iconst 1, 0, 0, 0, 0), (35, .if_icmp .ne 11, 0, 0, 0, 0), (38, .aload_n 0, 0, 0, 0, 0), (39, .bipush 15, 0, 0, 0, 0), (41, .iload_n 1, 0, 0, 0, 0), (42, .invokevirtual 78, 109, 109, 0, 0), (45, .ireturn, 0, 0, 0, 0), (46, .aload_n 0, 0, 0, 0, 0), (47, .iload_n 1, 0, 0, 0, 0), (48, .invokevirtual 164, 135, 150, 0, 0), (51, .istore_n 2, 0, 0, 0, 0), (52, .aload_n 0, 0, 0, 0, 0), (53, .getfield 7, 89, 8, 9, 2), (56, .iload_n 1, 0, 0, 0, 0), (57, .iconst 0, 0, 0, 0, 0), (58, .invokestatic 37, 106, 114, 1, 0), (61, .iconst 0, 0, 0, 0, 0), (62, .iastore, 0, 0, 0, 0), (63, .aload_n 0, 0, 0, 0, 0), (64, .getfield 7, 89, 8, 9, 2), (67, .iload_n 2, 0, 0, 0, 0), (68, .iconst 2, 0, 0, 0, 0), (69, .invokestatic 37, 106, 114, 1, 0), (72, .dup2, 0, 0, 0, 0), (73, .iaload, 0, 0, 0, 0), (74, .aload_n 0, 0, 0, 0, 0), (75, .getfield 7, 89, 8, 9, 2), (78, .iload_n 1, 0, 0, 0, 0), (79, .iconst 2, 0, 0, 0, 0), (80, .invokestatic 37, 106, 114, 1, 0), (83, .iaload, 0, 0, 0, 0), (84, .iadd, 0, 0, 0, 0), (85, .iastore, 0, 0, 0, 0), (86, .aload_n 0, 0, 0, 0, 0), (87, .getfield 7, 89, 8, 9, 2), (90, .iload_n 2, 0, 0, 0, 0), (91, .iconst 3, 0, 0, 0, 0), (92, .invokestatic 37, 106, 114, 1, 0), (95, .dup2, 0, 0, 0, 0), (96, .iaload, 0, 0, 0, 0), (97, .aload_n 0, 0, 0, 0, 0), (98, .getfield 7, 89, 8, 9, 2), (101, .iload_n 1, 0, 0, 0, 0), (102, .iconst 3, 0, 0, 0, 0), (103, .invokestatic 37, 106, 114, 1, 0), (106, .iaload, 0, 0, 0, 0), (107, .iadd, 0, 0, 0, 0), (108, .iastore, 0, 0, 0, 0), (109, .aload_n 0, 0, 0, 0, 0), (110, .getfield 7, 89, 8, 9, 2), (113, .iload_n 1, 0, 0, 0, 0), (114, .iconst 2, 0, 0, 0, 0), (115, .invokestatic 37, 106, 114, 1, 0), (118, .iconst 0, 0, 0, 0, 0), (119, .iastore, 0, 0, 0, 0), (120, .aload_n 0, 0, 0, 0, 0), (121, .getfield 7, 89, 8, 9, 2), (124, .iload_n 1, 0, 0, 0, 0), (125, .iconst 3, 0, 0, 0, 0), (126, .invokestatic 37, 106, 114, 1, 0), (129, .iconst 0, 0, 0, 0, 0), (130, .iastore, 0, 0, 0, 0), (131, .iconst 0, 0, 0, 0, 0), (132, .istore_n 3, 0, 0, 0, 0), (133, .iload_n 3, 0, 0, 0, 0), (134, .aload_n 0, 0, 0, 0, 0), (135, .getfield 7, 89, 8, 9, 2), (138, .iconst 0, 0, 0, 0, 0), (139, .iaload, 0, 0, 0, 0), (140, .if_icmp .ge 78, 0, 0, 0, 0), (143, .aload_n 0, 0, 0, 0, 0), (144, .getfield 7, 89, 8, 9, 2), (147, .iload_n 3, 0, 0, 0, 0), (148, .iconst 3, 0, 0, 0, 0), (149, .invokestatic 72, 107, 115, 1, 0), (152, .iaload, 0, 0, 0, 0), (153, .iload_n 1, 0, 0, 0, 0), (154, .iconst 1, 0, 0, 0, 0), (155, .iadd, 0, 0, 0, 0), (156, .if_icmp .ne 16, 0, 0, 0, 0), (159, .aload_n 0, 0, 0, 0, 0), (160, .getfield 7, 89, 8, 9, 2), (163, .iload_n 3, 0, 0, 0, 0), (164, .iconst 3, 0, 0, 0, 0), (165, .invokestatic 72, 107, 115, 1, 0), (168, .iload_n 2, 0, 0, 0, 0), (169, .iconst 1, 0, 0, 0, 0), (170, .iadd, 0, 0, 0, 0), (171, .iastore, 0, 0, 0, 0), (172, .aload_n 0, 0, 0, 0, 0), (173, .getfield 7, 89, 8, 9, 2), (176, .iload_n 3, 0, 0, 0, 0), (177, .bipush 6, 0, 0, 0, 0), (179, .invokestatic 72, 107, 115, 1, 0), (182, .iaload, 0, 0, 0, 0), (183, .iload_n 1, 0, 0, 0, 0), (184, .iconst 1, 0, 0, 0, 0), (185, .iadd, 0, 0, 0, 0), (186, .if_icmp .ne 26, 0, 0, 0, 0), (189, .aload_n 0, 0, 0, 0, 0), (190, .getfield 7, 89, 8, 9, 2), (193, .iload_n 3, 0, 0, 0, 0), (194, .bipush 6, 0, 0, 0, 0), (196, .invokestatic 72, 107, 115, 1, 0), (199, .iconst 0, 0, 0, 0, 0), (200, .iastore, 0, 0, 0, 0), (201, .aload_n 0, 0, 0, 0, 0), (202, .getfield 7, 89, 8, 9, 2), (205, .iload_n 3, 0, 0, 0, 0), (206, .iconst 5, 0, 0, 0, 0), (207, .invokestatic 72, 107, 115, 1, 0), (210, .iconst 0, 0, 0, 0, 0), (211, .iastore, 0, 0, 0, 0), (212, .iinc 3 1, 0, 0, 0, 0), (215, .goto (-82), 0, 0, 0, 0), (218, .aload_n 0, 0, 0, 0, 0), (219, .aload_n 0, 0, 0, 0, 0), (220, .iload_n 1, 0, 0, 0, 0), (221, .iload_n 2, 0, 0, 0, 0), (222, .invokevirtual 167, 136, 151, 0, 0), (225, .putfield 170, 95, 8, 16, 0), (228, .aload_n 0, 0, 0, 0, 0), (229, .iload_n 2, 0, 0, 0, 0), (230, .invokevirtual 173, 137, 152, 0, 0), (233, .iload_n 2, 0, 0, 0, 0), (234, .ireturn, 0, 0, 0, 0)]
def e_X7_end : List Ent := [(0, .aload_n 0, 0, 0, 0, 0), (1, .invokevirtual 96, 114, 112, 0, 0), (4, .aload_n 0, 0, 0, 0, 0), (5, .aload_n 0, 0, 0, 0, 0), (6, .iload_n 1, 0, 0, 0, 0), (7, .invokevirtual 176, 138, 153, 0, 0), (10, .invokevirtual 102, 116, 113, 0, 0), (13, .ireturn, 0, 0, 0, 0)]
def e_X7_passes : List Ent := [(0, .iload_n 1, 0, 0, 0, 0), (1, .iconst 1, 0, 0, 0, 0), (2, .bipush 24, 0, 0, 0, 0), (4, .invokestatic 68, 105, 110, 1, 0), (7, .ifCond .ne 11, 0, 0, 0, 0), (10, .aload_n 0, 0, 0, 0, 0), (11, .sipush (-1012), 0, 0, 0, 0), (14, .invokevirtual 57, 103, 108, 0, 0), (17, .ireturn, 0, 0, 0, 0), (18, .iconst 0, 0, 0, 0, 0), (19, .istore_n 2, 0, 0, 0, 0), (20, .iconst 0, 0, 0, 0, 0), (21, .istore_n 3, 0, 0, 0, 0), (22, .iload_n 3, 0, 0, 0, 0), (23, .aload_n 0, 0, 0, 0, 0), (24, .getfield 7, 89, 8, 9, 2), (27, .iconst 0, 0, 0, 0, 0), (28, .iaload, 0, 0, 0, 0), (29, .if_icmp .ge 122, 0, 0, 0, 0), (32, .aload_n 0, 0, 0, 0, 0), (33, .getfield 7, 89, 8, 9, 2), (36, .iload_n 3, 0, 0, 0, 0), (37, .bipush 6, 0, 0, 0, 0), (39, .invokestatic 72, 107, 115, 1, 0), (42, .iaload, 0, 0, 0, 0), (43, .ifCond .ne 6, 0, 0, 0, 0), (46, .goto 99, 0, 0, 0, 0), (49, .aload_n 0, 0, 0, 0, 0), (50, .getfield 7, 89, 8, 9, 2), (53, .iload_n 3, 0, 0, 0, 0), (54, .iconst 5, 0, 0, 0, 0), (55, .invokestatic 72, 107, 115, 1, 0), (58, .iaload, 0, 0, 0, 0), (59, .iload_n 1, 0, 0, 0, 0), (60, .if_icmp .gt 7, 0, 0, 0, 0), (63, .iconst 1, 0, 0, 0, 0), (64, .goto 4, 0, 0, 0, 0), (67, .iconst 0, 0, 0, 0, 0), (68, .istore 4, 0, 0, 0, 0), (70, .iload_n 2, 0, 0, 0, 0), (71, .iload 4, 0, 0, 0, 0), (73, .ifCond .eq 7, 0, 0, 0, 0), (76, .iconst 1, 0, 0, 0, 0), (77, .goto 4, 0, 0, 0, 0), (80, .iconst 0, 0, 0, 0, 0), (81, .iadd, 0, 0, 0, 0), (82, .istore_n 2, 0, 0, 0, 0), (83, .aload_n 0, 0, 0, 0, 0), (84, .getfield 7, 89, 8, 9, 2), (87, .iload_n 3, 0, 0, 0, 0), (88, .iconst 5, 0, 0, 0, 0), (89, .invokestatic 72, 107, 115, 1, 0), (92, .iload 4, 0, 0, 0, 0), (94, .ifCond .eq 7, 0, 0, 0, 0), (97, .iconst 0, 0, 0, 0, 0), (98, .goto 15, 0, 0, 0, 0), (101, .aload_n 0, 0, 0, 0, 0), (102, .getfield 7, 89, 8, 9, 2), (105, .iload_n 3, 0, 0, 0, 0), (106, .iconst 5, 0, 0, 0, 0), (107, .invokestatic 72, 107, 115, 1, 0), (110, .iaload, 0, 0, 0, 0), (111, .iload_n 1, 0, 0, 0, 0), (112, .isub, 0, 0, 0, 0), (113, .iastore, 0, 0, 0, 0), (114, .aload_n 0, 0, 0, 0, 0), (115, .getfield 7, 89, 8, 9, 2), (118, .iload_n 3, 0, 0, 0, 0), (119, .bipush 6, 0, 0, 0, 0), (121, .invokestatic 72, 107, 115, 1, 0), (124, .iload 4, 0, 0, 0, 0), (126, .ifCond .eq 7, 0, 0, 0, 0), (129, .iconst 0, 0, 0, 0, 0), (130, .goto 14, 0, 0, 0, 0), (133, .aload_n 0, 0, 0, 0, 0), (134, .getfield 7, 89, 8, 9, 2), (137, .iload_n 3, 0, 0, 0, 0), (138, .bipush 6, 0, 0, 0, 0), (140, .invokestatic 72, 107, 115, 1, 0), (143, .iaload, 0, 0, 0, 0), (144, .iastore, 0, 0, 0, 0), (145, .iinc 3 1, 0, 0, 0, 0), (148, .goto (-126), 0, 0, 0, 0), (151, .aload_n 0, 0, 0, 0, 0), (152, .getfield 7, 89, 8, 9, 2), (155, .iconst 5, 0, 0, 0, 0), (156, .dup2, 0, 0, 0, 0), (157, .iaload, 0, 0, 0, 0), (158, .iload_n 1, 0, 0, 0, 0), (159, .iadd, 0, 0, 0, 0), (160, .iastore, 0, 0, 0, 0), (161, .iload_n 2, 0, 0, 0, 0), (162, .ireturn, 0, 0, 0, 0)]
def e_X7_pass : List Ent := [(0, .aload_n 0, 0, 0, 0, 0), (1, .invokevirtual 96, 114, 112, 0, 0), (4, .aload_n 0, 0, 0, 0, 0), (5, .aload_n 0, 0, 0, 0, 0), (6, .iload_n 1, 0, 0, 0, 0), (7, .invokevirtual 179, 139, 155, 0, 0), (10, .invokevirtual 102, 116, 113, 0, 0), (13, .ireturn, 0, 0, 0, 0)]
def e_X7_ofStubs : List Ent := [(0, .iconst 0, 0, 0, 0, 0), (1, .istore_n 3, 0, 0, 0, 0), (2, .iconst 0, 0, 0, 0, 0), (3, .istore 4, 0, 0, 0, 0), (5, .iload 4, 0, 0, 0, 0), (7, .aload_n 0, 0, 0, 0, 0), (8, .getfield 7, 89, 8, 9, 2), (11, .iconst 0, 0, 0, 0, 0), (12, .iaload, 0, 0, 0, 0), (13, .if_icmp .ge 47, 0, 0, 0, 0), (16, .aload_n 0, 0, 0, 0, 0), (17, .getfield 7, 89, 8, 9, 2), (20, .iload 4, 0, 0, 0, 0), (22, .iconst 0, 0, 0, 0, 0), (23, .invokestatic 72, 107, 115, 1, 0), (26, .iaload, 0, 0, 0, 0), (27, .iload_n 1, 0, 0, 0, 0), (28, .if_icmp .ne 26, 0, 0, 0, 0), (31, .iload_n 3, 0, 0, 0, 0), (32, .iload_n 2, 0, 0, 0, 0), (33, .iconst 5, 0, 0, 0, 0), (34, .if_icmp .ne 7, 0, 0, 0, 0), (37, .iconst 1, 0, 0, 0, 0), (38, .goto 14, 0, 0, 0, 0), (41, .aload_n 0, 0, 0, 0, 0), (42, .getfield 7, 89, 8, 9, 2), (45, .iload 4, 0, 0, 0, 0), (47, .iconst 4, 0, 0, 0, 0), (48, .invokestatic 72, 107, 115, 1, 0), (51, .iaload, 0, 0, 0, 0), (52, .iadd, 0, 0, 0, 0), (53, .istore_n 3, 0, 0, 0, 0), (54, .iinc 4 1, 0, 0, 0, 0), (57, .goto (-52), 0, 0, 0, 0), (60, .iload_n 3, 0, 0, 0, 0), (61, .ireturn, 0, 0, 0, 0)]
def e_X7_houseOf : List Ent := [(0, .iload_n 1, 0, 0, 0, 0), (1, .invokestatic 81, 110, 116, 1, 0), (4, .ifCond .ne 7, 0, 0, 0, 0), (7, .sipush (-1011), 0, 0, 0, 0), (10, .ireturn, 0, 0, 0, 0), (11, .iload_n 2, 0, 0, 0, 0), (12, .tableswitch 78 0 7 #[48, 48, 48, 48, 59, 65, 72, 65], 0, 0, 0, 0), (60, .aload_n 0, 0, 0, 0, 0), (61, .getfield 7, 89, 8, 9, 2), (64, .iload_n 1, 0, 0, 0, 0), (65, .iload_n 2, 0, 0, 0, 0), (66, .invokestatic 37, 106, 114, 1, 0), (69, .iaload, 0, 0, 0, 0), (70, .ireturn, 0, 0, 0, 0), (71, .aload_n 0, 0, 0, 0, 0), (72, .iload_n 1, 0, 0, 0, 0), (73, .invokevirtual 140, 127, 139, 0, 0), (76, .ireturn, 0, 0, 0, 0), (77, .aload_n 0, 0, 0, 0, 0), (78, .iload_n 1, 0, 0, 0, 0), (79, .iload_n 2, 0, 0, 0, 0), (80, .invokevirtual 182, 140, 157, 0, 0), (83, .ireturn, 0, 0, 0, 0), (84, .aload_n 0, 0, 0, 0, 0), (85, .iload_n 1, 0, 0, 0, 0), (86, .invokevirtual 127, 123, 123, 0, 0), (89, .ireturn, 0, 0, 0, 0), (90, .sipush (-1012), 0, 0, 0, 0), (93, .ireturn, 0, 0, 0, 0)]
def e_X7_inherits : List Ent := [(0, .iload_n 1, 0, 0, 0, 0), (1, .invokestatic 81, 110, 116, 1, 0), (4, .ifCond .ne 7, 0, 0, 0, 0), (7, .sipush (-1011), 0, 0, 0, 0), (10, .ireturn, 0, 0, 0, 0), (11, .aload_n 0, 0, 0, 0, 0), (12, .iload_n 1, 0, 0, 0, 0), (13, .invokevirtual 89, 112, 118, 0, 0), (16, .ifCond .eq 19, 0, 0, 0, 0), (19, .aload_n 0, 0, 0, 0, 0), (20, .invokevirtual 161, 134, 119, 0, 0), (23, .iconst 1, 0, 0, 0, 0), (24, .if_icmp .le 11, 0, 0, 0, 0), (27, .aload_n 0, 0, 0, 0, 0), (28, .iload_n 1, 0, 0, 0, 0), (29, .invokevirtual 164, 135, 150, 0, 0), (32, .goto 6, 0, 0, 0, 0), (35, .sipush (-1015), 0, 0, 0, 0), (38, .ireturn, 0, 0, 0, 0)]
def e_X7_wouldMelt : List Ent := [(0, .iload_n 1, 0, 0, 0, 0), (1, .invokestatic 81, 110, 116, 1, 0), (4, .ifCond .ne 7, 0, 0, 0, 0), (7, .sipush (-1011), 0, 0, 0, 0), (10, .ireturn, 0, 0, 0, 0), (11, .aload_n 0, 0, 0, 0, 0), (12, .iload_n 1, 0, 0, 0, 0), (13, .invokevirtual 89, 112, 118, 0, 0), (16, .ifCond .eq 11, 0, 0, 0, 0), (19, .aload_n 0, 0, 0, 0, 0), (20, .invokevirtual 161, 134, 119, 0, 0), (23, .iconst 1, 0, 0, 0, 0), (24, .if_icmp .ne 7, 0, 0, 0, 0), (27, .sipush (-1015), 0, 0, 0, 0), (30, .ireturn, 0, 0, 0, 0), (31, .aload_n 0, 0, 0, 0, 0), (32, .getfield 19, 96, 8, 12, 2), (35, .aload_n 0, 0, 0, 0, 0), (36, .getfield 7, 89, 8, 9, 2), (39, .invokestatic 61, 104, 111, 1, 0), (42, .aload_n 0, 0, 0, 0, 0), (43, .iload_n 1, 0, 0, 0, 0), (44, .invokevirtual 176, 138, 153, 0, 0), (47, .istore_n 2, 0, 0, 0, 0), (48, .aload_n 0, 0, 0, 0, 0), (49, .getfield 7, 89, 8, 9, 2), (52, .aload_n 0, 0, 0, 0, 0), (53, .getfield 19, 96, 8, 12, 2), (56, .invokestatic 61, 104, 111, 1, 0), (59, .aload_n 0, 0, 0, 0, 0), (60, .getfield 170, 95, 8, 16, 0), (63, .ireturn, 0, 0, 0, 0)]
def e_X7_weight : List Ent := [(0, .iload_n 1, 0, 0, 0, 0), (1, .invokestatic 81, 110, 116, 1, 0), (4, .ifCond .eq 11, 0, 0, 0, 0), (7, .aload_n 0, 0, 0, 0, 0), (8, .iload_n 1, 0, 0, 0, 0), (9, .invokevirtual 75, 108, 120, 0, 0), (12, .goto 6, 0, 0, 0, 0), (15, .sipush (-1011), 0, 0, 0, 0), (18, .ireturn, 0, 0, 0, 0)]
def e_X7_weightAgain : List Ent := [(0, .aload_n 0, 0, 0, 0, 0), (1, .iload_n 1, 0, 0, 0, 0), (2, .invokevirtual 185, 141, 161, 0, 0), (5, .ireturn, 0, 0, 0, 0)]
def e_X7_ranked : List Ent := [(0, .iconst 0, 0, 0, 0, 0), (1, .istore_n 2, 0, 0, 0, 0), (2, .iload_n 2, 0, 0, 0, 0), (3, .bipush 6, 0, 0, 0, 0), (5, .if_icmp .ge 112, 0, 0, 0, 0), (8, .iconst 0, 0, 0, 0, 0), (9, .istore_n 3, 0, 0, 0, 0), (10, .iconst 0, 0, 0, 0, 0), (11, .istore 4, 0, 0, 0, 0), (13, .iload 4, 0, 0, 0, 0), (15, .bipush 6, 0, 0, 0, 0), (17, .if_icmp .ge 87, 0, 0, 0, 0), (20, .aload_n 0, 0, 0, 0, 0), (21, .iload 4, 0, 0, 0, 0), (23, .invokevirtual 140, 127, 139, 0, 0), (26, .aload_n 0, 0, 0, 0, 0), (27, .iload_n 2, 0, 0, 0, 0), (28, .invokevirtual 140, 127, 139, 0, 0), (31, .isub, 0, 0, 0, 0), (32, .istore 5, 0, 0, 0, 0), (34, .iload 5, 0, 0, 0, 0), (36, .ifCond .eq 8, 0, 0, 0, 0), (39, .iload 5, 0, 0, 0, 0), (41, .goto 25, 0, 0, 0, 0), (44, .aload_n 0, 0, 0, 0, 0), (45, .getfield 7, 89, 8, 9, 2), (48, .iload 4, 0, 0, 0, 0), (50, .iconst 2, 0, 0, 0, 0), (51, .invokestatic 37, 106, 114, 1, 0), (54, .iaload, 0, 0, 0, 0), (55, .aload_n 0, 0, 0, 0, 0), (56, .getfield 7, 89, 8, 9, 2), (59, .iload_n 2, 0, 0, 0, 0), (60, .iconst 2, 0, 0, 0, 0), (61, .invokestatic 37, 106, 114, 1, 0), (64, .iaload, 0, 0, 0, 0), (65, .isub, 0, 0, 0, 0), (66, .istore 5, 0, 0, 0, 0), (68, .iload_n 3, 0, 0, 0, 0), (69, .iload 4, 0, 0, 0, 0), (71, .iload_n 2, 0, 0, 0, 0), (72, .if_icmp .eq 23, 0, 0, 0, 0), (75, .iload 5, 0, 0, 0, 0), (77, .ifCond .gt 14, 0, 0, 0, 0), (80, .iload 5, 0, 0, 0, 0), (82, .ifCond .ne 13, 0, 0, 0, 0), (85, .iload 4, 0, 0, 0, 0), (87, .iload_n 2, 0, 0, 0, 0), (88, .if_icmp .ge 7, 0, 0, 0, 0), (91, .iconst 1, 0, 0, 0, 0), (92, .goto 4, 0, 0, 0, 0), (95, .iconst 0, 0, 0, 0, 0), (96, .iadd, 0, 0, 0, 0), (97, .istore_n 3, 0, 0, 0, 0), (98, .iinc 4 1, 0, 0, 0, 0), (101, .goto (-88), 0, 0, 0, 0), (104, .iload_n 3, 0, 0, 0, 0), (105, .iload_n 1, 0, 0, 0, 0), (106, .if_icmp .ne 5, 0, 0, 0, 0), (109, .iload_n 2, 0, 0, 0, 0), (110, .ireturn, 0, 0, 0, 0), (111, .iinc 2 1, 0, 0, 0, 0), (114, .goto (-112), 0, 0, 0, 0), (117, .sipush (-1011), 0, 0, 0, 0), (120, .ireturn, 0, 0, 0, 0)]
def e_X7_brightest : List Ent := [(0, .iconst 0, 0, 0, 0, 0), (1, .istore_n 2, 0, 0, 0, 0), (2, .iload_n 2, 0, 0, 0, 0), (3, .aload_n 0, 0, 0, 0, 0), (4, .getfield 7, 89, 8, 9, 2), (7, .iconst 0, 0, 0, 0, 0), (8, .iaload, 0, 0, 0, 0), (9, .if_icmp .ge 149, 0, 0, 0, 0), (12, .iconst 0, 0, 0, 0, 0), (13, .istore_n 3, 0, 0, 0, 0), (14, .iconst 0, 0, 0, 0, 0), (15, .istore 4, 0, 0, 0, 0), (17, .iload 4, 0, 0, 0, 0), (19, .aload_n 0, 0, 0, 0, 0), (20, .getfield 7, 89, 8, 9, 2), (23, .iconst 0, 0, 0, 0, 0), (24, .iaload, 0, 0, 0, 0), (25, .if_icmp .ge 120, 0, 0, 0, 0), (28, .aload_n 0, 0, 0, 0, 0), (29, .getfield 7, 89, 8, 9, 2), (32, .iload 4, 0, 0, 0, 0), (34, .iconst 1, 0, 0, 0, 0), (35, .invokestatic 72, 107, 115, 1, 0), (38, .iaload, 0, 0, 0, 0), (39, .aload_n 0, 0, 0, 0, 0), (40, .getfield 7, 89, 8, 9, 2), (43, .iload 4, 0, 0, 0, 0), (45, .iconst 2, 0, 0, 0, 0), (46, .invokestatic 72, 107, 115, 1, 0), (49, .iaload, 0, 0, 0, 0), (50, .imul, 0, 0, 0, 0), (51, .aload_n 0, 0, 0, 0, 0), (52, .getfield 7, 89, 8, 9, 2), (55, .iload_n 2, 0, 0, 0, 0), (56, .iconst 1, 0, 0, 0, 0), (57, .invokestatic 72, 107, 115, 1, 0), (60, .iaload, 0, 0, 0, 0), (61, .aload_n 0, 0, 0, 0, 0), (62, .getfield 7, 89, 8, 9, 2), (65, .iload_n 2, 0, 0, 0, 0), (66, .iconst 2, 0, 0, 0, 0), (67, .invokestatic 72, 107, 115, 1, 0), (70, .iaload, 0, 0, 0, 0), (71, .imul, 0, 0, 0, 0), (72, .isub, 0, 0, 0, 0), (73, .istore 5, 0, 0, 0, 0), (75, .iload 5, 0, 0, 0, 0), (77, .ifCond .eq 8, 0, 0, 0, 0), (80, .iload 5, 0, 0, 0, 0), (82, .goto 25, 0, 0, 0, 0), (85, .aload_n 0, 0, 0, 0, 0), (86, .getfield 7, 89, 8, 9, 2), (89, .iload_n 2, 0, 0, 0, 0), (90, .iconst 4, 0, 0, 0, 0), (91, .invokestatic 72, 107, 115, 1, 0), (94, .iaload, 0, 0, 0, 0), (95, .aload_n 0, 0, 0, 0, 0), (96, .getfield 7, 89, 8, 9, 2), (99, .iload 4, 0, 0, 0, 0), (101, .iconst 4, 0, 0, 0, 0), (102, .invokestatic 72, 107, 115, 1, 0), (105, .iaload, 0, 0, 0, 0), (106, .isub, 0, 0, 0, 0), (107, .istore 5, 0, 0, 0, 0), (109, .iload_n 3, 0, 0, 0, 0), (110, .iload 4, 0, 0, 0, 0), (112, .iload_n 2, 0, 0, 0, 0), (113, .if_icmp .eq 23, 0, 0, 0, 0), (116, .iload 5, 0, 0, 0, 0), (118, .ifCond .gt 14, 0, 0, 0, 0), (121, .iload 5, 0, 0, 0, 0), (123, .ifCond .ne 13, 0, 0, 0, 0), (126, .iload 4, 0, 0, 0, 0), (128, .iload_n 2, 0, 0, 0, 0), (129, .if_icmp .ge 7, 0, 0, 0, 0), (132, .iconst 1, 0, 0, 0, 0), (133, .goto 4, 0, 0, 0, 0), (136, .iconst 0, 0, 0, 0, 0), (137, .iadd, 0, 0, 0, 0), (138, .istore_n 3, 0, 0, 0, 0), (139, .iinc 4 1, 0, 0, 0, 0), (142, .goto (-125), 0, 0, 0, 0), (145, .iload_n 3, 0, 0, 0, 0), (146, .iload_n 1, 0, 0, 0, 0), (147, .if_icmp .ne 5, 0, 0, 0, 0), (150, .iload_n 2, 0, 0, 0, 0), (151, .ireturn, 0, 0, 0, 0), (152, .iinc 2 1, 0, 0, 0, 0), (155, .goto (-153), 0, 0, 0, 0), (158, .sipush (-1011), 0, 0, 0, 0), (161, .ireturn, 0, 0, 0, 0)]
def e_X7_writes : List Ent := [(0, .aload_n 0, 0, 0, 0, 0), (1, .getfield 34, 97, 8, 18, 2), (4, .aload_n 0, 0, 0, 0, 0), (5, .getfield 188, 98, 8, 22, 0), (8, .iload_n 1, 0, 0, 0, 0), (9, .iastore, 0, 0, 0, 0), (10, .aload_n 0, 0, 0, 0, 0), (11, .dup, 0, 0, 0, 0), (12, .getfield 188, 98, 8, 22, 0), (15, .iconst 1, 0, 0, 0, 0), (16, .iadd, 0, 0, 0, 0), (17, .putfield 188, 98, 8, 22, 0), (20, .return_, 0, 0, 0, 0)]
def e_X7_writesNumber : List Ent := [(0, .iconst 1, 0, 0, 0, 0), (1, .istore_n 2, 0, 0, 0, 0), (2, .iload_n 1, 0, 0, 0, 0), (3, .iload_n 2, 0, 0, 0, 0), (4, .idiv, 0, 0, 0, 0), (5, .bipush 10, 0, 0, 0, 0), (7, .if_icmp .lt 11, 0, 0, 0, 0), (10, .iload_n 2, 0, 0, 0, 0), (11, .bipush 10, 0, 0, 0, 0), (13, .imul, 0, 0, 0, 0), (14, .istore_n 2, 0, 0, 0, 0), (15, .goto (-13), 0, 0, 0, 0), (18, .iload_n 2, 0, 0, 0, 0), (19, .ifCond .le 24, 0, 0, 0, 0), (22, .aload_n 0, 0, 0, 0, 0), (23, .bipush 48, 0, 0, 0, 0), (25, .iload_n 1, 0, 0, 0, 0), (26, .iload_n 2, 0, 0, 0, 0), (27, .idiv, 0, 0, 0, 0), (28, .bipush 10, 0, 0, 0, 0), (30, .irem, 0, 0, 0, 0), (31, .iadd, 0, 0, 0, 0), (32, .invokevirtual 191, 142, 165, 0, 0), (35, .iload_n 2, 0, 0, 0, 0), (36, .bipush 10, 0, 0, 0, 0), (38, .idiv, 0, 0, 0, 0), (39, .istore_n 2, 0, 0, 0, 0), (40, .goto (-22), 0, 0, 0, 0), (43, .return_, 0, 0, 0, 0)]
def e_X7_append : List Ent := [(0, .iload_n 1, 0, 0, 0, 0), (1, .bipush 32, 0, 0, 0, 0), (3, .bipush 126, 0, 0, 0, 0), (5, .invokestatic 68, 105, 110, 1, 0), (8, .ifCond .ne 7, 0, 0, 0, 0), (11, .sipush (-1012), 0, 0, 0, 0), (14, .ireturn, 0, 0, 0, 0), (15, .aload_n 0, 0, 0, 0, 0), (16, .getfield 194, 99, 8, 19, 0), (19, .bipush 60, 0, 0, 0, 0), (21, .if_icmp .ne 7, 0, 0, 0, 0), (24, .sipush (-1013), 0, 0, 0, 0), (27, .ireturn, 0, 0, 0, 0), (28, .aload_n 0, 0, 0, 0, 0), (29, .getfield 31, 100, 8, 17, 2), (32, .aload_n 0, 0, 0, 0, 0), (33, .getfield 194, 99, 8, 19, 0), (36, .iload_n 1, 0, 0, 0, 0), (37, .iastore, 0, 0, 0, 0), (38, .aload_n 0, 0, 0, 0, 0), (39, .dup, 0, 0, 0, 0), (40, .getfield 194, 99, 8, 19, 0), (43, .iconst 1, 0, 0, 0, 0), (44, .iadd, 0, 0, 0, 0), (45, .putfield 194, 99, 8, 19, 0), (48, .aload_n 0, 0, 0, 0, 0), (49, .getfield 194, 99, 8, 19, 0), (52, .ireturn, 0, 0, 0, 0)]
def e_X7_sign : List Ent := [(0, .aload_n 0, 0, 0, 0, 0), (1, .getfield 197, 101, 8, 20, 0), (4, .aload_n 0, 0, 0, 0, 0), (5, .getfield 200, 102, 8, 21, 0), (8, .if_icmp .ge 15, 0, 0, 0, 0), (11, .aload_n 0, 0, 0, 0, 0), (12, .getfield 31, 100, 8, 17, 2), (15, .aload_n 0, 0, 0, 0, 0), (16, .getfield 197, 101, 8, 20, 0), (19, .iaload, 0, 0, 0, 0), (20, .goto 4, 0, 0, 0, 0), (23, .iconst (-1), 0, 0, 0, 0), (24, .ireturn, 0, 0, 0, 0)]
def e_X7_mark : List Ent := [(0, .aload_n 0, 0, 0, 0, 0), (1, .getfield 203, 103, 8, 23, 1), (4, .ifCond .eq 4, 0, 0, 0, 0), (7, .return_, 0, 0, 0, 0), (8, .aload_n 0, 0, 0, 0, 0), (9, .aload_n 0, 0, 0, 0, 0), (10, .invokevirtual 207, 143, 168, 0, 0), (13, .iload_n 1, 0, 0, 0, 0), (14, .if_icmp .eq 7, 0, 0, 0, 0), (17, .iconst 1, 0, 0, 0, 0), (18, .goto 4, 0, 0, 0, 0), (21, .iconst 0, 0, 0, 0, 0), (22, .putfield 203, 103, 8, 23, 1), (25, .aload_n 0, 0, 0, 0, 0), (26, .dup, 0, 0, 0, 0), (27, .getfield 197, 101, 8, 20, 0), (30, .aload_n 0, 0, 0, 0, 0), (31, .getfield 203, 103, 8, 23, 1), (34, .ifCond .eq 7, 0, 0, 0, 0), (37, .iconst 0, 0, 0, 0, 0), (38, .goto 4, 0, 0, 0, 0), (41, .iconst 1, 0, 0, 0, 0), (42, .iadd, 0, 0, 0, 0), (43, .putfield 197, 101, 8, 20, 0), (46, .return_, 0, 0, 0, 0)]
def e_X7_digits : List Ent := [(0, .iconst 0, 0, 0, 0, 0), (1, .istore_n 2, 0, 0, 0, 0), (2, .iconst 0, 0, 0, 0, 0), (3, .istore_n 3, 0, 0, 0, 0), (4, .aload_n 0, 0, 0, 0, 0), (5, .getfield 203, 103, 8, 23, 1), (8, .ifCond .ne 51, 0, 0, 0, 0), (11, .iload_n 3, 0, 0, 0, 0), (12, .iload_n 1, 0, 0, 0, 0), (13, .if_icmp .ge 46, 0, 0, 0, 0), (16, .aload_n 0, 0, 0, 0, 0), (17, .invokevirtual 207, 143, 168, 0, 0), (20, .bipush 48, 0, 0, 0, 0), (22, .bipush 57, 0, 0, 0, 0), (24, .invokestatic 68, 105, 110, 1, 0), (27, .ifCond .eq 32, 0, 0, 0, 0), (30, .bipush 10, 0, 0, 0, 0), (32, .iload_n 2, 0, 0, 0, 0), (33, .imul, 0, 0, 0, 0), (34, .aload_n 0, 0, 0, 0, 0), (35, .invokevirtual 207, 143, 168, 0, 0), (38, .iadd, 0, 0, 0, 0), (39, .bipush 48, 0, 0, 0, 0), (41, .isub, 0, 0, 0, 0), (42, .istore_n 2, 0, 0, 0, 0), (43, .aload_n 0, 0, 0, 0, 0), (44, .dup, 0, 0, 0, 0), (45, .getfield 197, 101, 8, 20, 0), (48, .iconst 1, 0, 0, 0, 0), (49, .iadd, 0, 0, 0, 0), (50, .putfield 197, 101, 8, 20, 0), (53, .iinc 3 1, 0, 0, 0, 0), (56, .goto (-52), 0, 0, 0, 0), (59, .aload_n 0, 0, 0, 0, 0), (60, .dup, 0, 0, 0, 0), (61, .getfield 203, 103, 8, 23, 1), (64, .iload_n 3, 0, 0, 0, 0), (65, .ifCond .ne 7, 0, 0, 0, 0), (68, .iconst 1, 0, 0, 0, 0), (69, .goto 4, 0, 0, 0, 0), (72, .iconst 0, 0, 0, 0, 0), (73, .ior, 0, 0, 0, 0), (74, .putfield 203, 103, 8, 23, 1), (77, .iload_n 2, 0, 0, 0, 0), (78, .ireturn, 0, 0, 0, 0)]
def e_X7_behind : List Ent := [(0, .aload_n 0, 0, 0, 0, 0), (1, .iload_n 1, 0, 0, 0, 0), (2, .invokevirtual 210, 144, 169, 0, 0), (5, .aload_n 0, 0, 0, 0, 0), (6, .getfield 203, 103, 8, 23, 1), (9, .ifCond .eq 7, 0, 0, 0, 0), (12, .iconst 0, 0, 0, 0, 0), (13, .goto 8, 0, 0, 0, 0), (16, .aload_n 0, 0, 0, 0, 0), (17, .iload_n 2, 0, 0, 0, 0), (18, .invokevirtual 213, 145, 170, 0, 0), (21, .ireturn, 0, 0, 0, 0)]
def e_X7_does : List Ent := [(0, .iload_n 1, 0, 0, 0, 0), (1, .tableswitch 171 98 119 #[112, 171, 144, 165, 171, 171, 158, 171, 171, 171, 171, 149, 171, 119, 137, 171, 171, 103, 171, 171, 171, 128], 0, 0, 0, 0), (104, .aload_n 0, 0, 0, 0, 0), (105, .iload_n 2, 0, 0, 0, 0), (106, .iload_n 3, 0, 0, 0, 0), (107, .iload 4, 0, 0, 0, 0), (109, .invokevirtual 99, 115, 126, 0, 0), (112, .ireturn, 0, 0, 0, 0), (113, .aload_n 0, 0, 0, 0, 0), (114, .iload_n 2, 0, 0, 0, 0), (115, .iload_n 3, 0, 0, 0, 0), (116, .invokevirtual 118, 120, 129, 0, 0), (119, .ireturn, 0, 0, 0, 0), (120, .aload_n 0, 0, 0, 0, 0), (121, .iload_n 2, 0, 0, 0, 0), (122, .iload_n 3, 0, 0, 0, 0), (123, .iload 4, 0, 0, 0, 0), (125, .invokevirtual 124, 122, 131, 0, 0), (128, .ireturn, 0, 0, 0, 0), (129, .aload_n 0, 0, 0, 0, 0), (130, .iload_n 2, 0, 0, 0, 0), (131, .iload_n 3, 0, 0, 0, 0), (132, .iload 4, 0, 0, 0, 0), (134, .invokevirtual 130, 124, 133, 0, 0), (137, .ireturn, 0, 0, 0, 0), (138, .aload_n 0, 0, 0, 0, 0), (139, .iload_n 2, 0, 0, 0, 0), (140, .iload_n 3, 0, 0, 0, 0), (141, .invokevirtual 137, 126, 137, 0, 0), (144, .ireturn, 0, 0, 0, 0), (145, .aload_n 0, 0, 0, 0, 0), (146, .invokevirtual 149, 130, 142, 0, 0), (149, .ireturn, 0, 0, 0, 0), (150, .aload_n 0, 0, 0, 0, 0), (151, .iload_n 2, 0, 0, 0, 0), (152, .iload_n 3, 0, 0, 0, 0), (153, .iload 4, 0, 0, 0, 0), (155, .invokevirtual 155, 132, 146, 0, 0), (158, .ireturn, 0, 0, 0, 0), (159, .aload_n 0, 0, 0, 0, 0), (160, .iload_n 2, 0, 0, 0, 0), (161, .iload_n 3, 0, 0, 0, 0), (162, .invokevirtual 158, 133, 148, 0, 0), (165, .ireturn, 0, 0, 0, 0), (166, .aload_n 0, 0, 0, 0, 0), (167, .iload_n 2, 0, 0, 0, 0), (168, .invokevirtual 176, 138, 153, 0, 0), (171, .ireturn, 0, 0, 0, 0), (172, .aload_n 0, 0, 0, 0, 0), (173, .iload_n 2, 0, 0, 0, 0), (174, .invokevirtual 179, 139, 155, 0, 0), (177, .ireturn, 0, 0, 0, 0)]
def e_X7_isKnown : List Ent := [(0, .iload_n 0, 0, 0, 0, 0), (1, .bipush 115, 0, 0, 0, 0), (3, .if_icmp .eq 57, 0, 0, 0, 0), (6, .iload_n 0, 0, 0, 0, 0), (7, .bipush 98, 0, 0, 0, 0), (9, .if_icmp .eq 51, 0, 0, 0, 0), (12, .iload_n 0, 0, 0, 0, 0), (13, .bipush 111, 0, 0, 0, 0), (15, .if_icmp .eq 45, 0, 0, 0, 0), (18, .iload_n 0, 0, 0, 0, 0), (19, .bipush 119, 0, 0, 0, 0), (21, .if_icmp .eq 39, 0, 0, 0, 0), (24, .iload_n 0, 0, 0, 0, 0), (25, .bipush 112, 0, 0, 0, 0), (27, .if_icmp .eq 33, 0, 0, 0, 0), (30, .iload_n 0, 0, 0, 0, 0), (31, .bipush 100, 0, 0, 0, 0), (33, .if_icmp .eq 27, 0, 0, 0, 0), (36, .iload_n 0, 0, 0, 0, 0), (37, .bipush 109, 0, 0, 0, 0), (39, .if_icmp .eq 21, 0, 0, 0, 0), (42, .iload_n 0, 0, 0, 0, 0), (43, .bipush 104, 0, 0, 0, 0), (45, .if_icmp .eq 15, 0, 0, 0, 0), (48, .iload_n 0, 0, 0, 0, 0), (49, .bipush 101, 0, 0, 0, 0), (51, .if_icmp .eq 9, 0, 0, 0, 0), (54, .iload_n 0, 0, 0, 0, 0), (55, .bipush 116, 0, 0, 0, 0), (57, .if_icmp .ne 7, 0, 0, 0, 0), (60, .iconst 1, 0, 0, 0, 0), (61, .goto 4, 0, 0, 0, 0), (64, .iconst 0, 0, 0, 0, 0), (65, .ireturn, 0, 0, 0, 0)]
def e_X7_order : List Ent := [(0, .aload_n 0, 0, 0, 0, 0), (1, .invokevirtual 207, 143, 168, 0, 0), (4, .istore_n 1, 0, 0, 0, 0), (5, .iconst 0, 0, 0, 0, 0), (6, .istore_n 2, 0, 0, 0, 0), (7, .iconst 0, 0, 0, 0, 0), (8, .istore_n 3, 0, 0, 0, 0), (9, .iconst 0, 0, 0, 0, 0), (10, .istore 4, 0, 0, 0, 0), (12, .aload_n 0, 0, 0, 0, 0), (13, .iload_n 1, 0, 0, 0, 0), (14, .invokestatic 216, 146, 173, 1, 0), (17, .ifCond .ne 7, 0, 0, 0, 0), (20, .iconst 1, 0, 0, 0, 0), (21, .goto 4, 0, 0, 0, 0), (24, .iconst 0, 0, 0, 0, 0), (25, .putfield 203, 103, 8, 23, 1), (28, .aload_n 0, 0, 0, 0, 0), (29, .getfield 203, 103, 8, 23, 1), (32, .ifCond .eq 4, 0, 0, 0, 0), (35, .return_, 0, 0, 0, 0), (36, .aload_n 0, 0, 0, 0, 0), (37, .dup, 0, 0, 0, 0), (38, .getfield 197, 101, 8, 20, 0), (41, .iconst 1, 0, 0, 0, 0), (42, .iadd, 0, 0, 0, 0), (43, .putfield 197, 101, 8, 20, 0), (46, .iload_n 1, 0, 0, 0, 0), (47, .bipush 98, 0, 0, 0, 0), (49, .if_icmp .eq 21, 0, 0, 0, 0), (52, .iload_n 1, 0, 0, 0, 0), (53, .bipush 111, 0, 0, 0, 0), (55, .if_icmp .eq 15, 0, 0, 0, 0), (58, .iload_n 1, 0, 0, 0, 0), (59, .bipush 112, 0, 0, 0, 0), (61, .if_icmp .eq 9, 0, 0, 0, 0), (64, .iload_n 1, 0, 0, 0, 0), (65, .bipush 116, 0, 0, 0, 0), (67, .if_icmp .ne 7, 0, 0, 0, 0), (70, .iconst 1, 0, 0, 0, 0), (71, .goto 4, 0, 0, 0, 0), (74, .iconst 0, 0, 0, 0, 0), (75, .istore 5, 0, 0, 0, 0), (77, .iload_n 1, 0, 0, 0, 0), (78, .bipush 100, 0, 0, 0, 0), (80, .if_icmp .eq 18, 0, 0, 0, 0), (83, .aload_n 0, 0, 0, 0, 0), (84, .iload 5, 0, 0, 0, 0), (86, .ifCond .eq 7, 0, 0, 0, 0), (89, .iconst 2, 0, 0, 0, 0), (90, .goto 4, 0, 0, 0, 0), (93, .iconst 1, 0, 0, 0, 0), (94, .invokevirtual 213, 145, 170, 0, 0), (97, .istore_n 2, 0, 0, 0, 0), (98, .iload_n 1, 0, 0, 0, 0), (99, .bipush 115, 0, 0, 0, 0), (101, .if_icmp .eq 9, 0, 0, 0, 0), (104, .iload_n 1, 0, 0, 0, 0), (105, .bipush 109, 0, 0, 0, 0), (107, .if_icmp .ne 11, 0, 0, 0, 0), (110, .aload_n 0, 0, 0, 0, 0), (111, .bipush 58, 0, 0, 0, 0), (113, .iconst 2, 0, 0, 0, 0), (114, .invokevirtual 219, 147, 171, 0, 0), (117, .istore_n 3, 0, 0, 0, 0), (118, .iload_n 1, 0, 0, 0, 0), (119, .bipush 115, 0, 0, 0, 0), (121, .if_icmp .eq 9, 0, 0, 0, 0), (124, .iload_n 1, 0, 0, 0, 0), (125, .bipush 109, 0, 0, 0, 0), (127, .if_icmp .ne 12, 0, 0, 0, 0), (130, .aload_n 0, 0, 0, 0, 0), (131, .bipush 47, 0, 0, 0, 0), (133, .iconst 1, 0, 0, 0, 0), (134, .invokevirtual 219, 147, 171, 0, 0), (137, .istore 4, 0, 0, 0, 0), (139, .iload_n 1, 0, 0, 0, 0), (140, .bipush 98, 0, 0, 0, 0), (142, .if_icmp .ne 11, 0, 0, 0, 0), (145, .aload_n 0, 0, 0, 0, 0), (146, .bipush 42, 0, 0, 0, 0), (148, .iconst 2, 0, 0, 0, 0), (149, .invokevirtual 219, 147, 171, 0, 0), (152, .istore_n 3, 0, 0, 0, 0), (153, .iload_n 1, 0, 0, 0, 0), (154, .bipush 111, 0, 0, 0, 0), (156, .if_icmp .eq 9, 0, 0, 0, 0), (159, .iload_n 1, 0, 0, 0, 0), (160, .bipush 104, 0, 0, 0, 0), (162, .if_icmp .ne 11, 0, 0, 0, 0), (165, .aload_n 0, 0, 0, 0, 0), (166, .bipush 62, 0, 0, 0, 0), (168, .iconst 1, 0, 0, 0, 0), (169, .invokevirtual 219, 147, 171, 0, 0), (172, .istore_n 3, 0, 0, 0, 0), (173, .iload_n 1, 0, 0, 0, 0), (174, .bipush 111, 0, 0, 0, 0), (176, .if_icmp .ne 12, 0, 0, 0, 0), (179, .aload_n 0, 0, 0, 0, 0), (180, .bipush 61, 0, 0, 0, 0), (182, .iconst 2, 0, 0, 0, 0), (183, .invokevirtual 219, 147, 171, 0, 0), (186, .istore 4, 0, 0, 0, 0), (188, .iload_n 1, 0, 0, 0, 0), (189, .bipush 119, 0, 0, 0, 0), (191, .if_icmp .ne 11, 0, 0, 0, 0), (194, .aload_n 0, 0, 0, 0, 0), (195, .bipush 33, 0, 0, 0, 0), (197, .iconst 2, 0, 0, 0, 0), (198, .invokevirtual 219, 147, 171, 0, 0), (201, .istore_n 3, 0, 0, 0, 0), (202, .iload_n 1, 0, 0, 0, 0), (203, .bipush 119, 0, 0, 0, 0), (205, .if_icmp .ne 12, 0, 0, 0, 0), (208, .aload_n 0, 0, 0, 0, 0), (209, .bipush 42, 0, 0, 0, 0), (211, .iconst 2, 0, 0, 0, 0), (212, .invokevirtual 219, 147, 171, 0, 0), (215, .istore 4, 0, 0, 0, 0), (217, .iload_n 1, 0, 0, 0, 0), (218, .bipush 112, 0, 0, 0, 0), (220, .if_icmp .ne 11, 0, 0, 0, 0), (223, .aload_n 0, 0, 0, 0, 0), (224, .bipush 43, 0, 0, 0, 0), (226, .iconst 2, 0, 0, 0, 0), (227, .invokevirtual 219, 147, 171, 0, 0), (230, .istore_n 3, 0, 0, 0, 0), (231, .aload_n 0, 0, 0, 0, 0), (232, .getfield 203, 103, 8, 23, 1), (235, .ifCond .ne 10, 0, 0, 0, 0), (238, .aload_n 0, 0, 0, 0, 0), (239, .getfield 222, 104, 8, 24, 1), (242, .ifCond .ne 4, 0, 0, 0, 0), (245, .return_, 0, 0, 0, 0), (246, .aload_n 0, 0, 0, 0, 0), (247, .iload_n 1, 0, 0, 0, 0), (248, .iload_n 2, 0, 0, 0, 0), (249, .iload_n 3, 0, 0, 0, 0), (250, .iload 4, 0, 0, 0, 0), (252, .invokevirtual 225, 148, 172, 0, 0), (255, .istore 6, 0, 0, 0, 0), (257, .return_, 0, 0, 0, 0)]
def e_X7_orders : List Ent := [(0, .aload_n 0, 0, 0, 0, 0), (1, .iconst 0, 0, 0, 0, 0), (2, .putfield 197, 101, 8, 20, 0), (5, .aload_n 0, 0, 0, 0, 0), (6, .iconst 0, 0, 0, 0, 0), (7, .putfield 203, 103, 8, 23, 1), (10, .iconst 1, 0, 0, 0, 0), (11, .istore_n 1, 0, 0, 0, 0), (12, .aload_n 0, 0, 0, 0, 0), (13, .invokevirtual 229, 149, 174, 0, 0), (16, .aload_n 0, 0, 0, 0, 0), (17, .getfield 203, 103, 8, 23, 1), (20, .ifCond .ne 44, 0, 0, 0, 0), (23, .aload_n 0, 0, 0, 0, 0), (24, .getfield 41, 83, 8, 0, 0), (27, .ifCond .ne 37, 0, 0, 0, 0), (30, .aload_n 0, 0, 0, 0, 0), (31, .getfield 197, 101, 8, 20, 0), (34, .aload_n 0, 0, 0, 0, 0), (35, .getfield 200, 102, 8, 21, 0), (38, .if_icmp .ge 26, 0, 0, 0, 0), (41, .aload_n 0, 0, 0, 0, 0), (42, .bipush 59, 0, 0, 0, 0), (44, .invokevirtual 210, 144, 169, 0, 0), (47, .aload_n 0, 0, 0, 0, 0), (48, .getfield 203, 103, 8, 23, 1), (51, .ifCond .ne 7, 0, 0, 0, 0), (54, .aload_n 0, 0, 0, 0, 0), (55, .invokevirtual 229, 149, 174, 0, 0), (58, .iinc 1 1, 0, 0, 0, 0), (61, .goto (-45), 0, 0, 0, 0), (64, .iload_n 1, 0, 0, 0, 0), (65, .ireturn, 0, 0, 0, 0)]
def e_X7_refusesOrder : List Ent := [(0, .aload_n 0, 0, 0, 0, 0), (1, .getfield 41, 83, 8, 0, 0), (4, .sipush (-1014), 0, 0, 0, 0), (7, .if_icmp .ne 7, 0, 0, 0, 0), (10, .iconst 1, 0, 0, 0, 0), (11, .goto 4, 0, 0, 0, 0), (14, .iconst 0, 0, 0, 0, 0), (15, .istore_n 2, 0, 0, 0, 0), (16, .iload_n 2, 0, 0, 0, 0), (17, .ifCond .eq 10, 0, 0, 0, 0), (20, .aload_n 0, 0, 0, 0, 0), (21, .getfield 45, 84, 8, 2, 0), (24, .goto 4, 0, 0, 0, 0), (27, .iconst 0, 0, 0, 0, 0), (28, .istore_n 3, 0, 0, 0, 0), (29, .aload_n 0, 0, 0, 0, 0), (30, .getfield 48, 85, 8, 3, 0), (33, .istore 4, 0, 0, 0, 0), (35, .iload_n 2, 0, 0, 0, 0), (36, .ifCond .eq 10, 0, 0, 0, 0), (39, .aload_n 0, 0, 0, 0, 0), (40, .getfield 51, 86, 8, 4, 0), (43, .goto 4, 0, 0, 0, 0), (46, .iconst 0, 0, 0, 0, 0), (47, .istore 5, 0, 0, 0, 0), (49, .aload_n 0, 0, 0, 0, 0), (50, .getfield 105, 92, 8, 5, 0), (53, .istore 6, 0, 0, 0, 0), (55, .aload_n 0, 0, 0, 0, 0), (56, .bipush 16, 0, 0, 0, 0), (58, .iload_n 1, 0, 0, 0, 0), (59, .invokevirtual 78, 109, 109, 0, 0), (62, .istore 7, 0, 0, 0, 0), (64, .aload_n 0, 0, 0, 0, 0), (65, .iload_n 3, 0, 0, 0, 0), (66, .putfield 51, 86, 8, 4, 0), (69, .aload_n 0, 0, 0, 0, 0), (70, .iload 4, 0, 0, 0, 0), (72, .putfield 105, 92, 8, 5, 0), (75, .aload_n 0, 0, 0, 0, 0), (76, .iload 5, 0, 0, 0, 0), (78, .putfield 54, 87, 8, 6, 0), (81, .aload_n 0, 0, 0, 0, 0), (82, .iload 6, 0, 0, 0, 0), (84, .putfield 232, 105, 8, 7, 0), (87, .iload 7, 0, 0, 0, 0), (89, .ireturn, 0, 0, 0, 0)]
def e_X7_run : List Ent := [(0, .aload_n 0, 0, 0, 0, 0), (1, .invokevirtual 96, 114, 112, 0, 0), (4, .aload_n 0, 0, 0, 0, 0), (5, .aload_n 0, 0, 0, 0, 0), (6, .getfield 194, 99, 8, 19, 0), (9, .putfield 200, 102, 8, 21, 0), (12, .aload_n 0, 0, 0, 0, 0), (13, .iconst 0, 0, 0, 0, 0), (14, .putfield 194, 99, 8, 19, 0), (17, .aload_n 0, 0, 0, 0, 0), (18, .iconst 0, 0, 0, 0, 0), (19, .putfield 222, 104, 8, 24, 1), (22, .aload_n 0, 0, 0, 0, 0), (23, .invokevirtual 235, 150, 175, 0, 0), (26, .istore_n 1, 0, 0, 0, 0), (27, .aload_n 0, 0, 0, 0, 0), (28, .getfield 203, 103, 8, 23, 1), (31, .ifCond .eq 12, 0, 0, 0, 0), (34, .sipush (-2000), 0, 0, 0, 0), (37, .aload_n 0, 0, 0, 0, 0), (38, .getfield 197, 101, 8, 20, 0), (41, .isub, 0, 0, 0, 0), (42, .ireturn, 0, 0, 0, 0), (43, .aload_n 0, 0, 0, 0, 0), (44, .iconst 1, 0, 0, 0, 0), (45, .putfield 222, 104, 8, 24, 1), (48, .aload_n 0, 0, 0, 0, 0), (49, .invokevirtual 235, 150, 175, 0, 0), (52, .istore_n 1, 0, 0, 0, 0), (53, .aload_n 0, 0, 0, 0, 0), (54, .aload_n 0, 0, 0, 0, 0), (55, .getfield 41, 83, 8, 0, 0), (58, .ifCond .ne 7, 0, 0, 0, 0), (61, .iload_n 1, 0, 0, 0, 0), (62, .goto 10, 0, 0, 0, 0), (65, .aload_n 0, 0, 0, 0, 0), (66, .iload_n 1, 0, 0, 0, 0), (67, .iconst 1, 0, 0, 0, 0), (68, .isub, 0, 0, 0, 0), (69, .invokevirtual 238, 151, 176, 0, 0), (72, .invokevirtual 102, 116, 113, 0, 0), (75, .ireturn, 0, 0, 0, 0)]
def e_X7_tell : List Ent := [(0, .aload_n 0, 0, 0, 0, 0), (1, .iload_n 1, 0, 0, 0, 0), (2, .invokevirtual 108, 117, 117, 0, 0), (5, .ifCond .ne 7, 0, 0, 0, 0), (8, .sipush (-1011), 0, 0, 0, 0), (11, .ireturn, 0, 0, 0, 0), (12, .aload_n 0, 0, 0, 0, 0), (13, .iconst 0, 0, 0, 0, 0), (14, .putfield 188, 98, 8, 22, 0), (17, .aload_n 0, 0, 0, 0, 0), (18, .iload_n 1, 0, 0, 0, 0), (19, .invokevirtual 241, 152, 166, 0, 0), (22, .aload_n 0, 0, 0, 0, 0), (23, .bipush 64, 0, 0, 0, 0), (25, .invokevirtual 191, 142, 165, 0, 0), (28, .aload_n 0, 0, 0, 0, 0), (29, .aload_n 0, 0, 0, 0, 0), (30, .getfield 7, 89, 8, 9, 2), (33, .iload_n 1, 0, 0, 0, 0), (34, .iconst 0, 0, 0, 0, 0), (35, .invokestatic 72, 107, 115, 1, 0), (38, .iaload, 0, 0, 0, 0), (39, .invokevirtual 241, 152, 166, 0, 0), (42, .aload_n 0, 0, 0, 0, 0), (43, .bipush 58, 0, 0, 0, 0), (45, .invokevirtual 191, 142, 165, 0, 0), (48, .aload_n 0, 0, 0, 0, 0), (49, .aload_n 0, 0, 0, 0, 0), (50, .getfield 7, 89, 8, 9, 2), (53, .iload_n 1, 0, 0, 0, 0), (54, .iconst 1, 0, 0, 0, 0), (55, .invokestatic 72, 107, 115, 1, 0), (58, .iaload, 0, 0, 0, 0), (59, .invokevirtual 241, 152, 166, 0, 0), (62, .aload_n 0, 0, 0, 0, 0), (63, .bipush 47, 0, 0, 0, 0), (65, .invokevirtual 191, 142, 165, 0, 0), (68, .aload_n 0, 0, 0, 0, 0), (69, .aload_n 0, 0, 0, 0, 0), (70, .getfield 7, 89, 8, 9, 2), (73, .iload_n 1, 0, 0, 0, 0), (74, .iconst 2, 0, 0, 0, 0), (75, .invokestatic 72, 107, 115, 1, 0), (78, .iaload, 0, 0, 0, 0), (79, .invokevirtual 241, 152, 166, 0, 0), (82, .aload_n 0, 0, 0, 0, 0), (83, .getfield 7, 89, 8, 9, 2), (86, .iload_n 1, 0, 0, 0, 0), (87, .iconst 3, 0, 0, 0, 0), (88, .invokestatic 72, 107, 115, 1, 0), (91, .iaload, 0, 0, 0, 0), (92, .ifCond .le 45, 0, 0, 0, 0), (95, .aload_n 0, 0, 0, 0, 0), (96, .bipush 62, 0, 0, 0, 0), (98, .invokevirtual 191, 142, 165, 0, 0), (101, .aload_n 0, 0, 0, 0, 0), (102, .aload_n 0, 0, 0, 0, 0), (103, .getfield 7, 89, 8, 9, 2), (106, .iload_n 1, 0, 0, 0, 0), (107, .iconst 3, 0, 0, 0, 0), (108, .invokestatic 72, 107, 115, 1, 0), (111, .iaload, 0, 0, 0, 0), (112, .iconst 1, 0, 0, 0, 0), (113, .isub, 0, 0, 0, 0), (114, .invokevirtual 241, 152, 166, 0, 0), (117, .aload_n 0, 0, 0, 0, 0), (118, .bipush 61, 0, 0, 0, 0), (120, .invokevirtual 191, 142, 165, 0, 0), (123, .aload_n 0, 0, 0, 0, 0), (124, .aload_n 0, 0, 0, 0, 0), (125, .getfield 7, 89, 8, 9, 2), (128, .iload_n 1, 0, 0, 0, 0), (129, .iconst 4, 0, 0, 0, 0), (130, .invokestatic 72, 107, 115, 1, 0), (133, .iaload, 0, 0, 0, 0), (134, .invokevirtual 241, 152, 166, 0, 0), (137, .aload_n 0, 0, 0, 0, 0), (138, .getfield 7, 89, 8, 9, 2), (141, .iload_n 1, 0, 0, 0, 0), (142, .bipush 6, 0, 0, 0, 0), (144, .invokestatic 72, 107, 115, 1, 0), (147, .iaload, 0, 0, 0, 0), (148, .ifCond .le 23, 0, 0, 0, 0), (151, .aload_n 0, 0, 0, 0, 0), (152, .bipush 33, 0, 0, 0, 0), (154, .invokevirtual 191, 142, 165, 0, 0), (157, .aload_n 0, 0, 0, 0, 0), (158, .aload_n 0, 0, 0, 0, 0), (159, .getfield 7, 89, 8, 9, 2), (162, .iload_n 1, 0, 0, 0, 0), (163, .iconst 5, 0, 0, 0, 0), (164, .invokestatic 72, 107, 115, 1, 0), (167, .iaload, 0, 0, 0, 0), (168, .invokevirtual 241, 152, 166, 0, 0), (171, .aload_n 0, 0, 0, 0, 0), (172, .getfield 188, 98, 8, 22, 0), (175, .ireturn, 0, 0, 0, 0)]
def e_X7_tellHouses : List Ent := [(0, .aload_n 0, 0, 0, 0, 0), (1, .iconst 0, 0, 0, 0, 0), (2, .putfield 188, 98, 8, 22, 0), (5, .iconst 0, 0, 0, 0, 0), (6, .istore_n 1, 0, 0, 0, 0), (7, .iload_n 1, 0, 0, 0, 0), (8, .bipush 6, 0, 0, 0, 0), (10, .if_icmp .ge 86, 0, 0, 0, 0), (13, .iload_n 1, 0, 0, 0, 0), (14, .ifCond .le 9, 0, 0, 0, 0), (17, .aload_n 0, 0, 0, 0, 0), (18, .bipush 32, 0, 0, 0, 0), (20, .invokevirtual 191, 142, 165, 0, 0), (23, .aload_n 0, 0, 0, 0, 0), (24, .iload_n 1, 0, 0, 0, 0), (25, .invokevirtual 89, 112, 118, 0, 0), (28, .ifCond .ne 12, 0, 0, 0, 0), (31, .aload_n 0, 0, 0, 0, 0), (32, .bipush 120, 0, 0, 0, 0), (34, .invokevirtual 191, 142, 165, 0, 0), (37, .goto 53, 0, 0, 0, 0), (40, .aload_n 0, 0, 0, 0, 0), (41, .aload_n 0, 0, 0, 0, 0), (42, .getfield 7, 89, 8, 9, 2), (45, .iload_n 1, 0, 0, 0, 0), (46, .iconst 2, 0, 0, 0, 0), (47, .invokestatic 37, 106, 114, 1, 0), (50, .iaload, 0, 0, 0, 0), (51, .invokevirtual 241, 152, 166, 0, 0), (54, .aload_n 0, 0, 0, 0, 0), (55, .getfield 7, 89, 8, 9, 2), (58, .iload_n 1, 0, 0, 0, 0), (59, .iconst 3, 0, 0, 0, 0), (60, .invokestatic 37, 106, 114, 1, 0), (63, .iaload, 0, 0, 0, 0), (64, .ifCond .ne 6, 0, 0, 0, 0), (67, .goto 23, 0, 0, 0, 0), (70, .aload_n 0, 0, 0, 0, 0), (71, .bipush 43, 0, 0, 0, 0), (73, .invokevirtual 191, 142, 165, 0, 0), (76, .aload_n 0, 0, 0, 0, 0), (77, .aload_n 0, 0, 0, 0, 0), (78, .getfield 7, 89, 8, 9, 2), (81, .iload_n 1, 0, 0, 0, 0), (82, .iconst 3, 0, 0, 0, 0), (83, .invokestatic 37, 106, 114, 1, 0), (86, .iaload, 0, 0, 0, 0), (87, .invokevirtual 241, 152, 166, 0, 0), (90, .iinc 1 1, 0, 0, 0, 0), (93, .goto (-86), 0, 0, 0, 0), (96, .aload_n 0, 0, 0, 0, 0), (97, .getfield 188, 98, 8, 22, 0), (100, .ireturn, 0, 0, 0, 0)]
def e_X7_character : List Ent := [(0, .iload_n 1, 0, 0, 0, 0), (1, .iconst 0, 0, 0, 0, 0), (2, .aload_n 0, 0, 0, 0, 0), (3, .getfield 188, 98, 8, 22, 0), (6, .iconst 1, 0, 0, 0, 0), (7, .isub, 0, 0, 0, 0), (8, .invokestatic 68, 105, 110, 1, 0), (11, .ifCond .eq 12, 0, 0, 0, 0), (14, .aload_n 0, 0, 0, 0, 0), (15, .getfield 34, 97, 8, 18, 2), (18, .iload_n 1, 0, 0, 0, 0), (19, .iaload, 0, 0, 0, 0), (20, .goto 6, 0, 0, 0, 0), (23, .sipush (-1011), 0, 0, 0, 0), (26, .ireturn, 0, 0, 0, 0)]
def e_X7_reason : List Ent := [(0, .iload_n 1, 0, 0, 0, 0), (1, .iconst 0, 0, 0, 0, 0), (2, .iconst 2, 0, 0, 0, 0), (3, .invokestatic 68, 105, 110, 1, 0), (6, .ifCond .ne 7, 0, 0, 0, 0), (9, .sipush (-1012), 0, 0, 0, 0), (12, .ireturn, 0, 0, 0, 0), (13, .iload_n 1, 0, 0, 0, 0), (14, .ifCond .ne 10, 0, 0, 0, 0), (17, .aload_n 0, 0, 0, 0, 0), (18, .getfield 45, 84, 8, 2, 0), (21, .goto 19, 0, 0, 0, 0), (24, .iload_n 1, 0, 0, 0, 0), (25, .iconst 1, 0, 0, 0, 0), (26, .if_icmp .ne 10, 0, 0, 0, 0), (29, .aload_n 0, 0, 0, 0, 0), (30, .getfield 51, 86, 8, 4, 0), (33, .goto 7, 0, 0, 0, 0), (36, .aload_n 0, 0, 0, 0, 0), (37, .getfield 54, 87, 8, 6, 0), (40, .istore_n 3, 0, 0, 0, 0), (41, .iload_n 3, 0, 0, 0, 0), (42, .ifCond .ne 7, 0, 0, 0, 0), (45, .sipush (-1015), 0, 0, 0, 0), (48, .ireturn, 0, 0, 0, 0), (49, .iload_n 2, 0, 0, 0, 0), (50, .ifCond .ne 7, 0, 0, 0, 0), (53, .iload_n 3, 0, 0, 0, 0), (54, .goto 30, 0, 0, 0, 0), (57, .iload_n 1, 0, 0, 0, 0), (58, .ifCond .ne 10, 0, 0, 0, 0), (61, .aload_n 0, 0, 0, 0, 0), (62, .getfield 48, 85, 8, 3, 0), (65, .goto 19, 0, 0, 0, 0), (68, .iload_n 1, 0, 0, 0, 0), (69, .iconst 1, 0, 0, 0, 0), (70, .if_icmp .ne 10, 0, 0, 0, 0), (73, .aload_n 0, 0, 0, 0, 0), (74, .getfield 105, 92, 8, 5, 0), (77, .goto 7, 0, 0, 0, 0), (80, .aload_n 0, 0, 0, 0, 0), (81, .getfield 232, 105, 8, 7, 0), (84, .ireturn, 0, 0, 0, 0)]
def e_X7_ofAll : List Ent := [(0, .iconst 0, 0, 0, 0, 0), (1, .istore_n 2, 0, 0, 0, 0), (2, .iconst 0, 0, 0, 0, 0), (3, .istore_n 3, 0, 0, 0, 0), (4, .iload_n 3, 0, 0, 0, 0), (5, .aload_n 0, 0, 0, 0, 0), (6, .getfield 7, 89, 8, 9, 2), (9, .iconst 0, 0, 0, 0, 0), (10, .iaload, 0, 0, 0, 0), (11, .if_icmp .ge 22, 0, 0, 0, 0), (14, .iload_n 2, 0, 0, 0, 0), (15, .aload_n 0, 0, 0, 0, 0), (16, .getfield 7, 89, 8, 9, 2), (19, .iload_n 3, 0, 0, 0, 0), (20, .iload_n 1, 0, 0, 0, 0), (21, .invokestatic 72, 107, 115, 1, 0), (24, .iaload, 0, 0, 0, 0), (25, .iadd, 0, 0, 0, 0), (26, .istore_n 2, 0, 0, 0, 0), (27, .iinc 3 1, 0, 0, 0, 0), (30, .goto (-26), 0, 0, 0, 0), (33, .iload_n 2, 0, 0, 0, 0), (34, .ireturn, 0, 0, 0, 0)]
def e_X7_stores : List Ent := [(0, .iconst 0, 0, 0, 0, 0), (1, .istore_n 1, 0, 0, 0, 0), (2, .iconst 0, 0, 0, 0, 0), (3, .istore_n 2, 0, 0, 0, 0), (4, .iload_n 2, 0, 0, 0, 0), (5, .bipush 6, 0, 0, 0, 0), (7, .if_icmp .ge 22, 0, 0, 0, 0), (10, .iload_n 1, 0, 0, 0, 0), (11, .aload_n 0, 0, 0, 0, 0), (12, .getfield 7, 89, 8, 9, 2), (15, .iload_n 2, 0, 0, 0, 0), (16, .iconst 2, 0, 0, 0, 0), (17, .invokestatic 37, 106, 114, 1, 0), (20, .iaload, 0, 0, 0, 0), (21, .iadd, 0, 0, 0, 0), (22, .istore_n 1, 0, 0, 0, 0), (23, .iinc 2 1, 0, 0, 0, 0), (26, .goto (-22), 0, 0, 0, 0), (29, .iload_n 1, 0, 0, 0, 0), (30, .ireturn, 0, 0, 0, 0)]
def e_X7_account : List Ent := [(0, .iload_n 1, 0, 0, 0, 0), (1, .tableswitch 137 0 13 #[71, 78, 83, 89, 95, 100, 105, 105, 105, 105, 114, 120, 127, 132], 0, 0, 0, 0), (72, .aload_n 0, 0, 0, 0, 0), (73, .getfield 7, 89, 8, 9, 2), (76, .iconst 0, 0, 0, 0, 0), (77, .iaload, 0, 0, 0, 0), (78, .ireturn, 0, 0, 0, 0), (79, .aload_n 0, 0, 0, 0, 0), (80, .invokevirtual 161, 134, 119, 0, 0), (83, .ireturn, 0, 0, 0, 0), (84, .aload_n 0, 0, 0, 0, 0), (85, .iconst (-1), 0, 0, 0, 0), (86, .invokevirtual 127, 123, 123, 0, 0), (89, .ireturn, 0, 0, 0, 0), (90, .aload_n 0, 0, 0, 0, 0), (91, .iconst 1, 0, 0, 0, 0), (92, .invokevirtual 244, 153, 182, 0, 0), (95, .ireturn, 0, 0, 0, 0), (96, .aload_n 0, 0, 0, 0, 0), (97, .invokevirtual 247, 154, 183, 0, 0), (100, .ireturn, 0, 0, 0, 0), (101, .aload_n 0, 0, 0, 0, 0), (102, .invokevirtual 133, 125, 136, 0, 0), (105, .ireturn, 0, 0, 0, 0), (106, .aload_n 0, 0, 0, 0, 0), (107, .getfield 7, 89, 8, 9, 2), (110, .iload_n 1, 0, 0, 0, 0), (111, .iconst 5, 0, 0, 0, 0), (112, .isub, 0, 0, 0, 0), (113, .iaload, 0, 0, 0, 0), (114, .ireturn, 0, 0, 0, 0), (115, .aload_n 0, 0, 0, 0, 0), (116, .iconst 4, 0, 0, 0, 0), (117, .invokevirtual 244, 153, 182, 0, 0), (120, .ireturn, 0, 0, 0, 0), (121, .aload_n 0, 0, 0, 0, 0), (122, .getfield 7, 89, 8, 9, 2), (125, .iconst 5, 0, 0, 0, 0), (126, .iaload, 0, 0, 0, 0), (127, .ireturn, 0, 0, 0, 0), (128, .aload_n 0, 0, 0, 0, 0), (129, .getfield 194, 99, 8, 19, 0), (132, .ireturn, 0, 0, 0, 0), (133, .aload_n 0, 0, 0, 0, 0), (134, .getfield 65, 90, 8, 1, 0), (137, .ireturn, 0, 0, 0, 0), (138, .sipush (-1012), 0, 0, 0, 0), (141, .ireturn, 0, 0, 0, 0)]
def e_X7_isBalanced : List Ent := [(0, .aload_n 0, 0, 0, 0, 0), (1, .getfield 7, 89, 8, 9, 2), (4, .iconst 1, 0, 0, 0, 0), (5, .iaload, 0, 0, 0, 0), (6, .aload_n 0, 0, 0, 0, 0), (7, .iconst 1, 0, 0, 0, 0), (8, .invokevirtual 244, 153, 182, 0, 0), (11, .aload_n 0, 0, 0, 0, 0), (12, .invokevirtual 247, 154, 183, 0, 0), (15, .iadd, 0, 0, 0, 0), (16, .aload_n 0, 0, 0, 0, 0), (17, .invokevirtual 133, 125, 136, 0, 0), (20, .iadd, 0, 0, 0, 0), (21, .aload_n 0, 0, 0, 0, 0), (22, .getfield 7, 89, 8, 9, 2), (25, .iconst 2, 0, 0, 0, 0), (26, .iaload, 0, 0, 0, 0), (27, .iadd, 0, 0, 0, 0), (28, .if_icmp .ne 7, 0, 0, 0, 0), (31, .iconst 1, 0, 0, 0, 0), (32, .goto 4, 0, 0, 0, 0), (35, .iconst 0, 0, 0, 0, 0), (36, .ireturn, 0, 0, 0, 0)]
def e_X7_undo : List Ent := [(0, .aload_n 0, 0, 0, 0, 0), (1, .getfield 65, 90, 8, 1, 0), (4, .ifCond .ne 7, 0, 0, 0, 0), (7, .sipush (-1015), 0, 0, 0, 0), (10, .ireturn, 0, 0, 0, 0), (11, .aload_n 0, 0, 0, 0, 0), (12, .dup, 0, 0, 0, 0), (13, .getfield 65, 90, 8, 1, 0), (16, .iconst 1, 0, 0, 0, 0), (17, .isub, 0, 0, 0, 0), (18, .putfield 65, 90, 8, 1, 0), (21, .iconst 0, 0, 0, 0, 0), (22, .istore_n 1, 0, 0, 0, 0), (23, .iload_n 1, 0, 0, 0, 0), (24, .bipush 126, 0, 0, 0, 0), (26, .if_icmp .ge 29, 0, 0, 0, 0), (29, .aload_n 0, 0, 0, 0, 0), (30, .getfield 7, 89, 8, 9, 2), (33, .iload_n 1, 0, 0, 0, 0), (34, .aload_n 0, 0, 0, 0, 0), (35, .getfield 22, 91, 8, 13, 2), (38, .aload_n 0, 0, 0, 0, 0), (39, .getfield 65, 90, 8, 1, 0), (42, .bipush 126, 0, 0, 0, 0), (44, .imul, 0, 0, 0, 0), (45, .iload_n 1, 0, 0, 0, 0), (46, .iadd, 0, 0, 0, 0), (47, .iaload, 0, 0, 0, 0), (48, .iastore, 0, 0, 0, 0), (49, .iinc 1 1, 0, 0, 0, 0), (52, .goto (-29), 0, 0, 0, 0), (55, .aload_n 0, 0, 0, 0, 0), (56, .getfield 65, 90, 8, 1, 0), (59, .ireturn, 0, 0, 0, 0)]
def e_X7_save : List Ent := [(0, .aload_n 0, 0, 0, 0, 0), (1, .getfield 16, 106, 8, 11, 2), (4, .aload_n 0, 0, 0, 0, 0), (5, .getfield 7, 89, 8, 9, 2), (8, .invokestatic 61, 104, 111, 1, 0), (11, .aload_n 0, 0, 0, 0, 0), (12, .iconst 1, 0, 0, 0, 0), (13, .putfield 250, 107, 8, 8, 1), (16, .aload_n 0, 0, 0, 0, 0), (17, .getfield 7, 89, 8, 9, 2), (20, .iconst 0, 0, 0, 0, 0), (21, .iaload, 0, 0, 0, 0), (22, .ireturn, 0, 0, 0, 0)]
def e_X7_restore : List Ent := [(0, .aload_n 0, 0, 0, 0, 0), (1, .getfield 250, 107, 8, 8, 1), (4, .ifCond .ne 7, 0, 0, 0, 0), (7, .sipush (-1015), 0, 0, 0, 0), (10, .ireturn, 0, 0, 0, 0), (11, .aload_n 0, 0, 0, 0, 0), (12, .getfield 7, 89, 8, 9, 2), (15, .aload_n 0, 0, 0, 0, 0), (16, .getfield 16, 106, 8, 11, 2), (19, .invokestatic 61, 104, 111, 1, 0), (22, .aload_n 0, 0, 0, 0, 0), (23, .iconst 0, 0, 0, 0, 0), (24, .putfield 65, 90, 8, 1, 0), (27, .aload_n 0, 0, 0, 0, 0), (28, .getfield 7, 89, 8, 9, 2), (31, .iconst 0, 0, 0, 0, 0), (32, .iaload, 0, 0, 0, 0), (33, .ireturn, 0, 0, 0, 0)]
def e_J4_append_cf468 : List Ent := [(0, .aload_n 0, 0, 0, 0, 0), (1, .iload_n 1, 0, 0, 0, 0), (2, .invokespecial 50, 155, 197, 3, 0), (5, .pop, 0, 0, 0, 0), (6, .aload_n 0, 0, 0, 0, 0), (7, .areturn, 0, 0, 0, 0)]
def e_J4_append_bf812 : List Ent := [(0, .aload_n 0, 0, 0, 0, 0), (1, .iload_n 1, 0, 0, 0, 0), (2, .invokespecial 53, 156, 198, 3, 0), (5, .pop, 0, 0, 0, 0), (6, .aload_n 0, 0, 0, 0, 0), (7, .areturn, 0, 0, 0, 0)]
def e_J4_charAt_5068e : List Ent := [(0, .aload_n 0, 0, 0, 0, 0), (1, .iload_n 1, 0, 0, 0, 0), (2, .invokespecial 329, 157, 195, 3, 0), (5, .ireturn, 0, 0, 0, 0)]
def e_J4_setLength_d00df : List Ent := [(0, .aload_n 0, 0, 0, 0, 0), (1, .iload_n 1, 0, 0, 0, 0), (2, .invokespecial 333, 158, 196, 3, 0), (5, .return_, 0, 0, 0, 0)]
def e_J4_length_8abf5 : List Ent := [(0, .aload_n 0, 0, 0, 0, 0), (1, .invokespecial 343, 159, 194, 3, 0), (4, .ireturn, 0, 0, 0, 0)]
def e_J5_length_8abf5 : List Ent := [(0, .aload_n 0, 0, 0, 0, 0), (1, .getfield 79, 108, 0, 3, 0), (4, .ireturn, 0, 0, 0, 0)]
def e_J5_charAt_5068e : List Ent := [(0, .aload_n 0, 0, 0, 0, 0), (1, .getfield 22, 109, 0, 1, 2), (4, .istore_n 2, 0, 0, 0, 0), (5, .aload_n 0, 0, 0, 0, 0), (6, .getfield 15, 110, 0, 0, 2), (9, .astore_n 3, 0, 0, 0, 0), (10, .aload_n 0, 0, 0, 0, 0), (11, .getfield 79, 108, 0, 3, 0), (14, .aload_n 3, 0, 0, 0, 0), (15, .arraylength, 0, 0, 0, 0), (16, .iload_n 2, 0, 0, 0, 0), (17, .ishr, 0, 0, 0, 0), (18, .invokestatic 138, 160, 202, 1, 0), (21, .istore 4, 0, 0, 0, 0), (23, .iload_n 1, 0, 0, 0, 0), (24, .iload 4, 0, 0, 0, 0), (26, .invokestatic 144, 161, 210, 1, 0), (29, .iload_n 2, 0, 0, 0, 0), (30, .ifCond .ne 12, 0, 0, 0, 0), (33, .aload_n 3, 0, 0, 0, 0), (34, .iload_n 1, 0, 0, 0, 0), (35, .baload, 0, 0, 0, 0), (36, .sipush 255, 0, 0, 0, 0), (39, .iand, 0, 0, 0, 0), (40, .i2c, 0, 0, 0, 0), (41, .ireturn, 0, 0, 0, 0), (42, .aload_n 3, 0, 0, 0, 0), (43, .iload_n 1, 0, 0, 0, 0), (44, .invokestatic 148, 0, 999, 0, 0), (47, .ireturn, 0, 0, 0, 0)]
def e_J5_setLength_d00df : List Ent := [(0, .iload_n 1, 0, 0, 0, 0), (1, .ifCond .ge 12, 0, 0, 0, 0), (4, .new 129, 0, 0, 0, 0), (7, .dup, 0, 0, 0, 0), (8, .iload_n 1, 0, 0, 0, 0), (9, .invokespecial 131, 0, 999, 0, 0), (12, .athrow, 0, 0, 0, 0), (13, .aload_n 0, 0, 0, 0, 0), (14, .iload_n 1, 0, 0, 0, 0), (15, .invokevirtual 100, 162, 217, 2, 0), (18, .aload_n 0, 0, 0, 0, 0), (19, .getfield 79, 108, 0, 3, 0), (22, .iload_n 1, 0, 0, 0, 0), (23, .if_icmp .ge 40, 0, 0, 0, 0), (26, .aload_n 0, 0, 0, 0, 0), (27, .invokevirtual 83, 163, 199, 2, 0), (30, .ifCond .eq 18, 0, 0, 0, 0), (33, .aload_n 0, 0, 0, 0, 0), (34, .getfield 15, 110, 0, 0, 2), (37, .aload_n 0, 0, 0, 0, 0), (38, .getfield 79, 108, 0, 3, 0), (41, .iload_n 1, 0, 0, 0, 0), (42, .invokestatic 133, 0, 999, 0, 0), (45, .goto 31, 0, 0, 0, 0), (48, .aload_n 0, 0, 0, 0, 0), (49, .getfield 15, 110, 0, 0, 2), (52, .aload_n 0, 0, 0, 0, 0), (53, .getfield 79, 108, 0, 3, 0), (56, .iload_n 1, 0, 0, 0, 0), (57, .invokestatic 137, 0, 999, 0, 0), (60, .goto 16, 0, 0, 0, 0), (63, .aload_n 0, 0, 0, 0, 0), (64, .getfield 79, 108, 0, 3, 0), (67, .iload_n 1, 0, 0, 0, 0), (68, .if_icmp .le 8, 0, 0, 0, 0), (71, .aload_n 0, 0, 0, 0, 0), (72, .iconst 1, 0, 0, 0, 0), (73, .putfield 73, 111, 0, 2, 1), (76, .aload_n 0, 0, 0, 0, 0), (77, .iload_n 1, 0, 0, 0, 0), (78, .putfield 79, 108, 0, 3, 0), (81, .return_, 0, 0, 0, 0)]
def e_J5_append_3fe6f : List Ent := [(0, .aload_n 0, 0, 0, 0, 0), (1, .aload_n 0, 0, 0, 0, 0), (2, .getfield 79, 108, 0, 3, 0), (5, .iconst 1, 0, 0, 0, 0), (6, .iadd, 0, 0, 0, 0), (7, .invokevirtual 100, 162, 217, 2, 0), (10, .aload_n 0, 0, 0, 0, 0), (11, .invokevirtual 83, 163, 199, 2, 0), (14, .ifCond .eq 31, 0, 0, 0, 0), (17, .iload_n 1, 0, 0, 0, 0), (18, .invokestatic 191, 164, 213, 1, 0), (21, .ifCond .eq 24, 0, 0, 0, 0), (24, .aload_n 0, 0, 0, 0, 0), (25, .getfield 15, 110, 0, 0, 2), (28, .aload_n 0, 0, 0, 0, 0), (29, .dup, 0, 0, 0, 0), (30, .getfield 79, 108, 0, 3, 0), (33, .dup_x1, 0, 0, 0, 0), (34, .iconst 1, 0, 0, 0, 0), (35, .iadd, 0, 0, 0, 0), (36, .putfield 79, 108, 0, 3, 0), (39, .iload_n 1, 0, 0, 0, 0), (40, .i2b, 0, 0, 0, 0), (41, .bastore, 0, 0, 0, 0), (42, .goto 33, 0, 0, 0, 0), (45, .aload_n 0, 0, 0, 0, 0), (46, .invokevirtual 83, 163, 199, 2, 0), (49, .ifCond .eq 7, 0, 0, 0, 0), (52, .aload_n 0, 0, 0, 0, 0), (53, .invokevirtual 195, 0, 999, 0, 0), (56, .aload_n 0, 0, 0, 0, 0), (57, .getfield 15, 110, 0, 0, 2), (60, .aload_n 0, 0, 0, 0, 0), (61, .dup, 0, 0, 0, 0), (62, .getfield 79, 108, 0, 3, 0), (65, .dup_x1, 0, 0, 0, 0), (66, .iconst 1, 0, 0, 0, 0), (67, .iadd, 0, 0, 0, 0), (68, .putfield 79, 108, 0, 3, 0), (71, .iload_n 1, 0, 0, 0, 0), (72, .invokestatic 197, 0, 999, 0, 0), (75, .aload_n 0, 0, 0, 0, 0), (76, .areturn, 0, 0, 0, 0)]
def e_J5_append_c97b9 : List Ent := [(0, .aload_n 0, 0, 0, 0, 0), (1, .getfield 79, 108, 0, 3, 0), (4, .istore_n 2, 0, 0, 0, 0), (5, .iload_n 2, 0, 0, 0, 0), (6, .iload_n 1, 0, 0, 0, 0), (7, .invokestatic 245, 165, 201, 1, 0), (10, .iadd, 0, 0, 0, 0), (11, .istore_n 3, 0, 0, 0, 0), (12, .aload_n 0, 0, 0, 0, 0), (13, .iload_n 3, 0, 0, 0, 0), (14, .invokevirtual 100, 162, 217, 2, 0), (17, .aload_n 0, 0, 0, 0, 0), (18, .invokevirtual 83, 163, 199, 2, 0), (21, .ifCond .eq 16, 0, 0, 0, 0), (24, .iload_n 1, 0, 0, 0, 0), (25, .iload_n 3, 0, 0, 0, 0), (26, .aload_n 0, 0, 0, 0, 0), (27, .getfield 15, 110, 0, 0, 2), (30, .invokestatic 248, 166, 200, 1, 0), (33, .pop, 0, 0, 0, 0), (34, .goto 14, 0, 0, 0, 0), (37, .iload_n 1, 0, 0, 0, 0), (38, .iload_n 2, 0, 0, 0, 0), (39, .iload_n 3, 0, 0, 0, 0), (40, .aload_n 0, 0, 0, 0, 0), (41, .getfield 15, 110, 0, 0, 2), (44, .invokestatic 251, 0, 999, 0, 0), (47, .pop, 0, 0, 0, 0), (48, .aload_n 0, 0, 0, 0, 0), (49, .iload_n 3, 0, 0, 0, 0), (50, .putfield 79, 108, 0, 3, 0), (53, .aload_n 0, 0, 0, 0, 0), (54, .areturn, 0, 0, 0, 0)]
def e_J5_isLatin1_aae02 : List Ent := [(0, .getstatic 18, 0, 0, 0, 0), (3, .ifCond .eq 14, 0, 0, 0, 0), (6, .aload_n 0, 0, 0, 0, 0), (7, .getfield 22, 109, 0, 1, 2), (10, .ifCond .ne 7, 0, 0, 0, 0), (13, .iconst 1, 0, 0, 0, 0), (14, .goto 4, 0, 0, 0, 0), (17, .iconst 0, 0, 0, 0, 0), (18, .ireturn, 0, 0, 0, 0)]
def e_J6_getChars_ba4f3 : List Ent := [(0, .iload_n 1, 0, 0, 0, 0), (1, .istore 5, 0, 0, 0, 0), (3, .iload_n 0, 0, 0, 0, 0), (4, .ifCond .ge 7, 0, 0, 0, 0), (7, .iconst 1, 0, 0, 0, 0), (8, .goto 4, 0, 0, 0, 0), (11, .iconst 0, 0, 0, 0, 0), (12, .istore 6, 0, 0, 0, 0), (14, .iload 6, 0, 0, 0, 0), (16, .ifCond .ne 6, 0, 0, 0, 0), (19, .iload_n 0, 0, 0, 0, 0), (20, .ineg, 0, 0, 0, 0), (21, .istore_n 0, 0, 0, 0, 0), (22, .iload_n 0, 0, 0, 0, 0), (23, .bipush (-100), 0, 0, 0, 0), (25, .if_icmp .gt 47, 0, 0, 0, 0), (28, .iload_n 0, 0, 0, 0, 0), (29, .bipush 100, 0, 0, 0, 0), (31, .idiv, 0, 0, 0, 0), (32, .istore_n 3, 0, 0, 0, 0), (33, .iload_n 3, 0, 0, 0, 0), (34, .bipush 100, 0, 0, 0, 0), (36, .imul, 0, 0, 0, 0), (37, .iload_n 0, 0, 0, 0, 0), (38, .isub, 0, 0, 0, 0), (39, .istore 4, 0, 0, 0, 0), (41, .iload_n 3, 0, 0, 0, 0), (42, .istore_n 0, 0, 0, 0, 0), (43, .aload_n 2, 0, 0, 0, 0), (44, .iinc 5 (-1), 0, 0, 0, 0), (47, .iload 5, 0, 0, 0, 0), (49, .getstatic 83, 1, 2, 0, 0), (52, .iload 4, 0, 0, 0, 0), (54, .baload, 0, 0, 0, 0), (55, .bastore, 0, 0, 0, 0), (56, .aload_n 2, 0, 0, 0, 0), (57, .iinc 5 (-1), 0, 0, 0, 0), (60, .iload 5, 0, 0, 0, 0), (62, .getstatic 87, 2, 3, 0, 0), (65, .iload 4, 0, 0, 0, 0), (67, .baload, 0, 0, 0, 0), (68, .bastore, 0, 0, 0, 0), (69, .goto (-47), 0, 0, 0, 0), (72, .aload_n 2, 0, 0, 0, 0), (73, .iinc 5 (-1), 0, 0, 0, 0), (76, .iload 5, 0, 0, 0, 0), (78, .getstatic 83, 1, 2, 0, 0), (81, .iload_n 0, 0, 0, 0, 0), (82, .ineg, 0, 0, 0, 0), (83, .baload, 0, 0, 0, 0), (84, .bastore, 0, 0, 0, 0), (85, .iload_n 0, 0, 0, 0, 0), (86, .bipush (-9), 0, 0, 0, 0), (88, .if_icmp .ge 16, 0, 0, 0, 0), (91, .aload_n 2, 0, 0, 0, 0), (92, .iinc 5 (-1), 0, 0, 0, 0), (95, .iload 5, 0, 0, 0, 0), (97, .getstatic 87, 2, 3, 0, 0), (100, .iload_n 0, 0, 0, 0, 0), (101, .ineg, 0, 0, 0, 0), (102, .baload, 0, 0, 0, 0), (103, .bastore, 0, 0, 0, 0), (104, .iload 6, 0, 0, 0, 0), (106, .ifCond .eq 12, 0, 0, 0, 0), (109, .aload_n 2, 0, 0, 0, 0), (110, .iinc 5 (-1), 0, 0, 0, 0), (113, .iload 5, 0, 0, 0, 0), (115, .bipush 45, 0, 0, 0, 0), (117, .bastore, 0, 0, 0, 0), (118, .iload 5, 0, 0, 0, 0), (120, .ireturn, 0, 0, 0, 0)]
def e_J6_stringSize_0f7a4 : List Ent := [(0, .iconst 1, 0, 0, 0, 0), (1, .istore_n 1, 0, 0, 0, 0), (2, .iload_n 0, 0, 0, 0, 0), (3, .ifCond .lt 8, 0, 0, 0, 0), (6, .iconst 0, 0, 0, 0, 0), (7, .istore_n 1, 0, 0, 0, 0), (8, .iload_n 0, 0, 0, 0, 0), (9, .ineg, 0, 0, 0, 0), (10, .istore_n 0, 0, 0, 0, 0), (11, .bipush (-10), 0, 0, 0, 0), (13, .istore_n 2, 0, 0, 0, 0), (14, .iconst 1, 0, 0, 0, 0), (15, .istore_n 3, 0, 0, 0, 0), (16, .iload_n 3, 0, 0, 0, 0), (17, .bipush 10, 0, 0, 0, 0), (19, .if_icmp .ge 23, 0, 0, 0, 0), (22, .iload_n 0, 0, 0, 0, 0), (23, .iload_n 2, 0, 0, 0, 0), (24, .if_icmp .le 7, 0, 0, 0, 0), (27, .iload_n 3, 0, 0, 0, 0), (28, .iload_n 1, 0, 0, 0, 0), (29, .iadd, 0, 0, 0, 0), (30, .ireturn, 0, 0, 0, 0), (31, .bipush 10, 0, 0, 0, 0), (33, .iload_n 2, 0, 0, 0, 0), (34, .imul, 0, 0, 0, 0), (35, .istore_n 2, 0, 0, 0, 0), (36, .iinc 3 1, 0, 0, 0, 0), (39, .goto (-23), 0, 0, 0, 0), (42, .bipush 10, 0, 0, 0, 0), (44, .iload_n 1, 0, 0, 0, 0), (45, .iadd, 0, 0, 0, 0), (46, .ireturn, 0, 0, 0, 0)]
def e_J9_min_7cf53 : List Ent := [(0, .iload_n 0, 0, 0, 0, 0), (1, .iload_n 1, 0, 0, 0, 0), (2, .if_icmp .gt 7, 0, 0, 0, 0), (5, .iload_n 0, 0, 0, 0, 0), (6, .goto 4, 0, 0, 0, 0), (9, .iload_n 1, 0, 0, 0, 0), (10, .ireturn, 0, 0, 0, 0)]
def e_J9_max_7cf53 : List Ent := [(0, .iload_n 0, 0, 0, 0, 0), (1, .iload_n 1, 0, 0, 0, 0), (2, .if_icmp .lt 7, 0, 0, 0, 0), (5, .iload_n 0, 0, 0, 0, 0), (6, .goto 4, 0, 0, 0, 0), (9, .iload_n 1, 0, 0, 0, 0), (10, .ireturn, 0, 0, 0, 0)]
def e_J0_length_8abf5 : List Ent := [(0, .aload_n 0, 0, 0, 0, 0), (1, .getfield 9, 0, 25, 0, 0), (4, .arraylength, 0, 0, 0, 0), (5, .aload_n 0, 0, 0, 0, 0), (6, .invokevirtual 335, 167, 209, 0, 0), (9, .ishr, 0, 0, 0, 0), (10, .ireturn, 0, 0, 0, 0)]
def e_J0_charAt_5068e : List Ent := [(0, .aload_n 0, 0, 0, 0, 0), (1, .invokevirtual 492, 168, 208, 0, 0), (4, .ifCond .eq 12, 0, 0, 0, 0), (7, .aload_n 0, 0, 0, 0, 0), (8, .getfield 9, 0, 25, 0, 0), (11, .iload_n 1, 0, 0, 0, 0), (12, .invokestatic 495, 169, 212, 1, 0), (15, .ireturn, 0, 0, 0, 0), (16, .aload_n 0, 0, 0, 0, 0), (17, .getfield 9, 0, 25, 0, 0), (20, .iload_n 1, 0, 0, 0, 0), (21, .invokestatic 498, 0, 999, 0, 0), (24, .ireturn, 0, 0, 0, 0)]
def e_J0_indexOf_0f7a4 : List Ent := [(0, .aload_n 0, 0, 0, 0, 0), (1, .iload_n 1, 0, 0, 0, 0), (2, .iconst 0, 0, 0, 0, 0), (3, .invokevirtual 633, 170, 207, 0, 0), (6, .ireturn, 0, 0, 0, 0)]
def e_J0_indexOf_7cf53 : List Ent := [(0, .aload_n 0, 0, 0, 0, 0), (1, .invokevirtual 492, 168, 208, 0, 0), (4, .ifCond .eq 19, 0, 0, 0, 0), (7, .aload_n 0, 0, 0, 0, 0), (8, .getfield 9, 0, 25, 0, 0), (11, .iload_n 1, 0, 0, 0, 0), (12, .iload_n 2, 0, 0, 0, 0), (13, .aload_n 0, 0, 0, 0, 0), (14, .invokevirtual 505, 171, 204, 0, 0), (17, .invokestatic 637, 172, 215, 1, 0), (20, .goto 16, 0, 0, 0, 0), (23, .aload_n 0, 0, 0, 0, 0), (24, .getfield 9, 0, 25, 0, 0), (27, .iload_n 1, 0, 0, 0, 0), (28, .iload_n 2, 0, 0, 0, 0), (29, .aload_n 0, 0, 0, 0, 0), (30, .invokevirtual 505, 171, 204, 0, 0), (33, .invokestatic 640, 0, 999, 0, 0), (36, .ireturn, 0, 0, 0, 0)]
def e_J0_isLatin1_aae02 : List Ent := [(0, .getstatic 38, 3, 0, 0, 0), (3, .ifCond .eq 14, 0, 0, 0, 0), (6, .aload_n 0, 0, 0, 0, 0), (7, .getfield 15, 1, 25, 1, 0), (10, .ifCond .ne 7, 0, 0, 0, 0), (13, .iconst 1, 0, 0, 0, 0), (14, .goto 4, 0, 0, 0, 0), (17, .iconst 0, 0, 0, 0, 0), (18, .ireturn, 0, 0, 0, 0)]
def e_J0_coder_7d493 : List Ent := [(0, .getstatic 38, 3, 0, 0, 0), (3, .ifCond .eq 10, 0, 0, 0, 0), (6, .aload_n 0, 0, 0, 0, 0), (7, .getfield 15, 1, 25, 1, 0), (10, .goto 4, 0, 0, 0, 0), (13, .iconst 1, 0, 0, 0, 0), (14, .ireturn, 0, 0, 0, 0)]
def e_J0_checkIndex_df160 : List Ent := [(0, .iload_n 0, 0, 0, 0, 0), (1, .iload_n 1, 0, 0, 0, 0), (2, .getstatic 1053, 4, 1, 0, 0), (5, .invokestatic 1059, 173, 211, 1, 0), (8, .pop, 0, 0, 0, 0), (9, .return_, 0, 0, 0, 0)]
def e_J3_checkIndex_8e157 : List Ent := [(0, .iload_n 0, 0, 0, 0, 0), (1, .ifCond .lt 8, 0, 0, 0, 0), (4, .iload_n 0, 0, 0, 0, 0), (5, .iload_n 1, 0, 0, 0, 0), (6, .if_icmp .lt 10, 0, 0, 0, 0), (9, .aload_n 2, 0, 0, 0, 0), (10, .iload_n 0, 0, 0, 0, 0), (11, .iload_n 1, 0, 0, 0, 0), (12, .invokestatic 95, 0, 999, 0, 0), (15, .athrow, 0, 0, 0, 0), (16, .iload_n 0, 0, 0, 0, 0), (17, .ireturn, 0, 0, 0, 0)]
def e_J1_charAt_3b067 : List Ent := [(0, .iload_n 1, 0, 0, 0, 0), (1, .aload_n 0, 0, 0, 0, 0), (2, .arraylength, 0, 0, 0, 0), (3, .invokestatic 9, 174, 210, 1, 0), (6, .aload_n 0, 0, 0, 0, 0), (7, .iload_n 1, 0, 0, 0, 0), (8, .baload, 0, 0, 0, 0), (9, .sipush 255, 0, 0, 0, 0), (12, .iand, 0, 0, 0, 0), (13, .i2c, 0, 0, 0, 0), (14, .ireturn, 0, 0, 0, 0)]
def e_J1_canEncode_fc78d : List Ent := [(0, .iload_n 0, 0, 0, 0, 0), (1, .sipush 255, 0, 0, 0, 0), (4, .if_icmp .gt 7, 0, 0, 0, 0), (7, .iconst 1, 0, 0, 0, 0), (8, .goto 4, 0, 0, 0, 0), (11, .iconst 0, 0, 0, 0, 0), (12, .ireturn, 0, 0, 0, 0)]
def e_J1_canEncode_9a6ad : List Ent := [(0, .iload_n 0, 0, 0, 0, 0), (1, .ifCond .lt 14, 0, 0, 0, 0), (4, .iload_n 0, 0, 0, 0, 0), (5, .sipush 255, 0, 0, 0, 0), (8, .if_icmp .gt 7, 0, 0, 0, 0), (11, .iconst 1, 0, 0, 0, 0), (12, .goto 4, 0, 0, 0, 0), (15, .iconst 0, 0, 0, 0, 0), (16, .ireturn, 0, 0, 0, 0)]
def e_J1_indexOf_4cfef : List Ent := [(0, .iload_n 1, 0, 0, 0, 0), (1, .invokestatic 88, 175, 214, 1, 0), (4, .ifCond .ne 5, 0, 0, 0, 0), (7, .iconst (-1), 0, 0, 0, 0), (8, .ireturn, 0, 0, 0, 0), (9, .iload_n 2, 0, 0, 0, 0), (10, .iconst 0, 0, 0, 0, 0), (11, .invokestatic 92, 176, 203, 1, 0), (14, .istore_n 2, 0, 0, 0, 0), (15, .iload_n 3, 0, 0, 0, 0), (16, .aload_n 0, 0, 0, 0, 0), (17, .arraylength, 0, 0, 0, 0), (18, .invokestatic 38, 177, 202, 1, 0), (21, .istore_n 3, 0, 0, 0, 0), (22, .iload_n 2, 0, 0, 0, 0), (23, .iload_n 3, 0, 0, 0, 0), (24, .if_icmp .lt 5, 0, 0, 0, 0), (27, .iconst (-1), 0, 0, 0, 0), (28, .ireturn, 0, 0, 0, 0), (29, .aload_n 0, 0, 0, 0, 0), (30, .iload_n 1, 0, 0, 0, 0), (31, .iload_n 2, 0, 0, 0, 0), (32, .iload_n 3, 0, 0, 0, 0), (33, .invokestatic 95, 178, 216, 1, 0), (36, .ireturn, 0, 0, 0, 0)]
def e_J1_indexOfChar_4cfef : List Ent := [(0, .iload_n 1, 0, 0, 0, 0), (1, .i2b, 0, 0, 0, 0), (2, .istore 4, 0, 0, 0, 0), (4, .iload_n 2, 0, 0, 0, 0), (5, .istore 5, 0, 0, 0, 0), (7, .iload 5, 0, 0, 0, 0), (9, .iload_n 3, 0, 0, 0, 0), (10, .if_icmp .ge 21, 0, 0, 0, 0), (13, .aload_n 0, 0, 0, 0, 0), (14, .iload 5, 0, 0, 0, 0), (16, .baload, 0, 0, 0, 0), (17, .iload 4, 0, 0, 0, 0), (19, .if_icmp .ne 6, 0, 0, 0, 0), (22, .iload 5, 0, 0, 0, 0), (24, .ireturn, 0, 0, 0, 0), (25, .iinc 5 1, 0, 0, 0, 0), (28, .goto (-21), 0, 0, 0, 0), (31, .iconst (-1), 0, 0, 0, 0), (32, .ireturn, 0, 0, 0, 0)]
def e_J5_ensureCapacityInternal_d00df : List Ent := []
def mE : List (List Ent) := [e_X0_begin, e_X0_takeBack, e_X0_keep, e_X0_stepBack, e_X0_forget, e_X1_read, e_X1_isOrderRead, e_X1_patternOf, e_X1_isSignRead, e_X1_hasDigit, e_X1_readNumber, e_X1_keepNumber, e_X2_clear, e_X2_putBehind, e_X2_putAhead, e_X3_divide, e_X3_giveOneByRest, e_X3_deal, e_X3_greatest, e_X4_copyFrom, e_X4_burnDown, e_X4_claimOf, e_X4_allClaims, e_X4_allStores, e_X4_allPooled, e_X4_openHouses, e_X4_successorOf, e_X4_handOver, e_X4_handOverRights, e_X4_handOverStubs, e_X4_dropWhatIsOwn, e_X4_housesAheadOf, e_X4_isAhead, e_X5_copyFrom, e_X5_copyStub, e_X5_put, e_X5_remove, e_X5_takeWax, e_X5_forgive, e_X5_release, e_X5_payBack, e_X5_shortenWrits, e_X5_countOn, e_X5_weightOn, e_X5_weightBesideOthers, e_X5_tooManyFor, e_X5_writsBy, e_X5_owedTo, e_X5_owedBy, e_X5_allWrits, e_X5_allWax, e_X5_allDebts, e_X5_stubsAheadOf, e_X5_isAhead, e_X6_stub, e_X6_burn, e_X6_owe, e_X6_writ, e_X6_stubOf, e_X6_pool, e_X6_share, e_X6_part, e_X6_partAgain, e_X6_mould, e_X6_heir, e_X6_end, e_X6_pass, e_X6_houseOf, e_X6_inherits, e_X6_wouldMelt, e_X6_weight, e_X6_weightAgain, e_X6_ranked, e_X6_brightest, e_X6_append, e_X6_run, e_X6_tell, e_X6_tellHouses, e_X6_character, e_X6_reason, e_X6_account, e_X6_isBalanced, e_X6_undo, e_X6_save, e_X6_restore, e_X6_settle, e_X6_bringStub, e_X6_mouldStub, e_X6_hasRoomFor, e_X6_burnStub, e_X6_oweLight, e_X6_snuffStub, e_X6_poolWax, e_X6_sharePool, e_X6_tellHeir, e_X6_endHouse, e_X6_passHours, e_X6_carryOut, e_X6_isFrom, e_X6_isHouse, e_X6_isStub, e_X6_orNothing, e_X6_refuse, e_X6_refuseOrder, e_X6_writeHouse, e_X6_isWaxAccountedFor, e_X6_areSharesSame, e_X6_areWeightsSame, e_X7_fail, e_X7_refuses, e_X7_isIn, e_X7_lays, e_X7_begins, e_X7_ends, e_X7_at, e_X7_in, e_X7_isHouse, e_X7_isStub, e_X7_isOpen, e_X7_opens, e_X7_tray, e_X7_goes, e_X7_owed, e_X7_writs, e_X7_isMade, e_X7_makes, e_X7_comes, e_X7_stub, e_X7_refusesBurning, e_X7_burns, e_X7_burn, e_X7_owes, e_X7_owe, e_X7_snuffs, e_X7_writ, e_X7_stubOf, e_X7_pooled, e_X7_pools, e_X7_pool, e_X7_claim, e_X7_claims, e_X7_finds, e_X7_shares, e_X7_share, e_X7_part, e_X7_partAgain, e_X7_moulds, e_X7_mould, e_X7_tellsHeir, e_X7_heir, e_X7_inForce, e_X7_inheritsStubs, e_X7_frees, e_X7_closes, e_X7_end, e_X7_passes, e_X7_pass, e_X7_ofStubs, e_X7_houseOf, e_X7_inherits, e_X7_wouldMelt, e_X7_weight, e_X7_weightAgain, e_X7_ranked, e_X7_brightest, e_X7_writes, e_X7_writesNumber, e_X7_append, e_X7_sign, e_X7_mark, e_X7_digits, e_X7_behind, e_X7_does, e_X7_isKnown, e_X7_order, e_X7_orders, e_X7_refusesOrder, e_X7_run, e_X7_tell, e_X7_tellHouses, e_X7_character, e_X7_reason, e_X7_ofAll, e_X7_stores, e_X7_account, e_X7_isBalanced, e_X7_undo, e_X7_save, e_X7_restore, e_J4_append_cf468, e_J4_append_bf812, e_J4_charAt_5068e, e_J4_setLength_d00df, e_J4_length_8abf5, e_J5_length_8abf5, e_J5_charAt_5068e, e_J5_setLength_d00df, e_J5_append_3fe6f, e_J5_append_c97b9, e_J5_isLatin1_aae02, e_J6_getChars_ba4f3, e_J6_stringSize_0f7a4, e_J9_min_7cf53, e_J9_max_7cf53, e_J0_length_8abf5, e_J0_charAt_5068e, e_J0_indexOf_0f7a4, e_J0_indexOf_7cf53, e_J0_isLatin1_aae02, e_J0_coder_7d493, e_J0_checkIndex_df160, e_J3_checkIndex_8e157, e_J1_charAt_3b067, e_J1_canEncode_fc78d, e_J1_canEncode_9a6ad, e_J1_indexOf_4cfef, e_J1_indexOfChar_4cfef, e_J5_ensureCapacityInternal_d00df]
def mYL : List (MethodName) := [yX0_begin, yX0_takeBack, yX0_keep, yX0_stepBack, yX0_forget, yX1_read, yX1_isOrderRead, yX1_patternOf, yX1_isSignRead, yX1_hasDigit, yX1_readNumber, yX1_keepNumber, yX2_clear, yX2_putBehind, yX2_putAhead, yX3_divide, yX3_giveOneByRest, yX3_deal, yX3_greatest, yX4_copyFrom, yX4_burnDown, yX4_claimOf, yX4_allClaims, yX4_allStores, yX4_allPooled, yX4_openHouses, yX4_successorOf, yX4_handOver, yX4_handOverRights, yX4_handOverStubs, yX4_dropWhatIsOwn, yX4_housesAheadOf, yX4_isAhead, yX5_copyFrom, yX5_copyStub, yX5_put, yX5_remove, yX5_takeWax, yX5_forgive, yX5_release, yX5_payBack, yX5_shortenWrits, yX5_countOn, yX5_weightOn, yX5_weightBesideOthers, yX5_tooManyFor, yX5_writsBy, yX5_owedTo, yX5_owedBy, yX5_allWrits, yX5_allWax, yX5_allDebts, yX5_stubsAheadOf, yX5_isAhead, yX6_stub, yX6_burn, yX6_owe, yX6_writ, yX6_stubOf, yX6_pool, yX6_share, yX6_part, yX6_partAgain, yX6_mould, yX6_heir, yX6_end, yX6_pass, yX6_houseOf, yX6_inherits, yX6_wouldMelt, yX6_weight, yX6_weightAgain, yX6_ranked, yX6_brightest, yX6_append, yX6_run, yX6_tell, yX6_tellHouses, yX6_character, yX6_reason, yX6_account, yX6_isBalanced, yX6_undo, yX6_save, yX6_restore, yX6_settle, yX6_bringStub, yX6_mouldStub, yX6_hasRoomFor, yX6_burnStub, yX6_oweLight, yX6_snuffStub, yX6_poolWax, yX6_sharePool, yX6_tellHeir, yX6_endHouse, yX6_passHours, yX6_carryOut, yX6_isFrom, yX6_isHouse, yX6_isStub, yX6_orNothing, yX6_refuse, yX6_refuseOrder, yX6_writeHouse, yX6_isWaxAccountedFor, yX6_areSharesSame, yX6_areWeightsSame, yX7_fail, yX7_refuses, yX7_isIn, yX7_lays, yX7_begins, yX7_ends, yX7_at, yX7_in, yX7_isHouse, yX7_isStub, yX7_isOpen, yX7_opens, yX7_tray, yX7_goes, yX7_owed, yX7_writs, yX7_isMade, yX7_makes, yX7_comes, yX7_stub, yX7_refusesBurning, yX7_burns, yX7_burn, yX7_owes, yX7_owe, yX7_snuffs, yX7_writ, yX7_stubOf, yX7_pooled, yX7_pools, yX7_pool, yX7_claim, yX7_claims, yX7_finds, yX7_shares, yX7_share, yX7_part, yX7_partAgain, yX7_moulds, yX7_mould, yX7_tellsHeir, yX7_heir, yX7_inForce, yX7_inheritsStubs, yX7_frees, yX7_closes, yX7_end, yX7_passes, yX7_pass, yX7_ofStubs, yX7_houseOf, yX7_inherits, yX7_wouldMelt, yX7_weight, yX7_weightAgain, yX7_ranked, yX7_brightest, yX7_writes, yX7_writesNumber, yX7_append, yX7_sign, yX7_mark, yX7_digits, yX7_behind, yX7_does, yX7_isKnown, yX7_order, yX7_orders, yX7_refusesOrder, yX7_run, yX7_tell, yX7_tellHouses, yX7_character, yX7_reason, yX7_ofAll, yX7_stores, yX7_account, yX7_isBalanced, yX7_undo, yX7_save, yX7_restore, yJ4_append_cf468, yJ4_append_bf812, yJ4_charAt_5068e, yJ4_setLength_d00df, yJ4_length_8abf5, yJ5_length_8abf5, yJ5_charAt_5068e, yJ5_setLength_d00df, yJ5_append_3fe6f, yJ5_append_c97b9, yJ5_isLatin1_aae02, yJ6_getChars_ba4f3, yJ6_stringSize_0f7a4, yJ9_min_7cf53, yJ9_max_7cf53, yJ0_length_8abf5, yJ0_charAt_5068e, yJ0_indexOf_0f7a4, yJ0_indexOf_7cf53, yJ0_isLatin1_aae02, yJ0_coder_7d493, yJ0_checkIndex_df160, yJ3_checkIndex_8e157, yJ1_charAt_3b067, yJ1_canEncode_fc78d, yJ1_canEncode_9a6ad, yJ1_indexOf_4cfef, yJ1_indexOfChar_4cfef, yJ5_ensureCapacityInternal_d00df]
def mBL : List (ByteArray) := [cX0_begin, cX0_takeBack, cX0_keep, cX0_stepBack, cX0_forget, cX1_read, cX1_isOrderRead, cX1_patternOf, cX1_isSignRead, cX1_hasDigit, cX1_readNumber, cX1_keepNumber, cX2_clear, cX2_putBehind, cX2_putAhead, cX3_divide, cX3_giveOneByRest, cX3_deal, cX3_greatest, cX4_copyFrom, cX4_burnDown, cX4_claimOf, cX4_allClaims, cX4_allStores, cX4_allPooled, cX4_openHouses, cX4_successorOf, cX4_handOver, cX4_handOverRights, cX4_handOverStubs, cX4_dropWhatIsOwn, cX4_housesAheadOf, cX4_isAhead, cX5_copyFrom, cX5_copyStub, cX5_put, cX5_remove, cX5_takeWax, cX5_forgive, cX5_release, cX5_payBack, cX5_shortenWrits, cX5_countOn, cX5_weightOn, cX5_weightBesideOthers, cX5_tooManyFor, cX5_writsBy, cX5_owedTo, cX5_owedBy, cX5_allWrits, cX5_allWax, cX5_allDebts, cX5_stubsAheadOf, cX5_isAhead, cX6_stub, cX6_burn, cX6_owe, cX6_writ, cX6_stubOf, cX6_pool, cX6_share, cX6_part, cX6_partAgain, cX6_mould, cX6_heir, cX6_end, cX6_pass, cX6_houseOf, cX6_inherits, cX6_wouldMelt, cX6_weight, cX6_weightAgain, cX6_ranked, cX6_brightest, cX6_append, cX6_run, cX6_tell, cX6_tellHouses, cX6_character, cX6_reason, cX6_account, cX6_isBalanced, cX6_undo, cX6_save, cX6_restore, cX6_settle, cX6_bringStub, cX6_mouldStub, cX6_hasRoomFor, cX6_burnStub, cX6_oweLight, cX6_snuffStub, cX6_poolWax, cX6_sharePool, cX6_tellHeir, cX6_endHouse, cX6_passHours, cX6_carryOut, cX6_isFrom, cX6_isHouse, cX6_isStub, cX6_orNothing, cX6_refuse, cX6_refuseOrder, cX6_writeHouse, cX6_isWaxAccountedFor, cX6_areSharesSame, cX6_areWeightsSame, cX7_fail, cX7_refuses, cX7_isIn, cX7_lays, cX7_begins, cX7_ends, cX7_at, cX7_in, cX7_isHouse, cX7_isStub, cX7_isOpen, cX7_opens, cX7_tray, cX7_goes, cX7_owed, cX7_writs, cX7_isMade, cX7_makes, cX7_comes, cX7_stub, cX7_refusesBurning, cX7_burns, cX7_burn, cX7_owes, cX7_owe, cX7_snuffs, cX7_writ, cX7_stubOf, cX7_pooled, cX7_pools, cX7_pool, cX7_claim, cX7_claims, cX7_finds, cX7_shares, cX7_share, cX7_part, cX7_partAgain, cX7_moulds, cX7_mould, cX7_tellsHeir, cX7_heir, cX7_inForce, cX7_inheritsStubs, cX7_frees, cX7_closes, cX7_end, cX7_passes, cX7_pass, cX7_ofStubs, cX7_houseOf, cX7_inherits, cX7_wouldMelt, cX7_weight, cX7_weightAgain, cX7_ranked, cX7_brightest, cX7_writes, cX7_writesNumber, cX7_append, cX7_sign, cX7_mark, cX7_digits, cX7_behind, cX7_does, cX7_isKnown, cX7_order, cX7_orders, cX7_refusesOrder, cX7_run, cX7_tell, cX7_tellHouses, cX7_character, cX7_reason, cX7_ofAll, cX7_stores, cX7_account, cX7_isBalanced, cX7_undo, cX7_save, cX7_restore, cJ4_append_cf468, cJ4_append_bf812, cJ4_charAt_5068e, cJ4_setLength_d00df, cJ4_length_8abf5, cJ5_length_8abf5, cJ5_charAt_5068e, cJ5_setLength_d00df, cJ5_append_3fe6f, cJ5_append_c97b9, cJ5_isLatin1_aae02, cJ6_getChars_ba4f3, cJ6_stringSize_0f7a4, cJ9_min_7cf53, cJ9_max_7cf53, cJ0_length_8abf5, cJ0_charAt_5068e, cJ0_indexOf_0f7a4, cJ0_indexOf_7cf53, cJ0_isLatin1_aae02, cJ0_coder_7d493, cJ0_checkIndex_df160, cJ3_checkIndex_8e157, cJ1_charAt_3b067, cJ1_canEncode_fc78d, cJ1_canEncode_9a6ad, cJ1_indexOf_4cfef, cJ1_indexOfChar_4cfef, cJ5_ensureCapacityInternal_d00df]
def mRL : List (Option FieldType) := [none, none, none, (some .boolean), none, (some .int), (some .boolean), (some (.object "java/lang/String")), (some .boolean), (some .boolean), (some .int), none, none, none, none, none, none, none, (some .int), none, (some .int), (some .int), (some .int), (some .int), (some .int), (some .int), (some .int), none, none, none, none, (some .int), (some .boolean), none, none, (some .int), none, none, none, none, (some .int), (some .int), (some .int), (some .int), (some .int), (some .int), (some .int), (some .int), (some .int), (some .int), (some .int), (some .int), (some .int), (some .boolean), (some .int), (some .int), (some .int), (some .int), (some .int), (some .int), (some .int), (some .int), (some .int), (some .int), (some .int), (some .int), (some .int), (some .int), (some .int), (some .int), (some .int), (some .int), (some .int), (some .int), (some .int), (some .int), (some .int), (some .int), (some .int), (some .int), (some .int), (some .int), (some .int), (some .int), (some .int), (some .int), (some .int), (some .int), (some .boolean), (some .int), (some .int), (some .int), (some .int), (some .int), (some .int), (some .int), (some .int), (some .int), (some .boolean), (some .boolean), (some .boolean), (some .int), (some .int), (some .int), none, (some .boolean), (some .boolean), (some .boolean), (some .int), (some .int), (some .boolean), none, none, (some .int), (some .int), (some .int), (some .boolean), (some .boolean), (some .boolean), (some .int), (some .int), none, (some .int), (some .int), (some .boolean), (some .int), (some .int), (some .int), (some .int), (some .int), (some .int), (some .int), (some .int), (some .int), (some .int), (some .int), (some .int), (some .int), (some .int), (some .int), (some .int), none, (some .int), (some .int), (some .int), (some .int), (some .int), (some .int), (some .int), (some .int), (some .int), (some .int), none, (some .int), (some .int), (some .int), (some .int), (some .int), (some .int), (some .int), (some .int), (some .int), (some .int), (some .int), (some .int), none, none, (some .int), (some .int), none, (some .int), (some .int), (some .int), (some .boolean), none, (some .int), (some .int), (some .int), (some .int), (some .int), (some .int), (some .int), (some .int), (some .int), (some .int), (some .int), (some .int), (some .int), (some .int), (some (.object "java/lang/StringBuilder")), (some (.object "java/lang/StringBuilder")), (some .char), none, (some .int), (some .int), (some .char), none, (some (.object "java/lang/AbstractStringBuilder")), (some (.object "java/lang/AbstractStringBuilder")), (some .boolean), (some .int), (some .int), (some .int), (some .int), (some .int), (some .char), (some .int), (some .int), (some .boolean), (some .byte), none, (some .int), (some .char), (some .boolean), (some .boolean), (some .int), (some .int), none]
def mI : List (Nat × Nat × Nat × Nat) := [(2, 2, 0, 1), (2, 2, 0, 1), (1, 1, 0, 1), (2, 2, 0, 1), (1, 1, 0, 1), (3, 2, 0, 2), (8, 3, 0, 2), (1, 1, 1, 2), (3, 3, 0, 2), (2, 2, 0, 2), (6, 3, 0, 2), (4, 4, 0, 2), (1, 1, 0, 3), (3, 3, 0, 3), (4, 3, 0, 3), (6, 2, 0, 4), (2, 1, 0, 4), (6, 2, 0, 4), (3, 1, 1, 4), (3, 2, 0, 5), (5, 3, 0, 5), (2, 2, 0, 5), (3, 1, 0, 5), (3, 1, 0, 5), (3, 1, 0, 5), (3, 1, 0, 5), (4, 2, 0, 5), (3, 3, 0, 5), (4, 3, 0, 5), (7, 3, 0, 5), (2, 1, 0, 5), (4, 2, 0, 5), (5, 3, 0, 5), (3, 2, 0, 6), (4, 4, 0, 6), (5, 4, 0, 6), (3, 2, 0, 6), (3, 3, 0, 6), (2, 2, 0, 6), (2, 2, 0, 6), (4, 3, 0, 6), (4, 2, 0, 6), (4, 2, 0, 6), (4, 2, 0, 6), (4, 2, 0, 6), (7, 3, 0, 6), (4, 2, 0, 6), (4, 2, 0, 6), (4, 2, 0, 6), (3, 1, 0, 6), (3, 1, 0, 6), (3, 1, 0, 6), (4, 2, 0, 6), (5, 3, 0, 6), (4, 4, 0, 7), (3, 3, 0, 7), (4, 4, 0, 7), (4, 4, 0, 7), (4, 3, 0, 7), (3, 3, 0, 7), (1, 1, 0, 7), (2, 2, 0, 7), (2, 2, 0, 7), (4, 4, 0, 7), (3, 3, 0, 7), (2, 2, 0, 7), (2, 2, 0, 7), (3, 3, 0, 7), (2, 2, 0, 7), (3, 2, 0, 7), (2, 2, 0, 7), (2, 2, 0, 7), (3, 2, 0, 7), (3, 2, 0, 7), (2, 2, 0, 7), (4, 1, 0, 7), (3, 2, 0, 7), (2, 1, 0, 7), (2, 2, 0, 7), (3, 3, 0, 7), (2, 2, 0, 7), (1, 1, 0, 7), (1, 1, 0, 7), (1, 1, 0, 7), (1, 1, 0, 7), (2, 2, 0, 7), (4, 4, 0, 7), (4, 4, 0, 7), (4, 3, 0, 7), (4, 3, 0, 7), (5, 4, 0, 7), (5, 4, 0, 7), (3, 3, 0, 7), (3, 1, 0, 7), (4, 3, 0, 7), (3, 2, 0, 7), (2, 2, 0, 7), (5, 2, 0, 7), (3, 3, 1, 7), (1, 1, 1, 7), (2, 2, 0, 7), (1, 1, 1, 7), (3, 3, 0, 7), (3, 3, 0, 7), (2, 2, 0, 7), (2, 1, 0, 7), (3, 1, 0, 7), (2, 1, 0, 7), (2, 2, 0, 8), (3, 3, 0, 8), (3, 3, 1, 8), (3, 2, 1, 8), (1, 1, 0, 8), (3, 2, 0, 8), (2, 2, 1, 8), (2, 2, 1, 8), (1, 1, 1, 8), (2, 2, 0, 8), (2, 2, 0, 8), (3, 1, 0, 8), (4, 2, 0, 8), (3, 2, 0, 8), (4, 2, 0, 8), (4, 2, 0, 8), (2, 2, 1, 8), (7, 4, 0, 8), (4, 4, 0, 8), (4, 4, 0, 8), (5, 4, 0, 8), (5, 3, 0, 8), (3, 3, 0, 8), (4, 4, 0, 8), (4, 4, 0, 8), (4, 4, 0, 8), (4, 4, 0, 8), (4, 3, 0, 8), (3, 1, 0, 8), (4, 3, 0, 8), (3, 3, 0, 8), (2, 2, 0, 8), (3, 1, 0, 8), (6, 1, 0, 8), (3, 1, 0, 8), (1, 1, 0, 8), (2, 2, 0, 8), (2, 2, 0, 8), (4, 4, 0, 8), (4, 4, 0, 8), (4, 3, 0, 8), (3, 3, 0, 8), (4, 2, 0, 8), (6, 3, 0, 8), (5, 2, 0, 8), (4, 2, 0, 8), (2, 2, 0, 8), (5, 2, 0, 8), (2, 2, 0, 8), (5, 3, 0, 8), (3, 3, 0, 8), (2, 2, 0, 8), (3, 2, 0, 8), (2, 2, 0, 8), (2, 2, 0, 8), (6, 2, 0, 8), (6, 2, 0, 8), (2, 2, 0, 8), (3, 2, 0, 8), (2, 2, 0, 8), (1, 1, 0, 8), (2, 2, 0, 8), (4, 2, 0, 8), (3, 3, 0, 8), (5, 5, 0, 8), (1, 1, 1, 8), (7, 1, 0, 8), (2, 1, 0, 8), (8, 2, 0, 8), (2, 1, 0, 8), (2, 2, 0, 8), (2, 1, 0, 8), (2, 2, 0, 8), (4, 3, 0, 8), (4, 2, 0, 8), (3, 1, 0, 8), (2, 2, 0, 8), (1, 1, 0, 8), (2, 1, 0, 8), (1, 1, 0, 8), (1, 1, 0, 8), (2, 2, 0, 0), (2, 2, 0, 0), (2, 2, 0, 0), (2, 2, 0, 0), (1, 1, 0, 0), (1, 1, 0, 0), (5, 2, 0, 0), (2, 2, 0, 0), (2, 2, 0, 0), (4, 2, 0, 0), (1, 1, 0, 0), (7, 3, 1, 99), (4, 1, 1, 99), (2, 2, 1, 99), (2, 2, 1, 99), (1, 1, 0, 25), (2, 2, 0, 25), (2, 2, 0, 25), (3, 3, 0, 25), (1, 1, 0, 25), (1, 1, 0, 25), (2, 2, 1, 25), (3, 3, 1, 99), (2, 2, 1, 99), (1, 1, 1, 99), (1, 1, 1, 99), (4, 4, 1, 99), (6, 4, 1, 99), (3, 2, 0, 0)]
def mP : List (Nat × Nat × Nat × Nat) := [(7047, 6004, 7045, 7046), (9139, 6004, 9137, 9138), (7109, 6004, 7107, 7108), (10007, 6004, 10005, 10006), (10021, 6004, 10019, 10020), (8225, 6006, 8223, 8224), (8229, 6006, 8228, 2005), (9074, 6006, 9073, 0), (9111, 6006, 9110, 2009), (9099, 6006, 9098, 2006), (9103, 6006, 9102, 2007), (9107, 6006, 9106, 2008), (7077, 6005, 7075, 7076), (7081, 6005, 7079, 7080), (9147, 6005, 9145, 9146), (7206, 6007, 7204, 7205), (7212, 6007, 7211, 1011), (7227, 6007, 7225, 7226), (7215, 6007, 7214, 0), (7051, 6002, 7049, 7050), (7128, 6002, 7126, 7127), (7201, 6002, 7199, 7200), (7197, 6002, 7195, 7196), (9207, 6002, 9205, 9206), (9223, 6002, 9221, 9222), (9202, 6002, 9200, 9201), (8015, 6002, 8013, 8014), (8019, 6002, 8017, 8018), (8023, 6002, 8022, 1015), (8028, 6002, 8027, 2000), (8034, 6002, 8033, 2001), (8097, 6002, 8095, 8096), (8101, 6002, 8100, 2003), (7055, 6003, 7053, 7054), (7059, 6003, 7058, 1000), (7093, 6003, 7091, 7092), (7141, 6003, 7139, 7140), (7137, 6003, 7135, 7136), (7097, 6003, 7095, 7096), (7101, 6003, 7099, 7100), (7132, 6003, 7130, 7131), (8047, 6003, 8045, 8046), (8056, 6003, 8054, 8055), (7089, 6003, 7087, 7088), (8085, 6003, 8083, 8084), (8072, 6003, 8070, 8071), (7165, 6003, 7163, 7164), (7153, 6003, 7151, 7152), (8060, 6003, 8058, 8059), (7169, 6003, 7167, 7168), (8089, 6003, 8087, 8088), (9211, 6003, 9209, 9210), (8109, 6003, 8107, 8108), (8113, 6003, 8112, 2004), (7043, 6001, 7041, 7042), (7116, 6001, 7114, 7115), (7145, 6001, 7143, 7144), (7157, 6001, 7155, 7156), (7173, 6001, 7171, 7172), (7180, 6001, 7178, 7179), (7189, 6001, 7187, 7188), (7219, 6001, 7217, 7218), (7223, 6001, 7221, 7222), (7231, 6001, 7229, 7230), (7239, 6001, 7237, 7238), (8007, 6001, 8005, 8006), (8039, 6001, 8037, 8038), (8051, 6001, 8049, 8050), (8064, 6001, 8062, 8063), (8068, 6001, 8066, 8067), (8077, 6001, 8075, 8076), (8081, 6001, 8079, 8080), (8093, 6001, 8091, 8092), (8105, 6001, 8103, 8104), (8117, 6001, 8115, 8116), (8221, 6001, 8219, 8220), (9152, 6001, 9150, 9151), (9181, 6001, 9179, 9180), (9189, 6001, 9187, 9188), (9194, 6001, 9192, 9193), (9198, 6001, 9196, 9197), (9215, 6001, 9213, 9214), (10003, 6001, 10001, 10002), (10012, 6001, 10010, 10011), (10017, 6001, 10015, 10016), (7105, 6001, 7104, 1004), (7063, 6001, 7062, 1001), (7235, 6001, 7234, 1012), (7085, 6001, 7084, 1003), (7120, 6001, 7119, 1005), (7149, 6001, 7148, 1007), (7161, 6001, 7160, 1008), (7184, 6001, 7183, 1009), (7193, 6001, 7192, 1010), (8003, 6001, 8002, 1013), (8011, 6001, 8010, 1014), (8043, 6001, 8042, 2002), (9135, 6001, 9134, 2010), (7069, 6001, 7068, 0), (7066, 6001, 7065, 0), (7124, 6001, 7123, 1006), (7176, 6001, 7175, 0), (7073, 6001, 7072, 1002), (9143, 6001, 9142, 2011), (9185, 6001, 9184, 2012), (9219, 6001, 9218, 2013), (9227, 6001, 9226, 2014), (9231, 6001, 9230, 2015), (10131, 6012, 10130, 3002), (10142, 6012, 10141, 3004), (10127, 6012, 10126, 0), (10117, 6012, 10116, 0), (10114, 6012, 10113, 3000), (10157, 6012, 10156, 3007), (10030, 6012, 10029, 0), (10153, 6012, 10152, 0), (10124, 6012, 10123, 0), (10169, 6012, 10168, 3009), (10138, 6012, 10137, 3003), (11034, 6012, 11033, 4009), (10150, 6012, 10149, 3006), (10177, 6012, 10176, 3011), (10189, 6012, 10188, 3013), (10201, 6012, 10200, 3015), (10134, 6012, 10133, 0), (10146, 6012, 10145, 3005), (10121, 6012, 10120, 3001), (10110, 6012, 10108, 10109), (10173, 6012, 10172, 3010), (10165, 6012, 10164, 3008), (10161, 6012, 10159, 10160), (10185, 6012, 10184, 3012), (10181, 6012, 10179, 10180), (10197, 6012, 10196, 3014), (10193, 6012, 10191, 10192), (10205, 6012, 10203, 10204), (10217, 6012, 10216, 4001), (10213, 6012, 10212, 4000), (10209, 6012, 10207, 10208), (10233, 6012, 10232, 4004), (10229, 6012, 10228, 4003), (10237, 6012, 10236, 4005), (10225, 6012, 10224, 4002), (10221, 6012, 10219, 10220), (11001, 6012, 10239, 11000), (11005, 6012, 11003, 11004), (11014, 6012, 11013, 4006), (11010, 6012, 11008, 11009), (11022, 6012, 11021, 4007), (11018, 6012, 11016, 11017), (11038, 6012, 11037, 4010), (11042, 6012, 11041, 4011), (11046, 6012, 11045, 4012), (11030, 6012, 11029, 4008), (11026, 6012, 11024, 11025), (11054, 6012, 11053, 4013), (11050, 6012, 11048, 11049), (11062, 6012, 11061, 4014), (11058, 6012, 11056, 11057), (11066, 6012, 11064, 11065), (11070, 6012, 11068, 11069), (11074, 6012, 11072, 11073), (11078, 6012, 11076, 11077), (11083, 6012, 11081, 11082), (11087, 6012, 11085, 11086), (11142, 6012, 11141, 5008), (11138, 6012, 11137, 5007), (11091, 6012, 11089, 11090), (11107, 6012, 11106, 5001), (11122, 6012, 11121, 5004), (11114, 6012, 11113, 5002), (11118, 6012, 11117, 5003), (11126, 6012, 11125, 5005), (11110, 6012, 11109, 0), (11103, 6012, 11102, 5000), (11099, 6012, 11098, 4015), (11130, 6012, 11129, 5006), (11095, 6012, 11093, 11094), (11134, 6012, 11132, 11133), (11146, 6012, 11144, 11145), (11150, 6012, 11148, 11149), (11154, 6012, 11152, 11153), (11162, 6012, 11161, 5009), (11166, 6012, 11165, 5010), (11158, 6012, 11156, 11157), (11170, 6012, 11168, 11169), (11182, 6012, 11180, 11181), (11186, 6012, 11184, 11185), (11190, 6012, 11188, 11189), (8128, 6009, 8126, 8127), (9156, 6009, 9154, 9155), (8235, 6009, 8233, 8234), (9115, 6009, 9113, 9114), (8121, 6009, 8119, 8120), (8124, 6008, 8123, 0), (8238, 6008, 8237, 0), (9118, 6008, 9117, 0), (8131, 6008, 8130, 0), (9159, 6008, 9158, 0), (8169, 6008, 8166, 8168), (9165, 6020, 9164, 0), (9162, 6020, 9161, 0), (7112, 6013, 7111, 0), (8145, 6013, 8144, 0), (9020, 6010, 9018, 9019), (9088, 6010, 9086, 9087), (9007, 6010, 9005, 9006), (9011, 6010, 9009, 9010), (9015, 6010, 9013, 9014), (9024, 6010, 9022, 9023), (8214, 6010, 8213, 0), (8217, 6018, 8216, 0), (9091, 6017, 9090, 0), (8172, 6017, 8171, 0), (9030, 6017, 9029, 0), (9027, 6017, 9026, 0), (9035, 6017, 9034, 0), (8135, 6008, 8134, 0)]
def mO : List (Nat) := [0, 0, 0, 0, 0, 1, 1, 1, 1, 1, 1, 1, 2, 2, 2, 3, 3, 3, 3, 4, 4, 4, 4, 4, 4, 4, 4, 4, 4, 4, 4, 4, 4, 5, 5, 5, 5, 5, 5, 5, 5, 5, 5, 5, 5, 5, 5, 5, 5, 5, 5, 5, 5, 5, 6, 6, 6, 6, 6, 6, 6, 6, 6, 6, 6, 6, 6, 6, 6, 6, 6, 6, 6, 6, 6, 6, 6, 6, 6, 6, 6, 6, 6, 6, 6, 6, 6, 6, 6, 6, 6, 6, 6, 6, 6, 6, 6, 6, 6, 6, 6, 6, 6, 6, 6, 6, 6, 6, 7, 7, 7, 7, 7, 7, 7, 7, 7, 7, 7, 7, 7, 7, 7, 7, 7, 7, 7, 7, 7, 7, 7, 7, 7, 7, 7, 7, 7, 7, 7, 7, 7, 7, 7, 7, 7, 7, 7, 7, 7, 7, 7, 7, 7, 7, 7, 7, 7, 7, 7, 7, 7, 7, 7, 7, 7, 7, 7, 7, 7, 7, 7, 7, 7, 7, 7, 7, 7, 7, 7, 7, 7, 7, 7, 7, 7, 7, 7, 7, 7, 14, 14, 14, 14, 14, 15, 15, 15, 15, 15, 15, 16, 16, 19, 19, 10, 10, 10, 10, 10, 10, 10, 13, 11, 11, 11, 11, 11, 15]
def ftab : List (Nat × Nat × Nat × Nat × Nat × Nat) := [(0, 11, 1, 0, 2, 6142), (0, 18, 1, 1, 0, 6143), (0, 26, 1, 2, 0, 6144), (1, 24, 2, 4, 0, 6186), (1, 28, 2, 5, 0, 6188), (1, 9, 2, 0, 2, 6178), (1, 15, 2, 1, 2, 6180), (1, 18, 2, 2, 2, 6182), (1, 21, 2, 3, 2, 6184), (2, 18, 3, 2, 0, 6163), (2, 9, 3, 0, 2, 6159), (2, 15, 3, 1, 2, 6161), (3, 27, 5, 5, 0, 6096), (3, 9, 4, 0, 2, 6208), (3, 18, 4, 2, 2, 6212), (3, 15, 4, 1, 2, 6210), (4, 12, 5, 0, 2, 6086), (4, 18, 5, 1, 2, 6088), (4, 22, 5, 2, 2, 6090), (4, 26, 5, 3, 2, 6092), (4, 29, 5, 4, 2, 6094), (4, 36, 5, 5, 0, 6097), (4, 40, 5, 6, 0, 6099), (4, 43, 5, 7, 0, 6101), (4, 46, 5, 8, 0, 6103), (4, 49, 5, 9, 0, 6105), (4, 52, 5, 10, 0, 6107), (4, 55, 6, 2, 2, 6048), (4, 62, 6, 7, 2, 6061), (4, 85, 6, 8, 0, 6064), (4, 88, 6, 3, 2, 6052), (4, 91, 6, 5, 2, 6057), (4, 101, 6, 1, 2, 6046), (4, 104, 6, 0, 2, 6043), (5, 36, 6, 8, 0, 6063), (5, 9, 6, 0, 2, 6041), (5, 15, 6, 1, 2, 6044), (5, 18, 6, 2, 2, 6047), (5, 21, 6, 3, 2, 6050), (5, 24, 6, 4, 2, 6053), (5, 27, 6, 5, 2, 6055), (5, 30, 6, 6, 2, 6058), (5, 33, 6, 7, 2, 6060), (6, 26, 7, 3, 2, 7015), (6, 10, 7, 0, 2, 7012), (6, 87, 5, 0, 2, 6087), (6, 91, 6, 0, 2, 6042), (6, 97, 6, 1, 2, 6045), (6, 100, 6, 2, 2, 6049), (6, 103, 6, 3, 2, 6051), (6, 109, 6, 4, 2, 6054), (6, 112, 6, 6, 2, 6059), (6, 115, 6, 5, 2, 6056), (6, 118, 6, 7, 2, 6062), (6, 47, 7, 6, 2, 7018), (6, 134, 4, 0, 2, 6209), (6, 140, 4, 1, 2, 6211), (6, 155, 5, 1, 2, 6089), (6, 159, 5, 2, 2, 6091), (6, 162, 5, 3, 2, 6093), (6, 165, 5, 4, 2, 6095), (6, 195, 6, 8, 0, 6065), (6, 54, 7, 7, 2, 7019), (6, 40, 7, 5, 2, 7017), (6, 221, 2, 4, 0, 6187), (6, 58, 7, 8, 2, 7020), (6, 33, 7, 4, 2, 7016), (6, 241, 3, 2, 0, 6164), (6, 242, 3, 1, 2, 6162), (6, 245, 3, 0, 2, 6160), (6, 260, 5, 5, 0, 6098), (6, 263, 5, 6, 0, 6100), (6, 266, 5, 7, 0, 6102), (6, 269, 5, 8, 0, 6104), (6, 272, 5, 9, 0, 6106), (6, 278, 5, 10, 0, 6108), (6, 281, 1, 2, 0, 6145), (6, 16, 7, 1, 2, 7013), (6, 19, 7, 2, 1, 7014), (6, 337, 2, 1, 2, 6181), (6, 340, 2, 2, 2, 6183), (6, 343, 2, 3, 2, 6185), (6, 346, 2, 0, 2, 6179), (7, 41, 8, 0, 0, 10031), (7, 45, 8, 2, 0, 10033), (7, 48, 8, 3, 0, 10034), (7, 51, 8, 4, 0, 10035), (7, 54, 8, 6, 0, 10037), (7, 13, 8, 10, 2, 10041), (7, 7, 8, 9, 2, 10040), (7, 65, 8, 1, 0, 10032), (7, 22, 8, 13, 2, 10044), (7, 105, 8, 5, 0, 10036), (7, 25, 8, 14, 2, 10045), (7, 28, 8, 15, 2, 10046), (7, 170, 8, 16, 0, 10047), (7, 19, 8, 12, 2, 10043), (7, 34, 8, 18, 2, 10049), (7, 188, 8, 22, 0, 10053), (7, 194, 8, 19, 0, 10050), (7, 31, 8, 17, 2, 10048), (7, 197, 8, 20, 0, 10051), (7, 200, 8, 21, 0, 10052), (7, 203, 8, 23, 1, 10054), (7, 222, 8, 24, 1, 10055), (7, 232, 8, 7, 0, 10038), (7, 16, 8, 11, 2, 10042), (7, 250, 8, 8, 1, 10039), (15, 79, 0, 3, 0, 7001), (15, 22, 0, 1, 2, 6239), (15, 15, 0, 0, 2, 6238), (15, 73, 0, 2, 1, 7000)]
def itab : List (Nat × Nat × Nat × Nat × Nat × Nat × Nat) := [(0, 22, 19, 0, 7048, 0, 0), (0, 29, 202, 1, 7110, 0, 0), (0, 35, 1, 0, 10008, 0, 0), (1, 31, 6, 0, 8226, 0, 0), (1, 35, 193, 0, 8230, 0, 0), (1, 41, 8, 0, 9108, 0, 0), (1, 47, 191, 0, 8232, 0, 0), (1, 51, 206, 0, 9004, 0, 0), (1, 57, 7, 1, 9072, 0, 0), (1, 61, 204, 0, 9084, 0, 0), (1, 62, 205, 0, 9085, 0, 0), (1, 63, 9, 0, 9096, 0, 0), (1, 67, 10, 0, 9100, 0, 0), (1, 71, 11, 0, 9104, 0, 0), (2, 22, 202, 1, 9148, 0, 0), (3, 21, 22, 0, 7207, 0, 0), (3, 31, 21, 0, 7208, 0, 0), (3, 35, 16, 0, 7209, 0, 0), (3, 38, 18, 1, 7213, 0, 0), (4, 32, 33, 0, 7052, 0, 0), (4, 58, 40, 0, 7129, 0, 0), (4, 65, 37, 0, 7134, 0, 0), (4, 69, 47, 0, 7202, 0, 0), (4, 73, 21, 0, 7198, 0, 0), (4, 76, 28, 0, 8020, 0, 0), (4, 79, 29, 0, 8025, 0, 0), (4, 82, 30, 0, 8031, 0, 0), (4, 94, 39, 0, 8024, 0, 0), (4, 98, 43, 0, 8029, 0, 0), (4, 107, 36, 0, 8030, 0, 0), (4, 110, 38, 0, 8035, 0, 0), (4, 113, 32, 0, 8098, 0, 0), (5, 40, 34, 0, 7056, 0, 0), (5, 44, 38, 0, 7094, 0, 0), (5, 48, 39, 0, 7098, 0, 0), (5, 51, 36, 0, 7138, 0, 0), (5, 54, 202, 1, 7133, 0, 0), (5, 60, 50, 0, 8086, 0, 0), (5, 64, 43, 0, 8073, 0, 0), (5, 68, 53, 0, 8110, 0, 0), (6, 61, 0, 0, 7044, 0, 0), (6, 65, 86, 0, 7060, 0, 0), (6, 69, 85, 0, 7102, 0, 0), (6, 73, 89, 0, 7117, 0, 0), (6, 77, 90, 0, 7146, 0, 0), (6, 80, 91, 0, 7158, 0, 0), (6, 83, 100, 0, 7121, 0, 0), (6, 106, 101, 1, 7174, 0, 0), (6, 121, 92, 0, 7181, 0, 0), (6, 124, 93, 0, 7190, 0, 0), (6, 128, 99, 1, 7064, 0, 0), (6, 131, 15, 0, 7203, 0, 0), (6, 137, 17, 0, 7224, 0, 0), (6, 143, 87, 0, 7232, 0, 0), (6, 146, 94, 0, 8000, 0, 0), (6, 149, 95, 0, 8008, 0, 0), (6, 152, 96, 0, 8040, 0, 0), (6, 168, 21, 0, 8052, 0, 0), (6, 171, 42, 0, 8053, 0, 0), (6, 174, 46, 0, 7162, 0, 0), (6, 177, 48, 0, 8057, 0, 0), (6, 180, 26, 0, 8012, 0, 0), (6, 183, 45, 0, 8069, 0, 0), (6, 186, 43, 0, 7086, 0, 0), (6, 189, 44, 0, 8082, 0, 0), (6, 192, 31, 0, 8094, 0, 0), (6, 199, 52, 0, 8106, 0, 0), (6, 202, 98, 1, 7067, 0, 0), (6, 206, 193, 0, 8118, 0, 0), (6, 209, 189, 0, 8125, 0, 0), (6, 213, 5, 0, 8222, 0, 0), (6, 217, 192, 0, 9112, 0, 0), (6, 222, 97, 0, 9132, 0, 0), (6, 225, 1, 0, 9136, 0, 0), (6, 228, 103, 0, 9140, 0, 0), (6, 231, 190, 0, 9153, 0, 0), (6, 234, 104, 0, 9182, 0, 0), (6, 237, 191, 0, 9190, 0, 0), (6, 248, 25, 0, 9199, 0, 0), (6, 251, 49, 0, 7166, 0, 0), (6, 254, 50, 0, 9203, 0, 0), (6, 257, 23, 0, 9204, 0, 0), (6, 275, 51, 0, 9208, 0, 0), (6, 282, 105, 0, 9216, 0, 0), (6, 286, 106, 0, 9224, 0, 0), (6, 289, 107, 0, 9228, 0, 0), (6, 292, 3, 0, 10004, 0, 0), (6, 296, 19, 0, 10013, 0, 0), (6, 299, 4, 0, 10018, 0, 0), (6, 302, 2, 0, 7106, 0, 0), (6, 305, 102, 0, 7070, 0, 0), (6, 308, 88, 0, 7082, 0, 0), (6, 312, 35, 0, 7090, 0, 0), (6, 315, 13, 0, 7078, 0, 0), (6, 319, 20, 0, 7125, 0, 0), (6, 322, 47, 0, 7150, 0, 0), (6, 325, 37, 0, 7185, 0, 0), (6, 328, 22, 0, 7194, 0, 0), (6, 331, 27, 0, 8016, 0, 0), (6, 334, 41, 0, 8044, 0, 0), (6, 349, 12, 0, 7074, 0, 0), (6, 352, 14, 0, 9144, 0, 0), (6, 355, 24, 0, 9220, 0, 0), (7, 57, 108, 0, 10128, 0, 0), (7, 61, 111, 1, 10115, 0, 0), (7, 68, 110, 1, 10125, 0, 0), (7, 37, 114, 1, 10028, 0, 0), (7, 72, 115, 1, 10151, 0, 0), (7, 75, 120, 0, 10147, 0, 0), (7, 78, 109, 0, 10139, 0, 0), (7, 81, 116, 1, 10122, 0, 0), (7, 85, 124, 1, 10132, 0, 0), (7, 89, 118, 0, 10135, 0, 0), (7, 92, 125, 0, 10143, 0, 0), (7, 96, 112, 0, 10111, 0, 0), (7, 99, 126, 0, 10118, 0, 0), (7, 102, 113, 0, 10154, 0, 0), (7, 108, 117, 0, 10166, 0, 0), (7, 111, 128, 0, 10170, 0, 0), (7, 114, 121, 0, 10174, 0, 0), (7, 118, 129, 0, 10162, 0, 0), (7, 121, 122, 0, 10186, 0, 0), (7, 124, 131, 0, 10182, 0, 0), (7, 127, 123, 0, 10198, 0, 0), (7, 130, 133, 0, 10194, 0, 0), (7, 133, 136, 0, 10214, 0, 0), (7, 137, 137, 0, 10210, 0, 0), (7, 140, 139, 0, 10230, 0, 0), (7, 143, 140, 0, 10226, 0, 0), (7, 146, 141, 0, 10234, 0, 0), (7, 149, 142, 0, 10222, 0, 0), (7, 152, 144, 0, 11006, 0, 0), (7, 155, 146, 0, 11011, 0, 0), (7, 158, 148, 0, 11019, 0, 0), (7, 161, 119, 0, 11031, 0, 0), (7, 164, 150, 0, 11035, 0, 0), (7, 167, 151, 0, 11039, 0, 0), (7, 173, 152, 0, 11043, 0, 0), (7, 176, 153, 0, 11027, 0, 0), (7, 179, 155, 0, 11051, 0, 0), (7, 182, 157, 0, 11059, 0, 0), (7, 185, 161, 0, 11079, 0, 0), (7, 191, 165, 0, 11139, 0, 0), (7, 207, 168, 0, 11104, 0, 0), (7, 210, 169, 0, 11119, 0, 0), (7, 213, 170, 0, 11111, 0, 0), (7, 216, 173, 1, 11108, 0, 0), (7, 219, 171, 0, 11115, 0, 0), (7, 225, 172, 0, 11123, 0, 0), (7, 229, 174, 0, 11100, 0, 0), (7, 235, 175, 0, 11096, 0, 0), (7, 238, 176, 0, 11127, 0, 0), (7, 241, 166, 0, 11135, 0, 0), (7, 244, 182, 0, 11159, 0, 0), (7, 247, 183, 0, 11163, 0, 0), (14, 50, 197, 3, 8129, 11192, 7010), (14, 53, 198, 3, 9157, 11198, 7010), (14, 329, 195, 3, 8236, 11196, 7010), (14, 333, 196, 3, 9116, 11197, 7010), (14, 343, 194, 3, 8122, 11191, 7010), (15, 138, 202, 1, 8239, 0, 0), (15, 144, 210, 1, 9000, 0, 0), (15, 100, 217, 2, 8132, 11193, 0), (15, 83, 199, 2, 8165, 8167, 0), (15, 191, 213, 1, 8170, 0, 0), (15, 245, 201, 1, 9160, 0, 0), (15, 248, 200, 1, 9163, 0, 0), (10, 335, 209, 0, 9021, 0, 0), (10, 492, 208, 0, 9012, 0, 0), (10, 495, 212, 1, 9089, 0, 0), (10, 633, 207, 0, 9008, 0, 0), (10, 505, 204, 0, 9017, 0, 0), (10, 637, 215, 1, 9025, 0, 0), (10, 1059, 211, 1, 8215, 0, 0), (11, 9, 210, 1, 9092, 0, 0), (11, 88, 214, 1, 9028, 0, 0), (11, 92, 203, 1, 9031, 0, 0), (11, 38, 202, 1, 9032, 0, 0), (11, 95, 216, 1, 9033, 0, 0)]
def stab : List (Nat × Nat × Nat × Nat) := [(15, 18, 0, 6229), (16, 83, 2, 9166), (16, 87, 3, 9168), (10, 38, 0, 9016), (10, 1053, 1, 8192)]
def rtab : List (Nat × Nat × Nat × Nat) := [(10, 9, 0, 11200), (10, 15, 1, 11199)]
def ltab : List (Nat × Nat × Nat × String) := [(1, 45, 8231, "sbowpdmhet"), (1, 75, 9075, "1:2/1"), (1, 77, 9076, "2*2"), (1, 79, 9077, "2>1=2"), (1, 81, 9078, "1!2*2"), (1, 83, 9079, "2+2"), (1, 85, 9080, "1>1"), (1, 87, 9081, "1"), (1, 89, 9082, "2"), (1, 91, 9083, "")]
def lk (pc : Nat) : List Ent → Option (Instr × Nat × Nat × Nat × Nat)
  | [] => none
  | e :: r => if e.1 = pc then some e.2 else lk pc r
def ins (k pc : Nat) : Option (Instr × Nat × Nat × Nat × Nat) := match mE[k]? with
  | some es => lk pc es
  | none => none
def mnames : Nat := 218
end
section
/-! the checks of the tables, by program -/
def nY (k : Nat) : MethodName := mYL.getD k ⟨"", "", ""⟩
def nB (k : Nat) : ByteArray := mBL.getD k ⟨#[]⟩
def nR (k : Nat) : Option FieldType := mRL.getD k none
def nL (k : Nat) : Nat := (mI.getD k (0, 0, 0, 0)).1
def nA (k : Nat) : Nat := (mI.getD k (0, 0, 0, 0)).2.1
def nS (k : Nat) : Nat := (mI.getD k (0, 0, 0, 0)).2.2.1
def nC (k : Nat) : Nat := (mI.getD k (0, 0, 0, 0)).2.2.2
def nO (k : Nat) : Nat := mO.getD k 99
def cN (i : Nat) : String := clsN.getD i ""
def rcN (ci : Nat) : String := if ci = 25 then "java/lang/String" else ((vwCl[ci]?).map (fun q => q.1)).getD ""
def mOK (k : Nat) : Bool :=
  let y := nY k; let p := mP.getD k (0, 0, 0, 0)
  atT p.2.1 (.initialized y.cls) &&
  (if nS k = 1 then atT p.2.2.1 (.static y) else atT p.2.2.1 (.instanceMethod y)) &&
  decide (y.cls = cN (nO k)) && decide (y.cls ≠ "java/lang/invoke/MethodHandle" ∧ y.cls ≠ "java/lang/invoke/VarHandle") && decide (y.name ≠ "<init>") &&
  decide ((parseMethodDescriptor y.desc).map (fun d => d.parameters.length) = some (if nS k = 1 then nA k else nA k - 1)) && decide (nS k = 1 ∨ 1 ≤ nA k) &&
  decide (nA k ≤ nL k) && decide (nL k ≤ 19) && plainFor y
theorem mAll : (List.range mnames).all mOK = true := by decide +kernel
def fOK (f : Nat × Nat × Nat × Nat × Nat × Nat) : Bool := match vwCl[f.2.2.1]? with
  | some (_, T, N) => decide (f.2.2.2.1 < N) && atT f.2.2.2.2.2 (.fieldLink (cN f.1) f.2.1 (T f.2.2.2.1).1 (T f.2.2.2.1).2.1 (T f.2.2.2.1).2.2.1) &&
      decide (f.2.2.2.2.1 = 0 → (T f.2.2.2.1).2.2.1 = "I" ∧ (T f.2.2.2.1).2.2.2 = false) && decide (f.2.2.2.2.1 = 1 → (T f.2.2.2.1).2.2.1 = "Z" ∧ (T f.2.2.2.1).2.2.2 = false)
  | none => false
theorem fAll : ftab.all fOK = true := by decide +kernel
def iOK (f : Nat × Nat × Nat × Nat × Nat × Nat × Nat) : Bool :=
  let y := nY f.2.2.1; let own := cN f.1; let k := f.2.2.1
  decide (k < mnames) && atT f.2.2.2.2.1 (.methodLink own f.2.1 y) &&
  (if f.2.2.2.1 = 0 then decide (nS k = 0) && decide (rcN (nC k) = y.cls) && atT (mP.getD k (0, 0, 0, 0)).2.2.2 (.selects y.cls y y)
   else if f.2.2.2.1 = 1 then decide (nS k = 1)
   else if f.2.2.2.1 = 2 then decide (nS k = 0) && decide (rcN (nC k) = "java/lang/StringBuilder") && atT (mP.getD k (0, 0, 0, 0)).2.2.2 (.selects "java/lang/StringBuilder" y y) && atT f.2.2.2.2.2.1 (.sameMethod y.cls y.cls y.name y.desc)
   else decide (nS k = 0) && decide (rcN (nC k) = "java/lang/StringBuilder") && atT f.2.2.2.2.2.1 (.sameMethod y.cls y.cls y.name y.desc) && atT f.2.2.2.2.2.2 (.superclass own y.cls))
theorem iAll : itab.all iOK = true := by decide +kernel
def ilen : Instr → Nat
  | .bipush _ | .iload _ | .aload _ | .istore _ | .astore _ | .ldc _ | .newarray _ => 2
  | .sipush _ | .ifCond _ _ | .if_icmp _ _ | .goto _ | .iinc _ _ | .getfield _ | .putfield _ | .getstatic _ | .invokevirtual _ | .invokestatic _ | .invokespecial _ | .new _ => 3
  | _ => 1
def isTS : Instr → Bool
  | .tableswitch .. => true
  | _ => false
def jOK (pc : Nat) : Instr → Bool
  | .ifCond _ o | .if_icmp _ o | .goto o => decide (0 ≤ (pc : Int) + o)
  | .tableswitch d _ _ os => decide (0 ≤ (pc : Int) + d) && os.toList.all (fun o => decide (0 ≤ (pc : Int) + o))
  | _ => true
def callOK (k idx a b c : Nat) (kinds : List Nat) : Bool := decide (b = 999) || (match itab[a]? with
  | some f => decide (f.1 = nO k) && decide (f.2.1 = idx) && decide (f.2.2.1 = b) && decide (f.2.2.2.1 = c) && kinds.contains c
  | none => false)
def eOK (k : Nat) (e : Ent) : Bool :=
  (match decode (nB k) e.1 with
   | .ok (i, L) => decide (i = e.2.1) && (decide (L = ilen i) || isTS i)
   | .error _ => false) && jOK e.1 e.2.1 &&
  (match e.2.1 with
   | .getfield idx | .putfield idx => if e.2.2.2.1 = 25 then (match rtab[e.2.2.1]? with
        | some f => decide (f.1 = nO k) && decide (f.2.1 = idx) && decide (f.2.2.1 = e.2.2.2.2.1)
        | none => false) else (match ftab[e.2.2.1]? with
        | some f => decide (f.1 = nO k) && decide (f.2.1 = idx) && decide (f.2.2.1 = e.2.2.2.1) && decide (f.2.2.2.1 = e.2.2.2.2.1) && decide (f.2.2.2.2.1 = e.2.2.2.2.2)
        | none => false)
   | .invokevirtual idx => callOK k idx e.2.2.1 e.2.2.2.1 e.2.2.2.2.1 [0, 2]
   | .invokestatic idx => callOK k idx e.2.2.1 e.2.2.2.1 e.2.2.2.2.1 [1]
   | .invokespecial idx => callOK k idx e.2.2.1 e.2.2.2.1 e.2.2.2.2.1 [3]
   | .getstatic idx => (match stab[e.2.2.1]? with
        | some f => decide (f.1 = nO k) && decide (f.2.1 = idx) && decide (f.2.2.1 = e.2.2.2.1)
        | none => false)
   | .ldc idx => (match ltab[e.2.2.1]? with
        | some f => decide (f.1 = nO k) && decide (f.2.1 = idx) && decide (e.2.2.2.2.1 = e.2.2.1)
        | none => false)
   | _ => true)
def sOK (f : Nat × Nat × Nat × Nat) : Bool := match f.2.2.1 with
  | 0 => atT f.2.2.2 (.fieldLink (cN f.1) f.2.1 "java/lang/String" "COMPACT_STRINGS" "Z")
  | 1 => atT f.2.2.2 (.fieldLink (cN f.1) f.2.1 "jdk/internal/util/Preconditions" "SIOOBE_FORMATTER" "Ljava/util/function/BiFunction;")
  | 2 => atT f.2.2.2 (.fieldLink (cN f.1) f.2.1 "java/lang/Integer" "DigitOnes" "[B")
  | 3 => atT f.2.2.2 (.fieldLink (cN f.1) f.2.1 "java/lang/Integer" "DigitTens" "[B")
  | _ => false
theorem sAll : stab.all sOK = true := by decide +kernel
def rOK (f : Nat × Nat × Nat × Nat) : Bool := match f.2.2.1 with
  | 0 => atT f.2.2.2 (.fieldLink (cN f.1) f.2.1 "java/lang/String" "value" "[B")
  | 1 => atT f.2.2.2 (.fieldLink (cN f.1) f.2.1 "java/lang/String" "coder" "B")
  | _ => false
theorem rAll : rtab.all rOK = true := by decide +kernel
def lOK (f : Nat × Nat × Nat × String) : Bool := (match (TTs (f.2.2.1 / 1000))[f.2.2.1 % 1000]? with
  | some w => decide (w = .stringRef (cN f.1) f.2.1 f.2.2.2)
  | none => false)
theorem lAll : ltab.all lOK = true := by decide +kernel
def eAllK (k : Nat) : Bool := (mE.getD k []).all (eOK k)
theorem cIn_0 : Cond.code yX0_begin cX0_begin 2 none ∈ Tall := List.mem_filter.mpr ⟨TTs_in (j := 7) (List.mem_of_getElem? (i := 47) rfl), rfl⟩
theorem cIn_1 : Cond.code yX0_takeBack cX0_takeBack 2 none ∈ Tall := List.mem_filter.mpr ⟨TTs_in (j := 9) (List.mem_of_getElem? (i := 139) rfl), rfl⟩
theorem cIn_2 : Cond.code yX0_keep cX0_keep 1 none ∈ Tall := List.mem_filter.mpr ⟨TTs_in (j := 7) (List.mem_of_getElem? (i := 109) rfl), rfl⟩
theorem cIn_3 : Cond.code yX0_stepBack cX0_stepBack 2 (some .boolean) ∈ Tall := List.mem_filter.mpr ⟨TTs_in (j := 10) (List.mem_of_getElem? (i := 7) rfl), rfl⟩
theorem cIn_4 : Cond.code yX0_forget cX0_forget 1 none ∈ Tall := List.mem_filter.mpr ⟨TTs_in (j := 10) (List.mem_of_getElem? (i := 21) rfl), rfl⟩
theorem cIn_5 : Cond.code yX1_read cX1_read 3 (some .int) ∈ Tall := List.mem_filter.mpr ⟨TTs_in (j := 8) (List.mem_of_getElem? (i := 225) rfl), rfl⟩
theorem cIn_6 : Cond.code yX1_isOrderRead cX1_isOrderRead 8 (some .boolean) ∈ Tall := List.mem_filter.mpr ⟨TTs_in (j := 8) (List.mem_of_getElem? (i := 229) rfl), rfl⟩
theorem cIn_7 : Cond.code yX1_patternOf cX1_patternOf 1 (some (.object "java/lang/String")) ∈ Tall := List.mem_filter.mpr ⟨TTs_in (j := 9) (List.mem_of_getElem? (i := 74) rfl), rfl⟩
theorem cIn_8 : Cond.code yX1_isSignRead cX1_isSignRead 3 (some .boolean) ∈ Tall := List.mem_filter.mpr ⟨TTs_in (j := 9) (List.mem_of_getElem? (i := 111) rfl), rfl⟩
theorem cIn_9 : Cond.code yX1_hasDigit cX1_hasDigit 2 (some .boolean) ∈ Tall := List.mem_filter.mpr ⟨TTs_in (j := 9) (List.mem_of_getElem? (i := 99) rfl), rfl⟩
theorem cIn_10 : Cond.code yX1_readNumber cX1_readNumber 6 (some .int) ∈ Tall := List.mem_filter.mpr ⟨TTs_in (j := 9) (List.mem_of_getElem? (i := 103) rfl), rfl⟩
theorem cIn_11 : Cond.code yX1_keepNumber cX1_keepNumber 4 none ∈ Tall := List.mem_filter.mpr ⟨TTs_in (j := 9) (List.mem_of_getElem? (i := 107) rfl), rfl⟩
theorem cIn_12 : Cond.code yX2_clear cX2_clear 1 none ∈ Tall := List.mem_filter.mpr ⟨TTs_in (j := 7) (List.mem_of_getElem? (i := 77) rfl), rfl⟩
theorem cIn_13 : Cond.code yX2_putBehind cX2_putBehind 3 none ∈ Tall := List.mem_filter.mpr ⟨TTs_in (j := 7) (List.mem_of_getElem? (i := 81) rfl), rfl⟩
theorem cIn_14 : Cond.code yX2_putAhead cX2_putAhead 4 none ∈ Tall := List.mem_filter.mpr ⟨TTs_in (j := 9) (List.mem_of_getElem? (i := 147) rfl), rfl⟩
theorem cIn_15 : Cond.code yX3_divide cX3_divide 6 none ∈ Tall := List.mem_filter.mpr ⟨TTs_in (j := 7) (List.mem_of_getElem? (i := 206) rfl), rfl⟩
theorem cIn_16 : Cond.code yX3_giveOneByRest cX3_giveOneByRest 2 none ∈ Tall := List.mem_filter.mpr ⟨TTs_in (j := 7) (List.mem_of_getElem? (i := 212) rfl), rfl⟩
theorem cIn_17 : Cond.code yX3_deal cX3_deal 6 none ∈ Tall := List.mem_filter.mpr ⟨TTs_in (j := 7) (List.mem_of_getElem? (i := 227) rfl), rfl⟩
theorem cIn_18 : Cond.code yX3_greatest cX3_greatest 3 (some .int) ∈ Tall := List.mem_filter.mpr ⟨TTs_in (j := 7) (List.mem_of_getElem? (i := 215) rfl), rfl⟩
theorem cIn_19 : Cond.code yX4_copyFrom cX4_copyFrom 3 none ∈ Tall := List.mem_filter.mpr ⟨TTs_in (j := 7) (List.mem_of_getElem? (i := 51) rfl), rfl⟩
theorem cIn_20 : Cond.code yX4_burnDown cX4_burnDown 5 (some .int) ∈ Tall := List.mem_filter.mpr ⟨TTs_in (j := 7) (List.mem_of_getElem? (i := 128) rfl), rfl⟩
theorem cIn_21 : Cond.code yX4_claimOf cX4_claimOf 2 (some .int) ∈ Tall := List.mem_filter.mpr ⟨TTs_in (j := 7) (List.mem_of_getElem? (i := 201) rfl), rfl⟩
theorem cIn_22 : Cond.code yX4_allClaims cX4_allClaims 3 (some .int) ∈ Tall := List.mem_filter.mpr ⟨TTs_in (j := 7) (List.mem_of_getElem? (i := 197) rfl), rfl⟩
theorem cIn_23 : Cond.code yX4_allStores cX4_allStores 3 (some .int) ∈ Tall := List.mem_filter.mpr ⟨TTs_in (j := 9) (List.mem_of_getElem? (i := 207) rfl), rfl⟩
theorem cIn_24 : Cond.code yX4_allPooled cX4_allPooled 3 (some .int) ∈ Tall := List.mem_filter.mpr ⟨TTs_in (j := 9) (List.mem_of_getElem? (i := 223) rfl), rfl⟩
theorem cIn_25 : Cond.code yX4_openHouses cX4_openHouses 3 (some .int) ∈ Tall := List.mem_filter.mpr ⟨TTs_in (j := 9) (List.mem_of_getElem? (i := 202) rfl), rfl⟩
theorem cIn_26 : Cond.code yX4_successorOf cX4_successorOf 4 (some .int) ∈ Tall := List.mem_filter.mpr ⟨TTs_in (j := 8) (List.mem_of_getElem? (i := 15) rfl), rfl⟩
theorem cIn_27 : Cond.code yX4_handOver cX4_handOver 3 none ∈ Tall := List.mem_filter.mpr ⟨TTs_in (j := 8) (List.mem_of_getElem? (i := 19) rfl), rfl⟩
theorem cIn_28 : Cond.code yX4_handOverRights cX4_handOverRights 4 none ∈ Tall := List.mem_filter.mpr ⟨TTs_in (j := 8) (List.mem_of_getElem? (i := 23) rfl), rfl⟩
theorem cIn_29 : Cond.code yX4_handOverStubs cX4_handOverStubs 7 none ∈ Tall := List.mem_filter.mpr ⟨TTs_in (j := 8) (List.mem_of_getElem? (i := 28) rfl), rfl⟩
theorem cIn_30 : Cond.code yX4_dropWhatIsOwn cX4_dropWhatIsOwn 2 none ∈ Tall := List.mem_filter.mpr ⟨TTs_in (j := 8) (List.mem_of_getElem? (i := 34) rfl), rfl⟩
theorem cIn_31 : Cond.code yX4_housesAheadOf cX4_housesAheadOf 4 (some .int) ∈ Tall := List.mem_filter.mpr ⟨TTs_in (j := 8) (List.mem_of_getElem? (i := 97) rfl), rfl⟩
theorem cIn_32 : Cond.code yX4_isAhead cX4_isAhead 5 (some .boolean) ∈ Tall := List.mem_filter.mpr ⟨TTs_in (j := 8) (List.mem_of_getElem? (i := 101) rfl), rfl⟩
theorem cIn_33 : Cond.code yX5_copyFrom cX5_copyFrom 3 none ∈ Tall := List.mem_filter.mpr ⟨TTs_in (j := 7) (List.mem_of_getElem? (i := 55) rfl), rfl⟩
theorem cIn_34 : Cond.code yX5_copyStub cX5_copyStub 4 none ∈ Tall := List.mem_filter.mpr ⟨TTs_in (j := 7) (List.mem_of_getElem? (i := 59) rfl), rfl⟩
theorem cIn_35 : Cond.code yX5_put cX5_put 5 (some .int) ∈ Tall := List.mem_filter.mpr ⟨TTs_in (j := 7) (List.mem_of_getElem? (i := 93) rfl), rfl⟩
theorem cIn_36 : Cond.code yX5_remove cX5_remove 3 none ∈ Tall := List.mem_filter.mpr ⟨TTs_in (j := 7) (List.mem_of_getElem? (i := 141) rfl), rfl⟩
theorem cIn_37 : Cond.code yX5_takeWax cX5_takeWax 3 none ∈ Tall := List.mem_filter.mpr ⟨TTs_in (j := 7) (List.mem_of_getElem? (i := 137) rfl), rfl⟩
theorem cIn_38 : Cond.code yX5_forgive cX5_forgive 2 none ∈ Tall := List.mem_filter.mpr ⟨TTs_in (j := 7) (List.mem_of_getElem? (i := 97) rfl), rfl⟩
theorem cIn_39 : Cond.code yX5_release cX5_release 2 none ∈ Tall := List.mem_filter.mpr ⟨TTs_in (j := 7) (List.mem_of_getElem? (i := 101) rfl), rfl⟩
theorem cIn_40 : Cond.code yX5_payBack cX5_payBack 4 (some .int) ∈ Tall := List.mem_filter.mpr ⟨TTs_in (j := 7) (List.mem_of_getElem? (i := 132) rfl), rfl⟩
theorem cIn_41 : Cond.code yX5_shortenWrits cX5_shortenWrits 4 (some .int) ∈ Tall := List.mem_filter.mpr ⟨TTs_in (j := 8) (List.mem_of_getElem? (i := 47) rfl), rfl⟩
theorem cIn_42 : Cond.code yX5_countOn cX5_countOn 4 (some .int) ∈ Tall := List.mem_filter.mpr ⟨TTs_in (j := 8) (List.mem_of_getElem? (i := 56) rfl), rfl⟩
theorem cIn_43 : Cond.code yX5_weightOn cX5_weightOn 4 (some .int) ∈ Tall := List.mem_filter.mpr ⟨TTs_in (j := 7) (List.mem_of_getElem? (i := 89) rfl), rfl⟩
theorem cIn_44 : Cond.code yX5_weightBesideOthers cX5_weightBesideOthers 4 (some .int) ∈ Tall := List.mem_filter.mpr ⟨TTs_in (j := 8) (List.mem_of_getElem? (i := 85) rfl), rfl⟩
theorem cIn_45 : Cond.code yX5_tooManyFor cX5_tooManyFor 7 (some .int) ∈ Tall := List.mem_filter.mpr ⟨TTs_in (j := 8) (List.mem_of_getElem? (i := 72) rfl), rfl⟩
theorem cIn_46 : Cond.code yX5_writsBy cX5_writsBy 4 (some .int) ∈ Tall := List.mem_filter.mpr ⟨TTs_in (j := 7) (List.mem_of_getElem? (i := 165) rfl), rfl⟩
theorem cIn_47 : Cond.code yX5_owedTo cX5_owedTo 4 (some .int) ∈ Tall := List.mem_filter.mpr ⟨TTs_in (j := 7) (List.mem_of_getElem? (i := 153) rfl), rfl⟩
theorem cIn_48 : Cond.code yX5_owedBy cX5_owedBy 4 (some .int) ∈ Tall := List.mem_filter.mpr ⟨TTs_in (j := 8) (List.mem_of_getElem? (i := 60) rfl), rfl⟩
theorem cIn_49 : Cond.code yX5_allWrits cX5_allWrits 3 (some .int) ∈ Tall := List.mem_filter.mpr ⟨TTs_in (j := 7) (List.mem_of_getElem? (i := 169) rfl), rfl⟩
theorem cIn_50 : Cond.code yX5_allWax cX5_allWax 3 (some .int) ∈ Tall := List.mem_filter.mpr ⟨TTs_in (j := 8) (List.mem_of_getElem? (i := 89) rfl), rfl⟩
theorem cIn_51 : Cond.code yX5_allDebts cX5_allDebts 3 (some .int) ∈ Tall := List.mem_filter.mpr ⟨TTs_in (j := 9) (List.mem_of_getElem? (i := 211) rfl), rfl⟩
theorem cIn_52 : Cond.code yX5_stubsAheadOf cX5_stubsAheadOf 4 (some .int) ∈ Tall := List.mem_filter.mpr ⟨TTs_in (j := 8) (List.mem_of_getElem? (i := 109) rfl), rfl⟩
theorem cIn_53 : Cond.code yX5_isAhead cX5_isAhead 5 (some .boolean) ∈ Tall := List.mem_filter.mpr ⟨TTs_in (j := 8) (List.mem_of_getElem? (i := 113) rfl), rfl⟩
theorem cIn_54 : Cond.code yX6_stub cX6_stub 4 (some .int) ∈ Tall := List.mem_filter.mpr ⟨TTs_in (j := 7) (List.mem_of_getElem? (i := 43) rfl), rfl⟩
theorem cIn_55 : Cond.code yX6_burn cX6_burn 3 (some .int) ∈ Tall := List.mem_filter.mpr ⟨TTs_in (j := 7) (List.mem_of_getElem? (i := 116) rfl), rfl⟩
theorem cIn_56 : Cond.code yX6_owe cX6_owe 4 (some .int) ∈ Tall := List.mem_filter.mpr ⟨TTs_in (j := 7) (List.mem_of_getElem? (i := 145) rfl), rfl⟩
theorem cIn_57 : Cond.code yX6_writ cX6_writ 4 (some .int) ∈ Tall := List.mem_filter.mpr ⟨TTs_in (j := 7) (List.mem_of_getElem? (i := 157) rfl), rfl⟩
theorem cIn_58 : Cond.code yX6_stubOf cX6_stubOf 4 (some .int) ∈ Tall := List.mem_filter.mpr ⟨TTs_in (j := 7) (List.mem_of_getElem? (i := 173) rfl), rfl⟩
theorem cIn_59 : Cond.code yX6_pool cX6_pool 3 (some .int) ∈ Tall := List.mem_filter.mpr ⟨TTs_in (j := 7) (List.mem_of_getElem? (i := 180) rfl), rfl⟩
theorem cIn_60 : Cond.code yX6_share cX6_share 1 (some .int) ∈ Tall := List.mem_filter.mpr ⟨TTs_in (j := 7) (List.mem_of_getElem? (i := 189) rfl), rfl⟩
theorem cIn_61 : Cond.code yX6_part cX6_part 2 (some .int) ∈ Tall := List.mem_filter.mpr ⟨TTs_in (j := 7) (List.mem_of_getElem? (i := 219) rfl), rfl⟩
theorem cIn_62 : Cond.code yX6_partAgain cX6_partAgain 2 (some .int) ∈ Tall := List.mem_filter.mpr ⟨TTs_in (j := 7) (List.mem_of_getElem? (i := 223) rfl), rfl⟩
theorem cIn_63 : Cond.code yX6_mould cX6_mould 4 (some .int) ∈ Tall := List.mem_filter.mpr ⟨TTs_in (j := 7) (List.mem_of_getElem? (i := 231) rfl), rfl⟩
theorem cIn_64 : Cond.code yX6_heir cX6_heir 3 (some .int) ∈ Tall := List.mem_filter.mpr ⟨TTs_in (j := 7) (List.mem_of_getElem? (i := 239) rfl), rfl⟩
theorem cIn_65 : Cond.code yX6_end cX6_end 2 (some .int) ∈ Tall := List.mem_filter.mpr ⟨TTs_in (j := 8) (List.mem_of_getElem? (i := 7) rfl), rfl⟩
theorem cIn_66 : Cond.code yX6_pass cX6_pass 2 (some .int) ∈ Tall := List.mem_filter.mpr ⟨TTs_in (j := 8) (List.mem_of_getElem? (i := 39) rfl), rfl⟩
theorem cIn_67 : Cond.code yX6_houseOf cX6_houseOf 3 (some .int) ∈ Tall := List.mem_filter.mpr ⟨TTs_in (j := 8) (List.mem_of_getElem? (i := 51) rfl), rfl⟩
theorem cIn_68 : Cond.code yX6_inherits cX6_inherits 2 (some .int) ∈ Tall := List.mem_filter.mpr ⟨TTs_in (j := 8) (List.mem_of_getElem? (i := 64) rfl), rfl⟩
theorem cIn_69 : Cond.code yX6_wouldMelt cX6_wouldMelt 3 (some .int) ∈ Tall := List.mem_filter.mpr ⟨TTs_in (j := 8) (List.mem_of_getElem? (i := 68) rfl), rfl⟩
theorem cIn_70 : Cond.code yX6_weight cX6_weight 2 (some .int) ∈ Tall := List.mem_filter.mpr ⟨TTs_in (j := 8) (List.mem_of_getElem? (i := 77) rfl), rfl⟩
theorem cIn_71 : Cond.code yX6_weightAgain cX6_weightAgain 2 (some .int) ∈ Tall := List.mem_filter.mpr ⟨TTs_in (j := 8) (List.mem_of_getElem? (i := 81) rfl), rfl⟩
theorem cIn_72 : Cond.code yX6_ranked cX6_ranked 3 (some .int) ∈ Tall := List.mem_filter.mpr ⟨TTs_in (j := 8) (List.mem_of_getElem? (i := 93) rfl), rfl⟩
theorem cIn_73 : Cond.code yX6_brightest cX6_brightest 3 (some .int) ∈ Tall := List.mem_filter.mpr ⟨TTs_in (j := 8) (List.mem_of_getElem? (i := 105) rfl), rfl⟩
theorem cIn_74 : Cond.code yX6_append cX6_append 2 (some .int) ∈ Tall := List.mem_filter.mpr ⟨TTs_in (j := 8) (List.mem_of_getElem? (i := 117) rfl), rfl⟩
theorem cIn_75 : Cond.code yX6_run cX6_run 4 (some .int) ∈ Tall := List.mem_filter.mpr ⟨TTs_in (j := 8) (List.mem_of_getElem? (i := 221) rfl), rfl⟩
theorem cIn_76 : Cond.code yX6_tell cX6_tell 3 (some .int) ∈ Tall := List.mem_filter.mpr ⟨TTs_in (j := 9) (List.mem_of_getElem? (i := 152) rfl), rfl⟩
theorem cIn_77 : Cond.code yX6_tellHouses cX6_tellHouses 2 (some .int) ∈ Tall := List.mem_filter.mpr ⟨TTs_in (j := 9) (List.mem_of_getElem? (i := 181) rfl), rfl⟩
theorem cIn_78 : Cond.code yX6_character cX6_character 2 (some .int) ∈ Tall := List.mem_filter.mpr ⟨TTs_in (j := 9) (List.mem_of_getElem? (i := 189) rfl), rfl⟩
theorem cIn_79 : Cond.code yX6_reason cX6_reason 3 (some .int) ∈ Tall := List.mem_filter.mpr ⟨TTs_in (j := 9) (List.mem_of_getElem? (i := 194) rfl), rfl⟩
theorem cIn_80 : Cond.code yX6_account cX6_account 2 (some .int) ∈ Tall := List.mem_filter.mpr ⟨TTs_in (j := 9) (List.mem_of_getElem? (i := 198) rfl), rfl⟩
theorem cIn_81 : Cond.code yX6_isBalanced cX6_isBalanced 1 (some .int) ∈ Tall := List.mem_filter.mpr ⟨TTs_in (j := 9) (List.mem_of_getElem? (i := 215) rfl), rfl⟩
theorem cIn_82 : Cond.code yX6_undo cX6_undo 1 (some .int) ∈ Tall := List.mem_filter.mpr ⟨TTs_in (j := 10) (List.mem_of_getElem? (i := 3) rfl), rfl⟩
theorem cIn_83 : Cond.code yX6_save cX6_save 1 (some .int) ∈ Tall := List.mem_filter.mpr ⟨TTs_in (j := 10) (List.mem_of_getElem? (i := 12) rfl), rfl⟩
theorem cIn_84 : Cond.code yX6_restore cX6_restore 1 (some .int) ∈ Tall := List.mem_filter.mpr ⟨TTs_in (j := 10) (List.mem_of_getElem? (i := 17) rfl), rfl⟩
theorem cIn_85 : Cond.code yX6_settle cX6_settle 2 (some .int) ∈ Tall := List.mem_filter.mpr ⟨TTs_in (j := 7) (List.mem_of_getElem? (i := 105) rfl), rfl⟩
theorem cIn_86 : Cond.code yX6_bringStub cX6_bringStub 4 (some .int) ∈ Tall := List.mem_filter.mpr ⟨TTs_in (j := 7) (List.mem_of_getElem? (i := 63) rfl), rfl⟩
theorem cIn_87 : Cond.code yX6_mouldStub cX6_mouldStub 4 (some .int) ∈ Tall := List.mem_filter.mpr ⟨TTs_in (j := 7) (List.mem_of_getElem? (i := 235) rfl), rfl⟩
theorem cIn_88 : Cond.code yX6_hasRoomFor cX6_hasRoomFor 4 (some .boolean) ∈ Tall := List.mem_filter.mpr ⟨TTs_in (j := 7) (List.mem_of_getElem? (i := 85) rfl), rfl⟩
theorem cIn_89 : Cond.code yX6_burnStub cX6_burnStub 4 (some .int) ∈ Tall := List.mem_filter.mpr ⟨TTs_in (j := 7) (List.mem_of_getElem? (i := 120) rfl), rfl⟩
theorem cIn_90 : Cond.code yX6_oweLight cX6_oweLight 5 (some .int) ∈ Tall := List.mem_filter.mpr ⟨TTs_in (j := 7) (List.mem_of_getElem? (i := 149) rfl), rfl⟩
theorem cIn_91 : Cond.code yX6_snuffStub cX6_snuffStub 5 (some .int) ∈ Tall := List.mem_filter.mpr ⟨TTs_in (j := 7) (List.mem_of_getElem? (i := 161) rfl), rfl⟩
theorem cIn_92 : Cond.code yX6_poolWax cX6_poolWax 3 (some .int) ∈ Tall := List.mem_filter.mpr ⟨TTs_in (j := 7) (List.mem_of_getElem? (i := 184) rfl), rfl⟩
theorem cIn_93 : Cond.code yX6_sharePool cX6_sharePool 3 (some .int) ∈ Tall := List.mem_filter.mpr ⟨TTs_in (j := 7) (List.mem_of_getElem? (i := 193) rfl), rfl⟩
theorem cIn_94 : Cond.code yX6_tellHeir cX6_tellHeir 4 (some .int) ∈ Tall := List.mem_filter.mpr ⟨TTs_in (j := 8) (List.mem_of_getElem? (i := 3) rfl), rfl⟩
theorem cIn_95 : Cond.code yX6_endHouse cX6_endHouse 3 (some .int) ∈ Tall := List.mem_filter.mpr ⟨TTs_in (j := 8) (List.mem_of_getElem? (i := 11) rfl), rfl⟩
theorem cIn_96 : Cond.code yX6_passHours cX6_passHours 2 (some .int) ∈ Tall := List.mem_filter.mpr ⟨TTs_in (j := 8) (List.mem_of_getElem? (i := 43) rfl), rfl⟩
theorem cIn_97 : Cond.code yX6_carryOut cX6_carryOut 5 (some .int) ∈ Tall := List.mem_filter.mpr ⟨TTs_in (j := 9) (List.mem_of_getElem? (i := 135) rfl), rfl⟩
theorem cIn_98 : Cond.code yX6_isFrom cX6_isFrom 3 (some .boolean) ∈ Tall := List.mem_filter.mpr ⟨TTs_in (j := 7) (List.mem_of_getElem? (i := 69) rfl), rfl⟩
theorem cIn_99 : Cond.code yX6_isHouse cX6_isHouse 1 (some .boolean) ∈ Tall := List.mem_filter.mpr ⟨TTs_in (j := 7) (List.mem_of_getElem? (i := 66) rfl), rfl⟩
theorem cIn_100 : Cond.code yX6_isStub cX6_isStub 2 (some .boolean) ∈ Tall := List.mem_filter.mpr ⟨TTs_in (j := 7) (List.mem_of_getElem? (i := 124) rfl), rfl⟩
theorem cIn_101 : Cond.code yX6_orNothing cX6_orNothing 1 (some .int) ∈ Tall := List.mem_filter.mpr ⟨TTs_in (j := 7) (List.mem_of_getElem? (i := 176) rfl), rfl⟩
theorem cIn_102 : Cond.code yX6_refuse cX6_refuse 3 (some .int) ∈ Tall := List.mem_filter.mpr ⟨TTs_in (j := 7) (List.mem_of_getElem? (i := 73) rfl), rfl⟩
theorem cIn_103 : Cond.code yX6_refuseOrder cX6_refuseOrder 3 (some .int) ∈ Tall := List.mem_filter.mpr ⟨TTs_in (j := 9) (List.mem_of_getElem? (i := 143) rfl), rfl⟩
theorem cIn_104 : Cond.code yX6_writeHouse cX6_writeHouse 2 none ∈ Tall := List.mem_filter.mpr ⟨TTs_in (j := 9) (List.mem_of_getElem? (i := 185) rfl), rfl⟩
theorem cIn_105 : Cond.code yX6_isWaxAccountedFor cX6_isWaxAccountedFor 2 (some .boolean) ∈ Tall := List.mem_filter.mpr ⟨TTs_in (j := 9) (List.mem_of_getElem? (i := 219) rfl), rfl⟩
theorem cIn_106 : Cond.code yX6_areSharesSame cX6_areSharesSame 3 (some .boolean) ∈ Tall := List.mem_filter.mpr ⟨TTs_in (j := 9) (List.mem_of_getElem? (i := 227) rfl), rfl⟩
theorem cIn_107 : Cond.code yX6_areWeightsSame cX6_areWeightsSame 2 (some .boolean) ∈ Tall := List.mem_filter.mpr ⟨TTs_in (j := 9) (List.mem_of_getElem? (i := 231) rfl), rfl⟩
theorem cIn_108 : Cond.code yX7_fail cX7_fail 2 (some .int) ∈ Tall := List.mem_filter.mpr ⟨TTs_in (j := 10) (List.mem_of_getElem? (i := 131) rfl), rfl⟩
theorem cIn_109 : Cond.code yX7_refuses cX7_refuses 3 (some .int) ∈ Tall := List.mem_filter.mpr ⟨TTs_in (j := 10) (List.mem_of_getElem? (i := 142) rfl), rfl⟩
theorem cIn_110 : Cond.code yX7_isIn cX7_isIn 3 (some .boolean) ∈ Tall := List.mem_filter.mpr ⟨TTs_in (j := 10) (List.mem_of_getElem? (i := 127) rfl), rfl⟩
theorem cIn_111 : Cond.code yX7_lays cX7_lays 3 none ∈ Tall := List.mem_filter.mpr ⟨TTs_in (j := 10) (List.mem_of_getElem? (i := 117) rfl), rfl⟩
theorem cIn_112 : Cond.code yX7_begins cX7_begins 1 none ∈ Tall := List.mem_filter.mpr ⟨TTs_in (j := 10) (List.mem_of_getElem? (i := 114) rfl), rfl⟩
theorem cIn_113 : Cond.code yX7_ends cX7_ends 3 (some .int) ∈ Tall := List.mem_filter.mpr ⟨TTs_in (j := 10) (List.mem_of_getElem? (i := 157) rfl), rfl⟩
theorem cIn_114 : Cond.code yX7_at cX7_at 2 (some .int) ∈ Tall := List.mem_filter.mpr ⟨TTs_in (j := 10) (List.mem_of_getElem? (i := 30) rfl), rfl⟩
theorem cIn_115 : Cond.code yX7_in cX7_in 2 (some .int) ∈ Tall := List.mem_filter.mpr ⟨TTs_in (j := 10) (List.mem_of_getElem? (i := 153) rfl), rfl⟩
theorem cIn_116 : Cond.code yX7_isHouse cX7_isHouse 1 (some .boolean) ∈ Tall := List.mem_filter.mpr ⟨TTs_in (j := 10) (List.mem_of_getElem? (i := 124) rfl), rfl⟩
theorem cIn_117 : Cond.code yX7_isStub cX7_isStub 2 (some .boolean) ∈ Tall := List.mem_filter.mpr ⟨TTs_in (j := 10) (List.mem_of_getElem? (i := 169) rfl), rfl⟩
theorem cIn_118 : Cond.code yX7_isOpen cX7_isOpen 2 (some .boolean) ∈ Tall := List.mem_filter.mpr ⟨TTs_in (j := 10) (List.mem_of_getElem? (i := 138) rfl), rfl⟩
theorem cIn_119 : Cond.code yX7_opens cX7_opens 3 (some .int) ∈ Tall := List.mem_filter.mpr ⟨TTs_in (j := 11) (List.mem_of_getElem? (i := 34) rfl), rfl⟩
theorem cIn_120 : Cond.code yX7_tray cX7_tray 4 (some .int) ∈ Tall := List.mem_filter.mpr ⟨TTs_in (j := 10) (List.mem_of_getElem? (i := 150) rfl), rfl⟩
theorem cIn_121 : Cond.code yX7_goes cX7_goes 3 none ∈ Tall := List.mem_filter.mpr ⟨TTs_in (j := 10) (List.mem_of_getElem? (i := 177) rfl), rfl⟩
theorem cIn_122 : Cond.code yX7_owed cX7_owed 4 (some .int) ∈ Tall := List.mem_filter.mpr ⟨TTs_in (j := 10) (List.mem_of_getElem? (i := 189) rfl), rfl⟩
theorem cIn_123 : Cond.code yX7_writs cX7_writs 4 (some .int) ∈ Tall := List.mem_filter.mpr ⟨TTs_in (j := 10) (List.mem_of_getElem? (i := 201) rfl), rfl⟩
theorem cIn_124 : Cond.code yX7_isMade cX7_isMade 2 (some .boolean) ∈ Tall := List.mem_filter.mpr ⟨TTs_in (j := 10) (List.mem_of_getElem? (i := 134) rfl), rfl⟩
theorem cIn_125 : Cond.code yX7_makes cX7_makes 7 (some .int) ∈ Tall := List.mem_filter.mpr ⟨TTs_in (j := 10) (List.mem_of_getElem? (i := 146) rfl), rfl⟩
theorem cIn_126 : Cond.code yX7_comes cX7_comes 4 (some .int) ∈ Tall := List.mem_filter.mpr ⟨TTs_in (j := 10) (List.mem_of_getElem? (i := 121) rfl), rfl⟩
theorem cIn_127 : Cond.code yX7_stub cX7_stub 4 (some .int) ∈ Tall := List.mem_filter.mpr ⟨TTs_in (j := 10) (List.mem_of_getElem? (i := 110) rfl), rfl⟩
theorem cIn_128 : Cond.code yX7_refusesBurning cX7_refusesBurning 5 (some .int) ∈ Tall := List.mem_filter.mpr ⟨TTs_in (j := 10) (List.mem_of_getElem? (i := 173) rfl), rfl⟩
theorem cIn_129 : Cond.code yX7_burns cX7_burns 5 (some .int) ∈ Tall := List.mem_filter.mpr ⟨TTs_in (j := 10) (List.mem_of_getElem? (i := 165) rfl), rfl⟩
theorem cIn_130 : Cond.code yX7_burn cX7_burn 3 (some .int) ∈ Tall := List.mem_filter.mpr ⟨TTs_in (j := 10) (List.mem_of_getElem? (i := 161) rfl), rfl⟩
theorem cIn_131 : Cond.code yX7_owes cX7_owes 4 (some .int) ∈ Tall := List.mem_filter.mpr ⟨TTs_in (j := 10) (List.mem_of_getElem? (i := 185) rfl), rfl⟩
theorem cIn_132 : Cond.code yX7_owe cX7_owe 4 (some .int) ∈ Tall := List.mem_filter.mpr ⟨TTs_in (j := 10) (List.mem_of_getElem? (i := 181) rfl), rfl⟩
theorem cIn_133 : Cond.code yX7_snuffs cX7_snuffs 4 (some .int) ∈ Tall := List.mem_filter.mpr ⟨TTs_in (j := 10) (List.mem_of_getElem? (i := 197) rfl), rfl⟩
theorem cIn_134 : Cond.code yX7_writ cX7_writ 4 (some .int) ∈ Tall := List.mem_filter.mpr ⟨TTs_in (j := 10) (List.mem_of_getElem? (i := 193) rfl), rfl⟩
theorem cIn_135 : Cond.code yX7_stubOf cX7_stubOf 4 (some .int) ∈ Tall := List.mem_filter.mpr ⟨TTs_in (j := 10) (List.mem_of_getElem? (i := 205) rfl), rfl⟩
theorem cIn_136 : Cond.code yX7_pooled cX7_pooled 3 (some .int) ∈ Tall := List.mem_filter.mpr ⟨TTs_in (j := 10) (List.mem_of_getElem? (i := 217) rfl), rfl⟩
theorem cIn_137 : Cond.code yX7_pools cX7_pools 4 (some .int) ∈ Tall := List.mem_filter.mpr ⟨TTs_in (j := 10) (List.mem_of_getElem? (i := 213) rfl), rfl⟩
theorem cIn_138 : Cond.code yX7_pool cX7_pool 3 (some .int) ∈ Tall := List.mem_filter.mpr ⟨TTs_in (j := 10) (List.mem_of_getElem? (i := 209) rfl), rfl⟩
theorem cIn_139 : Cond.code yX7_claim cX7_claim 2 (some .int) ∈ Tall := List.mem_filter.mpr ⟨TTs_in (j := 10) (List.mem_of_getElem? (i := 233) rfl), rfl⟩
theorem cIn_140 : Cond.code yX7_claims cX7_claims 3 (some .int) ∈ Tall := List.mem_filter.mpr ⟨TTs_in (j := 10) (List.mem_of_getElem? (i := 229) rfl), rfl⟩
theorem cIn_141 : Cond.code yX7_finds cX7_finds 6 none ∈ Tall := List.mem_filter.mpr ⟨TTs_in (j := 10) (List.mem_of_getElem? (i := 237) rfl), rfl⟩
theorem cIn_142 : Cond.code yX7_shares cX7_shares 3 (some .int) ∈ Tall := List.mem_filter.mpr ⟨TTs_in (j := 10) (List.mem_of_getElem? (i := 225) rfl), rfl⟩
theorem cIn_143 : Cond.code yX7_share cX7_share 1 (some .int) ∈ Tall := List.mem_filter.mpr ⟨TTs_in (j := 10) (List.mem_of_getElem? (i := 221) rfl), rfl⟩
theorem cIn_144 : Cond.code yX7_part cX7_part 2 (some .int) ∈ Tall := List.mem_filter.mpr ⟨TTs_in (j := 11) (List.mem_of_getElem? (i := 1) rfl), rfl⟩
theorem cIn_145 : Cond.code yX7_partAgain cX7_partAgain 2 (some .int) ∈ Tall := List.mem_filter.mpr ⟨TTs_in (j := 11) (List.mem_of_getElem? (i := 5) rfl), rfl⟩
theorem cIn_146 : Cond.code yX7_moulds cX7_moulds 4 (some .int) ∈ Tall := List.mem_filter.mpr ⟨TTs_in (j := 11) (List.mem_of_getElem? (i := 14) rfl), rfl⟩
theorem cIn_147 : Cond.code yX7_mould cX7_mould 4 (some .int) ∈ Tall := List.mem_filter.mpr ⟨TTs_in (j := 11) (List.mem_of_getElem? (i := 10) rfl), rfl⟩
theorem cIn_148 : Cond.code yX7_tellsHeir cX7_tellsHeir 4 (some .int) ∈ Tall := List.mem_filter.mpr ⟨TTs_in (j := 11) (List.mem_of_getElem? (i := 22) rfl), rfl⟩
theorem cIn_149 : Cond.code yX7_heir cX7_heir 3 (some .int) ∈ Tall := List.mem_filter.mpr ⟨TTs_in (j := 11) (List.mem_of_getElem? (i := 18) rfl), rfl⟩
theorem cIn_150 : Cond.code yX7_inForce cX7_inForce 4 (some .int) ∈ Tall := List.mem_filter.mpr ⟨TTs_in (j := 11) (List.mem_of_getElem? (i := 38) rfl), rfl⟩
theorem cIn_151 : Cond.code yX7_inheritsStubs cX7_inheritsStubs 6 (some .int) ∈ Tall := List.mem_filter.mpr ⟨TTs_in (j := 11) (List.mem_of_getElem? (i := 42) rfl), rfl⟩
theorem cIn_152 : Cond.code yX7_frees cX7_frees 5 none ∈ Tall := List.mem_filter.mpr ⟨TTs_in (j := 11) (List.mem_of_getElem? (i := 46) rfl), rfl⟩
theorem cIn_153 : Cond.code yX7_closes cX7_closes 4 (some .int) ∈ Tall := List.mem_filter.mpr ⟨TTs_in (j := 11) (List.mem_of_getElem? (i := 30) rfl), rfl⟩
theorem cIn_154 : Cond.code yX7_end cX7_end 2 (some .int) ∈ Tall := List.mem_filter.mpr ⟨TTs_in (j := 11) (List.mem_of_getElem? (i := 26) rfl), rfl⟩
theorem cIn_155 : Cond.code yX7_passes cX7_passes 5 (some .int) ∈ Tall := List.mem_filter.mpr ⟨TTs_in (j := 11) (List.mem_of_getElem? (i := 54) rfl), rfl⟩
theorem cIn_156 : Cond.code yX7_pass cX7_pass 2 (some .int) ∈ Tall := List.mem_filter.mpr ⟨TTs_in (j := 11) (List.mem_of_getElem? (i := 50) rfl), rfl⟩
theorem cIn_157 : Cond.code yX7_ofStubs cX7_ofStubs 5 (some .int) ∈ Tall := List.mem_filter.mpr ⟨TTs_in (j := 11) (List.mem_of_getElem? (i := 62) rfl), rfl⟩
theorem cIn_158 : Cond.code yX7_houseOf cX7_houseOf 3 (some .int) ∈ Tall := List.mem_filter.mpr ⟨TTs_in (j := 11) (List.mem_of_getElem? (i := 58) rfl), rfl⟩
theorem cIn_159 : Cond.code yX7_inherits cX7_inherits 2 (some .int) ∈ Tall := List.mem_filter.mpr ⟨TTs_in (j := 11) (List.mem_of_getElem? (i := 66) rfl), rfl⟩
theorem cIn_160 : Cond.code yX7_wouldMelt cX7_wouldMelt 3 (some .int) ∈ Tall := List.mem_filter.mpr ⟨TTs_in (j := 11) (List.mem_of_getElem? (i := 70) rfl), rfl⟩
theorem cIn_161 : Cond.code yX7_weight cX7_weight 2 (some .int) ∈ Tall := List.mem_filter.mpr ⟨TTs_in (j := 11) (List.mem_of_getElem? (i := 74) rfl), rfl⟩
theorem cIn_162 : Cond.code yX7_weightAgain cX7_weightAgain 2 (some .int) ∈ Tall := List.mem_filter.mpr ⟨TTs_in (j := 11) (List.mem_of_getElem? (i := 78) rfl), rfl⟩
theorem cIn_163 : Cond.code yX7_ranked cX7_ranked 6 (some .int) ∈ Tall := List.mem_filter.mpr ⟨TTs_in (j := 11) (List.mem_of_getElem? (i := 83) rfl), rfl⟩
theorem cIn_164 : Cond.code yX7_brightest cX7_brightest 6 (some .int) ∈ Tall := List.mem_filter.mpr ⟨TTs_in (j := 11) (List.mem_of_getElem? (i := 87) rfl), rfl⟩
theorem cIn_165 : Cond.code yX7_writes cX7_writes 2 none ∈ Tall := List.mem_filter.mpr ⟨TTs_in (j := 11) (List.mem_of_getElem? (i := 142) rfl), rfl⟩
theorem cIn_166 : Cond.code yX7_writesNumber cX7_writesNumber 3 none ∈ Tall := List.mem_filter.mpr ⟨TTs_in (j := 11) (List.mem_of_getElem? (i := 138) rfl), rfl⟩
theorem cIn_167 : Cond.code yX7_append cX7_append 2 (some .int) ∈ Tall := List.mem_filter.mpr ⟨TTs_in (j := 11) (List.mem_of_getElem? (i := 91) rfl), rfl⟩
theorem cIn_168 : Cond.code yX7_sign cX7_sign 1 (some .int) ∈ Tall := List.mem_filter.mpr ⟨TTs_in (j := 11) (List.mem_of_getElem? (i := 107) rfl), rfl⟩
theorem cIn_169 : Cond.code yX7_mark cX7_mark 2 none ∈ Tall := List.mem_filter.mpr ⟨TTs_in (j := 11) (List.mem_of_getElem? (i := 122) rfl), rfl⟩
theorem cIn_170 : Cond.code yX7_digits cX7_digits 4 (some .int) ∈ Tall := List.mem_filter.mpr ⟨TTs_in (j := 11) (List.mem_of_getElem? (i := 114) rfl), rfl⟩
theorem cIn_171 : Cond.code yX7_behind cX7_behind 3 (some .int) ∈ Tall := List.mem_filter.mpr ⟨TTs_in (j := 11) (List.mem_of_getElem? (i := 118) rfl), rfl⟩
theorem cIn_172 : Cond.code yX7_does cX7_does 5 (some .int) ∈ Tall := List.mem_filter.mpr ⟨TTs_in (j := 11) (List.mem_of_getElem? (i := 126) rfl), rfl⟩
theorem cIn_173 : Cond.code yX7_isKnown cX7_isKnown 1 (some .boolean) ∈ Tall := List.mem_filter.mpr ⟨TTs_in (j := 11) (List.mem_of_getElem? (i := 110) rfl), rfl⟩
theorem cIn_174 : Cond.code yX7_order cX7_order 7 none ∈ Tall := List.mem_filter.mpr ⟨TTs_in (j := 11) (List.mem_of_getElem? (i := 103) rfl), rfl⟩
theorem cIn_175 : Cond.code yX7_orders cX7_orders 2 (some .int) ∈ Tall := List.mem_filter.mpr ⟨TTs_in (j := 11) (List.mem_of_getElem? (i := 99) rfl), rfl⟩
theorem cIn_176 : Cond.code yX7_refusesOrder cX7_refusesOrder 8 (some .int) ∈ Tall := List.mem_filter.mpr ⟨TTs_in (j := 11) (List.mem_of_getElem? (i := 130) rfl), rfl⟩
theorem cIn_177 : Cond.code yX7_run cX7_run 2 (some .int) ∈ Tall := List.mem_filter.mpr ⟨TTs_in (j := 11) (List.mem_of_getElem? (i := 95) rfl), rfl⟩
theorem cIn_178 : Cond.code yX7_tell cX7_tell 2 (some .int) ∈ Tall := List.mem_filter.mpr ⟨TTs_in (j := 11) (List.mem_of_getElem? (i := 134) rfl), rfl⟩
theorem cIn_179 : Cond.code yX7_tellHouses cX7_tellHouses 2 (some .int) ∈ Tall := List.mem_filter.mpr ⟨TTs_in (j := 11) (List.mem_of_getElem? (i := 146) rfl), rfl⟩
theorem cIn_180 : Cond.code yX7_character cX7_character 2 (some .int) ∈ Tall := List.mem_filter.mpr ⟨TTs_in (j := 11) (List.mem_of_getElem? (i := 150) rfl), rfl⟩
theorem cIn_181 : Cond.code yX7_reason cX7_reason 4 (some .int) ∈ Tall := List.mem_filter.mpr ⟨TTs_in (j := 11) (List.mem_of_getElem? (i := 154) rfl), rfl⟩
theorem cIn_182 : Cond.code yX7_ofAll cX7_ofAll 4 (some .int) ∈ Tall := List.mem_filter.mpr ⟨TTs_in (j := 11) (List.mem_of_getElem? (i := 162) rfl), rfl⟩
theorem cIn_183 : Cond.code yX7_stores cX7_stores 3 (some .int) ∈ Tall := List.mem_filter.mpr ⟨TTs_in (j := 11) (List.mem_of_getElem? (i := 166) rfl), rfl⟩
theorem cIn_184 : Cond.code yX7_account cX7_account 2 (some .int) ∈ Tall := List.mem_filter.mpr ⟨TTs_in (j := 11) (List.mem_of_getElem? (i := 158) rfl), rfl⟩
theorem cIn_185 : Cond.code yX7_isBalanced cX7_isBalanced 1 (some .int) ∈ Tall := List.mem_filter.mpr ⟨TTs_in (j := 11) (List.mem_of_getElem? (i := 170) rfl), rfl⟩
theorem cIn_186 : Cond.code yX7_undo cX7_undo 2 (some .int) ∈ Tall := List.mem_filter.mpr ⟨TTs_in (j := 11) (List.mem_of_getElem? (i := 182) rfl), rfl⟩
theorem cIn_187 : Cond.code yX7_save cX7_save 1 (some .int) ∈ Tall := List.mem_filter.mpr ⟨TTs_in (j := 11) (List.mem_of_getElem? (i := 186) rfl), rfl⟩
theorem cIn_188 : Cond.code yX7_restore cX7_restore 1 (some .int) ∈ Tall := List.mem_filter.mpr ⟨TTs_in (j := 11) (List.mem_of_getElem? (i := 190) rfl), rfl⟩
theorem cIn_189 : Cond.code yJ4_append_cf468 cJ4_append_cf468 2 (some (.object "java/lang/StringBuilder")) ∈ Tall := List.mem_filter.mpr ⟨TTs_in (j := 8) (List.mem_of_getElem? (i := 128) rfl), rfl⟩
theorem cIn_190 : Cond.code yJ4_append_bf812 cJ4_append_bf812 2 (some (.object "java/lang/StringBuilder")) ∈ Tall := List.mem_filter.mpr ⟨TTs_in (j := 9) (List.mem_of_getElem? (i := 156) rfl), rfl⟩
theorem cIn_191 : Cond.code yJ4_charAt_5068e cJ4_charAt_5068e 2 (some .char) ∈ Tall := List.mem_filter.mpr ⟨TTs_in (j := 8) (List.mem_of_getElem? (i := 235) rfl), rfl⟩
theorem cIn_192 : Cond.code yJ4_setLength_d00df cJ4_setLength_d00df 2 none ∈ Tall := List.mem_filter.mpr ⟨TTs_in (j := 9) (List.mem_of_getElem? (i := 115) rfl), rfl⟩
theorem cIn_193 : Cond.code yJ4_length_8abf5 cJ4_length_8abf5 1 (some .int) ∈ Tall := List.mem_filter.mpr ⟨TTs_in (j := 8) (List.mem_of_getElem? (i := 121) rfl), rfl⟩
theorem cIn_194 : Cond.code yJ5_length_8abf5 cJ5_length_8abf5 1 (some .int) ∈ Tall := List.mem_filter.mpr ⟨TTs_in (j := 8) (List.mem_of_getElem? (i := 124) rfl), rfl⟩
theorem cIn_195 : Cond.code yJ5_charAt_5068e cJ5_charAt_5068e 5 (some .char) ∈ Tall := List.mem_filter.mpr ⟨TTs_in (j := 8) (List.mem_of_getElem? (i := 238) rfl), rfl⟩
theorem cIn_196 : Cond.code yJ5_setLength_d00df cJ5_setLength_d00df 2 none ∈ Tall := List.mem_filter.mpr ⟨TTs_in (j := 9) (List.mem_of_getElem? (i := 118) rfl), rfl⟩
theorem cIn_197 : Cond.code yJ5_append_3fe6f cJ5_append_3fe6f 2 (some (.object "java/lang/AbstractStringBuilder")) ∈ Tall := List.mem_filter.mpr ⟨TTs_in (j := 8) (List.mem_of_getElem? (i := 131) rfl), rfl⟩
theorem cIn_198 : Cond.code yJ5_append_c97b9 cJ5_append_c97b9 4 (some (.object "java/lang/AbstractStringBuilder")) ∈ Tall := List.mem_filter.mpr ⟨TTs_in (j := 9) (List.mem_of_getElem? (i := 159) rfl), rfl⟩
theorem cIn_199 : Cond.code yJ5_isLatin1_aae02 cJ5_isLatin1_aae02 1 (some .boolean) ∈ Tall := List.mem_filter.mpr ⟨TTs_in (j := 8) (List.mem_of_getElem? (i := 169) rfl), rfl⟩
theorem cIn_200 : Cond.code yJ6_getChars_ba4f3 cJ6_getChars_ba4f3 7 (some .int) ∈ Tall := List.mem_filter.mpr ⟨TTs_in (j := 9) (List.mem_of_getElem? (i := 165) rfl), rfl⟩
theorem cIn_201 : Cond.code yJ6_stringSize_0f7a4 cJ6_stringSize_0f7a4 4 (some .int) ∈ Tall := List.mem_filter.mpr ⟨TTs_in (j := 9) (List.mem_of_getElem? (i := 162) rfl), rfl⟩
theorem cIn_202 : Cond.code yJ9_min_7cf53 cJ9_min_7cf53 2 (some .int) ∈ Tall := List.mem_filter.mpr ⟨TTs_in (j := 7) (List.mem_of_getElem? (i := 112) rfl), rfl⟩
theorem cIn_203 : Cond.code yJ9_max_7cf53 cJ9_max_7cf53 2 (some .int) ∈ Tall := List.mem_filter.mpr ⟨TTs_in (j := 8) (List.mem_of_getElem? (i := 145) rfl), rfl⟩
theorem cIn_204 : Cond.code yJ0_length_8abf5 cJ0_length_8abf5 1 (some .int) ∈ Tall := List.mem_filter.mpr ⟨TTs_in (j := 9) (List.mem_of_getElem? (i := 20) rfl), rfl⟩
theorem cIn_205 : Cond.code yJ0_charAt_5068e cJ0_charAt_5068e 2 (some .char) ∈ Tall := List.mem_filter.mpr ⟨TTs_in (j := 9) (List.mem_of_getElem? (i := 88) rfl), rfl⟩
theorem cIn_206 : Cond.code yJ0_indexOf_0f7a4 cJ0_indexOf_0f7a4 2 (some .int) ∈ Tall := List.mem_filter.mpr ⟨TTs_in (j := 9) (List.mem_of_getElem? (i := 7) rfl), rfl⟩
theorem cIn_207 : Cond.code yJ0_indexOf_7cf53 cJ0_indexOf_7cf53 3 (some .int) ∈ Tall := List.mem_filter.mpr ⟨TTs_in (j := 9) (List.mem_of_getElem? (i := 11) rfl), rfl⟩
theorem cIn_208 : Cond.code yJ0_isLatin1_aae02 cJ0_isLatin1_aae02 1 (some .boolean) ∈ Tall := List.mem_filter.mpr ⟨TTs_in (j := 9) (List.mem_of_getElem? (i := 15) rfl), rfl⟩
theorem cIn_209 : Cond.code yJ0_coder_7d493 cJ0_coder_7d493 1 (some .byte) ∈ Tall := List.mem_filter.mpr ⟨TTs_in (j := 9) (List.mem_of_getElem? (i := 24) rfl), rfl⟩
theorem cIn_210 : Cond.code yJ0_checkIndex_df160 cJ0_checkIndex_df160 2 none ∈ Tall := List.mem_filter.mpr ⟨TTs_in (j := 8) (List.mem_of_getElem? (i := 214) rfl), rfl⟩
theorem cIn_211 : Cond.code yJ3_checkIndex_8e157 cJ3_checkIndex_8e157 3 (some .int) ∈ Tall := List.mem_filter.mpr ⟨TTs_in (j := 8) (List.mem_of_getElem? (i := 217) rfl), rfl⟩
theorem cIn_212 : Cond.code yJ1_charAt_3b067 cJ1_charAt_3b067 2 (some .char) ∈ Tall := List.mem_filter.mpr ⟨TTs_in (j := 9) (List.mem_of_getElem? (i := 91) rfl), rfl⟩
theorem cIn_213 : Cond.code yJ1_canEncode_fc78d cJ1_canEncode_fc78d 1 (some .boolean) ∈ Tall := List.mem_filter.mpr ⟨TTs_in (j := 8) (List.mem_of_getElem? (i := 172) rfl), rfl⟩
theorem cIn_214 : Cond.code yJ1_canEncode_9a6ad cJ1_canEncode_9a6ad 1 (some .boolean) ∈ Tall := List.mem_filter.mpr ⟨TTs_in (j := 9) (List.mem_of_getElem? (i := 30) rfl), rfl⟩
theorem cIn_215 : Cond.code yJ1_indexOf_4cfef cJ1_indexOf_4cfef 4 (some .int) ∈ Tall := List.mem_filter.mpr ⟨TTs_in (j := 9) (List.mem_of_getElem? (i := 27) rfl), rfl⟩
theorem cIn_216 : Cond.code yJ1_indexOfChar_4cfef cJ1_indexOfChar_4cfef 6 (some .int) ∈ Tall := List.mem_filter.mpr ⟨TTs_in (j := 9) (List.mem_of_getElem? (i := 35) rfl), rfl⟩
theorem cIn_217 : Cond.code yJ5_ensureCapacityInternal_d00df cJ5_ensureCapacityInternal_d00df 3 none ∈ Tall := List.mem_filter.mpr ⟨TTs_in (j := 8) (List.mem_of_getElem? (i := 135) rfl), rfl⟩
theorem codeIn_0 (j : Nat) (hj : j < 20) : Cond.code (nY (0 + j)) (nB (0 + j)) (nL (0 + j)) (nR (0 + j)) ∈ Tall := match j, hj with
  | 0, _ => cIn_0
  | 1, _ => cIn_1
  | 2, _ => cIn_2
  | 3, _ => cIn_3
  | 4, _ => cIn_4
  | 5, _ => cIn_5
  | 6, _ => cIn_6
  | 7, _ => cIn_7
  | 8, _ => cIn_8
  | 9, _ => cIn_9
  | 10, _ => cIn_10
  | 11, _ => cIn_11
  | 12, _ => cIn_12
  | 13, _ => cIn_13
  | 14, _ => cIn_14
  | 15, _ => cIn_15
  | 16, _ => cIn_16
  | 17, _ => cIn_17
  | 18, _ => cIn_18
  | 19, _ => cIn_19
  | x + 20, h => absurd h (by omega)
theorem codeIn_20 (j : Nat) (hj : j < 20) : Cond.code (nY (20 + j)) (nB (20 + j)) (nL (20 + j)) (nR (20 + j)) ∈ Tall := match j, hj with
  | 0, _ => cIn_20
  | 1, _ => cIn_21
  | 2, _ => cIn_22
  | 3, _ => cIn_23
  | 4, _ => cIn_24
  | 5, _ => cIn_25
  | 6, _ => cIn_26
  | 7, _ => cIn_27
  | 8, _ => cIn_28
  | 9, _ => cIn_29
  | 10, _ => cIn_30
  | 11, _ => cIn_31
  | 12, _ => cIn_32
  | 13, _ => cIn_33
  | 14, _ => cIn_34
  | 15, _ => cIn_35
  | 16, _ => cIn_36
  | 17, _ => cIn_37
  | 18, _ => cIn_38
  | 19, _ => cIn_39
  | x + 20, h => absurd h (by omega)
theorem codeIn_40 (j : Nat) (hj : j < 20) : Cond.code (nY (40 + j)) (nB (40 + j)) (nL (40 + j)) (nR (40 + j)) ∈ Tall := match j, hj with
  | 0, _ => cIn_40
  | 1, _ => cIn_41
  | 2, _ => cIn_42
  | 3, _ => cIn_43
  | 4, _ => cIn_44
  | 5, _ => cIn_45
  | 6, _ => cIn_46
  | 7, _ => cIn_47
  | 8, _ => cIn_48
  | 9, _ => cIn_49
  | 10, _ => cIn_50
  | 11, _ => cIn_51
  | 12, _ => cIn_52
  | 13, _ => cIn_53
  | 14, _ => cIn_54
  | 15, _ => cIn_55
  | 16, _ => cIn_56
  | 17, _ => cIn_57
  | 18, _ => cIn_58
  | 19, _ => cIn_59
  | x + 20, h => absurd h (by omega)
theorem codeIn_60 (j : Nat) (hj : j < 20) : Cond.code (nY (60 + j)) (nB (60 + j)) (nL (60 + j)) (nR (60 + j)) ∈ Tall := match j, hj with
  | 0, _ => cIn_60
  | 1, _ => cIn_61
  | 2, _ => cIn_62
  | 3, _ => cIn_63
  | 4, _ => cIn_64
  | 5, _ => cIn_65
  | 6, _ => cIn_66
  | 7, _ => cIn_67
  | 8, _ => cIn_68
  | 9, _ => cIn_69
  | 10, _ => cIn_70
  | 11, _ => cIn_71
  | 12, _ => cIn_72
  | 13, _ => cIn_73
  | 14, _ => cIn_74
  | 15, _ => cIn_75
  | 16, _ => cIn_76
  | 17, _ => cIn_77
  | 18, _ => cIn_78
  | 19, _ => cIn_79
  | x + 20, h => absurd h (by omega)
theorem codeIn_80 (j : Nat) (hj : j < 20) : Cond.code (nY (80 + j)) (nB (80 + j)) (nL (80 + j)) (nR (80 + j)) ∈ Tall := match j, hj with
  | 0, _ => cIn_80
  | 1, _ => cIn_81
  | 2, _ => cIn_82
  | 3, _ => cIn_83
  | 4, _ => cIn_84
  | 5, _ => cIn_85
  | 6, _ => cIn_86
  | 7, _ => cIn_87
  | 8, _ => cIn_88
  | 9, _ => cIn_89
  | 10, _ => cIn_90
  | 11, _ => cIn_91
  | 12, _ => cIn_92
  | 13, _ => cIn_93
  | 14, _ => cIn_94
  | 15, _ => cIn_95
  | 16, _ => cIn_96
  | 17, _ => cIn_97
  | 18, _ => cIn_98
  | 19, _ => cIn_99
  | x + 20, h => absurd h (by omega)
theorem codeIn_100 (j : Nat) (hj : j < 20) : Cond.code (nY (100 + j)) (nB (100 + j)) (nL (100 + j)) (nR (100 + j)) ∈ Tall := match j, hj with
  | 0, _ => cIn_100
  | 1, _ => cIn_101
  | 2, _ => cIn_102
  | 3, _ => cIn_103
  | 4, _ => cIn_104
  | 5, _ => cIn_105
  | 6, _ => cIn_106
  | 7, _ => cIn_107
  | 8, _ => cIn_108
  | 9, _ => cIn_109
  | 10, _ => cIn_110
  | 11, _ => cIn_111
  | 12, _ => cIn_112
  | 13, _ => cIn_113
  | 14, _ => cIn_114
  | 15, _ => cIn_115
  | 16, _ => cIn_116
  | 17, _ => cIn_117
  | 18, _ => cIn_118
  | 19, _ => cIn_119
  | x + 20, h => absurd h (by omega)
theorem codeIn_120 (j : Nat) (hj : j < 20) : Cond.code (nY (120 + j)) (nB (120 + j)) (nL (120 + j)) (nR (120 + j)) ∈ Tall := match j, hj with
  | 0, _ => cIn_120
  | 1, _ => cIn_121
  | 2, _ => cIn_122
  | 3, _ => cIn_123
  | 4, _ => cIn_124
  | 5, _ => cIn_125
  | 6, _ => cIn_126
  | 7, _ => cIn_127
  | 8, _ => cIn_128
  | 9, _ => cIn_129
  | 10, _ => cIn_130
  | 11, _ => cIn_131
  | 12, _ => cIn_132
  | 13, _ => cIn_133
  | 14, _ => cIn_134
  | 15, _ => cIn_135
  | 16, _ => cIn_136
  | 17, _ => cIn_137
  | 18, _ => cIn_138
  | 19, _ => cIn_139
  | x + 20, h => absurd h (by omega)
theorem codeIn_140 (j : Nat) (hj : j < 20) : Cond.code (nY (140 + j)) (nB (140 + j)) (nL (140 + j)) (nR (140 + j)) ∈ Tall := match j, hj with
  | 0, _ => cIn_140
  | 1, _ => cIn_141
  | 2, _ => cIn_142
  | 3, _ => cIn_143
  | 4, _ => cIn_144
  | 5, _ => cIn_145
  | 6, _ => cIn_146
  | 7, _ => cIn_147
  | 8, _ => cIn_148
  | 9, _ => cIn_149
  | 10, _ => cIn_150
  | 11, _ => cIn_151
  | 12, _ => cIn_152
  | 13, _ => cIn_153
  | 14, _ => cIn_154
  | 15, _ => cIn_155
  | 16, _ => cIn_156
  | 17, _ => cIn_157
  | 18, _ => cIn_158
  | 19, _ => cIn_159
  | x + 20, h => absurd h (by omega)
theorem codeIn_160 (j : Nat) (hj : j < 20) : Cond.code (nY (160 + j)) (nB (160 + j)) (nL (160 + j)) (nR (160 + j)) ∈ Tall := match j, hj with
  | 0, _ => cIn_160
  | 1, _ => cIn_161
  | 2, _ => cIn_162
  | 3, _ => cIn_163
  | 4, _ => cIn_164
  | 5, _ => cIn_165
  | 6, _ => cIn_166
  | 7, _ => cIn_167
  | 8, _ => cIn_168
  | 9, _ => cIn_169
  | 10, _ => cIn_170
  | 11, _ => cIn_171
  | 12, _ => cIn_172
  | 13, _ => cIn_173
  | 14, _ => cIn_174
  | 15, _ => cIn_175
  | 16, _ => cIn_176
  | 17, _ => cIn_177
  | 18, _ => cIn_178
  | 19, _ => cIn_179
  | x + 20, h => absurd h (by omega)
theorem codeIn_180 (j : Nat) (hj : j < 20) : Cond.code (nY (180 + j)) (nB (180 + j)) (nL (180 + j)) (nR (180 + j)) ∈ Tall := match j, hj with
  | 0, _ => cIn_180
  | 1, _ => cIn_181
  | 2, _ => cIn_182
  | 3, _ => cIn_183
  | 4, _ => cIn_184
  | 5, _ => cIn_185
  | 6, _ => cIn_186
  | 7, _ => cIn_187
  | 8, _ => cIn_188
  | 9, _ => cIn_189
  | 10, _ => cIn_190
  | 11, _ => cIn_191
  | 12, _ => cIn_192
  | 13, _ => cIn_193
  | 14, _ => cIn_194
  | 15, _ => cIn_195
  | 16, _ => cIn_196
  | 17, _ => cIn_197
  | 18, _ => cIn_198
  | 19, _ => cIn_199
  | x + 20, h => absurd h (by omega)
theorem codeIn_200 (j : Nat) (hj : j < 18) : Cond.code (nY (200 + j)) (nB (200 + j)) (nL (200 + j)) (nR (200 + j)) ∈ Tall := match j, hj with
  | 0, _ => cIn_200
  | 1, _ => cIn_201
  | 2, _ => cIn_202
  | 3, _ => cIn_203
  | 4, _ => cIn_204
  | 5, _ => cIn_205
  | 6, _ => cIn_206
  | 7, _ => cIn_207
  | 8, _ => cIn_208
  | 9, _ => cIn_209
  | 10, _ => cIn_210
  | 11, _ => cIn_211
  | 12, _ => cIn_212
  | 13, _ => cIn_213
  | 14, _ => cIn_214
  | 15, _ => cIn_215
  | 16, _ => cIn_216
  | 17, _ => cIn_217
  | x + 18, h => absurd h (by omega)
theorem codeIn (k : Nat) (hk : k < mnames) : Cond.code (nY k) (nB k) (nL k) (nR k) ∈ Tall := by
  have hk2 : k < 218 := hk
  by_cases h0 : k < 20
  · obtain ⟨j, hj⟩ : ∃ j, k = 0 + j := ⟨k - 0, by omega⟩
    subst hj
    exact codeIn_0 j (by omega)
  by_cases h20 : k < 40
  · obtain ⟨j, hj⟩ : ∃ j, k = 20 + j := ⟨k - 20, by omega⟩
    subst hj
    exact codeIn_20 j (by omega)
  by_cases h40 : k < 60
  · obtain ⟨j, hj⟩ : ∃ j, k = 40 + j := ⟨k - 40, by omega⟩
    subst hj
    exact codeIn_40 j (by omega)
  by_cases h60 : k < 80
  · obtain ⟨j, hj⟩ : ∃ j, k = 60 + j := ⟨k - 60, by omega⟩
    subst hj
    exact codeIn_60 j (by omega)
  by_cases h80 : k < 100
  · obtain ⟨j, hj⟩ : ∃ j, k = 80 + j := ⟨k - 80, by omega⟩
    subst hj
    exact codeIn_80 j (by omega)
  by_cases h100 : k < 120
  · obtain ⟨j, hj⟩ : ∃ j, k = 100 + j := ⟨k - 100, by omega⟩
    subst hj
    exact codeIn_100 j (by omega)
  by_cases h120 : k < 140
  · obtain ⟨j, hj⟩ : ∃ j, k = 120 + j := ⟨k - 120, by omega⟩
    subst hj
    exact codeIn_120 j (by omega)
  by_cases h140 : k < 160
  · obtain ⟨j, hj⟩ : ∃ j, k = 140 + j := ⟨k - 140, by omega⟩
    subst hj
    exact codeIn_140 j (by omega)
  by_cases h160 : k < 180
  · obtain ⟨j, hj⟩ : ∃ j, k = 160 + j := ⟨k - 160, by omega⟩
    subst hj
    exact codeIn_160 j (by omega)
  by_cases h180 : k < 200
  · obtain ⟨j, hj⟩ : ∃ j, k = 180 + j := ⟨k - 180, by omega⟩
    subst hj
    exact codeIn_180 j (by omega)
  by_cases h200 : k < 218
  · obtain ⟨j, hj⟩ : ∃ j, k = 200 + j := ⟨k - 200, by omega⟩
    subst hj
    exact codeIn_200 j (by omega)
  omega
theorem eAll_0 : (List.range' 0 24).all eAllK = true := by decide +kernel
theorem eAll_24 : (List.range' 24 24).all eAllK = true := by decide +kernel
theorem eAll_48 : (List.range' 48 24).all eAllK = true := by decide +kernel
theorem eAll_72 : (List.range' 72 24).all eAllK = true := by decide +kernel
theorem eAll_96 : (List.range' 96 24).all eAllK = true := by decide +kernel
theorem eAll_120 : (List.range' 120 24).all eAllK = true := by decide +kernel
theorem eAll_144 : (List.range' 144 24).all eAllK = true := by decide +kernel
theorem eAll_168 : (List.range' 168 24).all eAllK = true := by decide +kernel
theorem eAll_192 : (List.range' 192 24).all eAllK = true := by decide +kernel
theorem eAll_216 : (List.range' 216 2).all eAllK = true := by decide +kernel
theorem eAll (k : Nat) (hk : k < mnames) : eAllK k = true := by
  have hk2 : k < 218 := hk
  by_cases h0 : k < 24
  · exact List.all_eq_true.mp eAll_0 k (by rw [List.mem_range'_1]; omega)
  by_cases h24 : k < 48
  · exact List.all_eq_true.mp eAll_24 k (by rw [List.mem_range'_1]; omega)
  by_cases h48 : k < 72
  · exact List.all_eq_true.mp eAll_48 k (by rw [List.mem_range'_1]; omega)
  by_cases h72 : k < 96
  · exact List.all_eq_true.mp eAll_72 k (by rw [List.mem_range'_1]; omega)
  by_cases h96 : k < 120
  · exact List.all_eq_true.mp eAll_96 k (by rw [List.mem_range'_1]; omega)
  by_cases h120 : k < 144
  · exact List.all_eq_true.mp eAll_120 k (by rw [List.mem_range'_1]; omega)
  by_cases h144 : k < 168
  · exact List.all_eq_true.mp eAll_144 k (by rw [List.mem_range'_1]; omega)
  by_cases h168 : k < 192
  · exact List.all_eq_true.mp eAll_168 k (by rw [List.mem_range'_1]; omega)
  by_cases h192 : k < 216
  · exact List.all_eq_true.mp eAll_192 k (by rw [List.mem_range'_1]; omega)
  by_cases h216 : k < 218
  · exact List.all_eq_true.mp eAll_216 k (by rw [List.mem_range'_1]; omega)
  omega
end
section
/-! the abstract machine: cells by number, ints alone as contents -/
abbrev Mm : Type := Nat → Nat → Int32
def mup (D : Mm) (c j : Nat) (x : Int32) : Mm := fun c2 j2 => if c2 = c then (if j2 = j then x else D c2 j2) else D c2 j2
abbrev Shp : Type := Nat × Nat × List (Option Nat)
def shL : List Shp := [(7, 9, [some 1, some 15, none, some 155, some 157, some 160, some 165, some 169, some 170]), (5, 11, [some 2, some 11, some 12, some 13, some 14, none, none, none, none, none, none]), (6, 9, [some 3, some 4, some 5, some 6, some 7, some 8, some 9, some 10, none]), (20, 12, []), (20, 12, []), (20, 12, []), (20, 12, []), (20, 12, []), (20, 12, []), (20, 12, []), (20, 12, []), (21, 6, []), (20, 6, []), (20, 6, []), (20, 6, []), (5, 11, [some 16, some 25, some 26, some 27, some 28, none, none, none, none, none, none]), (6, 9, [some 17, some 18, some 19, some 20, some 21, some 22, some 23, some 24, none]), (20, 12, []), (20, 12, []), (20, 12, []), (20, 12, []), (20, 12, []), (20, 12, []), (20, 12, []), (20, 12, []), (21, 6, []), (20, 6, []), (20, 6, []), (20, 6, []), (5, 11, [some 30, some 39, some 40, some 41, some 42, none, none, none, none, none, none]), (6, 9, [some 31, some 32, some 33, some 34, some 35, some 36, some 37, some 38, none]), (20, 12, []), (20, 12, []), (20, 12, []), (20, 12, []), (20, 12, []), (20, 12, []), (20, 12, []), (20, 12, []), (21, 6, []), (20, 6, []), (20, 6, []), (20, 6, []), (5, 11, [some 44, some 53, some 54, some 55, some 56, none, none, none, none, none, none]), (6, 9, [some 45, some 46, some 47, some 48, some 49, some 50, some 51, some 52, none]), (20, 12, []), (20, 12, []), (20, 12, []), (20, 12, []), (20, 12, []), (20, 12, []), (20, 12, []), (20, 12, []), (21, 6, []), (20, 6, []), (20, 6, []), (20, 6, []), (5, 11, [some 58, some 67, some 68, some 69, some 70, none, none, none, none, none, none]), (6, 9, [some 59, some 60, some 61, some 62, some 63, some 64, some 65, some 66, none]), (20, 12, []), (20, 12, []), (20, 12, []), (20, 12, []), (20, 12, []), (20, 12, []), (20, 12, []), (20, 12, []), (21, 6, []), (20, 6, []), (20, 6, []), (20, 6, []), (5, 11, [some 72, some 81, some 82, some 83, some 84, none, none, none, none, none, none]), (6, 9, [some 73, some 74, some 75, some 76, some 77, some 78, some 79, some 80, none]), (20, 12, []), (20, 12, []), (20, 12, []), (20, 12, []), (20, 12, []), (20, 12, []), (20, 12, []), (20, 12, []), (21, 6, []), (20, 6, []), (20, 6, []), (20, 6, []), (5, 11, [some 86, some 95, some 96, some 97, some 98, none, none, none, none, none, none]), (6, 9, [some 87, some 88, some 89, some 90, some 91, some 92, some 93, some 94, none]), (20, 12, []), (20, 12, []), (20, 12, []), (20, 12, []), (20, 12, []), (20, 12, []), (20, 12, []), (20, 12, []), (21, 6, []), (20, 6, []), (20, 6, []), (20, 6, []), (5, 11, [some 100, some 109, some 110, some 111, some 112, none, none, none, none, none, none]), (6, 9, [some 101, some 102, some 103, some 104, some 105, some 106, some 107, some 108, none]), (20, 12, []), (20, 12, []), (20, 12, []), (20, 12, []), (20, 12, []), (20, 12, []), (20, 12, []), (20, 12, []), (21, 6, []), (20, 6, []), (20, 6, []), (20, 6, []), (5, 11, [some 114, some 123, some 124, some 125, some 126, none, none, none, none, none, none]), (6, 9, [some 115, some 116, some 117, some 118, some 119, some 120, some 121, some 122, none]), (20, 12, []), (20, 12, []), (20, 12, []), (20, 12, []), (20, 12, []), (20, 12, []), (20, 12, []), (20, 12, []), (21, 6, []), (20, 6, []), (20, 6, []), (20, 6, []), (5, 11, [some 128, some 137, some 138, some 139, some 140, none, none, none, none, none, none]), (6, 9, [some 129, some 130, some 131, some 132, some 133, some 134, some 135, some 136, none]), (20, 12, []), (20, 12, []), (20, 12, []), (20, 12, []), (20, 12, []), (20, 12, []), (20, 12, []), (20, 12, []), (21, 6, []), (20, 6, []), (20, 6, []), (20, 6, []), (5, 11, [some 142, some 151, some 152, some 153, some 154, none, none, none, none, none, none]), (6, 9, [some 143, some 144, some 145, some 146, some 147, some 148, some 149, some 150, none]), (20, 12, []), (20, 12, []), (20, 12, []), (20, 12, []), (20, 12, []), (20, 12, []), (20, 12, []), (20, 12, []), (21, 6, []), (20, 6, []), (20, 6, []), (20, 6, []), (1, 3, [some 156, none, none]), (23, 9, [some 29, some 43, some 57, some 71, some 85, some 99, some 113, some 127, some 141]), (3, 3, [some 158, some 159, none]), (20, 3, []), (20, 3, []), (2, 6, [some 161, some 162, some 163, some 164, none, none]), (20, 60, []), (20, 60, []), (20, 60, []), (20, 60, []), (4, 3, [some 166, some 167, some 168]), (20, 6, []), (20, 6, []), (20, 6, []), (0, 4, [some 181, none, none, none]), (0, 4, [some 182, none, none, none]), (8, 25, [none, none, none, none, none, none, none, none, none, some 172, some 173, some 174, some 175, some 176, some 177, some 178, none, some 179, some 180, none, none, none, none, none, none]), (20, 126, []), (20, 126, []), (20, 126, []), (20, 126, []), (20, 1008, []), (20, 6, []), (20, 6, []), (20, 60, []), (20, 140, []), (22, 0, []), (22, 0, [])]
def sh (a : Nat) : Shp := shL.getD a (99, 0, [])
def NC : Nat := 183
def LEN : Nat := 1000000
def cap (D : Mm) (o : Nat) : Nat := (D o LEN).toNatClampNeg
def pot (D : Mm) : Nat := cap D 181 + cap D 182
def nvB : Value → Bool
  | .int _ => true
  | .ref a => !(a == 181) && !(a == 182)
  | .retAddr _ => true
  | _ => false
def c1B : Value → Bool
  | .int _ => true
  | .ref _ => true
  | .retAddr _ => true
  | _ => false
def strB : List (List Int32) := [[115, 98, 111, 119, 112, 100, 109, 104, 101, 116], [49, 58, 50, 47, 49], [50, 42, 50], [50, 62, 49, 61, 50], [49, 33, 50, 42, 50], [50, 43, 50], [49, 62, 49], [49], [50], []]
def dgO : List Int32 := [48, 49, 50, 51, 52, 53, 54, 55, 56, 57, 48, 49, 50, 51, 52, 53, 54, 55, 56, 57, 48, 49, 50, 51, 52, 53, 54, 55, 56, 57, 48, 49, 50, 51, 52, 53, 54, 55, 56, 57, 48, 49, 50, 51, 52, 53, 54, 55, 56, 57, 48, 49, 50, 51, 52, 53, 54, 55, 56, 57, 48, 49, 50, 51, 52, 53, 54, 55, 56, 57, 48, 49, 50, 51, 52, 53, 54, 55, 56, 57, 48, 49, 50, 51, 52, 53, 54, 55, 56, 57, 48, 49, 50, 51, 52, 53, 54, 55, 56, 57]
def dgT : List Int32 := [48, 48, 48, 48, 48, 48, 48, 48, 48, 48, 49, 49, 49, 49, 49, 49, 49, 49, 49, 49, 50, 50, 50, 50, 50, 50, 50, 50, 50, 50, 51, 51, 51, 51, 51, 51, 51, 51, 51, 51, 52, 52, 52, 52, 52, 52, 52, 52, 52, 52, 53, 53, 53, 53, 53, 53, 53, 53, 53, 53, 54, 54, 54, 54, 54, 54, 54, 54, 54, 54, 55, 55, 55, 55, 55, 55, 55, 55, 55, 55, 56, 56, 56, 56, 56, 56, 56, 56, 56, 56, 57, 57, 57, 57, 57, 57, 57, 57, 57, 57]
def roc (a : Nat) : List Int32 := if a = 3000 then dgO else if a = 3001 then dgT else strB.getD (a - 2000) []
def roK (a : Nat) : Prop := (2000 ≤ a ∧ a < 2010) ∨ a = 3000 ∨ a = 3001
def rk (o : Nat) : Nat := if 1000 ≤ o ∧ o < 1010 then 25 else (sh o).1
abbrev Ctr : Type := Nat → List Value → Mm → (Option Value → Mm → Prop) → Prop
abbrev Pst : Type := Nat → List Value → List Value → Mm → Prop
def sI (st : List Value) (f : Int32 → List Value → Prop) : Prop := match st with
  | .int a :: r => f a r
  | _ => False
def sII (st : List Value) (f : Int32 → Int32 → List Value → Prop) : Prop := match st with
  | .int b :: .int a :: r => f a b r
  | _ => False
def sA (st : List Value) (f : Nat → List Value → Prop) : Prop := match st with
  | .ref a :: r => f a r
  | _ => False
def sIA (st : List Value) (f : Nat → Int32 → List Value → Prop) : Prop := match st with
  | .int b :: .ref a :: r => f a b r
  | _ => False
def sIIA (st : List Value) (f : Nat → Int32 → Int32 → List Value → Prop) : Prop := match st with
  | .int x :: .int b :: .ref a :: r => f a b x r
  | _ => False
def lI (ls : List Value) (i : Nat) (f : Int32 → Prop) : Prop := match ls[i]? with
  | some (.int v) => f v
  | _ => False
def lA (ls : List Value) (i : Nat) (f : Nat → Prop) : Prop := match ls[i]? with
  | some (.ref v) => f v
  | _ => False
def icmp (c : ClassFile.Cond) (x y : Int32) : Prop := match c with
  | .eq => x = y
  | .ne => ¬ x = y
  | .lt => x < y
  | .ge => y ≤ x
  | .gt => y < x
  | .le => x ≤ y
def tg (pc : Nat) (off : Int) : Nat := ((pc : Int) + off).toNat
def tsel (pc : Nat) (d lo hi : Int) (os : Array Int) (x : Int32) : Option Nat := if x.toInt < lo ∨ hi < x.toInt then some (tg pc d) else (os[(x.toInt - lo).toNat]?).map (tg pc)
def callA (C : Ctr) (b : Nat) (ls st : List Value) (D : Mm) (K : List Value → Mm → Prop) : Prop :=
  nA b ≤ st.length ∧ ls.all nvB = true ∧ (st.drop (nA b)).all nvB = true ∧ (st.drop (nA b)).length ≤ 8 ∧
  (nS b = 0 → ∃ o, ((st.take (nA b)).reverse)[0]? = some (.ref o) ∧ rk o = nC b ∧ o < 1010) ∧
  C b ((st.take (nA b)).reverse) D (fun r D1 => K (r.toList ++ st.drop (nA b)) D1)
def retK (k : Nat) (v : Int32) : Prop := match nR k with
  | some .int => True
  | some ty => (ty = .boolean ∨ ty = .char ∨ ty = .byte) ∧ narrow ty (.int v) = .int v
  | none => False
def retA (k : Nat) : Prop := match nR k with
  | some (.object _) => True
  | _ => False
def gfA (P : Pst) (b c pc : Nat) (ls : List Value) (D : Mm) (o : Nat) (r : List Value) : Prop :=
  if b = 25 then 1000 ≤ o ∧ o < 1010 ∧ (if c = 0 then P (pc + 3) ls (.ref (o + 1000) :: r) D else c = 1 ∧ P (pc + 3) ls (.int 0 :: r) D)
  else (sh o).1 = b ∧ match (sh o).2.2[c]? with
    | some none => P (pc + 3) ls (.int (D o c) :: r) D
    | some (some q) => P (pc + 3) ls (.ref q :: r) D
    | none => False
def pfA (P : Pst) (b c d pc : Nat) (ls : List Value) (D : Mm) (st : List Value) : Prop := match st with
  | .int v :: .ref o :: r => b < 20 ∧ (sh o).1 = b ∧ (sh o).2.2[c]? = some none ∧ (d = 0 ∨ (d = 1 ∧ (v = 0 ∨ v = 1))) ∧ P (pc + 3) ls r (mup D o c v)
  | _ => False
def balA (P : Pst) (pc : Nat) (ls : List Value) (D : Mm) (o : Nat) (i : Int32) (r : List Value) : Prop :=
  ((sh o).1 = 21 ∧ vp_in i (sh o).2.1 ∧ P (pc + 1) ls (.int (D o i.toNatClampNeg) :: r) D) ∨
  ((sh o).1 = 22 ∧ vp_in i (cap D o) ∧ i.toNatClampNeg < LEN ∧ P (pc + 1) ls (.int (D o i.toNatClampNeg) :: r) D) ∨
  (roK o ∧ vp_in i (roc o).length ∧ P (pc + 1) ls (.int ((roc o).getD i.toNatClampNeg 0) :: r) D)
def basA (P : Pst) (pc : Nat) (ls : List Value) (D : Mm) (o : Nat) (i x : Int32) (r : List Value) : Prop :=
  ((sh o).1 = 21 ∧ vp_in i (sh o).2.1 ∧ P (pc + 1) ls r (mup D o i.toNatClampNeg (vp_nar .boolean x))) ∨
  ((sh o).1 = 22 ∧ vp_in i (cap D o) ∧ i.toNatClampNeg < LEN ∧ P (pc + 1) ls r (mup D o i.toNatClampNeg (vp_nar .byte x)))
def alnA (P : Pst) (pc : Nat) (ls : List Value) (D : Mm) (o : Nat) (r : List Value) : Prop :=
  ((sh o).1 = 22 ∧ P (pc + 1) ls (.int (Int32.ofNat (cap D o)) :: r) D) ∨ ((sh o).1 = 20 ∧ P (pc + 1) ls (.int (Int32.ofNat (sh o).2.1) :: r) D) ∨
  (roK o ∧ P (pc + 1) ls (.int (Int32.ofNat (roc o).length) :: r) D)
def sval (b : Nat) : Option Value := match b with
  | 0 => some (.int 1)
  | 1 => some (.retAddr 1)
  | 2 => some (.ref 3000)
  | 3 => some (.ref 3001)
  | _ => none
def Step (C : Ctr) (k : Nat) (Q : Option Value → Mm → Prop) (P : Pst) (pc : Nat) (ls st : List Value) (D : Mm) : Prop :=
  match ins k pc with
  | none => False
  | some (i, _, b, c, d) => match i with
    | .iconst n => P (pc + 1) ls (.int (Int32.ofInt n) :: st) D
    | .bipush n => P (pc + 2) ls (.int (Int8.ofInt n).toInt32 :: st) D
    | .sipush n => P (pc + 3) ls (.int (Int16.ofInt n).toInt32 :: st) D
    | .iload_n x => lI ls x (fun v => P (pc + 1) ls (.int v :: st) D)
    | .iload x => lI ls x (fun v => P (pc + 2) ls (.int v :: st) D)
    | .aload_n x => lA ls x (fun v => P (pc + 1) ls (.ref v :: st) D)
    | .aload x => lA ls x (fun v => P (pc + 2) ls (.ref v :: st) D)
    | .istore_n x => sI st (fun v r => (x : Nat) < ls.length ∧ P (pc + 1) (ls.set x (.int v)) r D)
    | .istore x => sI st (fun v r => x < ls.length ∧ P (pc + 2) (ls.set x (.int v)) r D)
    | .astore_n x => sA st (fun v r => (x : Nat) < ls.length ∧ P (pc + 1) (ls.set x (.ref v)) r D)
    | .astore x => sA st (fun v r => x < ls.length ∧ P (pc + 2) (ls.set x (.ref v)) r D)
    | .iinc x n => lI ls x (fun v => P (pc + 3) (ls.set x (.int (v + Int32.ofInt n))) st D)
    | .iadd => sII st (fun x y r => P (pc + 1) ls (.int (x + y) :: r) D)
    | .isub => sII st (fun x y r => P (pc + 1) ls (.int (x - y) :: r) D)
    | .imul => sII st (fun x y r => P (pc + 1) ls (.int (x * y) :: r) D)
    | .iand => sII st (fun x y r => P (pc + 1) ls (.int (x &&& y) :: r) D)
    | .ior => sII st (fun x y r => P (pc + 1) ls (.int (x ||| y) :: r) D)
    | .idiv => sII st (fun x y r => (¬ y = 0) ∧ P (pc + 1) ls (.int (x / y) :: r) D)
    | .irem => sII st (fun x y r => (¬ y = 0) ∧ P (pc + 1) ls (.int (x - x / y * y) :: r) D)
    | .ishr => sII st (fun x y r => P (pc + 1) ls (.int (x >>> (y &&& 31)) :: r) D)
    | .ineg => sI st (fun x r => P (pc + 1) ls (.int (-x) :: r) D)
    | .i2b => sI st (fun x r => P (pc + 1) ls (.int x.toInt8.toInt32 :: r) D)
    | .i2c => sI st (fun x r => P (pc + 1) ls (.int (x.toUInt32 % 65536).toInt32 :: r) D)
    | .dup => match st with
      | v :: r => c1B v = true ∧ P (pc + 1) ls (v :: v :: r) D
      | _ => False
    | .dup_x1 => match st with
      | v :: w :: r => c1B v = true ∧ c1B w = true ∧ P (pc + 1) ls (v :: w :: v :: r) D
      | _ => False
    | .dup2 => match st with
      | v :: w :: r => c1B v = true ∧ c1B w = true ∧ P (pc + 1) ls (v :: w :: v :: w :: r) D
      | _ => False
    | .pop => match st with
      | v :: r => c1B v = true ∧ P (pc + 1) ls r D
      | _ => False
    | .ifCond cd off => sI st (fun x r => (icmp cd x 0 → P (tg pc off) ls r D) ∧ (¬ icmp cd x 0 → P (pc + 3) ls r D))
    | .if_icmp cd off => sII st (fun x y r => (icmp cd x y → P (tg pc off) ls r D) ∧ (¬ icmp cd x y → P (pc + 3) ls r D))
    | .goto off => P (tg pc off) ls st D
    | .tableswitch dd lo hi os => sI st (fun x r => ∃ t, tsel pc dd lo hi os x = some t ∧ P t ls r D)
    | .getfield _ => sA st (fun o r => gfA P b c pc ls D o r)
    | .putfield _ => pfA P b c d pc ls D st
    | .iaload => sIA st (fun o i r => (sh o).1 = 20 ∧ vp_in i (sh o).2.1 ∧ P (pc + 1) ls (.int (D o i.toNatClampNeg) :: r) D)
    | .baload => sIA st (fun o i r => balA P pc ls D o i r)
    | .iastore => sIIA st (fun o i x r => (sh o).1 = 20 ∧ vp_in i (sh o).2.1 ∧ P (pc + 1) ls r (mup D o i.toNatClampNeg x))
    | .bastore => sIIA st (fun o i x r => basA P pc ls D o i x r)
    | .arraylength => sA st (fun o r => alnA P pc ls D o r)
    | .aaload => sIA st (fun o i r => (sh o).1 = 23 ∧ vp_in i (sh o).2.1 ∧ ∃ q, (sh o).2.2[i.toNatClampNeg]? = some (some q) ∧ P (pc + 1) ls (.ref q :: r) D)
    | .invokevirtual _ => b < mnames ∧ (c = 0 ∨ c = 2) ∧ callA C b ls st D (fun st2 D1 => P (pc + 3) ls st2 D1)
    | .invokestatic _ => b < mnames ∧ c = 1 ∧ callA C b ls st D (fun st2 D1 => P (pc + 3) ls st2 D1)
    | .invokespecial _ => b < mnames ∧ c = 3 ∧ callA C b ls st D (fun st2 D1 => P (pc + 3) ls st2 D1)
    | .getstatic _ => ∃ v, sval b = some v ∧ P (pc + 3) ls (v :: st) D
    | .ldc _ => b = 1 ∧ c < 10 ∧ P (pc + 2) ls (.ref (1000 + c) :: st) D
    | .ireturn => match st with
      | [.int v] => retK k v ∧ Q (some (.int v)) D
      | _ => False
    | .areturn => match st with
      | [.ref o] => nvB (.ref o) = true ∧ retA k ∧ Q (some (.ref o)) D
      | _ => False
    | .return_ => nR k = none ∧ st = [] ∧ Q none D
    | _ => False
end
section
/-! weakest preconditions over the abstract machine -/
theorem sI_spec {st : List Value} {f : Int32 → List Value → Prop} (h : sI st f) : ∃ a r, st = .int a :: r ∧ f a r := by
  unfold sI at h
  split at h
  · exact ⟨_, _, rfl, h⟩
  · exact h.elim
theorem sII_spec {st : List Value} {f : Int32 → Int32 → List Value → Prop} (h : sII st f) : ∃ a b r, st = .int b :: .int a :: r ∧ f a b r := by
  unfold sII at h
  split at h
  · exact ⟨_, _, _, rfl, h⟩
  · exact h.elim
theorem sA_spec {st : List Value} {f : Nat → List Value → Prop} (h : sA st f) : ∃ (a : Nat) (r : List Value), st = .ref a :: r ∧ f a r := by
  unfold sA at h
  split at h
  · exact ⟨_, _, rfl, h⟩
  · exact h.elim
theorem sIA_spec {st : List Value} {f : Nat → Int32 → List Value → Prop} (h : sIA st f) : ∃ (a : Nat) (b : Int32) (r : List Value), st = .int b :: .ref a :: r ∧ f a b r := by
  unfold sIA at h
  split at h
  · exact ⟨_, _, _, rfl, h⟩
  · exact h.elim
theorem sIIA_spec {st : List Value} {f : Nat → Int32 → Int32 → List Value → Prop} (h : sIIA st f) : ∃ (a : Nat) (b x : Int32) (r : List Value), st = .int x :: .int b :: .ref a :: r ∧ f a b x r := by
  unfold sIIA at h
  split at h
  · exact ⟨_, _, _, _, rfl, h⟩
  · exact h.elim
theorem lI_spec {ls : List Value} {i : Nat} {f : Int32 → Prop} (h : lI ls i f) : ∃ v, ls[i]? = some (.int v) ∧ f v := by
  unfold lI at h
  split at h
  · exact ⟨_, by assumption, h⟩
  · exact h.elim
theorem lA_spec {ls : List Value} {i : Nat} {f : Nat → Prop} (h : lA ls i f) : ∃ v : Nat, ls[i]? = some (.ref v) ∧ f v := by
  unfold lA at h
  split at h
  · exact ⟨_, by assumption, h⟩
  · exact h.elim
theorem lI_of {ls : List Value} {i : Nat} {f : Int32 → Prop} {v : Int32} (h : ls[i]? = some (.int v)) (hf : f v) : lI ls i f := by
  unfold lI; rw [h]; exact hf
theorem lA_of {ls : List Value} {i : Nat} {f : Nat → Prop} {v : Nat} (h : ls[i]? = some (.ref v)) (hf : f v) : lA ls i f := by
  unfold lA; rw [h]; exact hf
theorem cap_mup {D : Mm} {o c q : Nat} {v : Int32} (h : o ≠ q ∨ c ≠ LEN) : cap (mup D o c v) q = cap D q := by
  unfold cap mup
  rcases h with h | h
  · rw [if_neg (fun e => h e.symm)]
  · by_cases e : q = o
    · rw [if_pos e, if_neg (fun e => h e.symm)]
    · rw [if_neg e]
theorem pot_mup {D : Mm} {o c : Nat} {v : Int32} (h : (sh o).1 ≠ 22 ∨ c ≠ LEN) : pot (mup D o c v) = pot D := by
  unfold pot
  rw [cap_mup, cap_mup]
  · rcases h with h | h
    · exact Or.inl (fun e => h (by rw [e]; rfl))
    · exact Or.inr h
  · rcases h with h | h
    · exact Or.inl (fun e => h (by rw [e]; rfl))
    · exact Or.inr h
/-- what a step is: one state behind it, an end, or a call -/
def Nx (C : Ctr) (k : Nat) (Q : Option Value → Mm → Prop) (P : Pst) (pc : Nat) (ls st : List Value) (D : Mm) : Prop :=
  (∃ pc2 ls2 st2 D2, pot D ≤ pot D2 ∧ P pc2 ls2 st2 D2 ∧ ∀ (Q2 : Option Value → Mm → Prop) (P2 : Pst), P2 pc2 ls2 st2 D2 → Step C k Q2 P2 pc ls st D) ∨
  (∃ r, Q r D ∧ ∀ (Q2 : Option Value → Mm → Prop) (P2 : Pst), Q2 r D → Step C k Q2 P2 pc ls st D) ∨
  (∃ b args pc2 r2, C b args D (fun r D1 => P pc2 ls (r.toList ++ r2) D1) ∧ ∀ (Q2 : Option Value → Mm → Prop) (P2 : Pst), C b args D (fun r D1 => P2 pc2 ls (r.toList ++ r2) D1) → Step C k Q2 P2 pc ls st D)
set_option maxHeartbeats 4000000 in
theorem Step_nx {C : Ctr} {k : Nat} {Q : Option Value → Mm → Prop} {P : Pst} {pc : Nat} {ls st : List Value} {D : Mm} (h : Step C k Q P pc ls st D) : Nx C k Q P pc ls st D := by
  have key : ∀ {pc2 ls2 st2 D2}, pot D ≤ pot D2 → P pc2 ls2 st2 D2 → (∀ (Q2 : Option Value → Mm → Prop) (P2 : Pst), P2 pc2 ls2 st2 D2 → Step C k Q2 P2 pc ls st D) → Nx C k Q P pc ls st D := fun a b c => Or.inl ⟨_, _, _, _, a, b, c⟩
  cases hi : ins k pc with
  | none => unfold Step at h; rw [hi] at h; exact h.elim
  | some e =>
    obtain ⟨i, a, b, c, d⟩ := e
    have hS : ∀ (Q2 : Option Value → Mm → Prop) (P2 : Pst) (X : Prop), (X → (match (some (i, a, b, c, d) : Option (Instr × Nat × Nat × Nat × Nat)) with | none => False | some (i, _, b, c, d) => Step C k Q2 P2 pc ls st D)) → X → Step C k Q2 P2 pc ls st D := fun _ _ _ f x => f x
    clear hS
    unfold Step at h
    rw [hi] at h
    cases i
    case iconst => exact key (Nat.le_refl _) h (fun Q2 P2 h2 => by unfold Step; rw [hi]; exact h2)
    case bipush => exact key (Nat.le_refl _) h (fun Q2 P2 h2 => by unfold Step; rw [hi]; exact h2)
    case sipush => exact key (Nat.le_refl _) h (fun Q2 P2 h2 => by unfold Step; rw [hi]; exact h2)
    case goto => exact key (Nat.le_refl _) h (fun Q2 P2 h2 => by unfold Step; rw [hi]; exact h2)
    case iload_n => obtain ⟨v, e1, h⟩ := lI_spec h; exact key (Nat.le_refl _) h (fun Q2 P2 h2 => by unfold Step; rw [hi]; exact lI_of e1 h2)
    case iload => obtain ⟨v, e1, h⟩ := lI_spec h; exact key (Nat.le_refl _) h (fun Q2 P2 h2 => by unfold Step; rw [hi]; exact lI_of e1 h2)
    case aload_n => obtain ⟨v, e1, h⟩ := lA_spec h; exact key (Nat.le_refl _) h (fun Q2 P2 h2 => by unfold Step; rw [hi]; exact lA_of e1 h2)
    case aload => obtain ⟨v, e1, h⟩ := lA_spec h; exact key (Nat.le_refl _) h (fun Q2 P2 h2 => by unfold Step; rw [hi]; exact lA_of e1 h2)
    case iinc => obtain ⟨v, e1, h⟩ := lI_spec h; exact key (Nat.le_refl _) h (fun Q2 P2 h2 => by unfold Step; rw [hi]; exact lI_of e1 h2)
    case istore_n => obtain ⟨v, r, rfl, h0, h⟩ := sI_spec h; exact key (Nat.le_refl _) h (fun Q2 P2 h2 => by unfold Step; rw [hi]; exact ⟨h0, h2⟩)
    case istore => obtain ⟨v, r, rfl, h0, h⟩ := sI_spec h; exact key (Nat.le_refl _) h (fun Q2 P2 h2 => by unfold Step; rw [hi]; exact ⟨h0, h2⟩)
    case astore_n => obtain ⟨v, r, rfl, h0, h⟩ := sA_spec h; exact key (Nat.le_refl _) h (fun Q2 P2 h2 => by unfold Step; rw [hi]; exact ⟨h0, h2⟩)
    case astore => obtain ⟨v, r, rfl, h0, h⟩ := sA_spec h; exact key (Nat.le_refl _) h (fun Q2 P2 h2 => by unfold Step; rw [hi]; exact ⟨h0, h2⟩)
    case iadd => obtain ⟨x, y, r, rfl, h⟩ := sII_spec h; exact key (Nat.le_refl _) h (fun Q2 P2 h2 => by unfold Step; rw [hi]; exact h2)
    case isub => obtain ⟨x, y, r, rfl, h⟩ := sII_spec h; exact key (Nat.le_refl _) h (fun Q2 P2 h2 => by unfold Step; rw [hi]; exact h2)
    case imul => obtain ⟨x, y, r, rfl, h⟩ := sII_spec h; exact key (Nat.le_refl _) h (fun Q2 P2 h2 => by unfold Step; rw [hi]; exact h2)
    case iand => obtain ⟨x, y, r, rfl, h⟩ := sII_spec h; exact key (Nat.le_refl _) h (fun Q2 P2 h2 => by unfold Step; rw [hi]; exact h2)
    case ior => obtain ⟨x, y, r, rfl, h⟩ := sII_spec h; exact key (Nat.le_refl _) h (fun Q2 P2 h2 => by unfold Step; rw [hi]; exact h2)
    case ishr => obtain ⟨x, y, r, rfl, h⟩ := sII_spec h; exact key (Nat.le_refl _) h (fun Q2 P2 h2 => by unfold Step; rw [hi]; exact h2)
    case idiv => obtain ⟨x, y, r, rfl, h0, h⟩ := sII_spec h; exact key (Nat.le_refl _) h (fun Q2 P2 h2 => by unfold Step; rw [hi]; exact ⟨h0, h2⟩)
    case irem => obtain ⟨x, y, r, rfl, h0, h⟩ := sII_spec h; exact key (Nat.le_refl _) h (fun Q2 P2 h2 => by unfold Step; rw [hi]; exact ⟨h0, h2⟩)
    case ineg => obtain ⟨x, r, rfl, h⟩ := sI_spec h; exact key (Nat.le_refl _) h (fun Q2 P2 h2 => by unfold Step; rw [hi]; exact h2)
    case i2b => obtain ⟨x, r, rfl, h⟩ := sI_spec h; exact key (Nat.le_refl _) h (fun Q2 P2 h2 => by unfold Step; rw [hi]; exact h2)
    case i2c => obtain ⟨x, r, rfl, h⟩ := sI_spec h; exact key (Nat.le_refl _) h (fun Q2 P2 h2 => by unfold Step; rw [hi]; exact h2)
    case dup =>
      match st, h with
      | v :: r, ⟨h0, h⟩ => exact key (Nat.le_refl _) h (fun Q2 P2 h2 => by unfold Step; rw [hi]; exact ⟨h0, h2⟩)
    case dup_x1 =>
      match st, h with
      | v :: w :: r, ⟨h0, h1, h⟩ => exact key (Nat.le_refl _) h (fun Q2 P2 h2 => by unfold Step; rw [hi]; exact ⟨h0, h1, h2⟩)
    case dup2 =>
      match st, h with
      | v :: w :: r, ⟨h0, h1, h⟩ => exact key (Nat.le_refl _) h (fun Q2 P2 h2 => by unfold Step; rw [hi]; exact ⟨h0, h1, h2⟩)
    case pop =>
      match st, h with
      | v :: r, ⟨h0, h⟩ => exact key (Nat.le_refl _) h (fun Q2 P2 h2 => by unfold Step; rw [hi]; exact ⟨h0, h2⟩)
    case ifCond cd off =>
      obtain ⟨x, r, rfl, ht, hf⟩ := sI_spec h
      by_cases hc : icmp cd x 0
      · exact key (Nat.le_refl _) (ht hc) (fun Q2 P2 h2 => by unfold Step; rw [hi]; exact ⟨fun _ => h2, fun n => absurd hc n⟩)
      · exact key (Nat.le_refl _) (hf hc) (fun Q2 P2 h2 => by unfold Step; rw [hi]; exact ⟨fun n => absurd n hc, fun _ => h2⟩)
    case if_icmp cd off =>
      obtain ⟨x, y, r, rfl, ht, hf⟩ := sII_spec h
      by_cases hc : icmp cd x y
      · exact key (Nat.le_refl _) (ht hc) (fun Q2 P2 h2 => by unfold Step; rw [hi]; exact ⟨fun _ => h2, fun n => absurd hc n⟩)
      · exact key (Nat.le_refl _) (hf hc) (fun Q2 P2 h2 => by unfold Step; rw [hi]; exact ⟨fun n => absurd n hc, fun _ => h2⟩)
    case tableswitch dd lo hi2 os =>
      obtain ⟨x, r, rfl, t, ht, h⟩ := sI_spec h
      exact key (Nat.le_refl _) h (fun Q2 P2 h2 => by unfold Step; rw [hi]; exact ⟨t, ht, h2⟩)
    case getfield =>
      obtain ⟨o, r, rfl, h⟩ := sA_spec h
      have h : gfA P b c pc ls D o r := h
      unfold gfA at h
      by_cases hb : b = 25
      · rw [if_pos hb] at h
        obtain ⟨h0, h1, h⟩ := h
        by_cases hc : c = 0
        · rw [if_pos hc] at h
          exact key (Nat.le_refl _) h (fun Q2 P2 h2 => by unfold Step; rw [hi]; show gfA _ _ _ _ _ _ _ _; unfold gfA; rw [if_pos hb, if_pos hc]; exact ⟨h0, h1, h2⟩)
        · rw [if_neg hc] at h
          exact key (Nat.le_refl _) h.2 (fun Q2 P2 h2 => by unfold Step; rw [hi]; show gfA _ _ _ _ _ _ _ _; unfold gfA; rw [if_pos hb, if_neg hc]; exact ⟨h0, h1, h.1, h2⟩)
      · rw [if_neg hb] at h
        obtain ⟨h0, h⟩ := h
        cases hr : (sh o).2.2[c]? with
        | none => rw [hr] at h; exact h.elim
        | some q =>
          rw [hr] at h
          cases q with
          | none => exact key (Nat.le_refl _) h (fun Q2 P2 h2 => by unfold Step; rw [hi]; show gfA _ _ _ _ _ _ _ _; unfold gfA; rw [if_neg hb, hr]; exact ⟨h0, h2⟩)
          | some q => exact key (Nat.le_refl _) h (fun Q2 P2 h2 => by unfold Step; rw [hi]; show gfA _ _ _ _ _ _ _ _; unfold gfA; rw [if_neg hb, hr]; exact ⟨h0, h2⟩)
    case putfield =>
      have h : pfA P b c d pc ls D st := h
      unfold pfA at h
      split at h
      next v o r =>
        obtain ⟨h00, h0, h1, h2, h⟩ := h
        refine key (Nat.le_of_eq (pot_mup (Or.inl ?_)).symm) h (fun Q2 P2 h3 => by unfold Step; rw [hi]; exact ⟨h00, h0, h1, h2, h3⟩)
        omega
      next => exact h.elim
    case iaload => obtain ⟨o, j, r, rfl, h0, h1, h⟩ := sIA_spec h; exact key (Nat.le_refl _) h (fun Q2 P2 h2 => by unfold Step; rw [hi]; exact ⟨h0, h1, h2⟩)
    case aaload => obtain ⟨o, j, r, rfl, h0, h1, q, hq, h⟩ := sIA_spec h; exact key (Nat.le_refl _) h (fun Q2 P2 h2 => by unfold Step; rw [hi]; exact ⟨h0, h1, q, hq, h2⟩)
    case iastore => obtain ⟨o, j, x, r, rfl, h0, h1, h⟩ := sIIA_spec h; exact key (Nat.le_of_eq (pot_mup (Or.inl (by rw [h0]; decide))).symm) h (fun Q2 P2 h2 => by unfold Step; rw [hi]; exact ⟨h0, h1, h2⟩)
    case baload =>
      obtain ⟨o, j, r, rfl, h⟩ := sIA_spec h
      rcases h with ⟨h0, h1, h⟩ | ⟨h0, h1, h1b, h⟩ | ⟨h0, h1, h⟩
      · exact key (Nat.le_refl _) h (fun Q2 P2 h2 => by unfold Step; rw [hi]; exact Or.inl ⟨h0, h1, h2⟩)
      · exact key (Nat.le_refl _) h (fun Q2 P2 h2 => by unfold Step; rw [hi]; exact Or.inr (Or.inl ⟨h0, h1, h1b, h2⟩))
      · exact key (Nat.le_refl _) h (fun Q2 P2 h2 => by unfold Step; rw [hi]; exact Or.inr (Or.inr ⟨h0, h1, h2⟩))
    case bastore =>
      obtain ⟨o, j, x, r, rfl, h⟩ := sIIA_spec h
      rcases h with ⟨h0, h1, h⟩ | ⟨h0, h1, h1b, h⟩
      · exact key (Nat.le_of_eq (pot_mup (Or.inl (by rw [h0]; decide))).symm) h (fun Q2 P2 h2 => by unfold Step; rw [hi]; exact Or.inl ⟨h0, h1, h2⟩)
      · exact key (Nat.le_of_eq (pot_mup (Or.inr (by omega))).symm) h (fun Q2 P2 h2 => by unfold Step; rw [hi]; exact Or.inr ⟨h0, h1, h1b, h2⟩)
    case arraylength =>
      obtain ⟨o, r, rfl, h⟩ := sA_spec h
      rcases h with ⟨h0, h⟩ | ⟨h0, h⟩ | ⟨h0, h⟩
      · exact key (Nat.le_refl _) h (fun Q2 P2 h2 => by unfold Step; rw [hi]; exact Or.inl ⟨h0, h2⟩)
      · exact key (Nat.le_refl _) h (fun Q2 P2 h2 => by unfold Step; rw [hi]; exact Or.inr (Or.inl ⟨h0, h2⟩))
      · exact key (Nat.le_refl _) h (fun Q2 P2 h2 => by unfold Step; rw [hi]; exact Or.inr (Or.inr ⟨h0, h2⟩))
    case invokevirtual =>
      obtain ⟨z1, z2, g1, g2, g3, g4, g5, h⟩ := h
      exact Or.inr (Or.inr ⟨_, _, _, _, h, fun Q2 P2 h2 => by unfold Step; rw [hi]; exact ⟨z1, z2, g1, g2, g3, g4, g5, h2⟩⟩)
    case invokestatic =>
      obtain ⟨z1, z2, g1, g2, g3, g4, g5, h⟩ := h
      exact Or.inr (Or.inr ⟨_, _, _, _, h, fun Q2 P2 h2 => by unfold Step; rw [hi]; exact ⟨z1, z2, g1, g2, g3, g4, g5, h2⟩⟩)
    case invokespecial =>
      obtain ⟨z1, z2, g1, g2, g3, g4, g5, h⟩ := h
      exact Or.inr (Or.inr ⟨_, _, _, _, h, fun Q2 P2 h2 => by unfold Step; rw [hi]; exact ⟨z1, z2, g1, g2, g3, g4, g5, h2⟩⟩)
    case getstatic => obtain ⟨v, hv, h⟩ := h; exact key (Nat.le_refl _) h (fun Q2 P2 h2 => by unfold Step; rw [hi]; exact ⟨v, hv, h2⟩)
    case ldc => obtain ⟨h0, h1, h⟩ := h; exact key (Nat.le_refl _) h (fun Q2 P2 h2 => by unfold Step; rw [hi]; exact ⟨h0, h1, h2⟩)
    case ireturn =>
      match st, h with
      | [.int v], ⟨h0, h⟩ => exact Or.inr (Or.inl ⟨_, h, fun Q2 P2 h2 => by unfold Step; rw [hi]; exact ⟨h0, h2⟩⟩)
    case areturn =>
      match st, h with
      | [.ref v], ⟨h0, h1, h⟩ => exact Or.inr (Or.inl ⟨_, h, fun Q2 P2 h2 => by unfold Step; rw [hi]; exact ⟨h0, h1, h2⟩⟩)
    case return_ =>
      obtain ⟨h1, h0, h⟩ := h
      exact Or.inr (Or.inl ⟨_, h, fun Q2 P2 h2 => by unfold Step; rw [hi]; exact ⟨h1, h0, h2⟩⟩)
    all_goals exact h.elim
def Cmono (C : Ctr) : Prop := ∀ b args D Q Q2, (∀ r D1, Q r D1 → Q2 r D1) → C b args D Q → C b args D Q2
theorem Step_mono {C : Ctr} (hC : Cmono C) {k : Nat} {Q Q2 : Option Value → Mm → Prop} {P P2 : Pst} (hQ : ∀ r D, Q r D → Q2 r D) (hP : ∀ pc ls st D, P pc ls st D → P2 pc ls st D) {pc : Nat} {ls st : List Value} {D : Mm} (h : Step C k Q P pc ls st D) : Step C k Q2 P2 pc ls st D := by
  rcases Step_nx h with ⟨_, _, _, _, _, a, b⟩ | ⟨_, a, b⟩ | ⟨_, _, _, _, a, b⟩
  · exact b _ _ (hP _ _ _ _ a)
  · exact b _ _ (hQ _ _ a)
  · exact b _ _ (hC _ _ _ _ _ (fun _ _ => hP _ _ _ _) a)
def WP (C : Ctr) (k : Nat) (Q : Option Value → Mm → Prop) : Pst := fun pc ls st D => ∀ P : Pst, (∀ pc ls st D, Step C k Q P pc ls st D → P pc ls st D) → P pc ls st D
theorem WP.step {C : Ctr} (hC : Cmono C) {k : Nat} {Q : Option Value → Mm → Prop} {pc : Nat} {ls st : List Value} {D : Mm} (h : Step C k Q (WP C k Q) pc ls st D) : WP C k Q pc ls st D := fun P hP => hP _ _ _ _ (Step_mono hC (fun _ _ q => q) (fun _ _ _ _ w => w P hP) h)
theorem WP.mono {C : Ctr} (hC : Cmono C) {k : Nat} {Q Q2 : Option Value → Mm → Prop} (hQ : ∀ r D, Q r D → Q2 r D) {pc : Nat} {ls st : List Value} {D : Mm} (h : WP C k Q pc ls st D) : WP C k Q2 pc ls st D := h (WP C k Q2) (fun _ _ _ _ s => WP.step hC (Step_mono hC hQ (fun _ _ _ _ w => w) s))
def ensK : Nat := 217
def growD (D : Mm) (q n : Nat) : Mm := if n ≤ cap D q then D else fun c j => if c = q then (if j = LEN then Int32.ofNat (sb_cap n (cap D q)) else if j < cap D q then D q j else 0) else D c j
def ensS (args : List Value) (D : Mm) (Q : Option Value → Mm → Prop) : Prop := match args with
  | [.ref o, .int n] => (o = 169 ∨ o = 170) ∧ D o 1 = 0 ∧ cap D (o + 12) ≤ 10000 ∧ 0 ≤ n.toInt ∧ n.toInt ≤ 10000 ∧ (∀ j, j < cap D (o + 12) → fits .byte (.int (D (o + 12) j)) = true) ∧ Q none (growD D (o + 12) n.toInt.toNat)
  | _ => False
def Ct : Nat → Ctr
  | 0 => fun _ _ _ _ => False
  | d + 1 => fun k args D Q => if k = ensK then 4 ≤ d ∧ ensS args D Q else k < mnames ∧ args.length = nA k ∧ args.all c1B = true ∧ WP (Ct d) k Q 0 (args ++ List.replicate (nL k - nA k) (.retAddr 0)) [] D
theorem ensS_mono {args : List Value} {D : Mm} {Q Q2 : Option Value → Mm → Prop} (hQ : ∀ r D, Q r D → Q2 r D) (h : ensS args D Q) : ensS args D Q2 := by
  unfold ensS at h ⊢
  split at h
  · obtain ⟨h1, h2, h3, h4, h5, h6, h7⟩ := h
    exact ⟨h1, h2, h3, h4, h5, h6, hQ _ _ h7⟩
  · exact h
theorem Ct_mono : ∀ d, Cmono (Ct d)
  | 0 => fun _ _ _ _ _ _ h => h
  | d + 1 => by
    intro k args D Q Q2 hQ h
    unfold Ct at h ⊢
    by_cases hk : k = ensK
    · rw [if_pos hk] at h ⊢
      exact ⟨h.1, ensS_mono hQ h.2⟩
    · rw [if_neg hk] at h ⊢
      exact ⟨h.1, h.2.1, h.2.2.1, WP.mono (Ct_mono d) hQ h.2.2.2⟩
theorem cap_grow {D : Mm} {q n o : Nat} (hD : cap D q ≤ 10000) (hn : n ≤ 10000) : cap D o ≤ cap (growD D q n) o := by
  unfold growD
  by_cases h : n ≤ cap D q
  · rw [if_pos h]; exact Nat.le_refl _
  · rw [if_neg h]
    by_cases e : o = q
    · subst e
      have hg : sb_cap n (cap D o) ≤ 30000 := by unfold sb_cap; rw [if_neg h]; split <;> omega
      have h2 := sb_cap_gem n (cap D o)
      show _ ≤ ((if o = o then (if LEN = LEN then Int32.ofNat (sb_cap n (cap D o)) else _) else _) : Int32).toNatClampNeg
      rw [if_pos rfl, if_pos rfl, show (Int32.ofNat (sb_cap n (cap D o))).toNatClampNeg = sb_cap n (cap D o) from nI_clamp (by omega)]
      exact h2
    · show _ ≤ ((if o = q then (if LEN = LEN then Int32.ofNat (sb_cap n (cap D q)) else _) else D o LEN) : Int32).toNatClampNeg
      rw [if_neg e]
      exact Nat.le_refl _
theorem pot_grow {D : Mm} {q n : Nat} (hD : cap D q ≤ 10000) (hn : n ≤ 10000) : pot D ≤ pot (growD D q n) := Nat.add_le_add (cap_grow hD hn) (cap_grow hD hn)
def Cexact (C : Ctr) : Prop := ∀ b args D Q, C b args D Q → ∃ r D1, Q r D1 ∧ pot D ≤ pot D1 ∧ C b args D (fun r2 D2 => r2 = r ∧ D2 = D1)
theorem WP.exact {C : Ctr} (hC : Cmono C) (hX : Cexact C) {k : Nat} {Q : Option Value → Mm → Prop} {pc : Nat} {ls st : List Value} {D : Mm} (h : WP C k Q pc ls st D) : ∃ r D1, Q r D1 ∧ pot D ≤ pot D1 ∧ WP C k (fun r2 D2 => r2 = r ∧ D2 = D1) pc ls st D := by
  refine h (fun pc ls st D => ∃ r D1, Q r D1 ∧ pot D ≤ pot D1 ∧ WP C k (fun r2 D2 => r2 = r ∧ D2 = D1) pc ls st D) ?_
  intro pc ls st D s
  rcases Step_nx s with ⟨_, _, _, _, p, ⟨r, D1, q1, q2, q3⟩, b⟩ | ⟨r, a, b⟩ | ⟨b0, args, pc2, r2, a, b⟩
  · exact ⟨r, D1, q1, Nat.le_trans p q2, WP.step hC (b _ _ q3)⟩
  · exact ⟨r, D, a, Nat.le_refl _, WP.step hC (b _ _ ⟨rfl, rfl⟩)⟩
  · obtain ⟨r, D1, ⟨r3, D3, q1, q2, q3⟩, p, e⟩ := hX _ _ _ _ a
    refine ⟨r3, D3, q1, Nat.le_trans p q2, WP.step hC (b _ _ (hC _ _ _ _ _ ?_ e))⟩
    rintro r4 D4 ⟨rfl, rfl⟩
    exact q3
theorem Ct_exact : ∀ d, Cexact (Ct d)
  | 0 => fun _ _ _ _ h => h.elim
  | d + 1 => by
    intro k args D Q h
    unfold Ct at h
    by_cases hk : k = ensK
    · rw [if_pos hk] at h
      obtain ⟨h0, h⟩ := h
      unfold ensS at h
      split at h
      · next o n =>
        obtain ⟨h1, h2, h3, h4, h5, h6, h7⟩ := h
        refine ⟨none, _, h7, pot_grow h3 (by omega), ?_⟩
        unfold Ct
        rw [if_pos hk]
        exact ⟨h0, h1, h2, h3, h4, h5, h6, rfl, rfl⟩
      · exact h.elim
    · rw [if_neg hk] at h
      obtain ⟨h1, h2, h3, h4⟩ := h
      obtain ⟨r, D1, q1, q2, q3⟩ := WP.exact (Ct_mono d) (Ct_exact d) h4
      refine ⟨r, D1, q1, q2, ?_⟩
      unfold Ct
      rw [if_neg hk]
      exact ⟨h1, h2, h3, q3⟩
end
section
/-! the classes of the cells -/
theorem lays_J4 : (List.range 4).all (fun j => atT (([7002, 7004, 7006, 7008] : List Nat).getD j 0) (u_lay RJ4 TJ4 j)) = true := by decide +kernel
theorem uin_J4 : ∀ w ∈ u_ws RJ4 TJ4 4, w ∈ Tall := by
  intro w hw
  obtain ⟨j, hj, rfl⟩ := List.mem_map.mp hw
  exact atT_in (List.all_eq_true.mp lays_J4 j hj)
theorem lays_X0 : (List.range 3).all (fun j => atT (([6146, 6148, 6150] : List Nat).getD j 0) (u_lay RX0 TX0 j)) = true := by decide +kernel
theorem uin_X0 : ∀ w ∈ u_ws RX0 TX0 3, w ∈ Tall := by
  intro w hw
  obtain ⟨j, hj, rfl⟩ := List.mem_map.mp hw
  exact atT_in (List.all_eq_true.mp lays_X0 j hj)
theorem lays_X1 : (List.range 6).all (fun j => atT (([6189, 6191, 6193, 6195, 6197, 6199] : List Nat).getD j 0) (u_lay RX1 TX1 j)) = true := by decide +kernel
theorem uin_X1 : ∀ w ∈ u_ws RX1 TX1 6, w ∈ Tall := by
  intro w hw
  obtain ⟨j, hj, rfl⟩ := List.mem_map.mp hw
  exact atT_in (List.all_eq_true.mp lays_X1 j hj)
theorem lays_X2 : (List.range 3).all (fun j => atT (([6165, 6167, 6169] : List Nat).getD j 0) (u_lay RX2 TX2 j)) = true := by decide +kernel
theorem uin_X2 : ∀ w ∈ u_ws RX2 TX2 3, w ∈ Tall := by
  intro w hw
  obtain ⟨j, hj, rfl⟩ := List.mem_map.mp hw
  exact atT_in (List.all_eq_true.mp lays_X2 j hj)
theorem lays_X3 : (List.range 3).all (fun j => atT (([6213, 6215, 6217] : List Nat).getD j 0) (u_lay RX3 TX3 j)) = true := by decide +kernel
theorem uin_X3 : ∀ w ∈ u_ws RX3 TX3 3, w ∈ Tall := by
  intro w hw
  obtain ⟨j, hj, rfl⟩ := List.mem_map.mp hw
  exact atT_in (List.all_eq_true.mp lays_X3 j hj)
theorem lays_X4 : (List.range 11).all (fun j => atT (([6109, 6111, 6113, 6115, 6117, 6119, 6121, 6123, 6125, 6127, 6129] : List Nat).getD j 0) (u_lay RX4 TX4 j)) = true := by decide +kernel
theorem uin_X4 : ∀ w ∈ u_ws RX4 TX4 11, w ∈ Tall := by
  intro w hw
  obtain ⟨j, hj, rfl⟩ := List.mem_map.mp hw
  exact atT_in (List.all_eq_true.mp lays_X4 j hj)
theorem lays_X5 : (List.range 9).all (fun j => atT (([6066, 6068, 6070, 6072, 6074, 6076, 6078, 6080, 6082] : List Nat).getD j 0) (u_lay RX5 TX5 j)) = true := by decide +kernel
theorem uin_X5 : ∀ w ∈ u_ws RX5 TX5 9, w ∈ Tall := by
  intro w hw
  obtain ⟨j, hj, rfl⟩ := List.mem_map.mp hw
  exact atT_in (List.all_eq_true.mp lays_X5 j hj)
theorem lays_X6 : (List.range 9).all (fun j => atT (([7021, 7023, 7025, 7027, 7029, 7031, 7033, 7035, 7037] : List Nat).getD j 0) (u_lay RX6 TX6 j)) = true := by decide +kernel
theorem uin_X6 : ∀ w ∈ u_ws RX6 TX6 9, w ∈ Tall := by
  intro w hw
  obtain ⟨j, hj, rfl⟩ := List.mem_map.mp hw
  exact atT_in (List.all_eq_true.mp lays_X6 j hj)
theorem lays_X7 : (List.range 25).all (fun j => atT (([10056, 10058, 10060, 10062, 10064, 10066, 10068, 10070, 10072, 10074, 10076, 10078, 10080, 10082, 10084, 10086, 10088, 10090, 10092, 10094, 10096, 10098, 10100, 10102, 10104] : List Nat).getD j 0) (u_lay RX7 TX7 j)) = true := by decide +kernel
theorem uin_X7 : ∀ w ∈ u_ws RX7 TX7 25, w ∈ Tall := by
  intro w hw
  obtain ⟨j, hj, rfl⟩ := List.mem_map.mp hw
  exact atT_in (List.all_eq_true.mp lays_X7 j hj)
def ClsF (ci : Nat) : Prop := ∀ q : vw_C, vwCl[ci]? = some q → (∀ w ∈ u_ws q.1 q.2.1 q.2.2, w ∈ Tall) ∧ ∃ ty0 : Nat → FieldType, (∀ k, k < q.2.2 → parseFieldDescriptor (q.2.1 k).2.2.1 = some (ty0 k)) ∧ (∀ a, a < q.2.2 → ∀ b, b < q.2.2 → a ≠ b → (q.2.1 a).2.1 ≠ (q.2.1 b).2.1)
theorem clsF (ci : Nat) : ClsF ci := by
  intro q hq
  match ci, hq with
  | 0, hq => cases hq; exact ⟨uin_J4, tyJ4, tyJ4_ok, nmJ4⟩
  | 1, hq => cases hq; exact ⟨uin_X0, tyX0, tyX0_ok, nmX0⟩
  | 2, hq => cases hq; exact ⟨uin_X1, tyX1, tyX1_ok, nmX1⟩
  | 3, hq => cases hq; exact ⟨uin_X2, tyX2, tyX2_ok, nmX2⟩
  | 4, hq => cases hq; exact ⟨uin_X3, tyX3, tyX3_ok, nmX3⟩
  | 5, hq => cases hq; exact ⟨uin_X4, tyX4, tyX4_ok, nmX4⟩
  | 6, hq => cases hq; exact ⟨uin_X5, tyX5, tyX5_ok, nmX5⟩
  | 7, hq => cases hq; exact ⟨uin_X6, tyX6, tyX6_ok, nmX6⟩
  | 8, hq => cases hq; exact ⟨uin_X7, tyX7, tyX7_ok, nmX7⟩
  | n + 9, hq => simp [vwCl] at hq
/-! from the abstract cells to the machine's -/
def cv (ad : Nat → Nat) (fv : Value) : Value → Value
  | .ref a => .ref (ad a)
  | .retAddr _ => fv
  | v => v
def fld (ad : Nat → Nat) (D : Mm) (k : Nat) (rs : List (Option Nat)) (j : Nat) : Value := match rs[j]? with
  | some (some q) => .ref (ad q)
  | _ => .int (D k j)
def cellOf (cA : Nat → ClassId) (ad : Nat → Nat) (D : Mm) (k : Nat) : va_E :=
  if (sh k).1 < 20 then .inr ((sh k).1, (List.range (sh k).2.1).map (fld ad D k (sh k).2.2))
  else if (sh k).1 = 20 then .inl (cA 0, (sh k).2.1, .inl (D k))
  else if (sh k).1 = 21 then .inl (cA 1, (sh k).2.1, .inl (D k))
  else if (sh k).1 = 22 then .inl (cA 2, cap D k, .inl (D k))
  else .inl (cA 3, (sh k).2.1, .inr (.inr (.inr (.inr (fun j => match (sh k).2.2[j]? with
    | some (some q) => some (ad q)
    | _ => none)))))
def wsOf (cA : Nat → ClassId) (ad : Nat → Nat) (D : Mm) : va_W := (List.range NC).map (fun k => (ad k, cellOf cA ad D k))
def shQ (s : Shp) : Bool := !decide (s.1 < 20) || (decide (s.2.2.length = s.2.1) && match vwCl[s.1]? with
  | some q => decide (q.2.2 = s.2.1)
  | none => false)
theorem shAll : shL.length = NC ∧ shL.all shQ = true := by decide +kernel
theorem sh_lt {o : Nat} (h : (sh o).1 ≠ 99) : o < NC := by
  rcases Nat.lt_or_ge o NC with q | q
  · exact q
  · refine absurd ?_ h
    unfold sh
    rw [List.getD_eq_getElem?_getD, List.getElem?_eq_none (by rw [shAll.1]; exact q)]
    rfl
theorem sh_cls {o : Nat} (h : (sh o).1 < 20) : (sh o).2.2.length = (sh o).2.1 ∧ ∃ q, vwCl[(sh o).1]? = some q ∧ q.2.2 = (sh o).2.1 := by
  have ho : o < NC := sh_lt (by omega)
  have hm : sh o ∈ shL := by
    unfold sh
    rw [List.getD_eq_getElem?_getD, List.getElem?_eq_getElem (by rw [shAll.1]; exact ho)]
    exact List.getElem_mem _
  have h2 := List.all_eq_true.mp shAll.2 _ hm
  unfold shQ at h2
  rw [decide_eq_true h, Bool.not_true, Bool.false_or, Bool.and_eq_true] at h2
  refine ⟨of_decide_eq_true h2.1, ?_⟩
  have h3 := h2.2
  split at h3
  · exact ⟨_, by assumption, of_decide_eq_true h3⟩
  · cases h3
theorem ws_get {cA : Nat → ClassId} {ad : Nat → Nat} {D : Mm} {o : Nat} (h : o < NC) : (wsOf cA ad D)[o]? = some (ad o, cellOf cA ad D o) := by
  unfold wsOf
  rw [List.getElem?_map, List.getElem?_range h]
  rfl
theorem ws_at {cA : Nat → ClassId} {ad : Nat → Nat} {D : Mm} {k : Nat} {q : Nat × va_E} (h : (wsOf cA ad D)[k]? = some q) : k < NC ∧ q = (ad k, cellOf cA ad D k) := by
  have hk : k < NC := by
    have := (List.getElem?_eq_some_iff.mp h).1
    unfold wsOf at this
    simpa using this
  rw [ws_get hk] at h
  exact ⟨hk, (Option.some.inj h).symm⟩
theorem cell_obj {cA : Nat → ClassId} {ad : Nat → Nat} {D : Mm} {o : Nat} (h : (sh o).1 < 20) : cellOf cA ad D o = .inr ((sh o).1, (List.range (sh o).2.1).map (fld ad D o (sh o).2.2)) := by
  unfold cellOf; rw [if_pos h]
theorem cell_int {cA : Nat → ClassId} {ad : Nat → Nat} {D : Mm} {o : Nat} (h : (sh o).1 = 20) : cellOf cA ad D o = .inl (cA 0, (sh o).2.1, .inl (D o)) := by
  unfold cellOf; rw [if_neg (by omega), if_pos h]
theorem cell_bool {cA : Nat → ClassId} {ad : Nat → Nat} {D : Mm} {o : Nat} (h : (sh o).1 = 21) : cellOf cA ad D o = .inl (cA 1, (sh o).2.1, .inl (D o)) := by
  unfold cellOf; rw [if_neg (by omega), if_neg (by omega), if_pos h]
theorem cell_byte {cA : Nat → ClassId} {ad : Nat → Nat} {D : Mm} {o : Nat} (h : (sh o).1 = 22) : cellOf cA ad D o = .inl (cA 2, cap D o, .inl (D o)) := by
  unfold cellOf; rw [if_neg (by omega), if_neg (by omega), if_neg (by omega), if_pos h]
theorem cell_refs {cA : Nat → ClassId} {ad : Nat → Nat} {D : Mm} {o : Nat} (h : (sh o).1 = 23) : cellOf cA ad D o = .inl (cA 3, (sh o).2.1, .inr (.inr (.inr (.inr (fun j => match (sh o).2.2[j]? with
    | some (some q) => some (ad q)
    | _ => none))))) := by
  unfold cellOf; rw [if_neg (by omega), if_neg (by omega), if_neg (by omega), if_neg (by omega)]
theorem mup_same {D : Mm} {c j : Nat} {x : Int32} : mup D c j x c = upd (D c) j x := by
  funext i; unfold mup upd; rw [if_pos rfl]
theorem mup_ne {D : Mm} {c j k : Nat} {x : Int32} (h : k ≠ c) : mup D c j x k = D k := by
  funext i; unfold mup; rw [if_neg h]
theorem cell_ne {cA : Nat → ClassId} {ad : Nat → Nat} {D : Mm} {c j k : Nat} {x : Int32} (h : k ≠ c) : cellOf cA ad (mup D c j x) k = cellOf cA ad D k := by
  have e1 : fld ad (mup D c j x) k (sh k).2.2 = fld ad D k (sh k).2.2 := by
    funext i; unfold fld; rw [mup_ne h]
  unfold cellOf cap
  rw [mup_ne h, e1]
theorem ws_mup {cA : Nat → ClassId} {ad : Nat → Nat} {D : Mm} {o j : Nat} {x : Int32} {e : va_E} (ho : o < NC) (he : cellOf cA ad (mup D o j x) o = e) : (wsOf cA ad D).set o (ad o, e) = wsOf cA ad (mup D o j x) := by
  apply List.ext_getElem?
  intro i
  rcases Nat.lt_or_ge i NC with hi | hi
  · rw [ws_get hi]
    by_cases h : o = i
    · subst h
      rw [List.getElem?_set_self (by unfold wsOf; simpa using ho), he]
    · rw [List.getElem?_set_ne h, ws_get hi, cell_ne (fun q => h q.symm)]
  · rw [List.getElem?_eq_none (by simp [wsOf]; exact hi), List.getElem?_eq_none (by simp [wsOf]; exact hi)]
theorem fs_get {ad : Nat → Nat} {D : Mm} {o c n : Nat} {rs : List (Option Nat)} (hc : c < n) : ((List.range n).map (fld ad D o rs))[c]? = some (fld ad D o rs c) := by
  rw [List.getElem?_map, List.getElem?_range hc]; rfl
theorem fs_set {ad : Nat → Nat} {D : Mm} {o c : Nat} {x : Int32} (h : (sh o).1 < 20) (hc : (sh o).2.2[c]? = some none) : ((List.range (sh o).2.1).map (fld ad D o (sh o).2.2)).set c (.int x) = (List.range (sh o).2.1).map (fld ad (mup D o c x) o (sh o).2.2) := by
  have hl : c < (sh o).2.1 := by
    rw [← (sh_cls h).1]; exact (List.getElem?_eq_some_iff.mp hc).1
  apply List.ext_getElem?
  intro i
  rcases Nat.lt_or_ge i (sh o).2.1 with hi | hi
  · rw [fs_get hi]
    by_cases e : c = i
    · subst e
      rw [List.getElem?_set_self (by simpa using hl)]
      unfold fld
      rw [hc, mup_same]
      unfold upd
      rw [if_pos rfl]
    · rw [List.getElem?_set_ne e, fs_get hi]
      unfold fld
      rw [mup_same]
      unfold upd
      rw [if_neg (fun q => e q.symm)]
  · rw [List.getElem?_eq_none (by simpa using hi), List.getElem?_eq_none (by simpa using hi)]
/-- agreeing but for the rows of the text builders -/
def agree (ad ad2 : Nat → Nat) : Prop := ∀ k, k ≠ 181 → k ≠ 182 → ad2 k = ad k
theorem agree.rf {ad : Nat → Nat} : agree ad ad := fun _ _ _ => rfl
theorem agree.tr {a b c : Nat → Nat} (h : agree a b) (h2 : agree b c) : agree a c := fun k x y => (h2 k x y).trans (h k x y)
theorem cv_agree {ad ad2 : Nat → Nat} {fv : Value} (h : agree ad ad2) {v : Value} (hv : nvB v = true) : cv ad2 fv v = cv ad fv v := by
  cases v with
  | ref a =>
    simp only [nvB, Bool.and_eq_true, Bool.not_eq_true', beq_eq_false_iff_ne, ne_eq] at hv
    show Value.ref (ad2 a) = Value.ref (ad a)
    rw [h a hv.1 hv.2]
  | _ => rfl
theorem cv_agrees {ad ad2 : Nat → Nat} {fv : Value} (h : agree ad ad2) {st : List Value} (hv : st.all nvB = true) : st.map (cv ad2 fv) = st.map (cv ad fv) := by
  apply List.map_congr_left
  intro v hm
  exact cv_agree h (List.all_eq_true.mp hv v hm)
/-- the locals -/
def LOK (ad : Nat → Nat) (fv : Value) (nL : Nat) (lsA : Array Slot) (ls : List Value) : Prop := lsA.size = nL ∧ lv_wf lsA ∧ ls.length = nL ∧ ∀ (i : Nat) (v : Value), ls[i]? = some v → v ≠ .retAddr 0 → c1B v = true ∧ lsA[i]? = some (.val (cv ad fv v))
theorem LOK.agree {ad ad2 : Nat → Nat} {fv : Value} {n : Nat} {lsA : Array Slot} {ls : List Value} (h : agree ad ad2) (hv : ls.all nvB = true) (hl : LOK ad fv n lsA ls) : LOK ad2 fv n lsA ls := by
  refine ⟨hl.1, hl.2.1, hl.2.2.1, fun i v hi hne => ?_⟩
  obtain ⟨h1, h2⟩ := hl.2.2.2 i v hi hne
  refine ⟨h1, ?_⟩
  rw [cv_agree h (List.all_eq_true.mp hv v (List.mem_of_getElem? hi))]
  exact h2
theorem c1_cat {ad : Nat → Nat} {fv v : Value} (hf : fv.category = 1) (h : c1B v = true) : (cv ad fv v).category = 1 := by
  cases v <;> first | rfl | exact hf | cases h
def lpair (ad : Nat → Nat) (fv : Value) (ls : List Value) : List (Nat × Value) := (List.range ls.length).filterMap (fun i => match ls[i]? with
  | some v => if v = .retAddr 0 then none else some (i, cv ad fv v)
  | none => none)
theorem lpair_in {ad : Nat → Nat} {fv : Value} {ls : List Value} {q : Nat × Value} : q ∈ lpair ad fv ls ↔ ∃ v, ls[q.1]? = some v ∧ v ≠ .retAddr 0 ∧ q.2 = cv ad fv v := by
  unfold lpair
  rw [List.mem_filterMap]
  constructor
  · rintro ⟨i, hi, h⟩
    split at h
    · next v hv =>
      split at h
      · cases h
      · next hn => cases h; exact ⟨v, hv, hn, rfl⟩
    · cases h
  · rintro ⟨v, hv, hn, e⟩
    refine ⟨q.1, List.mem_range.mpr (List.getElem?_eq_some_iff.mp hv).1, ?_⟩
    rw [hv]
    show (if v = .retAddr 0 then none else some (q.1, cv ad fv v)) = some q
    rw [if_neg hn, ← e]
theorem LOK.has {ad : Nat → Nat} {fv : Value} {n : Nat} {lsA : Array Slot} {ls : List Value} (h : LOK ad fv n lsA ls) : lv_has lsA n (lpair ad fv ls) := by
  refine ⟨h.1, h.2.1, fun q hq => ?_⟩
  obtain ⟨v, h1, h2, h3⟩ := lpair_in.mp hq
  rw [h3]
  exact (h.2.2.2 q.1 v h1 h2).2
theorem LOK.get {ad : Nat → Nat} {fv : Value} {n : Nat} {lsA : Array Slot} {ls : List Value} (h : LOK ad fv n lsA ls) {i : Nat} {v : Value} (hi : ls[i]? = some v) (hv : v ≠ .retAddr 0) : lsA[i]? = some (.val (cv ad fv v)) := (h.2.2.2 i v hi hv).2
/-- behind a store -/
theorem LOK.set {ad : Nat → Nat} {fv : Value} {n : Nat} {lsA : Array Slot} {ls : List Value} (hf : fv.category = 1) (h : LOK ad fv n lsA ls) {i : Nat} {v : Value} (hi : i < ls.length) (hc : c1B v = true) {ls2 : Array Slot}
    (h2 : lv_has ls2 n ((i, cv ad fv v) :: (lpair ad fv ls).filter (fun q => !(q.1 == i) && !(q.1 + 1 == i && q.2.category == 2)))) : LOK ad fv n ls2 (ls.set i v) := by
  refine ⟨h2.1, h2.2.1, by rw [List.length_set]; exact h.2.2.1, fun j w hj hw => ?_⟩
  by_cases e : i = j
  · subst e
    rw [List.getElem?_set_self hi] at hj
    cases hj
    exact ⟨hc, h2.2.2 (i, cv ad fv v) List.mem_cons_self⟩
  · rw [List.getElem?_set_ne e] at hj
    obtain ⟨g1, g2⟩ := h.2.2.2 j w hj hw
    refine ⟨g1, h2.2.2 (j, cv ad fv w) (List.mem_cons_of_mem _ (List.mem_filter.mpr ⟨lpair_in.mpr ⟨w, hj, hw, rfl⟩, ?_⟩))⟩
    have hcat := c1_cat (ad := ad) hf g1
    simp only [hcat, Bool.and_eq_true, Bool.not_eq_true', beq_eq_false_iff_ne, ne_eq]
    refine ⟨fun q => e q.symm, ?_⟩
    simp
theorem lvargs_in {ad : Nat → Nat} {fv : Value} (hf : fv.category = 1) : ∀ (args : List Value) (n : Nat), args.all c1B = true → ∀ (i : Nat) (v : Value), args[i]? = some v → (n + i, cv ad fv v) ∈ lv_args n (args.map (cv ad fv))
  | [], _, _, i, v, h => by simp at h
  | a :: r, n, hc, i, v, h => by
    rw [List.all_cons, Bool.and_eq_true] at hc
    have hcat := c1_cat (ad := ad) hf hc.1
    show (n + i, cv ad fv v) ∈ (n, cv ad fv a) :: lv_args (if (cv ad fv a).category = 2 then n + 2 else n + 1) (r.map (cv ad fv))
    rw [if_neg (by omega)]
    cases i with
    | zero =>
      cases h
      exact List.mem_cons_self
    | succ i =>
      have h2 := lvargs_in (ad := ad) hf r (n + 1) hc.2 i v h
      rw [show n + (i + 1) = n + 1 + i by omega]
      exact List.mem_cons_of_mem _ h2
theorem lgsl_len {ad : Nat → Nat} {fv : Value} (hf : fv.category = 1) : ∀ (args : List Value), args.all c1B = true → (lg_sl (args.map (cv ad fv))).length = args.length
  | [], _ => rfl
  | a :: r, hc => by
    rw [List.all_cons, Bool.and_eq_true] at hc
    have hcat := c1_cat (ad := ad) hf hc.1
    have ih := lgsl_len (ad := ad) hf r hc.2
    unfold lg_sl at ih ⊢
    rw [List.map_cons, List.flatMap_cons, if_neg (by omega), List.length_append, ih]
    simp
    omega
theorem LOK.entry {ad : Nat → Nat} {fv : Value} (hf : fv.category = 1) {args : List Value} {n : Nat} (hc : args.all c1B = true) (hn : args.length ≤ n) : LOK ad fv n ((lg_sl (args.map (cv ad fv)) ++ List.replicate (n - (lg_sl (args.map (cv ad fv))).length) Slot.unset).toArray) (args ++ List.replicate (n - args.length) (.retAddr 0)) := by
  have hl := lgsl_len (ad := ad) hf args hc
  have h := lv_entry (args.map (cv ad fv)) (n := n) (by rw [hl]; exact hn)
  refine ⟨h.1, h.2.1, by simp; omega, fun i v hi hv => ?_⟩
  rcases Nat.lt_or_ge i args.length with q | q
  · rw [List.getElem?_append_left q] at hi
    have h2 := h.2.2 _ (lvargs_in hf args 0 hc i v hi)
    rw [Nat.zero_add] at h2
    exact ⟨List.all_eq_true.mp hc v (List.mem_of_getElem? hi), h2⟩
  · rw [List.getElem?_append_right q, List.getElem?_replicate] at hi
    split at hi
    · cases hi; exact absurd rfl hv
    · cases hi
/-- what is never written: constants' texts, the JDK's statics -/
def lenB : List Nat := strB.map List.length
def RO (ad : Nat → Nat) (fv : Value) (A : Nat → Prop) (U : State) (H : Heap) : Prop :=
  vk_S 10 lenB strB (fun i => ad (1000 + i)) (fun i => ad (2000 + i)) A U H ∧
  va_Z "java/lang/String" "COMPACT_STRINGS" "Z" (.int 1) A U H ∧
  va_Z "jdk/internal/util/Preconditions" "SIOOBE_FORMATTER" "Ljava/util/function/BiFunction;" fv A U H ∧
  va_Z "java/lang/Integer" "DigitOnes" "[B" (.ref (ad 3000)) A U H ∧ va_T .byte (ad 3000) 100 (fun j => .int (dgO.getD j 0)) A U H ∧
  va_Z "java/lang/Integer" "DigitTens" "[B" (.ref (ad 3001)) A U H ∧ va_T .byte (ad 3001) 100 (fun j => .int (dgT.getD j 0)) A U H ∧
  (∀ c, c < 10 → ∀ q, ltab[c]? = some q → vk_R (cN q.1) q.2.1 q.2.2.2 (ad (1000 + c)) U) ∧ fv.category = 1
theorem RO.moved {ad : Nat → Nat} {fv : Value} {A : Nat → Prop} {u U : State} {H : Heap} (hvm : u.vm.Alike U.vm) (hR : ∀ own k tx a, vk_R own k tx a u → vk_R own k tx a U) (h : RO ad fv A u H) : RO ad fv A U H :=
  ⟨h.1.moved hvm, h.2.1.moved hvm, h.2.2.1.moved hvm, h.2.2.2.1.moved hvm, h.2.2.2.2.1.moved hvm, h.2.2.2.2.2.1.moved hvm, h.2.2.2.2.2.2.1.moved hvm, fun c hc q hq => hR _ _ _ _ (h.2.2.2.2.2.2.2.1 c hc q hq), h.2.2.2.2.2.2.2.2⟩
theorem RO.kept {ad : Nat → Nat} {fv : Value} {A : Nat → Prop} {U : State} {H H1 : Heap} (hq : ∀ a : Nat, a < H.size → ¬ A a → H1[a]? = H[a]?) (h : RO ad fv A U H) : RO ad fv A U H1 :=
  ⟨h.1.kept hq, h.2.1.kept hq, h.2.2.1.kept hq, h.2.2.2.1.kept hq, h.2.2.2.2.1.kept hq, h.2.2.2.2.2.1.kept hq, h.2.2.2.2.2.2.1.kept hq, h.2.2.2.2.2.2.2.1, h.2.2.2.2.2.2.2.2⟩
theorem RO.narrow {ad : Nat → Nat} {fv : Value} {A B : Nat → Prop} {U : State} {H : Heap} (hAB : ∀ q, B q → A q) (h : RO ad fv A U H) : RO ad fv B U H :=
  ⟨h.1.narrow hAB, h.2.1.narrow hAB, h.2.2.1.narrow hAB, h.2.2.2.1.narrow hAB, h.2.2.2.2.1.narrow hAB, h.2.2.2.2.2.1.narrow hAB, h.2.2.2.2.2.2.1.narrow hAB, h.2.2.2.2.2.2.2.1, h.2.2.2.2.2.2.2.2⟩
theorem RO.agree {ad ad2 : Nat → Nat} {fv : Value} {A : Nat → Prop} {U : State} {H : Heap} (ha : agree ad ad2) (h : RO ad fv A U H) : RO ad2 fv A U H := by
  have e1 : (fun i => ad2 (1000 + i)) = (fun i => ad (1000 + i)) := by funext i; exact ha _ (by omega) (by omega)
  have e2 : (fun i => ad2 (2000 + i)) = (fun i => ad (2000 + i)) := by funext i; exact ha _ (by omega) (by omega)
  have e3 := ha 3000 (by decide) (by decide)
  have e4 := ha 3001 (by decide) (by decide)
  have e5 : ∀ c, ad2 (1000 + c) = ad (1000 + c) := fun c => ha _ (by omega) (by omega)
  unfold RO at h ⊢
  rw [e1, e2, e3, e4]
  refine ⟨h.1, h.2.1, h.2.2.1, h.2.2.2.1, h.2.2.2.2.1, h.2.2.2.2.2.1, h.2.2.2.2.2.2.1, fun c hc q hq => ?_, h.2.2.2.2.2.2.2.2⟩
  rw [e5]
  exact h.2.2.2.2.2.2.2.1 c hc q hq
end
section
/-! the tables' facts at an instruction -/
theorem lk_in {pc : Nat} {x : Instr × Nat × Nat × Nat × Nat} : ∀ {es : List Ent}, lk pc es = some x → (pc, x) ∈ es
  | [], h => by cases h
  | e :: r, h => by
    unfold lk at h
    by_cases he : e.1 = pc
    · rw [if_pos he] at h
      cases h
      subst he
      exact List.mem_cons_self
    · rw [if_neg he] at h
      exact List.mem_cons_of_mem _ (lk_in h)
theorem ins_ok {k pc : Nat} {i : Instr} {a b c d : Nat} (hk : k < mnames) (h : ins k pc = some (i, a, b, c, d)) : eOK k (pc, i, a, b, c, d) = true := by
  unfold ins at h
  cases hm : mE[k]? with
  | none => rw [hm] at h; cases h
  | some es =>
    rw [hm] at h
    have h1 := eAll k hk
    unfold eAllK at h1
    rw [List.getD_eq_getElem?_getD, hm] at h1
    exact List.all_eq_true.mp h1 _ (lk_in h)
theorem ins_dec {k pc : Nat} {i : Instr} {a b c d : Nat} (hk : k < mnames) (h : ins k pc = some (i, a, b, c, d)) : ∃ L, decode (nB k) pc = .ok (i, L) ∧ (L = ilen i ∨ isTS i = true) ∧ jOK pc i = true := by
  have h1 := ins_ok hk h
  unfold eOK at h1
  rw [Bool.and_eq_true, Bool.and_eq_true] at h1
  obtain ⟨⟨h2, h3⟩, -⟩ := h1
  dsimp only at h2 h3
  split at h2
  · next i2 L he =>
    rw [Bool.and_eq_true, Bool.or_eq_true] at h2
    have e := of_decide_eq_true h2.1
    subst e
    exact ⟨L, he, h2.2.elim (fun q => Or.inl (of_decide_eq_true q)) Or.inr, h3⟩
  · cases h2
/-- the decode row of an instruction of a known length -/
theorem ins_d {k pc : Nat} {i : Instr} {a b c d : Nat} (hk : k < mnames) (h : ins k pc = some (i, a, b, c, d)) (hn : isTS i = false) : decode (nB k) pc = .ok (i, ilen i) := by
  obtain ⟨L, h1, h2, -⟩ := ins_dec hk h
  rcases h2 with h2 | h2
  · rw [h1, h2]
  · rw [hn] at h2; cases h2
theorem ins_call {k idx a b c : Nat} {kinds : List Nat} (hb : b < mnames) (h : callOK k idx a b c kinds = true) : ∃ f, f ∈ itab ∧ f.1 = nO k ∧ f.2.1 = idx ∧ f.2.2.1 = b ∧ f.2.2.2.1 = c := by
  unfold callOK at h
  rw [Bool.or_eq_true] at h
  rcases h with h | h
  · have := of_decide_eq_true h
    have e : mnames = 218 := rfl
    omega
  · split at h
    · next f hf =>
      simp only [Bool.and_eq_true, decide_eq_true_eq] at h
      exact ⟨f, List.mem_of_getElem? hf, h.1.1.1.1, h.1.1.1.2, h.1.1.2, h.1.2⟩
    · cases h
/-- what the tables say of a method -/
theorem mfact {k : Nat} (hk : k < mnames) : Cond.initialized (nY k).cls ∈ Tall ∧ (if nS k = 1 then Cond.static (nY k) ∈ Tall else Cond.instanceMethod (nY k) ∈ Tall) ∧ (nY k).cls = cN (nO k) ∧
    ((nY k).cls ≠ "java/lang/invoke/MethodHandle" ∧ (nY k).cls ≠ "java/lang/invoke/VarHandle") ∧ (nY k).name ≠ "<init>" ∧
    (parseMethodDescriptor (nY k).desc).map (fun d => d.parameters.length) = some (if nS k = 1 then nA k else nA k - 1) ∧ (nS k = 1 ∨ 1 ≤ nA k) ∧ nA k ≤ nL k ∧ nL k ≤ 19 ∧ plainFor (nY k) = true := by
  have h := List.all_eq_true.mp mAll k (List.mem_range.mpr hk)
  unfold mOK at h
  simp only [Bool.and_eq_true, decide_eq_true_eq] at h
  obtain ⟨⟨⟨⟨⟨⟨⟨⟨⟨h1, h2⟩, h3⟩, h4⟩, h5⟩, h6⟩, h7⟩, h8⟩, h9⟩, h10⟩ := h
  refine ⟨atT_in h1, ?_, h3, h4, h5, h6, h7, h8, h9, h10⟩
  by_cases q : nS k = 1
  · rw [if_pos q] at h2 ⊢; exact atT_in h2
  · rw [if_neg q] at h2 ⊢; exact atT_in h2
/-- a call, whatever it answers -/
theorem va_callg {p : Program} {l : Launch} {e : Env} {R : Room} {s : State} {m : MethodId} {args : Array Value} {below : List Frame} {meth : Method} {c : Code} {H : Heap} {locs : List Loc} {cells slots : Nat} {Q : State → Prop}
    {pc : Nat} {ls : Array Slot} {rest st0 : List Value} {A0 A1 : Nat → Prop} {H0 : Heap} {mc ms : Nat} {free : Addr → Prop} {Qx : Option Value → State → Prop}
    (hr : va_Run p l e R s m args below meth c H locs cells slots mc ms (F0 m pc ls st0) rest (fun st oc t => (∃ v, oc = .returned v ∧ Qx v t) ∧ va_F A1 st t) free) (hS : va_S A0 H0 H locs) (hA : ∀ q, q < H.size → A1 q → A0 q) (hf : ∀ q, free q → A0 q)
    (kk : ∀ (v : Option Value) (t : State) (H1 : Heap) (locs1 : List Loc), t.heap = H1 → s.vm.Alike t.vm → Qx v t → H.size ≤ H1.size → (∀ q : Nat, q < H.size → ¬ A1 q → H1[q]? = H[q]?) → va_S A0 H0 H1 locs1 → W p l e R s m args below meth c H1 locs1 (cells + mc) (slots + ms) Q (F0 m (pc + 3) ls (v.toList ++ rest))) : W p l e R s m args below meth c H locs cells slots Q (F0 m pc ls st0) := by
  intro T hT X
  obtain ⟨v, st₀, t, T', L, h0, X', hL, e1, e2, ⟨⟨v2, hv, hp⟩, hz, hk⟩, st⟩ := hr T hT X
  cases hv
  rw [h0] at hz hk
  obtain ⟨t2, a1, b1⟩ := kk v t T'.heap (locs ++ L) e1.symm (by rw [← e2]; exact X'.warmed.alike) hp (by rw [e1]; exact hz) (fun q h1 h2 => by rw [e1]; exact hk q h1 h2)
    ⟨Nat.le_trans hS.1 (by rw [e1]; exact hz), fun q h1 h2 => by rw [e1, hk q (Nat.lt_of_lt_of_le h1 hS.1) (fun z => h2 (hA q (Nat.lt_of_lt_of_le h1 hS.1) z))]; exact hS.2.1 q h1 h2, fun q hq => by
      rcases List.mem_append.mp hq with h | h
      · exact hS.2.2 q h
      · exact hf _ (hL q h)⟩ T' rfl X'
  exact ⟨t2, st t2 a1, b1⟩
def tysA (cA : Nat → ClassId) : List (ClassId × FieldType) := [(cA 0, .int), (cA 1, .boolean), (cA 2, .byte), (cA 3, .object "CandleStatute$State")]
abbrev wsm (k : Nat) : List Cond := Cond.code (nY k) (nB k) (nL k) (nR k) :: Tall
def rmD (d mc : Nat) : Room := { frames := d, cells := mc, slots := 2 * mc, locals := 38 * d }
abbrev Gp : Type := va_G × (Nat → ClassId) × Value
def MP (G : Gp) (ad : Nat → Nat) (D : Mm) (sz : Nat) : State → Prop := fun U =>
  U.heap.size = sz ∧ va_P G.1 vwCl (wsOf G.2.1 ad D) U.heap ∧ va_K G.1 vwCl (tysA G.2.1) U ∧ va_D (fun _ => True) (wsOf G.2.1 ad D) ∧ RO ad G.2.2 (va_A (wsOf G.2.1 ad D) sz) U U.heap
def MX (G : Gp) (ad : Nat → Nat) (D : Mm) (sz : Nat) (r : Option Value) (D1 : Mm) : Option Value → State → Prop := fun v t =>
  ∃ ad2, agree ad ad2 ∧ v = r.map (cv ad2 G.2.2) ∧ va_P G.1 vwCl (wsOf G.2.1 ad2 D1) t.heap ∧ va_K G.1 vwCl (tysA G.2.1) t ∧ va_D (va_A (wsOf G.2.1 ad D) sz) (wsOf G.2.1 ad2 D1)
def MC (G : Gp) (ad : Nat → Nat) (D : Mm) (sz : Nat) (r : Option Value) (D1 : Mm) : Array Value → State → Outcome → State → Prop := fun _ st oc t =>
  (∃ v, oc = .returned v ∧ MX G ad D sz r D1 v t) ∧ va_F (va_A (wsOf G.2.1 ad D) sz) st t
def Snd (l : Launch) (G : Gp) (d : Nat) : Prop := ∀ (k : Nat) (args : List Value) (D : Mm) (r : Option Value) (D1 : Mm) (ad : Nat → Nat) (sz : Nat), Ct d k args D (fun r2 D2 => r2 = r ∧ D2 = D1) →
  Met l (nY k) (wsm k) (rmD (d - 1) (pot D1 - pot D)) (va_Pc (args.map (cv ad G.2.2)) (MP G ad D sz)) (MC G ad D sz r D1) (pot D1 - pot D) (2 * (pot D1 - pot D)) (va_A (wsOf G.2.1 ad D) sz)
theorem MP_blind {G : Gp} {ad : Nat → Nat} {D : Mm} {sz : Nat} {as : List Value} : FrameBlind (va_Pc as (MP G ad D sz)) := by
  intro a U g mk h
  obtain ⟨h0, h1, h2, h3, h4, h5⟩ := h
  exact ⟨h0, h1, h2, va_K.moved (u := U) (U := U.calling g mk a) (Vm.Alike.refl U.vm) h3, h4, RO.moved (u := U) (U := U.calling g mk a) (Vm.Alike.refl U.vm) (fun _ _ _ _ q => vk_R.same (u := U) (U := U.calling g mk a) rfl q) h5⟩
theorem MP_pre {G : Gp} {ad : Nat → Nat} {D : Mm} {A : Nat → Prop} {s : State} {H : Heap} {locs : List Loc} {as : List Value} (hP : va_P G.1 vwCl (wsOf G.2.1 ad D) H) (hK : va_K G.1 vwCl (tysA G.2.1) s) (hD : va_D A (wsOf G.2.1 ad D)) (hS : va_S A s.heap H locs) (hA : ∀ q : Nat, s.heap.size ≤ q → A q) (hR : RO ad G.2.2 A s s.heap) :
    ∀ U : State, U.heap = H → s.WarmedH U.vm → va_Pc as (MP G ad D H.size) as.toArray U := by
  intro U hU hW
  refine ⟨rfl, by rw [hU], by rw [hU]; exact hP, va_K.moved hW.alike hK, hD.weaken (fun _ _ _ _ => trivial), ?_⟩
  rw [hU]
  refine RO.moved hW.alike (fun _ _ _ _ q => vk_R.warm hW q) ?_
  refine RO.narrow (A := A) ?_ (RO.kept hS.2.1 hR)
  intro q hq
  rcases hq with ⟨j, e, hj⟩ | hq
  · exact hD.2 j _ hj
  · exact hA q (Nat.le_trans hS.1 hq)
theorem tg_eq {pc : Nat} {off : Int} (h : 0 ≤ (pc : Int) + off) : (pc : Int) + off = (tg pc off : Int) := by
  unfold tg; omega
theorem goodW (k : Nat) (hk : k < mnames) : GoodIn Tall (wsm k) := fun w hw => by
  rcases List.mem_cons.mp hw with h | h
  · rw [h]; exact goodTall _ (codeIn k hk)
  · exact goodTall w h
theorem goodWm {k k2 : Nat} (hk : k2 < mnames) : GoodIn (wsm k) (wsm k2) := fun w hw => ⟨List.mem_cons_of_mem _ (goodW k2 hk w hw).1, (goodW k2 hk w hw).2⟩
end
section
/-! the abstract machine's steps are the machine's -/
theorem fld_fact {k pc : Nat} {i : Instr} {idx a b c d : Nat} (hk : k < mnames) (hi : i = .getfield idx ∨ i = .putfield idx) (hb : b ≠ 25) (h : ins k pc = some (i, a, b, c, d)) : ∃ q : vw_C, vwCl[b]? = some q ∧ c < q.2.2 ∧ Cond.fieldLink (cN (nO k)) idx (q.2.1 c).1 (q.2.1 c).2.1 (q.2.1 c).2.2.1 ∈ Tall ∧ (d = 0 → (q.2.1 c).2.2.1 = "I" ∧ (q.2.1 c).2.2.2 = false) ∧ (d = 1 → (q.2.1 c).2.2.1 = "Z" ∧ (q.2.1 c).2.2.2 = false) := by
  have h1 := ins_ok hk h
  unfold eOK at h1
  rw [Bool.and_eq_true] at h1
  have h2 : (match ftab[a]? with
        | some f => decide (f.1 = nO k) && decide (f.2.1 = idx) && decide (f.2.2.1 = b) && decide (f.2.2.2.1 = c) && decide (f.2.2.2.2.1 = d)
        | none => false) = true := by
    rcases hi with rfl | rfl
    · have h3 := h1.2
      dsimp only at h3
      rw [if_neg hb] at h3
      exact h3
    · have h3 := h1.2
      dsimp only at h3
      rw [if_neg hb] at h3
      exact h3
  split at h2
  · next f hf =>
    simp only [Bool.and_eq_true, decide_eq_true_eq] at h2
    obtain ⟨⟨⟨⟨e1, e2⟩, e3⟩, e4⟩, e5⟩ := h2
    have h4 := List.all_eq_true.mp fAll _ (List.mem_of_getElem? hf)
    unfold fOK at h4
    rw [e1, e2, e3, e4, e5] at h4
    split at h4
    · next C T N hq =>
      simp only [Bool.and_eq_true, decide_eq_true_eq] at h4
      exact ⟨(C, T, N), hq, h4.1.1.1, atT_in h4.1.1.2, h4.1.2, h4.2⟩
    · cases h4
  · cases h2
theorem str_fact {k pc : Nat} {idx a b c d : Nat} (hk : k < mnames) (hb : b = 25) (h : ins k pc = some (.getfield idx, a, b, c, d)) : (c = 0 → Cond.fieldLink (cN (nO k)) idx "java/lang/String" "value" "[B" ∈ Tall) ∧ (c = 1 → Cond.fieldLink (cN (nO k)) idx "java/lang/String" "coder" "B" ∈ Tall) := by
  have h1 := ins_ok hk h
  unfold eOK at h1
  rw [Bool.and_eq_true] at h1
  have h3 := h1.2
  dsimp only at h3
  rw [if_pos hb] at h3
  split at h3
  · next f hf =>
    simp only [Bool.and_eq_true, decide_eq_true_eq] at h3
    obtain ⟨⟨e1, e2⟩, e3⟩ := h3
    have h4 := List.all_eq_true.mp rAll _ (List.mem_of_getElem? hf)
    unfold rOK at h4
    rw [e1, e2, e3] at h4
    refine ⟨fun q => ?_, fun q => ?_⟩
    · subst q; exact atT_in h4
    · subst q; exact atT_in h4
  · cases h3
theorem stat_fact {k pc : Nat} {idx a b c d : Nat} (hk : k < mnames) (h : ins k pc = some (.getstatic idx, a, b, c, d)) : (b = 0 → Cond.fieldLink (cN (nO k)) idx "java/lang/String" "COMPACT_STRINGS" "Z" ∈ Tall) ∧ (b = 1 → Cond.fieldLink (cN (nO k)) idx "jdk/internal/util/Preconditions" "SIOOBE_FORMATTER" "Ljava/util/function/BiFunction;" ∈ Tall) ∧
    (b = 2 → Cond.fieldLink (cN (nO k)) idx "java/lang/Integer" "DigitOnes" "[B" ∈ Tall) ∧ (b = 3 → Cond.fieldLink (cN (nO k)) idx "java/lang/Integer" "DigitTens" "[B" ∈ Tall) := by
  have h1 := ins_ok hk h
  unfold eOK at h1
  rw [Bool.and_eq_true] at h1
  have h3 := h1.2
  dsimp only at h3
  split at h3
  · next f hf =>
    simp only [Bool.and_eq_true, decide_eq_true_eq] at h3
    obtain ⟨⟨e1, e2⟩, e3⟩ := h3
    have h4 := List.all_eq_true.mp sAll _ (List.mem_of_getElem? hf)
    unfold sOK at h4
    rw [e1, e2, e3] at h4
    refine ⟨fun q => ?_, fun q => ?_, fun q => ?_, fun q => ?_⟩ <;> (subst q; exact atT_in h4)
  · cases h3
theorem ldc_fact {k pc : Nat} {idx a b c d : Nat} (hk : k < mnames) (h : ins k pc = some (.ldc idx, a, b, c, d)) : ∃ q, ltab[c]? = some q ∧ q.1 = nO k ∧ q.2.1 = idx := by
  have h1 := ins_ok hk h
  unfold eOK at h1
  rw [Bool.and_eq_true] at h1
  have h3 := h1.2
  dsimp only at h3
  split at h3
  · next f hf =>
    simp only [Bool.and_eq_true, decide_eq_true_eq] at h3
    obtain ⟨⟨e1, e2⟩, e3⟩ := h3
    exact ⟨f, by rw [e3]; exact hf, e1, e2⟩
  · cases h3
theorem call_fact {k pc : Nat} {i : Instr} {idx a b c d : Nat} (hk : k < mnames) (hb : b < mnames) (hi : i = .invokevirtual idx ∨ i = .invokestatic idx ∨ i = .invokespecial idx) (h : ins k pc = some (i, a, b, c, d)) :
    Cond.methodLink (cN (nO k)) idx (nY b) ∈ Tall ∧
    (c = 0 → nS b = 0 ∧ rcN (nC b) = (nY b).cls ∧ Cond.selects (nY b).cls (nY b) (nY b) ∈ Tall) ∧ (c = 1 → nS b = 1) ∧
    (c = 2 → nS b = 0 ∧ rcN (nC b) = "java/lang/StringBuilder" ∧ Cond.selects "java/lang/StringBuilder" (nY b) (nY b) ∈ Tall ∧ Cond.sameMethod (nY b).cls (nY b).cls (nY b).name (nY b).desc ∈ Tall) ∧
    (c = 3 → nS b = 0 ∧ rcN (nC b) = "java/lang/StringBuilder" ∧ Cond.sameMethod (nY b).cls (nY b).cls (nY b).name (nY b).desc ∈ Tall ∧ Cond.superclass (cN (nO k)) (nY b).cls ∈ Tall) := by
  have h1 := ins_ok hk h
  unfold eOK at h1
  rw [Bool.and_eq_true] at h1
  have h2 : ∃ ks, callOK k idx a b c ks = true := by
    rcases hi with rfl | rfl | rfl
    · exact ⟨_, h1.2⟩
    · exact ⟨_, h1.2⟩
    · exact ⟨_, h1.2⟩
  obtain ⟨ks, h2⟩ := h2
  obtain ⟨f, hf, e1, e2, e3, e4⟩ := ins_call hb h2
  have h4 := List.all_eq_true.mp iAll f hf
  unfold iOK at h4
  rw [e1, e2, e3, e4] at h4
  simp only [Bool.and_eq_true, decide_eq_true_eq] at h4
  obtain ⟨⟨-, h5⟩, h6⟩ := h4
  refine ⟨atT_in h5, ?_, ?_, ?_, ?_⟩
  · rintro rfl
    rw [if_pos rfl] at h6
    simp only [Bool.and_eq_true, decide_eq_true_eq] at h6
    exact ⟨h6.1.1, h6.1.2, atT_in h6.2⟩
  · rintro rfl
    rw [if_neg (by decide), if_pos rfl] at h6
    exact of_decide_eq_true h6
  · rintro rfl
    rw [if_neg (by decide), if_neg (by decide), if_pos rfl] at h6
    simp only [Bool.and_eq_true, decide_eq_true_eq] at h6
    exact ⟨h6.1.1.1, h6.1.1.2, atT_in h6.1.2, atT_in h6.2⟩
  · rintro rfl
    rw [if_neg (by decide), if_neg (by decide), if_neg (by decide)] at h6
    simp only [Bool.and_eq_true, decide_eq_true_eq] at h6
    exact ⟨h6.1.1.1, h6.1.1.2, atT_in h6.1.2, atT_in h6.2⟩
def PS (p : Program) (l : Launch) (e : Env) (s : State) (m : MethodId) (args : Array Value) (below : List Frame) (meth : Method) (c : Code) (G : Gp) (d k : Nat) (ad0 : Nat → Nat) (D0 : Mm) (rr : Option Value) (D1 : Mm) : Pst := fun pc ls st D =>
  pot D ≤ pot D1 ∧ ∀ (H : Heap) (locs : List Loc) (ad : Nat → Nat) (lsA : Array Slot), agree ad0 ad → va_P G.1 vwCl (wsOf G.2.1 ad D) H → va_D (va_A (wsOf G.2.1 ad0 D0) s.heap.size) (wsOf G.2.1 ad D) → va_S (va_A (wsOf G.2.1 ad0 D0) s.heap.size) s.heap H locs → LOK ad G.2.2 (nL k) lsA ls → pot D0 ≤ pot D →
    W p l e (rmD d (pot D1 - pot D0)) s m args below meth c H locs (pot D - pot D0) (2 * (pot D - pot D0)) (MQ below (MC G ad0 D0 s.heap.size rr D1) args s (pot D1 - pot D0) (2 * (pot D1 - pot D0)) (va_A (wsOf G.2.1 ad0 D0) s.heap.size)) (F0 m pc lsA (st.map (cv ad G.2.2)))
/-- behind a call -/
theorem call_arm {p : Program} {l : Launch} {e : Env} {s : State} {m : MethodId} {args : Array Value} {below : List Frame} {meth : Method} {c : Code} {G : Gp} {d k : Nat} {ad0 : Nat → Nat} {D0 : Mm} {rr : Option Value} {D1 : Mm}
    {pc : Nat} {ls rest : List Value} {st0 : List Value} {D D2 : Mm} {r : Option Value} {H : Heap} {locs : List Loc} {ad : Nat → Nat} {lsA : Array Slot} {As : Array Value}
    (ha : agree ad0 ad) (hP : va_P G.1 vwCl (wsOf G.2.1 ad D) H) (hD : va_D (va_A (wsOf G.2.1 ad0 D0) s.heap.size) (wsOf G.2.1 ad D)) (hS : va_S (va_A (wsOf G.2.1 ad0 D0) s.heap.size) s.heap H locs) (hl : LOK ad G.2.2 (nL k) lsA ls) (hp : pot D0 ≤ pot D) (hp2 : pot D ≤ pot D2)
    (hnl : ls.all nvB = true) (hnr : rest.all nvB = true)
    (hrun : va_Run p l e (rmD d (pot D1 - pot D0)) s m args below meth c H locs (pot D - pot D0) (2 * (pot D - pot D0)) (pot D2 - pot D) (2 * (pot D2 - pot D)) (F0 m pc lsA st0) (rest.map (cv ad G.2.2)) (MC G ad D H.size r D2 As) (va_A (wsOf G.2.1 ad D) H.size))
    (next : PS p l e s m args below meth c G d k ad0 D0 rr D1 (pc + 3) ls (r.toList ++ rest) D2) :
    W p l e (rmD d (pot D1 - pot D0)) s m args below meth c H locs (pot D - pot D0) (2 * (pot D - pot D0)) (MQ below (MC G ad0 D0 s.heap.size rr D1) args s (pot D1 - pot D0) (2 * (pot D1 - pot D0)) (va_A (wsOf G.2.1 ad0 D0) s.heap.size)) (F0 m pc lsA st0) := by
  have hF : ∀ q, va_A (wsOf G.2.1 ad D) H.size q → va_A (wsOf G.2.1 ad0 D0) s.heap.size q := by
    intro q hq
    rcases hq with ⟨j, e, hj⟩ | hq
    · exact hD.2 j _ hj
    · exact Or.inr (Nat.le_trans hS.1 hq)
  refine va_callg (A1 := va_A (wsOf G.2.1 ad D) H.size) (Qx := MX G ad D H.size r D2) hrun hS (fun q _ h => hF q h) hF (fun v t H1 locs1 ht hvm hX hz hkeep hS1 => ?_)
  obtain ⟨ad2, ha2, hv, hP1, hK1, hD1⟩ := hX
  have e1 : v.toList ++ rest.map (cv ad G.2.2) = (r.toList ++ rest).map (cv ad2 G.2.2) := by
    rw [hv, List.map_append, cv_agrees ha2 hnr]
    cases r <;> rfl
  rw [e1]
  refine W.cs (cells' := pot D2 - pot D0) (slots' := 2 * (pot D2 - pot D0)) (by omega) (by omega) ?_
  exact next.2 H1 locs1 ad2 lsA (agree.tr ha ha2) (by rw [← ht]; exact hP1) (hD1.weaken (fun _ _ _ h => hF _ h)) hS1 (hl.agree ha2 hnl) (Nat.le_trans hp hp2)
theorem jmp_ok {k pc : Nat} {i : Instr} {a b c d : Nat} (hk : k < mnames) (h : ins k pc = some (i, a, b, c, d)) : jOK pc i = true := by
  obtain ⟨_, _, _, h3⟩ := ins_dec hk h
  exact h3
theorem roc_str {o : Nat} (h1 : 2000 ≤ o) (h2 : o < 2010) : roc o = strB.getD (o - 2000) [] := by
  unfold roc; rw [if_neg (by omega), if_neg (by omega)]
theorem lenB_get {i : Nat} : lenB.getD i 0 = (strB.getD i []).length := by
  unfold lenB
  rw [List.getD_eq_getElem?_getD, List.getD_eq_getElem?_getD, List.getElem?_map]
  cases strB[i]? <;> rfl
theorem RO_arr {ad : Nat → Nat} {fv : Value} {A : Nat → Prop} {U : State} {H : Heap} {o : Nat} (h : RO ad fv A U H) (ho : roK o) : va_T .byte (ad o) (roc o).length (fun j => .int ((roc o).getD j 0)) A U H := by
  rcases ho with ⟨h1, h2⟩ | rfl | rfl
  · have h3 := (h.1.1 (o - 2000) (by omega)).2.2.2
    rw [roc_str h1 h2]
    rw [lenB_get] at h3
    have e : 2000 + (o - 2000) = o := by omega
    dsimp only at h3
    rw [e] at h3
    exact h3
  · exact h.2.2.2.2.1
  · exact h.2.2.2.2.2.2.1
theorem clsneAll : (List.range mnames).all (fun k => decide ((nY k).cls ≠ "")) = true := by decide +kernel
theorem clsne {k : Nat} (hk : k < mnames) : (nY k).cls ≠ "" := of_decide_eq_true (List.all_eq_true.mp clsneAll k (List.mem_range.mpr hk))
theorem good_of {k : Nat} {X : List Cond} (h : ∀ w ∈ X, w ∈ Tall) : GoodIn (wsm k) X := fun w hw => ⟨List.mem_cons_of_mem _ (h w hw), (goodTall w (h w hw)).2⟩
theorem wsm_in {k : Nat} (hk : k < mnames) : ∀ w ∈ wsm k, w ∈ Tall := fun w hw => (goodW k hk w hw).1
theorem rm_ok {d b x y : Nat} (h1 : 1 ≤ d) (h2 : nL b ≤ 19) : (rmD (d - 1) x).frames + 1 ≤ (rmD d y).frames ∧ 8 + (nL b + 11) + (rmD (d - 1) x).locals ≤ (rmD d y).locals := by
  constructor
  · show d - 1 + 1 ≤ d
    omega
  · show 8 + (nL b + 11) + 38 * (d - 1) ≤ 38 * d
    omega
theorem cat_le {ad : Nat → Nat} {fv : Value} (hf : fv.category = 1) {st : List Value} (h : st.all nvB = true) (hl : st.length ≤ 8) : ((st.map (cv ad fv)).map fun v => v.category).sum ≤ 8 := by
  have e : ((st.map (cv ad fv)).map fun v => v.category) = List.replicate st.length 1 := by
    apply List.eq_replicate_iff.mpr
    refine ⟨by simp, fun b hb => ?_⟩
    rw [List.map_map, List.mem_map] at hb
    obtain ⟨v, hv, rfl⟩ := hb
    refine c1_cat hf ?_
    have h1 := List.all_eq_true.mp h v hv
    cases v <;> first | rfl | cases h1
  rw [e]
  simp
  exact hl
theorem st_split {b : Nat} {st : List Value} {o : Nat} (hn : nA b ≤ st.length) (h1 : 1 ≤ nA b) (h0 : ((st.take (nA b)).reverse)[0]? = some (.ref o)) : ∃ As : List Value, (st.take (nA b)).reverse = .ref o :: As ∧ As.length = nA b - 1 ∧ st = As.reverse ++ .ref o :: st.drop (nA b) := by
  cases hr : (st.take (nA b)).reverse with
  | nil => rw [hr] at h0; simp at h0
  | cons x As =>
    rw [hr] at h0
    simp at h0
    subst h0
    have hlen : ((st.take (nA b)).reverse).length = nA b := by simp; omega
    rw [hr] at hlen
    refine ⟨As, rfl, by simp at hlen; omega, ?_⟩
    have h2 : st.take (nA b) = As.reverse ++ [.ref o] := by
      rw [← List.reverse_reverse (st.take (nA b)), hr]
      simp
    have h3 := List.take_append_drop (nA b) st
    rw [h2, List.append_assoc] at h3
    exact h3.symm
/-- the receiver of a call stands in the heap -/
theorem recv_ok {s : State} {G : Gp} {ad0 ad : Nat → Nat} {D D0 : Mm} {H : Heap} {locs : List Loc} {o : Nat} (ha : agree ad0 ad) (hK : va_K G.1 vwCl (tysA G.2.1) s) (hRO0 : RO ad0 G.2.2 (va_A (wsOf G.2.1 ad0 D0) s.heap.size) s s.heap) (hP : va_P G.1 vwCl (wsOf G.2.1 ad D) H) (hS : va_S (va_A (wsOf G.2.1 ad0 D0) s.heap.size) s.heap H locs) (ho : o < 1010) (hr : rcN (rk o) ≠ "") :
    ∃ cell : Cell, H[ad o]? = some cell ∧ cell.vm.isStatics = false ∧ s.vm.findClass (rcN (rk o)) = some cell.cls := by
  unfold rk at hr ⊢
  by_cases h : 1000 ≤ o ∧ o < 1010
  · rw [if_pos h] at hr ⊢
    have hE := (RO.agree ha hRO0).1
    have h2 := vk_recv hE (i := o - 1000) (by omega) hS
    have eo : 1000 + (o - 1000) = o := by omega
    rw [eo] at h2
    exact h2
  · rw [if_neg h] at hr ⊢
    have hlt : (sh o).1 < 20 := by
      rcases Nat.lt_or_ge (sh o).1 20 with q | q
      · exact q
      · refine absurd ?_ hr
        unfold rcN
        rw [if_neg ?_]
        · rw [List.getElem?_eq_none (by simp [vwCl]; omega)]
          rfl
        · intro e
          have ho2 : o < NC := sh_lt (by omega)
          have hm : sh o ∈ shL := by
            unfold sh
            rw [List.getD_eq_getElem?_getD, List.getElem?_eq_getElem (by rw [shAll.1]; exact ho2)]
            exact List.getElem_mem _
          have h9 : shL.all (fun s => !decide (s.1 = 25)) = true := by decide +kernel
          have := List.all_eq_true.mp h9 _ hm
          rw [e] at this
          cases this
    obtain ⟨-, q, hq, -⟩ := sh_cls hlt
    have ho2 : o < NC := sh_lt (by omega)
    obtain ⟨cell, h1, h2, h3⟩ := va_recv hK hP (ci := (sh o).1) (q0 := o) (fs := (List.range (sh o).2.1).map (fld ad D o (sh o).2.2)) hq (by rw [ws_get ho2, cell_obj hlt])
    refine ⟨cell, h1, h2, ?_⟩
    unfold rcN
    rw [if_neg (by omega), hq]
    exact h3
set_option maxHeartbeats 4000000 in
theorem snd_stat {p : Program} {l : Launch} {e : Env} {s : State} {m : MethodId} {args : Array Value} {below : List Frame} {meth : Method} {c : Code} {G : Gp} {d k : Nat} {ad0 : Nat → Nat} {D0 : Mm} {rr : Option Value} {D1 : Mm} (IH : Snd l G d) (hd1 : ∀ b a D Q, Ct d b a D Q → 1 ≤ d) (hk : k < mnames)
    (hx : p.tables.exec = Jvm.exec) (hb : c.code = nB k) (hml : c.maxLocals = nL k) (hown : s.vm.findClass (cN (nO k)) = some m.cls) (hts : ∀ w ∈ wsm k, w.before args s = true)
    (hK : va_K G.1 vwCl (tysA G.2.1) s) (hRO0 : RO ad0 G.2.2 (va_A (wsOf G.2.1 ad0 D0) s.heap.size) s s.heap)
    {pc : Nat} {ls st : List Value} {D : Mm} {idx a b cc dd : Nat}
    (hi : ins k pc = some (.invokestatic idx, a, b, cc, dd)) (h : b < mnames ∧ cc = 1 ∧ callA (Ct d) b ls st D (fun st2 D1x => PS p l e s m args below meth c G d k ad0 D0 rr D1 (pc + 3) ls st2 D1x)) : PS p l e s m args below meth c G d k ad0 D0 rr D1 pc ls st D := by
  obtain ⟨hbm, hcc, hn, hnl, hnr, h8, -, h⟩ := h
  have hf : G.2.2.category = 1 := hRO0.2.2.2.2.2.2.2.2
  obtain ⟨r, D2, hnext, hp2, hC⟩ := Ct_exact d _ _ _ _ h
  have hd := hd1 _ _ _ _ hC
  obtain ⟨hlink, -, g1, -, -⟩ := call_fact hk hbm (Or.inr (Or.inl rfl)) hi
  have hst := g1 hcc
  obtain ⟨m1, m2, m3, m4, m5, m6, m7, m8, m9, m10⟩ := mfact hbm
  rw [if_pos hst] at m2 m6
  refine ⟨Nat.le_trans hp2 hnext.1, fun H locs ad lsA ha hP hD hS hl hp => ?_⟩
  have hM := IH b ((st.take (nA b)).reverse) D r D2 ad H.size hC
  have hA : ∀ q : Nat, s.heap.size ≤ q → va_A (wsOf G.2.1 ad0 D0) s.heap.size q := fun q h => Or.inr h
  have hpre := MP_pre (as := ((st.take (nA b)).reverse).map (cv ad G.2.2)) hP hK hD hS hA (RO.agree ha hRO0)
  have hpd : pot D2 ≤ pot D1 := hnext.1
  refine call_arm (As := (((st.take (nA b)).reverse).map (cv ad G.2.2)).toArray) ha hP hD hS hl hp hp2 hnl hnr ?_ hnext
  refine va_runS (As := ((st.take (nA b)).reverse).map (cv ad G.2.2)) (n := nA b) (y := nY b) (bytes := nB b) (maxL := nL b) (ret := nR b) ⟨hx, hb, hml, hown, hts⟩ hM ?_ ⟨MP_blind, hpre⟩ rfl (by simp; omega) hl.1 ?_ (lv_room (cat_le hf hnr h8)) (ins_d hk hi rfl) ⟨by show _ ≤ pot D1 - pot D0; omega, by show _ ≤ 2 * (pot D1 - pot D0); omega⟩
  · refine ⟨callB_of (nA b) hts (good_of (wsm_in hbm)) rfl rfl rfl (hts _ (List.mem_cons_of_mem _ m1)) (hts _ (List.mem_cons_of_mem _ hlink)) ⟨m4.1, m4.2, m6⟩ (rm_ok hd m9), hts _ (List.mem_cons_of_mem _ m2)⟩
  · show st.map (cv ad G.2.2) = _
    rw [← List.map_reverse, List.reverse_reverse, ← List.map_append, List.take_append_drop]
set_option maxHeartbeats 4000000 in
theorem snd_virt {p : Program} {l : Launch} {e : Env} {s : State} {m : MethodId} {args : Array Value} {below : List Frame} {meth : Method} {c : Code} {G : Gp} {d k : Nat} {ad0 : Nat → Nat} {D0 : Mm} {rr : Option Value} {D1 : Mm} (IH : Snd l G d) (hd1 : ∀ b a D Q, Ct d b a D Q → 1 ≤ d) (hk : k < mnames)
    (hx : p.tables.exec = Jvm.exec) (hb : c.code = nB k) (hml : c.maxLocals = nL k) (hown : s.vm.findClass (cN (nO k)) = some m.cls) (hts : ∀ w ∈ wsm k, w.before args s = true)
    (hK : va_K G.1 vwCl (tysA G.2.1) s) (hRO0 : RO ad0 G.2.2 (va_A (wsOf G.2.1 ad0 D0) s.heap.size) s s.heap)
    {pc : Nat} {ls st : List Value} {D : Mm} {idx a b cc dd : Nat}
    (hi : ins k pc = some (.invokevirtual idx, a, b, cc, dd)) (h : b < mnames ∧ (cc = 0 ∨ cc = 2) ∧ callA (Ct d) b ls st D (fun st2 D1x => PS p l e s m args below meth c G d k ad0 D0 rr D1 (pc + 3) ls st2 D1x)) : PS p l e s m args below meth c G d k ad0 D0 rr D1 pc ls st D := by
  obtain ⟨hbm, hcc, hn, hnl, hnr, h8, hrecv, h⟩ := h
  have hf : G.2.2.category = 1 := hRO0.2.2.2.2.2.2.2.2
  obtain ⟨r, D2, hnext, hp2, hC⟩ := Ct_exact d _ _ _ _ h
  have hd := hd1 _ _ _ _ hC
  obtain ⟨hlink, g0, -, g2, -⟩ := call_fact hk hbm (Or.inl rfl) hi
  have hst : nS b = 0 := hcc.elim (fun q => (g0 q).1) (fun q => (g2 q).1)
  obtain ⟨m1, m2, m3, m4, m5, m6, m7, m8, m9, m10⟩ := mfact hbm
  rw [if_neg (by omega)] at m2 m6
  obtain ⟨o, ho, hrk, ho2⟩ := hrecv hst
  obtain ⟨As, hAs, hAl, hspl⟩ := st_split hn (by omega) ho
  refine ⟨Nat.le_trans hp2 hnext.1, fun H locs ad lsA ha hP hD hS hl hp => ?_⟩
  have hM := IH b ((st.take (nA b)).reverse) D r D2 ad H.size hC
  have hA : ∀ q : Nat, s.heap.size ≤ q → va_A (wsOf G.2.1 ad0 D0) s.heap.size q := fun q h => Or.inr h
  have hpre := MP_pre (as := ((st.take (nA b)).reverse).map (cv ad G.2.2)) hP hK hD hS hA (RO.agree ha hRO0)
  have hpd : pot D2 ≤ pot D1 := hnext.1
  rw [hAs] at hM hpre
  refine call_arm (As := (Value.ref (ad o) :: As.map (cv ad G.2.2)).toArray) ha hP hD hS hl hp hp2 hnl hnr ?_ hnext
  have hstk : (F0 m pc lsA (st.map (cv ad G.2.2))).stack = (As.map (cv ad G.2.2)).reverse ++ .ref (ad o) :: (st.drop (nA b)).map (cv ad G.2.2) := by
    show st.map (cv ad G.2.2) = _
    conv => lhs; rw [hspl]
    rw [List.map_append, List.map_reverse]
    rfl
  rcases hcc with hcc | hcc
  · obtain ⟨-, g5, g6⟩ := g0 hcc
    have hrc : rcN (rk o) = (nY b).cls := by rw [hrk]; exact g5
    have hcell := recv_ok ha hK hRO0 hP hS ho2 (o := o) (by rw [hrc]; exact clsne hbm)
    rw [hrc] at hcell
    refine va_runV (As := As.map (cv ad G.2.2)) (n := nA b - 1) (y := nY b) (bytes := nB b) (maxL := nL b) (ret := nR b) (C := (nY b).cls) ⟨hx, hb, hml, hown, hts⟩ hM ?_ ⟨MP_blind, hcell, hpre⟩ rfl (by simp; omega) hl.1 hstk (lv_room (cat_le hf hnr h8)) (ins_d hk hi rfl) ⟨by show _ ≤ pot D1 - pot D0; omega, by show _ ≤ 2 * (pot D1 - pot D0); omega⟩
    refine cwV (nA b - 1) hts (good_of ?_) rfl rfl rfl ⟨rfl, m4.1, m4.2, m6⟩ (rm_ok hd m9)
    intro w hw
    unfold wsV at hw
    simp only [List.cons_append, List.nil_append, List.mem_cons] at hw
    rcases hw with rfl | rfl | rfl | rfl | hw
    · exact hlink
    · exact m2
    · exact g6
    · exact m1
    · exact wsm_in hbm w (by simpa using hw)
  · obtain ⟨-, g5, g6, g7⟩ := g2 hcc
    have hrc : rcN (rk o) = "java/lang/StringBuilder" := by rw [hrk]; exact g5
    have hcell := recv_ok ha hK hRO0 hP hS ho2 (o := o) (by rw [hrc]; decide)
    rw [hrc] at hcell
    refine va_runU (As := As.map (cv ad G.2.2)) (n := nA b - 1) (x := nY b) (y := nY b) (owner := (nY b).cls) (bytes := nB b) (maxL := nL b) (ret := nR b) (C := "java/lang/StringBuilder") ⟨hx, hb, hml, hown, hts⟩ hM ?_ ⟨MP_blind, hcell, hpre⟩ rfl (by simp; omega) hl.1 hstk (lv_room (cat_le hf hnr h8)) (ins_d hk hi rfl) ⟨by show _ ≤ pot D1 - pot D0; omega, by show _ ≤ 2 * (pot D1 - pot D0); omega⟩
    refine va_cwU (nA b - 1) hts (good_of ?_) rfl rfl rfl rfl ⟨m4.1, m4.2, m6⟩ (rm_ok hd m9)
    intro w hw
    unfold va_wsU at hw
    simp only [List.cons_append, List.nil_append, List.mem_cons] at hw
    rcases hw with rfl | rfl | rfl | rfl | rfl | hw
    · exact hlink
    · exact g7
    · exact g6
    · exact m2
    · exact m1
    · exact wsm_in hbm w (by simpa using hw)
set_option maxHeartbeats 4000000 in
theorem snd_spec {p : Program} {l : Launch} {e : Env} {s : State} {m : MethodId} {args : Array Value} {below : List Frame} {meth : Method} {c : Code} {G : Gp} {d k : Nat} {ad0 : Nat → Nat} {D0 : Mm} {rr : Option Value} {D1 : Mm} (IH : Snd l G d) (hd1 : ∀ b a D Q, Ct d b a D Q → 1 ≤ d) (hk : k < mnames)
    (hx : p.tables.exec = Jvm.exec) (hb : c.code = nB k) (hml : c.maxLocals = nL k) (hown : s.vm.findClass (cN (nO k)) = some m.cls) (hts : ∀ w ∈ wsm k, w.before args s = true)
    (hK : va_K G.1 vwCl (tysA G.2.1) s) (hRO0 : RO ad0 G.2.2 (va_A (wsOf G.2.1 ad0 D0) s.heap.size) s s.heap)
    {pc : Nat} {ls st : List Value} {D : Mm} {idx a b cc dd : Nat}
    (hi : ins k pc = some (.invokespecial idx, a, b, cc, dd)) (h : b < mnames ∧ cc = 3 ∧ callA (Ct d) b ls st D (fun st2 D1x => PS p l e s m args below meth c G d k ad0 D0 rr D1 (pc + 3) ls st2 D1x)) : PS p l e s m args below meth c G d k ad0 D0 rr D1 pc ls st D := by
  obtain ⟨hbm, hcc, hn, hnl, hnr, h8, hrecv, h⟩ := h
  have hf : G.2.2.category = 1 := hRO0.2.2.2.2.2.2.2.2
  obtain ⟨r, D2, hnext, hp2, hC⟩ := Ct_exact d _ _ _ _ h
  have hd := hd1 _ _ _ _ hC
  obtain ⟨hlink, -, -, -, g3⟩ := call_fact hk hbm (Or.inr (Or.inr rfl)) hi
  obtain ⟨hst, g5, g6, g7⟩ := g3 hcc
  obtain ⟨m1, m2, m3, m4, m5, m6, m7, m8, m9, m10⟩ := mfact hbm
  rw [if_neg (by omega)] at m2 m6
  obtain ⟨o, ho, hrk, ho2⟩ := hrecv hst
  obtain ⟨As, hAs, hAl, hspl⟩ := st_split hn (by omega) ho
  refine ⟨Nat.le_trans hp2 hnext.1, fun H locs ad lsA ha hP hD hS hl hp => ?_⟩
  have hM := IH b ((st.take (nA b)).reverse) D r D2 ad H.size hC
  have hA : ∀ q : Nat, s.heap.size ≤ q → va_A (wsOf G.2.1 ad0 D0) s.heap.size q := fun q h => Or.inr h
  have hpre := MP_pre (as := ((st.take (nA b)).reverse).map (cv ad G.2.2)) hP hK hD hS hA (RO.agree ha hRO0)
  have hpd : pot D2 ≤ pot D1 := hnext.1
  rw [hAs] at hM hpre
  refine call_arm (As := (Value.ref (ad o) :: As.map (cv ad G.2.2)).toArray) ha hP hD hS hl hp hp2 hnl hnr ?_ hnext
  have hstk : (F0 m pc lsA (st.map (cv ad G.2.2))).stack = (As.map (cv ad G.2.2)).reverse ++ .ref (ad o) :: (st.drop (nA b)).map (cv ad G.2.2) := by
    show st.map (cv ad G.2.2) = _
    conv => lhs; rw [hspl]
    rw [List.map_append, List.map_reverse]
    rfl
  have hrc : rcN (rk o) = "java/lang/StringBuilder" := by rw [hrk]; exact g5
  have hcell := recv_ok ha hK hRO0 hP hS ho2 (o := o) (by rw [hrc]; decide)
  rw [hrc] at hcell
  refine va_runSU (As := As.map (cv ad G.2.2)) (n := nA b - 1) (y := nY b) (bytes := nB b) (maxL := nL b) (ret := nR b) (C := "java/lang/StringBuilder") (hK.1 0 _ rfl).2 ⟨hx, hb, hml, hown, hts⟩ hM ?_ ⟨MP_blind, hcell, hpre⟩ rfl (by simp; omega) hl.1 hstk (lv_room (cat_le hf hnr h8)) (ins_d hk hi rfl) ⟨by show _ ≤ pot D1 - pot D0; omega, by show _ ≤ 2 * (pot D1 - pot D0); omega⟩
  refine va_cwSU (nA b - 1) hts (good_of ?_) rfl rfl rfl ⟨m5, m6⟩ (rm_ok hd m9)
  intro w hw
  unfold va_wsSU at hw
  simp only [List.cons_append, List.nil_append, List.mem_cons] at hw
  rcases hw with rfl | rfl | rfl | rfl | rfl | hw
  · exact hlink
  · exact g6
  · exact g7
  · exact m2
  · exact m1
  · exact wsm_in hbm w (by simpa using hw)
set_option maxHeartbeats 8000000 in
theorem snd_step {p : Program} {l : Launch} {e : Env} {s : State} {m : MethodId} {args : Array Value} {below : List Frame} {meth : Method} {c : Code} {G : Gp} {d k : Nat} {ad0 : Nat → Nat} {D0 : Mm} {rr : Option Value} {D1 : Mm} (IH : Snd l G d) (hd1 : ∀ b a D Q, Ct d b a D Q → 1 ≤ d) (hk : k < mnames)
    (hx : p.tables.exec = Jvm.exec) (hb : c.code = nB k) (hml : c.maxLocals = nL k) (hr : meth.sig.returnType = nR k) (hown : s.vm.findClass (cN (nO k)) = some m.cls) (hts : ∀ w ∈ wsm k, w.before args s = true) (hlocks : meth.locks = false)
    (hK : va_K G.1 vwCl (tysA G.2.1) s) (hRO0 : RO ad0 G.2.2 (va_A (wsOf G.2.1 ad0 D0) s.heap.size) s s.heap)
    (pc : Nat) (ls st : List Value) (D : Mm) (h : Step (Ct d) k (fun r2 D2 => r2 = rr ∧ D2 = D1) (PS p l e s m args below meth c G d k ad0 D0 rr D1) pc ls st D) : PS p l e s m args below meth c G d k ad0 D0 rr D1 pc ls st D := by
  have hf : G.2.2.category = 1 := hRO0.2.2.2.2.2.2.2.2
  have htT : ∀ w ∈ Tall, w.before args s = true := fun w hw => hts w (List.mem_cons_of_mem _ hw)
  cases hi : ins k pc with
  | none => unfold Step at h; rw [hi] at h; exact h.elim
  | some e0 =>
    obtain ⟨i, a, b, cc, dd⟩ := e0
    unfold Step at h
    rw [hi] at h
    cases i
    case iconst =>
      refine ⟨h.1, fun H locs ad lsA ha hP hD hS hl hp => ?_⟩
      exact lv_iconst hx hb (ins_d hk hi rfl) rfl (h.2 H locs ad lsA ha hP hD hS hl hp)
    case bipush =>
      refine ⟨h.1, fun H locs ad lsA ha hP hD hS hl hp => ?_⟩
      exact lv_bipush hx hb (ins_d hk hi rfl) rfl (h.2 H locs ad lsA ha hP hD hS hl hp)
    case sipush =>
      refine ⟨h.1, fun H locs ad lsA ha hP hD hS hl hp => ?_⟩
      exact lv_sipush hx hb (ins_d hk hi rfl) rfl (h.2 H locs ad lsA ha hP hD hS hl hp)
    case goto =>
      refine ⟨h.1, fun H locs ad lsA ha hP hD hS hl hp => ?_⟩
      exact lv_goto hx hb (ins_d hk hi rfl) (tg_eq (of_decide_eq_true (jmp_ok hk hi))) (h.2 H locs ad lsA ha hP hD hS hl hp)
    case iload_n =>
      obtain ⟨v, e1, h⟩ := lI_spec h
      refine ⟨h.1, fun H locs ad lsA ha hP hD hS hl hp => ?_⟩
      exact lv_iload_n hx hb (ins_d hk hi rfl) rfl (hl.get e1 (by simp)) (h.2 H locs ad lsA ha hP hD hS hl hp)
    case iload =>
      obtain ⟨v, e1, h⟩ := lI_spec h
      refine ⟨h.1, fun H locs ad lsA ha hP hD hS hl hp => ?_⟩
      exact lv_iload hx hb (ins_d hk hi rfl) (hl.get e1 (by simp)) (h.2 H locs ad lsA ha hP hD hS hl hp)
    case aload_n =>
      obtain ⟨v, e1, h⟩ := lA_spec h
      refine ⟨h.1, fun H locs ad lsA ha hP hD hS hl hp => ?_⟩
      exact lv_aload_n hx hb (ins_d hk hi rfl) rfl (hl.get e1 (by simp)) (h.2 H locs ad lsA ha hP hD hS hl hp)
    case aload =>
      obtain ⟨v, e1, h⟩ := lA_spec h
      refine ⟨h.1, fun H locs ad lsA ha hP hD hS hl hp => ?_⟩
      exact lv_aload hx hb (ins_d hk hi rfl) (hl.get e1 (by simp)) (h.2 H locs ad lsA ha hP hD hS hl hp)
    case istore_n =>
      obtain ⟨v, r, rfl, h0, h⟩ := sI_spec h
      refine ⟨h.1, fun H locs ad lsA ha hP hD hS hl hp => ?_⟩
      exact lv_istore_n hx hb (ins_d hk hi rfl) rfl hl.has (by rw [← hl.2.2.1]; exact h0) rfl (fun lsB hB => h.2 H locs ad lsB ha hP hD hS (hl.set hf h0 rfl hB) hp)
    case istore =>
      obtain ⟨v, r, rfl, h0, h⟩ := sI_spec h
      refine ⟨h.1, fun H locs ad lsA ha hP hD hS hl hp => ?_⟩
      exact lv_istore hx hb (ins_d hk hi rfl) hl.has (by rw [← hl.2.2.1]; exact h0) rfl (fun lsB hB => h.2 H locs ad lsB ha hP hD hS (hl.set hf h0 rfl hB) hp)
    case astore_n =>
      obtain ⟨v, r, rfl, h0, h⟩ := sA_spec h
      refine ⟨h.1, fun H locs ad lsA ha hP hD hS hl hp => ?_⟩
      exact lv_astore_n hx hb (ins_d hk hi rfl) rfl hl.has (by rw [← hl.2.2.1]; exact h0) rfl (fun lsB hB => h.2 H locs ad lsB ha hP hD hS (hl.set hf h0 rfl hB) hp)
    case astore =>
      obtain ⟨v, r, rfl, h0, h⟩ := sA_spec h
      refine ⟨h.1, fun H locs ad lsA ha hP hD hS hl hp => ?_⟩
      exact lv_astore hx hb (ins_d hk hi rfl) hl.has (by rw [← hl.2.2.1]; exact h0) rfl (fun lsB hB => h.2 H locs ad lsB ha hP hD hS (hl.set hf h0 rfl hB) hp)
    case iinc x n =>
      obtain ⟨v, e1, h⟩ := lI_spec h
      have h0 : x < ls.length := (List.getElem?_eq_some_iff.mp e1).1
      refine ⟨h.1, fun H locs ad lsA ha hP hD hS hl hp => ?_⟩
      obtain ⟨kk, hkk⟩ := List.getElem?_of_mem (lpair_in (ad := ad) (fv := G.2.2) (q := (x, .int v)) |>.mpr ⟨_, e1, by simp, rfl⟩)
      exact lv_iinc hx hb (ins_d hk hi rfl) hl.has hkk rfl (by rw [← hl.2.2.1]; exact h0) rfl (fun lsB hB => h.2 H locs ad lsB ha hP hD hS (hl.set hf h0 rfl hB) hp)
    case iadd =>
      obtain ⟨x, y, r, rfl, h⟩ := sII_spec h
      refine ⟨h.1, fun H locs ad lsA ha hP hD hS hl hp => ?_⟩
      exact lv_iadd hx hb (ins_d hk hi rfl) (h.2 H locs ad lsA ha hP hD hS hl hp)
    case isub =>
      obtain ⟨x, y, r, rfl, h⟩ := sII_spec h
      refine ⟨h.1, fun H locs ad lsA ha hP hD hS hl hp => ?_⟩
      exact lv_isub hx hb (ins_d hk hi rfl) (h.2 H locs ad lsA ha hP hD hS hl hp)
    case imul =>
      obtain ⟨x, y, r, rfl, h⟩ := sII_spec h
      refine ⟨h.1, fun H locs ad lsA ha hP hD hS hl hp => ?_⟩
      exact lv_imul hx hb (ins_d hk hi rfl) (h.2 H locs ad lsA ha hP hD hS hl hp)
    case iand =>
      obtain ⟨x, y, r, rfl, h⟩ := sII_spec h
      refine ⟨h.1, fun H locs ad lsA ha hP hD hS hl hp => ?_⟩
      exact lv_iand hx hb (ins_d hk hi rfl) (h.2 H locs ad lsA ha hP hD hS hl hp)
    case ior =>
      obtain ⟨x, y, r, rfl, h⟩ := sII_spec h
      refine ⟨h.1, fun H locs ad lsA ha hP hD hS hl hp => ?_⟩
      exact lv_ior hx hb (ins_d hk hi rfl) (h.2 H locs ad lsA ha hP hD hS hl hp)
    case ishr =>
      obtain ⟨x, y, r, rfl, h⟩ := sII_spec h
      refine ⟨h.1, fun H locs ad lsA ha hP hD hS hl hp => ?_⟩
      exact lv_ishr hx hb (ins_d hk hi rfl) (h.2 H locs ad lsA ha hP hD hS hl hp)
    case idiv =>
      obtain ⟨x, y, r, rfl, h0, h⟩ := sII_spec h
      refine ⟨h.1, fun H locs ad lsA ha hP hD hS hl hp => ?_⟩
      exact lv_idiv hx hb (ins_d hk hi rfl) h0 (h.2 H locs ad lsA ha hP hD hS hl hp)
    case irem =>
      obtain ⟨x, y, r, rfl, h0, h⟩ := sII_spec h
      refine ⟨h.1, fun H locs ad lsA ha hP hD hS hl hp => ?_⟩
      exact lv_irem hx hb (ins_d hk hi rfl) h0 (h.2 H locs ad lsA ha hP hD hS hl hp)
    case ineg =>
      obtain ⟨x, r, rfl, h⟩ := sI_spec h
      refine ⟨h.1, fun H locs ad lsA ha hP hD hS hl hp => ?_⟩
      exact lv_ineg hx hb (ins_d hk hi rfl) (h.2 H locs ad lsA ha hP hD hS hl hp)
    case i2b =>
      obtain ⟨x, r, rfl, h⟩ := sI_spec h
      refine ⟨h.1, fun H locs ad lsA ha hP hD hS hl hp => ?_⟩
      exact lv_i2b hx hb (ins_d hk hi rfl) rfl (h.2 H locs ad lsA ha hP hD hS hl hp)
    case i2c =>
      obtain ⟨x, r, rfl, h⟩ := sI_spec h
      refine ⟨h.1, fun H locs ad lsA ha hP hD hS hl hp => ?_⟩
      exact lv_i2c hx hb (ins_d hk hi rfl) rfl (h.2 H locs ad lsA ha hP hD hS hl hp)
    case dup =>
      match st, h with
      | v :: r, ⟨h0, h⟩ =>
        refine ⟨h.1, fun H locs ad lsA ha hP hD hS hl hp => ?_⟩
        exact lv_dup hx hb (ins_d hk hi rfl) (c1_cat hf h0) (h.2 H locs ad lsA ha hP hD hS hl hp)
    case pop =>
      match st, h with
      | v :: r, ⟨h0, h⟩ =>
        refine ⟨h.1, fun H locs ad lsA ha hP hD hS hl hp => ?_⟩
        exact lv_pop hx hb (ins_d hk hi rfl) (c1_cat hf h0) (h.2 H locs ad lsA ha hP hD hS hl hp)
    case dup_x1 =>
      match st, h with
      | v :: w :: r, ⟨h0, h1, h⟩ =>
        refine ⟨h.1, fun H locs ad lsA ha hP hD hS hl hp => ?_⟩
        exact lv_dup_x1 hx hb (ins_d hk hi rfl) (c1_cat hf h0) (c1_cat hf h1) (h.2 H locs ad lsA ha hP hD hS hl hp)
    case dup2 =>
      match st, h with
      | v :: w :: r, ⟨h0, h1, h⟩ =>
        refine ⟨h.1, fun H locs ad lsA ha hP hD hS hl hp => ?_⟩
        exact lv_dup2_11 hx hb (ins_d hk hi rfl) (c1_cat hf h0) (c1_cat hf h1) (h.2 H locs ad lsA ha hP hD hS hl hp)
    case ifCond cd off =>
      obtain ⟨x, r, rfl, hht, hhf⟩ := sI_spec h
      have hj := tg_eq (of_decide_eq_true (jmp_ok hk hi))
      refine ⟨(Classical.em (icmp cd x 0)).elim (fun q => (hht q).1) (fun q => (hhf q).1), fun H locs ad lsA ha hP hD hS hl hp => ?_⟩
      have k1 := fun q => (hht q).2 H locs ad lsA ha hP hD hS hl hp
      have k2 := fun q => (hhf q).2 H locs ad lsA ha hP hD hS hl hp
      cases cd
      case eq => exact lv_if_eq hx hb (ins_d hk hi rfl) hj k1 k2
      case ne => exact lv_if_ne hx hb (ins_d hk hi rfl) hj k1 (fun q => k2 (fun z => z q))
      case lt => exact lv_if_lt hx hb (ins_d hk hi rfl) hj k1 k2
      case ge => exact lv_if_ge hx hb (ins_d hk hi rfl) hj k1 k2
      case gt => exact lv_if_gt hx hb (ins_d hk hi rfl) hj k1 k2
      case le => exact lv_if_le hx hb (ins_d hk hi rfl) hj k1 k2
    case if_icmp cd off =>
      obtain ⟨x, y, r, rfl, hht, hhf⟩ := sII_spec h
      have hj := tg_eq (of_decide_eq_true (jmp_ok hk hi))
      refine ⟨(Classical.em (icmp cd x y)).elim (fun q => (hht q).1) (fun q => (hhf q).1), fun H locs ad lsA ha hP hD hS hl hp => ?_⟩
      have k1 := fun q => (hht q).2 H locs ad lsA ha hP hD hS hl hp
      have k2 := fun q => (hhf q).2 H locs ad lsA ha hP hD hS hl hp
      cases cd
      case eq => exact lv_icmp_eq hx hb (ins_d hk hi rfl) hj k1 k2
      case ne => exact lv_icmp_ne hx hb (ins_d hk hi rfl) hj k1 (fun q => k2 (fun z => z q))
      case lt => exact lv_icmp_lt hx hb (ins_d hk hi rfl) hj k1 k2
      case ge => exact lv_icmp_ge hx hb (ins_d hk hi rfl) hj k1 k2
      case gt => exact lv_icmp_gt hx hb (ins_d hk hi rfl) hj k1 k2
      case le => exact lv_icmp_le hx hb (ins_d hk hi rfl) hj k1 k2
    case tableswitch dv lo hv os =>
      obtain ⟨x, r, rfl, t, ht, h⟩ := sI_spec h
      refine ⟨h.1, fun H locs ad lsA ha hP hD hS hl hp => ?_⟩
      obtain ⟨L, hdec, -, hj⟩ := ins_dec hk hi
      simp only [jOK, Bool.and_eq_true, decide_eq_true_eq, List.all_eq_true] at hj
      unfold tsel at ht
      by_cases hq : x.toInt < lo ∨ hv < x.toInt
      · rw [if_pos hq] at ht
        cases ht
        exact lv_tableOut hx hb hdec hq (tg_eq hj.1) (h.2 H locs ad lsA ha hP hD hS hl hp)
      · rw [if_neg hq] at ht
        cases hof : os[(x.toInt - lo).toNat]? with
        | none => rw [hof] at ht; cases ht
        | some off =>
          rw [hof] at ht
          cases ht
          exact lv_tableIn hx hb hdec (fun z => hq (Or.inl z)) (fun z => hq (Or.inr z)) hof (tg_eq (hj.2 off (by
            have := Array.mem_of_getElem? hof
            exact this.val))) (h.2 H locs ad lsA ha hP hD hS hl hp)
    case getfield idx =>
      obtain ⟨o, r, rfl, h⟩ := sA_spec h
      have h : gfA _ b cc pc ls D o r := h
      unfold gfA at h
      by_cases hb25 : b = 25
      · rw [if_pos hb25] at h
        obtain ⟨h0, h1, h⟩ := h
        obtain ⟨s1, s2⟩ := str_fact hk hb25 hi
        have eo : 1000 + (o - 1000) = o := by omega
        have eo2 : 2000 + (o - 1000) = o + 1000 := by omega
        by_cases hc : cc = 0
        · rw [if_pos hc] at h
          refine ⟨h.1, fun H locs ad lsA ha hP hD hS hl hp => ?_⟩
          have hE := ((RO.agree ha hRO0).1.1 (o - 1000) (by omega)).2.2.1
          dsimp only at hE
          rw [eo, eo2] at hE
          exact vk_getf hx hb hE hS hown (htT _ (s1 hc)) (fun _ z => z) (ins_d hk hi rfl) (h.2 H locs ad lsA ha hP hD hS hl hp)
        · rw [if_neg hc] at h
          obtain ⟨hc1, h⟩ := h
          refine ⟨h.1, fun H locs ad lsA ha hP hD hS hl hp => ?_⟩
          have hE := ((RO.agree ha hRO0).1.1 (o - 1000) (by omega)).2.1
          dsimp only at hE
          rw [eo] at hE
          exact vk_getf hx hb hE hS hown (htT _ (s2 hc1)) (fun _ z => z) (ins_d hk hi rfl) (h.2 H locs ad lsA ha hP hD hS hl hp)
      · rw [if_neg hb25] at h
        obtain ⟨h0, h⟩ := h
        obtain ⟨q, hq, hcN, hlink, -, -⟩ := fld_fact hk (Or.inl rfl) hb25 hi
        have hlt : b < 20 := by have h9 := (List.getElem?_eq_some_iff.mp hq).1; simp [vwCl] at h9; omega
        have hsh : (sh o).1 < 20 := by omega
        have ho : o < NC := sh_lt (by omega)
        obtain ⟨hq1, -⟩ := clsF b q hq
        obtain ⟨hlen, q2, hq2, hN⟩ := sh_cls hsh
        rw [h0, hq] at hq2
        cases hq2
        have hget : ∀ (ad : Nat → Nat), (wsOf G.2.1 ad D)[o]? = some (ad o, .inr (b, (List.range (sh o).2.1).map (fld ad D o (sh o).2.2))) := fun ad => by rw [ws_get ho, cell_obj hsh, h0]
        have hfl : ∀ (ad : Nat → Nat), ((List.range (sh o).2.1).map (fld ad D o (sh o).2.2))[cc]? = some (fld ad D o (sh o).2.2 cc) := fun ad => fs_get (by rw [← hN]; exact hcN)
        cases hrf : (sh o).2.2[cc]? with
        | none => rw [hrf] at h; exact h.elim
        | some z =>
          rw [hrf] at h
          cases z with
          | none =>
            refine ⟨h.1, fun H locs ad lsA ha hP hD hS hl hp => ?_⟩
            exact va_get hx hb htT hq1 hown hK hP o (hget ad) hq cc hcN (htT _ hlink) (fun _ z => z) (v := .int (D o cc)) (by rw [hfl]; unfold fld; rw [hrf]) (ins_d hk hi rfl) (h.2 H locs ad lsA ha hP hD hS hl hp)
          | some z =>
            refine ⟨h.1, fun H locs ad lsA ha hP hD hS hl hp => ?_⟩
            exact va_get hx hb htT hq1 hown hK hP o (hget ad) hq cc hcN (htT _ hlink) (fun _ z => z) (v := .ref (ad z)) (by rw [hfl]; unfold fld; rw [hrf]) (ins_d hk hi rfl) (h.2 H locs ad lsA ha hP hD hS hl hp)
    case putfield idx =>
      have h : pfA _ b cc dd pc ls D st := h
      unfold pfA at h
      match st, h with
      | .int v :: .ref (o : Nat) :: r, ⟨hb20, h0, hrf, hdd, h⟩ =>
        obtain ⟨q, hq, hcN, hlink, t0, t1⟩ := fld_fact hk (Or.inr rfl) (by omega) hi
        have hsh : (sh o).1 < 20 := by omega
        have ho : o < NC := sh_lt (by omega)
        obtain ⟨hq1, ty0, hty, hnm⟩ := clsF b q hq
        have hpt : pot (mup D o cc v) = pot D := pot_mup (Or.inl (by omega))
        refine ⟨by rw [← hpt]; exact h.1, fun H locs ad lsA ha hP hD hS hl hp => ?_⟩
        have hget : (wsOf G.2.1 ad D)[o]? = some (ad o, .inr (b, (List.range (sh o).2.1).map (fld ad D o (sh o).2.2))) := by rw [ws_get ho, cell_obj hsh, h0]
        have hset : (wsOf G.2.1 ad D).set o (ad o, .inr (b, ((List.range (sh o).2.1).map (fld ad D o (sh o).2.2)).set cc (.int v))) = wsOf G.2.1 ad (mup D o cc v) := ws_mup ho (by rw [cell_obj hsh, h0, fs_set hsh hrf])
        have hlen : cc < ((List.range (sh o).2.1).map (fld ad D o (sh o).2.2)).length := by
          have := (sh_cls hsh).1
          have h9 := (List.getElem?_eq_some_iff.mp hrf).1
          simp
          omega
        have hnext : ∀ (H1 : Heap) (locs1 : List Loc), va_P G.1 vwCl ((wsOf G.2.1 ad D).set o (ad o, .inr (b, ((List.range (sh o).2.1).map (fld ad D o (sh o).2.2)).set cc (.int v)))) H1 → va_D (va_A (wsOf G.2.1 ad0 D0) s.heap.size) ((wsOf G.2.1 ad D).set o (ad o, .inr (b, ((List.range (sh o).2.1).map (fld ad D o (sh o).2.2)).set cc (.int v)))) → va_S (va_A (wsOf G.2.1 ad0 D0) s.heap.size) s.heap H1 locs1 →
            W p l e (rmD d (pot D1 - pot D0)) s m args below meth c H1 locs1 (pot D - pot D0) (2 * (pot D - pot D0)) (MQ below (MC G ad0 D0 s.heap.size rr D1) args s (pot D1 - pot D0) (2 * (pot D1 - pot D0)) (va_A (wsOf G.2.1 ad0 D0) s.heap.size)) (F0 m (pc + 3) lsA (r.map (cv ad G.2.2))) := by
          intro H1 locs1 hP1 hD1 hS1
          rw [hset] at hP1 hD1
          have h9 := h.2 H1 locs1 ad lsA ha hP1 hD1 hS1 hl (by rw [hpt]; exact hp)
          rw [hpt] at h9
          exact h9
        rcases hdd with hdd | ⟨hdd, hv⟩
        · obtain ⟨e1, e2⟩ := t0 hdd
          exact va_put hx hb htT hq1 ty0 hty hnm hown hK hP hD hS o hget hq cc hcN (htT _ hlink) (fun _ z => z) e2 (ty := .int) (by rw [e1]; rfl) rfl rfl hlen (ins_d hk hi rfl) hnext
        · obtain ⟨e1, e2⟩ := t1 hdd
          exact va_put hx hb htT hq1 ty0 hty hnm hown hK hP hD hS o hget hq cc hcN (htT _ hlink) (fun _ z => z) e2 (ty := .boolean) (by rw [e1]; rfl) (by rcases hv with rfl | rfl <;> rfl) (by rcases hv with rfl | rfl <;> rfl) hlen (ins_d hk hi rfl) hnext
    case iaload =>
      obtain ⟨o, j, r, rfl, h0, h1, h⟩ := sIA_spec h
      have ho : o < NC := sh_lt (by omega)
      refine ⟨h.1, fun H locs ad lsA ha hP hD hS hl hp => ?_⟩
      exact va_iald hx hb hK hP o 0 (by rw [ws_get ho, cell_int h0]) rfl h1 (ins_d hk hi rfl) (h.2 H locs ad lsA ha hP hD hS hl hp)
    case aaload =>
      obtain ⟨o, j, r, rfl, h0, h1, q, hq, h⟩ := sIA_spec h
      have ho : o < NC := sh_lt (by omega)
      refine ⟨h.1, fun H locs ad lsA ha hP hD hS hl hp => ?_⟩
      refine va_aldq hx hb hK hP o 3 (by rw [ws_get ho, cell_refs h0]) rfl h1 (ins_d hk hi rfl) ?_
      have h9 := (h.2 H locs ad lsA ha hP hD hS hl hp)
      rw [hq]
      exact h9
    case iastore =>
      obtain ⟨o, j, x, r, rfl, h0, h1, h⟩ := sIIA_spec h
      have ho : o < NC := sh_lt (by omega)
      have hpt : pot (mup D o j.toNatClampNeg x) = pot D := pot_mup (Or.inl (by omega))
      refine ⟨by rw [← hpt]; exact h.1, fun H locs ad lsA ha hP hD hS hl hp => ?_⟩
      refine va_iast hx hb hK hP hD hS o 0 (by rw [ws_get ho, cell_int h0]) rfl h1 (ins_d hk hi rfl) (fun H1 locs1 hP1 hD1 hS1 => ?_)
      rw [ws_mup (D := D) (j := j.toNatClampNeg) (x := x) ho (by rw [cell_int h0, mup_same])] at hP1 hD1
      have h9 := h.2 H1 locs1 ad lsA ha hP1 hD1 hS1 hl (by rw [hpt]; exact hp)
      rw [hpt] at h9
      exact h9
    case baload =>
      obtain ⟨o, j, r, rfl, h⟩ := sIA_spec h
      rcases h with ⟨h0, h1, h⟩ | ⟨h0, h1, h1b, h⟩ | ⟨h0, h1, h⟩
      · have ho : o < NC := sh_lt (by omega)
        refine ⟨h.1, fun H locs ad lsA ha hP hD hS hl hp => ?_⟩
        exact va_zald hx hb hK hP o 1 (by rw [ws_get ho, cell_bool h0]) rfl h1 (ins_d hk hi rfl) (h.2 H locs ad lsA ha hP hD hS hl hp)
      · have ho : o < NC := sh_lt (by omega)
        refine ⟨h.1, fun H locs ad lsA ha hP hD hS hl hp => ?_⟩
        exact va_bald hx hb hK hP o 2 (by rw [ws_get ho, cell_byte h0]) rfl h1 (ins_d hk hi rfl) (h.2 H locs ad lsA ha hP hD hS hl hp)
      · refine ⟨h.1, fun H locs ad lsA ha hP hD hS hl hp => ?_⟩
        exact va_tb hx hb (RO_arr (RO.agree ha hRO0) h0) hS h1 rfl (ins_d hk hi rfl) (h.2 H locs ad lsA ha hP hD hS hl hp)
    case bastore =>
      obtain ⟨o, j, x, r, rfl, h⟩ := sIIA_spec h
      rcases h with ⟨h0, h1, h⟩ | ⟨h0, h1, h1b, h⟩
      · have ho : o < NC := sh_lt (by omega)
        have hpt : pot (mup D o j.toNatClampNeg (vp_nar .boolean x)) = pot D := pot_mup (Or.inl (by omega))
        refine ⟨by rw [← hpt]; exact h.1, fun H locs ad lsA ha hP hD hS hl hp => ?_⟩
        refine va_zast hx hb hK hP hD hS o 1 (by rw [ws_get ho, cell_bool h0]) rfl h1 (ins_d hk hi rfl) (fun H1 locs1 hP1 hD1 hS1 => ?_)
        rw [ws_mup (D := D) (j := j.toNatClampNeg) (x := vp_nar .boolean x) ho (by rw [cell_bool h0, mup_same])] at hP1 hD1
        have h9 := h.2 H1 locs1 ad lsA ha hP1 hD1 hS1 hl (by rw [hpt]; exact hp)
        rw [hpt] at h9
        exact h9
      · have ho : o < NC := sh_lt (by omega)
        have hpt : pot (mup D o j.toNatClampNeg (vp_nar .byte x)) = pot D := pot_mup (Or.inr (by omega))
        refine ⟨by rw [← hpt]; exact h.1, fun H locs ad lsA ha hP hD hS hl hp => ?_⟩
        refine va_bast hx hb hK hP hD hS o 2 (by rw [ws_get ho, cell_byte h0]) rfl h1 (ins_d hk hi rfl) (fun H1 locs1 hP1 hD1 hS1 => ?_)
        rw [ws_mup (D := D) (j := j.toNatClampNeg) (x := vp_nar .byte x) ho (by rw [cell_byte h0, mup_same, cap_mup (Or.inr (by omega))])] at hP1 hD1
        have h9 := h.2 H1 locs1 ad lsA ha hP1 hD1 hS1 hl (by rw [hpt]; exact hp)
        rw [hpt] at h9
        exact h9
    case arraylength =>
      obtain ⟨o, r, rfl, h⟩ := sA_spec h
      rcases h with ⟨h0, h⟩ | ⟨h0, h⟩ | ⟨h0, h⟩
      · have ho : o < NC := sh_lt (by omega)
        refine ⟨h.1, fun H locs ad lsA ha hP hD hS hl hp => ?_⟩
        exact va_alen (x := (cap D o, .inl (D o))) hx hb hK hP o 2 (by rw [ws_get ho, cell_byte h0]) rfl rfl (ins_d hk hi rfl) (h.2 H locs ad lsA ha hP hD hS hl hp)
      · have ho : o < NC := sh_lt (by omega)
        refine ⟨h.1, fun H locs ad lsA ha hP hD hS hl hp => ?_⟩
        exact va_alen (x := ((sh o).2.1, .inl (D o))) hx hb hK hP o 0 (by rw [ws_get ho, cell_int h0]) rfl rfl (ins_d hk hi rfl) (h.2 H locs ad lsA ha hP hD hS hl hp)
      · refine ⟨h.1, fun H locs ad lsA ha hP hD hS hl hp => ?_⟩
        exact va_tlen hx hb (RO_arr (RO.agree ha hRO0) h0) hS rfl (ins_d hk hi rfl) (h.2 H locs ad lsA ha hP hD hS hl hp)
    case getstatic idx =>
      obtain ⟨v, hv, h⟩ := h
      obtain ⟨f0, f1, f2, f3⟩ := stat_fact hk hi
      refine ⟨h.1, fun H locs ad lsA ha hP hD hS hl hp => ?_⟩
      have hR := RO.agree ha hRO0
      match b, hv, f0, f1, f2, f3 with
      | 0, hv, f0, _, _, _ => cases hv; exact va_gets hx hb hR.2.1 hS hown (htT _ (f0 rfl)) (fun _ z => z) (ins_d hk hi rfl) (h.2 H locs ad lsA ha hP hD hS hl hp)
      | 1, hv, _, f1, _, _ => cases hv; exact va_gets hx hb hR.2.2.1 hS hown (htT _ (f1 rfl)) (fun _ z => z) (ins_d hk hi rfl) (h.2 H locs ad lsA ha hP hD hS hl hp)
      | 2, hv, _, _, f2, _ => cases hv; exact va_gets hx hb hR.2.2.2.1 hS hown (htT _ (f2 rfl)) (fun _ z => z) (ins_d hk hi rfl) (h.2 H locs ad lsA ha hP hD hS hl hp)
      | 3, hv, _, _, _, f3 => cases hv; exact va_gets hx hb hR.2.2.2.2.2.1 hS hown (htT _ (f3 rfl)) (fun _ z => z) (ins_d hk hi rfl) (h.2 H locs ad lsA ha hP hD hS hl hp)
    case ldc idx =>
      obtain ⟨h0, h1, h⟩ := h
      obtain ⟨q, hq, e1, e2⟩ := ldc_fact hk hi
      refine ⟨h.1, fun H locs ad lsA ha hP hD hS hl hp => ?_⟩
      have hZ := (RO.agree ha hRO0).2.2.2.2.2.2.2.1 cc h1 q hq
      rw [e1, e2] at hZ
      exact va_ldcS hx hb hown hZ (ins_d hk hi rfl) (h.2 H locs ad lsA ha hP hD hS hl hp)
    case ireturn =>
      match st, h with
      | [.int v], ⟨h0, h⟩ =>
        obtain ⟨rfl, rfl⟩ := h
        refine ⟨Nat.le_refl _, fun H locs ad lsA ha hP hD hS hl hp => ?_⟩
        have hq : ∀ t : State, t.heap = H → s.WarmedH t.vm → MC G ad0 D0 s.heap.size (some (.int v)) D args s (.returned (some (.int v))) t := fun t ht hW => ⟨⟨_, rfl, ad, ha, rfl, by rw [ht]; exact hP, va_K.moved hW.alike hK, hD⟩, hS.F ht⟩
        unfold retK at h0
        split at h0
        next e1 => exact W.iret hx hb (by rw [hr]; exact e1) hq hS.2.2 (ins_d hk hi rfl) hlocks
        next ty hty e1 => exact W.zret hx hb (by rw [hr]; exact e1) h0.2 hq hS.2.2 (ins_d hk hi rfl) hlocks
        next => exact h0.elim
    case areturn =>
      match st, h with
      | [.ref v], ⟨h0, h1, h⟩ =>
        obtain ⟨rfl, rfl⟩ := h
        refine ⟨Nat.le_refl _, fun H locs ad lsA ha hP hD hS hl hp => ?_⟩
        have hq : ∀ t : State, t.heap = H → s.WarmedH t.vm → MC G ad0 D0 s.heap.size (some (.ref v)) D args s (.returned (some (.ref (ad v)))) t := fun t ht hW => ⟨⟨_, rfl, ad, ha, rfl, by rw [ht]; exact hP, va_K.moved hW.alike hK, hD⟩, hS.F ht⟩
        unfold retA at h1
        split at h1
        next n e1 => exact W.aret hx hb (by rw [hr]; exact e1) (Or.inl ⟨_, rfl⟩) (Or.inr ⟨_, rfl⟩) hq hS.2.2 (ins_d hk hi rfl) hlocks
        next => exact h1.elim
    case return_ =>
      obtain ⟨h1, rfl, h⟩ := h
      obtain ⟨rfl, rfl⟩ := h
      refine ⟨Nat.le_refl _, fun H locs ad lsA ha hP hD hS hl hp => ?_⟩
      exact W.vret hx hb (by rw [hr]; exact h1) (fun t ht hW => ⟨⟨_, rfl, ad, ha, rfl, by rw [ht]; exact hP, va_K.moved hW.alike hK, hD⟩, hS.F ht⟩) hS.2.2 (ins_d hk hi rfl) hlocks
    case invokevirtual idx =>
      exact snd_virt IH hd1 hk hx hb hml hown hts hK hRO0 hi h
    case invokestatic idx =>
      exact snd_stat IH hd1 hk hx hb hml hown hts hK hRO0 hi h
    case invokespecial idx =>
      exact snd_spec IH hd1 hk hx hb hml hown hts hK hRO0 hi h
    all_goals exact h.elim
theorem Ct_pos : ∀ d b a D Q, Ct d b a D Q → 1 ≤ d
  | 0, _, _, _, _, h => h.elim
  | d + 1, _, _, _, _, _ => by omega
/-- every contract of the abstract machine is one of the machine's; the capacity of a text is a contract of its own -/
theorem snd_all {l : Launch} {G : Gp} (hE : ∀ d, 4 ≤ d → ∀ (args : List Value) (D : Mm) (r : Option Value) (D1 : Mm) (ad : Nat → Nat) (sz : Nat), ensS args D (fun r2 D2 => r2 = r ∧ D2 = D1) →
    Met l (nY ensK) (wsm ensK) (rmD d (pot D1 - pot D)) (va_Pc (args.map (cv ad G.2.2)) (MP G ad D sz)) (MC G ad D sz r D1) (pot D1 - pot D) (2 * (pot D1 - pot D)) (va_A (wsOf G.2.1 ad D) sz)) : ∀ d, Snd l G d
  | 0 => fun _ _ _ _ _ _ _ h => h.elim
  | d + 1 => by
    have IH := snd_all hE d
    intro k args D r D1 ad sz h
    unfold Ct at h
    by_cases hk : k = ensK
    · rw [if_pos hk] at h
      subst hk
      exact hE d h.1 args D r D1 ad sz h.2
    · rw [if_neg hk] at h
      obtain ⟨hkm, hal, hac, hW⟩ := h
      obtain ⟨m1, m2, m3, m4, m5, m6, m7, m8, m9, m10⟩ := mfact hkm
      refine va_MetF (cc := nB k) (maxL := nL k) (ret := nR k) m10 rfl ?_
      intro p e s m args0 below meth c s₁ B hml hv
      obtain ⟨rfl, hsz, hP, hK, hD0, hRO⟩ := hv
      have hts := atoms_spec (ws := wsm k) B.pre
      have hown : s.vm.findClass (cN (nO k)) = some m.cls := by rw [← m3]; exact findClass_of_methodNamed B.named
      subst hsz
      have hf : G.2.2.category = 1 := hRO.2.2.2.2.2.2.2.2
      have hps := hW (PS p l e s m ((args.map (cv ad G.2.2)).toArray) below meth c G d k ad D r D1) (fun pc ls st D2 hst => snd_step IH (Ct_pos d) hkm B.exec B.bytes hml B.returns hown hts B.notSynchronized hK hRO pc ls st D2 hst)
      have hl := LOK.entry (ad := ad) hf hac (n := nL k) (by rw [hal]; exact m8)
      rw [lg_entry_eq]
      have h9 := hps.2 s.heap [] ad _ agree.rf hP hD0.self va_S.rf (by rw [hal] at hl; exact hl) (Nat.le_refl _)
      rw [Nat.sub_self] at h9
      exact h9
end
section
theorem i_vc : Claimed_1_1 ∧ Claimed_1_2 := sorry
end
