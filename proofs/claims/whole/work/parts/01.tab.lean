-- ===== PART A: goes FIRST, ahead of the names: the tables' words, and 'selects' of the private methods out of them =====
/-- a private method of a class that the tables say can be made, by its rows of tables_1 -/
def lw_okq (q : MethodName × Nat) : Prop := (q.1.cls ≠ "java/lang/invoke/MethodHandle" ∧ q.1.cls ≠ "java/lang/invoke/VarHandle") ∧ Cond.instantiable q.1.cls q.2 ∈ tables_1 ∧ Cond.privateMethod q.1 ∈ tables_1 ∧ Cond.instanceMethod q.1 ∈ tables_1
theorem lw_p0 : lw_okq (⟨"CandleStatute$Stubs", "copyStub", "(ILCandleStatute$Stubs;I)V"⟩, 9) := ⟨⟨by decide +kernel, by decide +kernel⟩, List.mem_of_getElem? (i := 36) (by decide +kernel), List.mem_of_getElem? (i := 297) (by decide +kernel), List.mem_of_getElem? (i := 298) (by decide +kernel)⟩
theorem lw_p1 : lw_okq (⟨"CandleStatute", "bringStub", "(III)I"⟩, 9) := ⟨⟨by decide +kernel, by decide +kernel⟩, List.mem_of_getElem? (i := 22) (by decide +kernel), List.mem_of_getElem? (i := 301) (by decide +kernel), List.mem_of_getElem? (i := 302) (by decide +kernel)⟩
theorem lw_p2 : lw_okq (⟨"CandleStatute", "refuse", "(II)I"⟩, 9) := ⟨⟨by decide +kernel, by decide +kernel⟩, List.mem_of_getElem? (i := 22) (by decide +kernel), List.mem_of_getElem? (i := 311) (by decide +kernel), List.mem_of_getElem? (i := 312) (by decide +kernel)⟩
theorem lw_p3 : lw_okq (⟨"CandleStatute", "hasRoomFor", "(II)Z"⟩, 9) := ⟨⟨by decide +kernel, by decide +kernel⟩, List.mem_of_getElem? (i := 22) (by decide +kernel), List.mem_of_getElem? (i := 323) (by decide +kernel), List.mem_of_getElem? (i := 324) (by decide +kernel)⟩
theorem lw_p4 : lw_okq (⟨"CandleStatute", "settle", "(I)I"⟩, 9) := ⟨⟨by decide +kernel, by decide +kernel⟩, List.mem_of_getElem? (i := 22) (by decide +kernel), List.mem_of_getElem? (i := 343) (by decide +kernel), List.mem_of_getElem? (i := 344) (by decide +kernel)⟩
theorem lw_p5 : lw_okq (⟨"CandleStatute", "burnStub", "(II)I"⟩, 9) := ⟨⟨by decide +kernel, by decide +kernel⟩, List.mem_of_getElem? (i := 22) (by decide +kernel), List.mem_of_getElem? (i := 358) (by decide +kernel), List.mem_of_getElem? (i := 359) (by decide +kernel)⟩
theorem lw_p6 : lw_okq (⟨"CandleStatute", "isStub", "(I)Z"⟩, 9) := ⟨⟨by decide +kernel, by decide +kernel⟩, List.mem_of_getElem? (i := 22) (by decide +kernel), List.mem_of_getElem? (i := 362) (by decide +kernel), List.mem_of_getElem? (i := 363) (by decide +kernel)⟩
theorem lw_p7 : lw_okq (⟨"CandleStatute", "oweLight", "(III)I"⟩, 9) := ⟨⟨by decide +kernel, by decide +kernel⟩, List.mem_of_getElem? (i := 22) (by decide +kernel), List.mem_of_getElem? (i := 387) (by decide +kernel), List.mem_of_getElem? (i := 388) (by decide +kernel)⟩
theorem lw_p8 : lw_okq (⟨"CandleStatute", "snuffStub", "(III)I"⟩, 9) := ⟨⟨by decide +kernel, by decide +kernel⟩, List.mem_of_getElem? (i := 22) (by decide +kernel), List.mem_of_getElem? (i := 399) (by decide +kernel), List.mem_of_getElem? (i := 400) (by decide +kernel)⟩
theorem lw_p9 : lw_okq (⟨"CandleStatute", "poolWax", "(II)I"⟩, 9) := ⟨⟨by decide +kernel, by decide +kernel⟩, List.mem_of_getElem? (i := 22) (by decide +kernel), List.mem_of_getElem? (i := 422) (by decide +kernel), List.mem_of_getElem? (i := 423) (by decide +kernel)⟩
theorem lw_p10 : lw_okq (⟨"CandleStatute", "sharePool", "()I"⟩, 9) := ⟨⟨by decide +kernel, by decide +kernel⟩, List.mem_of_getElem? (i := 22) (by decide +kernel), List.mem_of_getElem? (i := 431) (by decide +kernel), List.mem_of_getElem? (i := 432) (by decide +kernel)⟩
theorem lw_p11 : lw_okq (⟨"CandleStatute$Sharing", "giveOneByRest", "()V"⟩, 3) := ⟨⟨by decide +kernel, by decide +kernel⟩, List.mem_of_getElem? (i := 203) (by decide +kernel), List.mem_of_getElem? (i := 450) (by decide +kernel), List.mem_of_getElem? (i := 451) (by decide +kernel)⟩
theorem lw_p12 : lw_okq (⟨"CandleStatute", "mouldStub", "(III)I"⟩, 9) := ⟨⟨by decide +kernel, by decide +kernel⟩, List.mem_of_getElem? (i := 22) (by decide +kernel), List.mem_of_getElem? (i := 473) (by decide +kernel), List.mem_of_getElem? (i := 474) (by decide +kernel)⟩
theorem lw_p13 : lw_okq (⟨"CandleStatute", "tellHeir", "(II)I"⟩, 9) := ⟨⟨by decide +kernel, by decide +kernel⟩, List.mem_of_getElem? (i := 22) (by decide +kernel), List.mem_of_getElem? (i := 481) (by decide +kernel), List.mem_of_getElem? (i := 482) (by decide +kernel)⟩
theorem lw_p14 : lw_okq (⟨"CandleStatute", "endHouse", "(I)I"⟩, 9) := ⟨⟨by decide +kernel, by decide +kernel⟩, List.mem_of_getElem? (i := 22) (by decide +kernel), List.mem_of_getElem? (i := 489) (by decide +kernel), List.mem_of_getElem? (i := 490) (by decide +kernel)⟩
theorem lw_p15 : lw_okq (⟨"CandleStatute$State", "handOverRights", "(II)V"⟩, 11) := ⟨⟨by decide +kernel, by decide +kernel⟩, List.mem_of_getElem? (i := 30) (by decide +kernel), List.mem_of_getElem? (i := 501) (by decide +kernel), List.mem_of_getElem? (i := 502) (by decide +kernel)⟩
def lw_privs_1 : List (MethodName × Nat) := [(⟨"CandleStatute$Stubs", "copyStub", "(ILCandleStatute$Stubs;I)V"⟩, 9), (⟨"CandleStatute", "bringStub", "(III)I"⟩, 9), (⟨"CandleStatute", "refuse", "(II)I"⟩, 9), (⟨"CandleStatute", "hasRoomFor", "(II)Z"⟩, 9), (⟨"CandleStatute", "settle", "(I)I"⟩, 9), (⟨"CandleStatute", "burnStub", "(II)I"⟩, 9), (⟨"CandleStatute", "isStub", "(I)Z"⟩, 9), (⟨"CandleStatute", "oweLight", "(III)I"⟩, 9), (⟨"CandleStatute", "snuffStub", "(III)I"⟩, 9), (⟨"CandleStatute", "poolWax", "(II)I"⟩, 9), (⟨"CandleStatute", "sharePool", "()I"⟩, 9), (⟨"CandleStatute$Sharing", "giveOneByRest", "()V"⟩, 3), (⟨"CandleStatute", "mouldStub", "(III)I"⟩, 9), (⟨"CandleStatute", "tellHeir", "(II)I"⟩, 9), (⟨"CandleStatute", "endHouse", "(I)I"⟩, 9), (⟨"CandleStatute$State", "handOverRights", "(II)V"⟩, 11)]
theorem lw_r1 : ∀ q ∈ lw_privs_1, lw_okq q := List.forall_mem_cons.mpr ⟨lw_p0, List.forall_mem_cons.mpr ⟨lw_p1, List.forall_mem_cons.mpr ⟨lw_p2, List.forall_mem_cons.mpr ⟨lw_p3, List.forall_mem_cons.mpr ⟨lw_p4, List.forall_mem_cons.mpr ⟨lw_p5, List.forall_mem_cons.mpr ⟨lw_p6, List.forall_mem_cons.mpr ⟨lw_p7, List.forall_mem_cons.mpr ⟨lw_p8, List.forall_mem_cons.mpr ⟨lw_p9, List.forall_mem_cons.mpr ⟨lw_p10, List.forall_mem_cons.mpr ⟨lw_p11, List.forall_mem_cons.mpr ⟨lw_p12, List.forall_mem_cons.mpr ⟨lw_p13, List.forall_mem_cons.mpr ⟨lw_p14, List.forall_mem_cons.mpr ⟨lw_p15, fun _ h => absurd h List.not_mem_nil⟩⟩⟩⟩⟩⟩⟩⟩⟩⟩⟩⟩⟩⟩⟩⟩
theorem lw_p16 : lw_okq (⟨"CandleStatute$State", "handOverStubs", "(II)V"⟩, 11) := ⟨⟨by decide +kernel, by decide +kernel⟩, List.mem_of_getElem? (i := 30) (by decide +kernel), List.mem_of_getElem? (i := 506) (by decide +kernel), List.mem_of_getElem? (i := 507) (by decide +kernel)⟩
theorem lw_p17 : lw_okq (⟨"CandleStatute$State", "dropWhatIsOwn", "()V"⟩, 11) := ⟨⟨by decide +kernel, by decide +kernel⟩, List.mem_of_getElem? (i := 30) (by decide +kernel), List.mem_of_getElem? (i := 512) (by decide +kernel), List.mem_of_getElem? (i := 513) (by decide +kernel)⟩
theorem lw_p18 : lw_okq (⟨"CandleStatute", "passHours", "(I)I"⟩, 9) := ⟨⟨by decide +kernel, by decide +kernel⟩, List.mem_of_getElem? (i := 22) (by decide +kernel), List.mem_of_getElem? (i := 521) (by decide +kernel), List.mem_of_getElem? (i := 522) (by decide +kernel)⟩
theorem lw_p19 : lw_okq (⟨"CandleStatute$State", "isAhead", "(II)Z"⟩, 11) := ⟨⟨by decide +kernel, by decide +kernel⟩, List.mem_of_getElem? (i := 30) (by decide +kernel), List.mem_of_getElem? (i := 579) (by decide +kernel), List.mem_of_getElem? (i := 580) (by decide +kernel)⟩
theorem lw_p20 : lw_okq (⟨"CandleStatute$Stubs", "isAhead", "(II)Z"⟩, 9) := ⟨⟨by decide +kernel, by decide +kernel⟩, List.mem_of_getElem? (i := 36) (by decide +kernel), List.mem_of_getElem? (i := 591) (by decide +kernel), List.mem_of_getElem? (i := 592) (by decide +kernel)⟩
theorem lw_p21 : lw_okq (⟨"CandleStatute$Orders", "isOrderRead", "(Ljava/lang/StringBuilder;I)Z"⟩, 6) := ⟨⟨by decide +kernel, by decide +kernel⟩, List.mem_of_getElem? (i := 173) (by decide +kernel), List.mem_of_getElem? (i := 707) (by decide +kernel), List.mem_of_getElem? (i := 708) (by decide +kernel)⟩
theorem lw_p22 : lw_okq (⟨"CandleStatute$Orders", "hasDigit", "(Ljava/lang/StringBuilder;)Z"⟩, 6) := ⟨⟨by decide +kernel, by decide +kernel⟩, List.mem_of_getElem? (i := 173) (by decide +kernel), List.mem_of_getElem? (i := 817) (by decide +kernel), List.mem_of_getElem? (i := 818) (by decide +kernel)⟩
theorem lw_p23 : lw_okq (⟨"CandleStatute$Orders", "readNumber", "(Ljava/lang/StringBuilder;C)I"⟩, 6) := ⟨⟨by decide +kernel, by decide +kernel⟩, List.mem_of_getElem? (i := 173) (by decide +kernel), List.mem_of_getElem? (i := 821) (by decide +kernel), List.mem_of_getElem? (i := 822) (by decide +kernel)⟩
theorem lw_p24 : lw_okq (⟨"CandleStatute$Orders", "keepNumber", "(III)V"⟩, 6) := ⟨⟨by decide +kernel, by decide +kernel⟩, List.mem_of_getElem? (i := 173) (by decide +kernel), List.mem_of_getElem? (i := 825) (by decide +kernel), List.mem_of_getElem? (i := 826) (by decide +kernel)⟩
theorem lw_p25 : lw_okq (⟨"CandleStatute$Orders", "isSignRead", "(Ljava/lang/StringBuilder;C)Z"⟩, 6) := ⟨⟨by decide +kernel, by decide +kernel⟩, List.mem_of_getElem? (i := 173) (by decide +kernel), List.mem_of_getElem? (i := 829) (by decide +kernel), List.mem_of_getElem? (i := 830) (by decide +kernel)⟩
theorem lw_p26 : lw_okq (⟨"CandleStatute", "carryOut", "(I)I"⟩, 9) := ⟨⟨by decide +kernel, by decide +kernel⟩, List.mem_of_getElem? (i := 22) (by decide +kernel), List.mem_of_getElem? (i := 853) (by decide +kernel), List.mem_of_getElem? (i := 854) (by decide +kernel)⟩
theorem lw_p27 : lw_okq (⟨"CandleStatute", "refuseOrder", "(II)I"⟩, 9) := ⟨⟨by decide +kernel, by decide +kernel⟩, List.mem_of_getElem? (i := 22) (by decide +kernel), List.mem_of_getElem? (i := 861) (by decide +kernel), List.mem_of_getElem? (i := 862) (by decide +kernel)⟩
theorem lw_p28 : lw_okq (⟨"CandleStatute", "writeHouse", "(I)V"⟩, 9) := ⟨⟨by decide +kernel, by decide +kernel⟩, List.mem_of_getElem? (i := 22) (by decide +kernel), List.mem_of_getElem? (i := 903) (by decide +kernel), List.mem_of_getElem? (i := 904) (by decide +kernel)⟩
theorem lw_p29 : lw_okq (⟨"CandleStatute", "isWaxAccountedFor", "()Z"⟩, 9) := ⟨⟨by decide +kernel, by decide +kernel⟩, List.mem_of_getElem? (i := 22) (by decide +kernel), List.mem_of_getElem? (i := 937) (by decide +kernel), List.mem_of_getElem? (i := 938) (by decide +kernel)⟩
theorem lw_p30 : lw_okq (⟨"CandleStatute", "areSharesSame", "()Z"⟩, 9) := ⟨⟨by decide +kernel, by decide +kernel⟩, List.mem_of_getElem? (i := 22) (by decide +kernel), List.mem_of_getElem? (i := 945) (by decide +kernel), List.mem_of_getElem? (i := 946) (by decide +kernel)⟩
theorem lw_p31 : lw_okq (⟨"CandleStatute", "areWeightsSame", "()Z"⟩, 9) := ⟨⟨by decide +kernel, by decide +kernel⟩, List.mem_of_getElem? (i := 22) (by decide +kernel), List.mem_of_getElem? (i := 949) (by decide +kernel), List.mem_of_getElem? (i := 950) (by decide +kernel)⟩
def lw_privs_2 : List (MethodName × Nat) := [(⟨"CandleStatute$State", "handOverStubs", "(II)V"⟩, 11), (⟨"CandleStatute$State", "dropWhatIsOwn", "()V"⟩, 11), (⟨"CandleStatute", "passHours", "(I)I"⟩, 9), (⟨"CandleStatute$State", "isAhead", "(II)Z"⟩, 11), (⟨"CandleStatute$Stubs", "isAhead", "(II)Z"⟩, 9), (⟨"CandleStatute$Orders", "isOrderRead", "(Ljava/lang/StringBuilder;I)Z"⟩, 6), (⟨"CandleStatute$Orders", "hasDigit", "(Ljava/lang/StringBuilder;)Z"⟩, 6), (⟨"CandleStatute$Orders", "readNumber", "(Ljava/lang/StringBuilder;C)I"⟩, 6), (⟨"CandleStatute$Orders", "keepNumber", "(III)V"⟩, 6), (⟨"CandleStatute$Orders", "isSignRead", "(Ljava/lang/StringBuilder;C)Z"⟩, 6), (⟨"CandleStatute", "carryOut", "(I)I"⟩, 9), (⟨"CandleStatute", "refuseOrder", "(II)I"⟩, 9), (⟨"CandleStatute", "writeHouse", "(I)V"⟩, 9), (⟨"CandleStatute", "isWaxAccountedFor", "()Z"⟩, 9), (⟨"CandleStatute", "areSharesSame", "()Z"⟩, 9), (⟨"CandleStatute", "areWeightsSame", "()Z"⟩, 9)]
theorem lw_r2 : ∀ q ∈ lw_privs_2, lw_okq q := List.forall_mem_cons.mpr ⟨lw_p16, List.forall_mem_cons.mpr ⟨lw_p17, List.forall_mem_cons.mpr ⟨lw_p18, List.forall_mem_cons.mpr ⟨lw_p19, List.forall_mem_cons.mpr ⟨lw_p20, List.forall_mem_cons.mpr ⟨lw_p21, List.forall_mem_cons.mpr ⟨lw_p22, List.forall_mem_cons.mpr ⟨lw_p23, List.forall_mem_cons.mpr ⟨lw_p24, List.forall_mem_cons.mpr ⟨lw_p25, List.forall_mem_cons.mpr ⟨lw_p26, List.forall_mem_cons.mpr ⟨lw_p27, List.forall_mem_cons.mpr ⟨lw_p28, List.forall_mem_cons.mpr ⟨lw_p29, List.forall_mem_cons.mpr ⟨lw_p30, List.forall_mem_cons.mpr ⟨lw_p31, fun _ h => absurd h List.not_mem_nil⟩⟩⟩⟩⟩⟩⟩⟩⟩⟩⟩⟩⟩⟩⟩⟩
theorem lw_p32 : lw_okq (⟨"CandleStatuteModel", "begins", "()V"⟩, 25) := ⟨⟨by decide +kernel, by decide +kernel⟩, List.mem_of_getElem? (i := 983) (by decide +kernel), List.mem_of_getElem? (i := 1072) (by decide +kernel), List.mem_of_getElem? (i := 1073) (by decide +kernel)⟩
theorem lw_p33 : lw_okq (⟨"CandleStatuteModel", "comes", "(III)I"⟩, 25) := ⟨⟨by decide +kernel, by decide +kernel⟩, List.mem_of_getElem? (i := 983) (by decide +kernel), List.mem_of_getElem? (i := 1079) (by decide +kernel), List.mem_of_getElem? (i := 1080) (by decide +kernel)⟩
theorem lw_p34 : lw_okq (⟨"CandleStatuteModel", "fail", "(I)I"⟩, 25) := ⟨⟨by decide +kernel, by decide +kernel⟩, List.mem_of_getElem? (i := 983) (by decide +kernel), List.mem_of_getElem? (i := 1089) (by decide +kernel), List.mem_of_getElem? (i := 1090) (by decide +kernel)⟩
theorem lw_p35 : lw_okq (⟨"CandleStatuteModel", "isOpen", "(I)Z"⟩, 25) := ⟨⟨by decide +kernel, by decide +kernel⟩, List.mem_of_getElem? (i := 983) (by decide +kernel), List.mem_of_getElem? (i := 1096) (by decide +kernel), List.mem_of_getElem? (i := 1097) (by decide +kernel)⟩
theorem lw_p36 : lw_okq (⟨"CandleStatuteModel", "refuses", "(II)I"⟩, 25) := ⟨⟨by decide +kernel, by decide +kernel⟩, List.mem_of_getElem? (i := 983) (by decide +kernel), List.mem_of_getElem? (i := 1100) (by decide +kernel), List.mem_of_getElem? (i := 1101) (by decide +kernel)⟩
theorem lw_p37 : lw_okq (⟨"CandleStatuteModel", "makes", "(III)I"⟩, 25) := ⟨⟨by decide +kernel, by decide +kernel⟩, List.mem_of_getElem? (i := 983) (by decide +kernel), List.mem_of_getElem? (i := 1104) (by decide +kernel), List.mem_of_getElem? (i := 1105) (by decide +kernel)⟩
theorem lw_p38 : lw_okq (⟨"CandleStatuteModel", "tray", "(I)I"⟩, 25) := ⟨⟨by decide +kernel, by decide +kernel⟩, List.mem_of_getElem? (i := 983) (by decide +kernel), List.mem_of_getElem? (i := 1108) (by decide +kernel), List.mem_of_getElem? (i := 1109) (by decide +kernel)⟩
theorem lw_p39 : lw_okq (⟨"CandleStatuteModel", "ends", "(I)I"⟩, 25) := ⟨⟨by decide +kernel, by decide +kernel⟩, List.mem_of_getElem? (i := 983) (by decide +kernel), List.mem_of_getElem? (i := 1115) (by decide +kernel), List.mem_of_getElem? (i := 1116) (by decide +kernel)⟩
theorem lw_p40 : lw_okq (⟨"CandleStatuteModel", "burns", "(II)I"⟩, 25) := ⟨⟨by decide +kernel, by decide +kernel⟩, List.mem_of_getElem? (i := 983) (by decide +kernel), List.mem_of_getElem? (i := 1123) (by decide +kernel), List.mem_of_getElem? (i := 1124) (by decide +kernel)⟩
theorem lw_p41 : lw_okq (⟨"CandleStatuteModel", "isStub", "(I)Z"⟩, 25) := ⟨⟨by decide +kernel, by decide +kernel⟩, List.mem_of_getElem? (i := 983) (by decide +kernel), List.mem_of_getElem? (i := 1127) (by decide +kernel), List.mem_of_getElem? (i := 1128) (by decide +kernel)⟩
theorem lw_p42 : lw_okq (⟨"CandleStatuteModel", "refusesBurning", "(III)I"⟩, 25) := ⟨⟨by decide +kernel, by decide +kernel⟩, List.mem_of_getElem? (i := 983) (by decide +kernel), List.mem_of_getElem? (i := 1131) (by decide +kernel), List.mem_of_getElem? (i := 1132) (by decide +kernel)⟩
theorem lw_p43 : lw_okq (⟨"CandleStatuteModel", "goes", "(I)V"⟩, 25) := ⟨⟨by decide +kernel, by decide +kernel⟩, List.mem_of_getElem? (i := 983) (by decide +kernel), List.mem_of_getElem? (i := 1135) (by decide +kernel), List.mem_of_getElem? (i := 1136) (by decide +kernel)⟩
theorem lw_p44 : lw_okq (⟨"CandleStatuteModel", "owes", "(III)I"⟩, 25) := ⟨⟨by decide +kernel, by decide +kernel⟩, List.mem_of_getElem? (i := 983) (by decide +kernel), List.mem_of_getElem? (i := 1143) (by decide +kernel), List.mem_of_getElem? (i := 1144) (by decide +kernel)⟩
theorem lw_p45 : lw_okq (⟨"CandleStatuteModel", "owed", "(I)I"⟩, 25) := ⟨⟨by decide +kernel, by decide +kernel⟩, List.mem_of_getElem? (i := 983) (by decide +kernel), List.mem_of_getElem? (i := 1147) (by decide +kernel), List.mem_of_getElem? (i := 1148) (by decide +kernel)⟩
theorem lw_p46 : lw_okq (⟨"CandleStatuteModel", "snuffs", "(III)I"⟩, 25) := ⟨⟨by decide +kernel, by decide +kernel⟩, List.mem_of_getElem? (i := 983) (by decide +kernel), List.mem_of_getElem? (i := 1155) (by decide +kernel), List.mem_of_getElem? (i := 1156) (by decide +kernel)⟩
theorem lw_p47 : lw_okq (⟨"CandleStatuteModel", "writs", "(I)I"⟩, 25) := ⟨⟨by decide +kernel, by decide +kernel⟩, List.mem_of_getElem? (i := 983) (by decide +kernel), List.mem_of_getElem? (i := 1159) (by decide +kernel), List.mem_of_getElem? (i := 1160) (by decide +kernel)⟩
def lw_privs_3 : List (MethodName × Nat) := [(⟨"CandleStatuteModel", "begins", "()V"⟩, 25), (⟨"CandleStatuteModel", "comes", "(III)I"⟩, 25), (⟨"CandleStatuteModel", "fail", "(I)I"⟩, 25), (⟨"CandleStatuteModel", "isOpen", "(I)Z"⟩, 25), (⟨"CandleStatuteModel", "refuses", "(II)I"⟩, 25), (⟨"CandleStatuteModel", "makes", "(III)I"⟩, 25), (⟨"CandleStatuteModel", "tray", "(I)I"⟩, 25), (⟨"CandleStatuteModel", "ends", "(I)I"⟩, 25), (⟨"CandleStatuteModel", "burns", "(II)I"⟩, 25), (⟨"CandleStatuteModel", "isStub", "(I)Z"⟩, 25), (⟨"CandleStatuteModel", "refusesBurning", "(III)I"⟩, 25), (⟨"CandleStatuteModel", "goes", "(I)V"⟩, 25), (⟨"CandleStatuteModel", "owes", "(III)I"⟩, 25), (⟨"CandleStatuteModel", "owed", "(I)I"⟩, 25), (⟨"CandleStatuteModel", "snuffs", "(III)I"⟩, 25), (⟨"CandleStatuteModel", "writs", "(I)I"⟩, 25)]
theorem lw_r3 : ∀ q ∈ lw_privs_3, lw_okq q := List.forall_mem_cons.mpr ⟨lw_p32, List.forall_mem_cons.mpr ⟨lw_p33, List.forall_mem_cons.mpr ⟨lw_p34, List.forall_mem_cons.mpr ⟨lw_p35, List.forall_mem_cons.mpr ⟨lw_p36, List.forall_mem_cons.mpr ⟨lw_p37, List.forall_mem_cons.mpr ⟨lw_p38, List.forall_mem_cons.mpr ⟨lw_p39, List.forall_mem_cons.mpr ⟨lw_p40, List.forall_mem_cons.mpr ⟨lw_p41, List.forall_mem_cons.mpr ⟨lw_p42, List.forall_mem_cons.mpr ⟨lw_p43, List.forall_mem_cons.mpr ⟨lw_p44, List.forall_mem_cons.mpr ⟨lw_p45, List.forall_mem_cons.mpr ⟨lw_p46, List.forall_mem_cons.mpr ⟨lw_p47, fun _ h => absurd h List.not_mem_nil⟩⟩⟩⟩⟩⟩⟩⟩⟩⟩⟩⟩⟩⟩⟩⟩
theorem lw_p48 : lw_okq (⟨"CandleStatuteModel", "pools", "(II)I"⟩, 25) := ⟨⟨by decide +kernel, by decide +kernel⟩, List.mem_of_getElem? (i := 983) (by decide +kernel), List.mem_of_getElem? (i := 1171) (by decide +kernel), List.mem_of_getElem? (i := 1172) (by decide +kernel)⟩
theorem lw_p49 : lw_okq (⟨"CandleStatuteModel", "pooled", "()I"⟩, 25) := ⟨⟨by decide +kernel, by decide +kernel⟩, List.mem_of_getElem? (i := 983) (by decide +kernel), List.mem_of_getElem? (i := 1175) (by decide +kernel), List.mem_of_getElem? (i := 1176) (by decide +kernel)⟩
theorem lw_p50 : lw_okq (⟨"CandleStatuteModel", "shares", "()I"⟩, 25) := ⟨⟨by decide +kernel, by decide +kernel⟩, List.mem_of_getElem? (i := 983) (by decide +kernel), List.mem_of_getElem? (i := 1183) (by decide +kernel), List.mem_of_getElem? (i := 1184) (by decide +kernel)⟩
theorem lw_p51 : lw_okq (⟨"CandleStatuteModel", "claims", "()I"⟩, 25) := ⟨⟨by decide +kernel, by decide +kernel⟩, List.mem_of_getElem? (i := 983) (by decide +kernel), List.mem_of_getElem? (i := 1187) (by decide +kernel), List.mem_of_getElem? (i := 1188) (by decide +kernel)⟩
theorem lw_p52 : lw_okq (⟨"CandleStatuteModel", "claim", "(I)I"⟩, 25) := ⟨⟨by decide +kernel, by decide +kernel⟩, List.mem_of_getElem? (i := 983) (by decide +kernel), List.mem_of_getElem? (i := 1191) (by decide +kernel), List.mem_of_getElem? (i := 1192) (by decide +kernel)⟩
theorem lw_p53 : lw_okq (⟨"CandleStatuteModel", "finds", "()V"⟩, 25) := ⟨⟨by decide +kernel, by decide +kernel⟩, List.mem_of_getElem? (i := 983) (by decide +kernel), List.mem_of_getElem? (i := 1195) (by decide +kernel), List.mem_of_getElem? (i := 1196) (by decide +kernel)⟩
theorem lw_p54 : lw_okq (⟨"CandleStatuteModel", "moulds", "(III)I"⟩, 25) := ⟨⟨by decide +kernel, by decide +kernel⟩, List.mem_of_getElem? (i := 983) (by decide +kernel), List.mem_of_getElem? (i := 1212) (by decide +kernel), List.mem_of_getElem? (i := 1213) (by decide +kernel)⟩
theorem lw_p55 : lw_okq (⟨"CandleStatuteModel", "tellsHeir", "(II)I"⟩, 25) := ⟨⟨by decide +kernel, by decide +kernel⟩, List.mem_of_getElem? (i := 983) (by decide +kernel), List.mem_of_getElem? (i := 1220) (by decide +kernel), List.mem_of_getElem? (i := 1221) (by decide +kernel)⟩
theorem lw_p56 : lw_okq (⟨"CandleStatuteModel", "closes", "(I)I"⟩, 25) := ⟨⟨by decide +kernel, by decide +kernel⟩, List.mem_of_getElem? (i := 983) (by decide +kernel), List.mem_of_getElem? (i := 1228) (by decide +kernel), List.mem_of_getElem? (i := 1229) (by decide +kernel)⟩
theorem lw_p57 : lw_okq (⟨"CandleStatuteModel", "opens", "()I"⟩, 25) := ⟨⟨by decide +kernel, by decide +kernel⟩, List.mem_of_getElem? (i := 983) (by decide +kernel), List.mem_of_getElem? (i := 1232) (by decide +kernel), List.mem_of_getElem? (i := 1233) (by decide +kernel)⟩
theorem lw_p58 : lw_okq (⟨"CandleStatuteModel", "inForce", "(I)I"⟩, 25) := ⟨⟨by decide +kernel, by decide +kernel⟩, List.mem_of_getElem? (i := 983) (by decide +kernel), List.mem_of_getElem? (i := 1236) (by decide +kernel), List.mem_of_getElem? (i := 1237) (by decide +kernel)⟩
theorem lw_p59 : lw_okq (⟨"CandleStatuteModel", "inheritsStubs", "(II)I"⟩, 25) := ⟨⟨by decide +kernel, by decide +kernel⟩, List.mem_of_getElem? (i := 983) (by decide +kernel), List.mem_of_getElem? (i := 1240) (by decide +kernel), List.mem_of_getElem? (i := 1241) (by decide +kernel)⟩
theorem lw_p60 : lw_okq (⟨"CandleStatuteModel", "frees", "(I)V"⟩, 25) := ⟨⟨by decide +kernel, by decide +kernel⟩, List.mem_of_getElem? (i := 983) (by decide +kernel), List.mem_of_getElem? (i := 1244) (by decide +kernel), List.mem_of_getElem? (i := 1245) (by decide +kernel)⟩
theorem lw_p61 : lw_okq (⟨"CandleStatuteModel", "passes", "(I)I"⟩, 25) := ⟨⟨by decide +kernel, by decide +kernel⟩, List.mem_of_getElem? (i := 983) (by decide +kernel), List.mem_of_getElem? (i := 1252) (by decide +kernel), List.mem_of_getElem? (i := 1253) (by decide +kernel)⟩
theorem lw_p62 : lw_okq (⟨"CandleStatuteModel", "ofStubs", "(II)I"⟩, 25) := ⟨⟨by decide +kernel, by decide +kernel⟩, List.mem_of_getElem? (i := 983) (by decide +kernel), List.mem_of_getElem? (i := 1260) (by decide +kernel), List.mem_of_getElem? (i := 1261) (by decide +kernel)⟩
theorem lw_p63 : lw_okq (⟨"CandleStatuteModel", "orders", "()I"⟩, 25) := ⟨⟨by decide +kernel, by decide +kernel⟩, List.mem_of_getElem? (i := 983) (by decide +kernel), List.mem_of_getElem? (i := 1297) (by decide +kernel), List.mem_of_getElem? (i := 1298) (by decide +kernel)⟩
def lw_privs_4 : List (MethodName × Nat) := [(⟨"CandleStatuteModel", "pools", "(II)I"⟩, 25), (⟨"CandleStatuteModel", "pooled", "()I"⟩, 25), (⟨"CandleStatuteModel", "shares", "()I"⟩, 25), (⟨"CandleStatuteModel", "claims", "()I"⟩, 25), (⟨"CandleStatuteModel", "claim", "(I)I"⟩, 25), (⟨"CandleStatuteModel", "finds", "()V"⟩, 25), (⟨"CandleStatuteModel", "moulds", "(III)I"⟩, 25), (⟨"CandleStatuteModel", "tellsHeir", "(II)I"⟩, 25), (⟨"CandleStatuteModel", "closes", "(I)I"⟩, 25), (⟨"CandleStatuteModel", "opens", "()I"⟩, 25), (⟨"CandleStatuteModel", "inForce", "(I)I"⟩, 25), (⟨"CandleStatuteModel", "inheritsStubs", "(II)I"⟩, 25), (⟨"CandleStatuteModel", "frees", "(I)V"⟩, 25), (⟨"CandleStatuteModel", "passes", "(I)I"⟩, 25), (⟨"CandleStatuteModel", "ofStubs", "(II)I"⟩, 25), (⟨"CandleStatuteModel", "orders", "()I"⟩, 25)]
theorem lw_r4 : ∀ q ∈ lw_privs_4, lw_okq q := List.forall_mem_cons.mpr ⟨lw_p48, List.forall_mem_cons.mpr ⟨lw_p49, List.forall_mem_cons.mpr ⟨lw_p50, List.forall_mem_cons.mpr ⟨lw_p51, List.forall_mem_cons.mpr ⟨lw_p52, List.forall_mem_cons.mpr ⟨lw_p53, List.forall_mem_cons.mpr ⟨lw_p54, List.forall_mem_cons.mpr ⟨lw_p55, List.forall_mem_cons.mpr ⟨lw_p56, List.forall_mem_cons.mpr ⟨lw_p57, List.forall_mem_cons.mpr ⟨lw_p58, List.forall_mem_cons.mpr ⟨lw_p59, List.forall_mem_cons.mpr ⟨lw_p60, List.forall_mem_cons.mpr ⟨lw_p61, List.forall_mem_cons.mpr ⟨lw_p62, List.forall_mem_cons.mpr ⟨lw_p63, fun _ h => absurd h List.not_mem_nil⟩⟩⟩⟩⟩⟩⟩⟩⟩⟩⟩⟩⟩⟩⟩⟩
theorem lw_p64 : lw_okq (⟨"CandleStatuteModel", "order", "()V"⟩, 25) := ⟨⟨by decide +kernel, by decide +kernel⟩, List.mem_of_getElem? (i := 983) (by decide +kernel), List.mem_of_getElem? (i := 1301) (by decide +kernel), List.mem_of_getElem? (i := 1302) (by decide +kernel)⟩
theorem lw_p65 : lw_okq (⟨"CandleStatuteModel", "sign", "()I"⟩, 25) := ⟨⟨by decide +kernel, by decide +kernel⟩, List.mem_of_getElem? (i := 983) (by decide +kernel), List.mem_of_getElem? (i := 1305) (by decide +kernel), List.mem_of_getElem? (i := 1306) (by decide +kernel)⟩
theorem lw_p66 : lw_okq (⟨"CandleStatuteModel", "digits", "(I)I"⟩, 25) := ⟨⟨by decide +kernel, by decide +kernel⟩, List.mem_of_getElem? (i := 983) (by decide +kernel), List.mem_of_getElem? (i := 1312) (by decide +kernel), List.mem_of_getElem? (i := 1313) (by decide +kernel)⟩
theorem lw_p67 : lw_okq (⟨"CandleStatuteModel", "behind", "(II)I"⟩, 25) := ⟨⟨by decide +kernel, by decide +kernel⟩, List.mem_of_getElem? (i := 983) (by decide +kernel), List.mem_of_getElem? (i := 1316) (by decide +kernel), List.mem_of_getElem? (i := 1317) (by decide +kernel)⟩
theorem lw_p68 : lw_okq (⟨"CandleStatuteModel", "mark", "(I)V"⟩, 25) := ⟨⟨by decide +kernel, by decide +kernel⟩, List.mem_of_getElem? (i := 983) (by decide +kernel), List.mem_of_getElem? (i := 1320) (by decide +kernel), List.mem_of_getElem? (i := 1321) (by decide +kernel)⟩
theorem lw_p69 : lw_okq (⟨"CandleStatuteModel", "does", "(IIII)I"⟩, 25) := ⟨⟨by decide +kernel, by decide +kernel⟩, List.mem_of_getElem? (i := 983) (by decide +kernel), List.mem_of_getElem? (i := 1324) (by decide +kernel), List.mem_of_getElem? (i := 1325) (by decide +kernel)⟩
theorem lw_p70 : lw_okq (⟨"CandleStatuteModel", "refusesOrder", "(I)I"⟩, 25) := ⟨⟨by decide +kernel, by decide +kernel⟩, List.mem_of_getElem? (i := 983) (by decide +kernel), List.mem_of_getElem? (i := 1328) (by decide +kernel), List.mem_of_getElem? (i := 1329) (by decide +kernel)⟩
theorem lw_p71 : lw_okq (⟨"CandleStatuteModel", "writesNumber", "(I)V"⟩, 25) := ⟨⟨by decide +kernel, by decide +kernel⟩, List.mem_of_getElem? (i := 983) (by decide +kernel), List.mem_of_getElem? (i := 1336) (by decide +kernel), List.mem_of_getElem? (i := 1337) (by decide +kernel)⟩
theorem lw_p72 : lw_okq (⟨"CandleStatuteModel", "writes", "(I)V"⟩, 25) := ⟨⟨by decide +kernel, by decide +kernel⟩, List.mem_of_getElem? (i := 983) (by decide +kernel), List.mem_of_getElem? (i := 1340) (by decide +kernel), List.mem_of_getElem? (i := 1341) (by decide +kernel)⟩
theorem lw_p73 : lw_okq (⟨"CandleStatuteModel", "ofAll", "(I)I"⟩, 25) := ⟨⟨by decide +kernel, by decide +kernel⟩, List.mem_of_getElem? (i := 983) (by decide +kernel), List.mem_of_getElem? (i := 1360) (by decide +kernel), List.mem_of_getElem? (i := 1361) (by decide +kernel)⟩
theorem lw_p74 : lw_okq (⟨"CandleStatuteModel", "stores", "()I"⟩, 25) := ⟨⟨by decide +kernel, by decide +kernel⟩, List.mem_of_getElem? (i := 983) (by decide +kernel), List.mem_of_getElem? (i := 1364) (by decide +kernel), List.mem_of_getElem? (i := 1365) (by decide +kernel)⟩
def lw_privs_5 : List (MethodName × Nat) := [(⟨"CandleStatuteModel", "order", "()V"⟩, 25), (⟨"CandleStatuteModel", "sign", "()I"⟩, 25), (⟨"CandleStatuteModel", "digits", "(I)I"⟩, 25), (⟨"CandleStatuteModel", "behind", "(II)I"⟩, 25), (⟨"CandleStatuteModel", "mark", "(I)V"⟩, 25), (⟨"CandleStatuteModel", "does", "(IIII)I"⟩, 25), (⟨"CandleStatuteModel", "refusesOrder", "(I)I"⟩, 25), (⟨"CandleStatuteModel", "writesNumber", "(I)V"⟩, 25), (⟨"CandleStatuteModel", "writes", "(I)V"⟩, 25), (⟨"CandleStatuteModel", "ofAll", "(I)I"⟩, 25), (⟨"CandleStatuteModel", "stores", "()I"⟩, 25)]
theorem lw_r5 : ∀ q ∈ lw_privs_5, lw_okq q := List.forall_mem_cons.mpr ⟨lw_p64, List.forall_mem_cons.mpr ⟨lw_p65, List.forall_mem_cons.mpr ⟨lw_p66, List.forall_mem_cons.mpr ⟨lw_p67, List.forall_mem_cons.mpr ⟨lw_p68, List.forall_mem_cons.mpr ⟨lw_p69, List.forall_mem_cons.mpr ⟨lw_p70, List.forall_mem_cons.mpr ⟨lw_p71, List.forall_mem_cons.mpr ⟨lw_p72, List.forall_mem_cons.mpr ⟨lw_p73, List.forall_mem_cons.mpr ⟨lw_p74, fun _ h => absurd h List.not_mem_nil⟩⟩⟩⟩⟩⟩⟩⟩⟩⟩⟩
def lw_privs : List (MethodName × Nat) := lw_privs_1 ++ (lw_privs_2 ++ (lw_privs_3 ++ (lw_privs_4 ++ (lw_privs_5))))
def lw_tbl : List Cond := k2_sels lw_privs ++ tables_1
theorem lw_privs_ok : ∀ q ∈ lw_privs, lw_okq q := by
  show ∀ q ∈ lw_privs_1 ++ (lw_privs_2 ++ (lw_privs_3 ++ (lw_privs_4 ++ (lw_privs_5)))), lw_okq q
  exact List.forall_mem_append.mpr ⟨lw_r1, List.forall_mem_append.mpr ⟨lw_r2, List.forall_mem_append.mpr ⟨lw_r3, List.forall_mem_append.mpr ⟨lw_r4, lw_r5⟩⟩⟩⟩
/-- the streams that the claim lets the run draw from -/
abbrev lw_cs : List Choice := [Jvm.Choice.named "NaN.bits"]
theorem lw_bits : nanBits ∈ lw_cs := by first | decide | exact List.mem_cons_self | simp [lw_cs, nanBits]
-- ===== end of PART A; then your names; then what follows =====
def RX0 : String := "CandleStatute$History"
def TX0 : u_T := fun k => match k with
  | 0 => ("CandleStatute$History", "rows", "[LCandleStatute$State;", true)
  | 1 => ("CandleStatute$History", "next", "I", false)
  | _ => ("CandleStatute$History", "count", "I", false)
def tyX0 : Nat → FieldType := fun k => match k with
  | 0 => .array (.object "CandleStatute$State")
  | 1 => .int
  | _ => .int
abbrev wsX00 : List Cond := u_ws RX0 TX0 3
theorem nmX0 : ∀ a, a < 3 → ∀ b, b < 3 → a ≠ b → (TX0 a).2.1 ≠ (TX0 b).2.1 := by decide +kernel
theorem tyX0_ok : ∀ k, k < 3 → parseFieldDescriptor (TX0 k).2.2.1 = some (tyX0 k) := by decide +kernel
abbrev cX0_init : ByteArray := prog_2_method_1_code
def yX0_init : MethodName := ⟨RX0, "<init>", "()V"⟩
abbrev cX0_begin : ByteArray := prog_2_method_2_code
def yX0_begin : MethodName := ⟨RX0, "begin", "(LCandleStatute$State;)V"⟩
abbrev cX0_takeBack : ByteArray := prog_2_method_3_code
def yX0_takeBack : MethodName := ⟨RX0, "takeBack", "(LCandleStatute$State;)V"⟩
abbrev cX0_keep : ByteArray := prog_2_method_4_code
def yX0_keep : MethodName := ⟨RX0, "keep", "()V"⟩
abbrev cX0_stepBack : ByteArray := prog_2_method_5_code
def yX0_stepBack : MethodName := ⟨RX0, "stepBack", "(LCandleStatute$State;)Z"⟩
abbrev cX0_forget : ByteArray := prog_2_method_6_code
def yX0_forget : MethodName := ⟨RX0, "forget", "()V"⟩
def RX1 : String := "CandleStatute$Orders"
def TX1 : u_T := fun k => match k with
  | 0 => ("CandleStatute$Orders", "kinds", "[I", true)
  | 1 => ("CandleStatute$Orders", "firsts", "[I", true)
  | 2 => ("CandleStatute$Orders", "seconds", "[I", true)
  | 3 => ("CandleStatute$Orders", "thirds", "[I", true)
  | 4 => ("CandleStatute$Orders", "count", "I", false)
  | _ => ("CandleStatute$Orders", "at", "I", false)
def tyX1 : Nat → FieldType := fun k => match k with
  | 0 => .array .int
  | 1 => .array .int
  | 2 => .array .int
  | 3 => .array .int
  | 4 => .int
  | _ => .int
abbrev wsX10 : List Cond := u_ws RX1 TX1 6
theorem nmX1 : ∀ a, a < 6 → ∀ b, b < 6 → a ≠ b → (TX1 a).2.1 ≠ (TX1 b).2.1 := by decide +kernel
theorem tyX1_ok : ∀ k, k < 6 → parseFieldDescriptor (TX1 k).2.2.1 = some (tyX1 k) := by decide +kernel
abbrev cX1_init : ByteArray := prog_3_method_1_code
def yX1_init : MethodName := ⟨RX1, "<init>", "()V"⟩
abbrev cX1_read : ByteArray := prog_3_method_2_code
def yX1_read : MethodName := ⟨RX1, "read", "(Ljava/lang/StringBuilder;)I"⟩
abbrev cX1_isOrderRead : ByteArray := prog_3_method_3_code
def yX1_isOrderRead : MethodName := ⟨RX1, "isOrderRead", "(Ljava/lang/StringBuilder;I)Z"⟩
abbrev cX1_patternOf : ByteArray := prog_3_method_4_code
def yX1_patternOf : MethodName := ⟨RX1, "patternOf", "(C)Ljava/lang/String;"⟩
abbrev cX1_isSignRead : ByteArray := prog_3_method_5_code
def yX1_isSignRead : MethodName := ⟨RX1, "isSignRead", "(Ljava/lang/StringBuilder;C)Z"⟩
abbrev cX1_hasDigit : ByteArray := prog_3_method_6_code
def yX1_hasDigit : MethodName := ⟨RX1, "hasDigit", "(Ljava/lang/StringBuilder;)Z"⟩
abbrev cX1_readNumber : ByteArray := prog_3_method_7_code
def yX1_readNumber : MethodName := ⟨RX1, "readNumber", "(Ljava/lang/StringBuilder;C)I"⟩
abbrev cX1_keepNumber : ByteArray := prog_3_method_8_code
def yX1_keepNumber : MethodName := ⟨RX1, "keepNumber", "(III)V"⟩
def RX2 : String := "CandleStatute$Reasons"
def TX2 : u_T := fun k => match k with
  | 0 => ("CandleStatute$Reasons", "codes", "[I", true)
  | 1 => ("CandleStatute$Reasons", "details", "[I", true)
  | _ => ("CandleStatute$Reasons", "count", "I", false)
def tyX2 : Nat → FieldType := fun k => match k with
  | 0 => .array .int
  | 1 => .array .int
  | _ => .int
abbrev wsX20 : List Cond := u_ws RX2 TX2 3
theorem nmX2 : ∀ a, a < 3 → ∀ b, b < 3 → a ≠ b → (TX2 a).2.1 ≠ (TX2 b).2.1 := by decide +kernel
theorem tyX2_ok : ∀ k, k < 3 → parseFieldDescriptor (TX2 k).2.2.1 = some (tyX2 k) := by decide +kernel
abbrev cX2_init : ByteArray := prog_4_method_1_code
def yX2_init : MethodName := ⟨RX2, "<init>", "()V"⟩
abbrev cX2_clear : ByteArray := prog_4_method_2_code
def yX2_clear : MethodName := ⟨RX2, "clear", "()V"⟩
abbrev cX2_putBehind : ByteArray := prog_4_method_3_code
def yX2_putBehind : MethodName := ⟨RX2, "putBehind", "(II)V"⟩
abbrev cX2_putAhead : ByteArray := prog_4_method_4_code
def yX2_putAhead : MethodName := ⟨RX2, "putAhead", "(II)V"⟩
def RX3 : String := "CandleStatute$Sharing"
def TX3 : u_T := fun k => match k with
  | 0 => ("CandleStatute$Sharing", "parts", "[I", true)
  | 1 => ("CandleStatute$Sharing", "pieces", "[I", true)
  | _ => ("CandleStatute$Sharing", "rests", "[I", true)
def tyX3 : Nat → FieldType := fun k => match k with
  | 0 => .array .int
  | 1 => .array .int
  | _ => .array .int
abbrev wsX30 : List Cond := u_ws RX3 TX3 3
theorem nmX3 : ∀ a, a < 3 → ∀ b, b < 3 → a ≠ b → (TX3 a).2.1 ≠ (TX3 b).2.1 := by decide +kernel
theorem tyX3_ok : ∀ k, k < 3 → parseFieldDescriptor (TX3 k).2.2.1 = some (tyX3 k) := by decide +kernel
abbrev cX3_init : ByteArray := prog_5_method_1_code
def yX3_init : MethodName := ⟨RX3, "<init>", "()V"⟩
abbrev cX3_divide : ByteArray := prog_5_method_2_code
def yX3_divide : MethodName := ⟨RX3, "divide", "(LCandleStatute$State;)V"⟩
abbrev cX3_giveOneByRest : ByteArray := prog_5_method_3_code
def yX3_giveOneByRest : MethodName := ⟨RX3, "giveOneByRest", "()V"⟩
abbrev cX3_deal : ByteArray := prog_5_method_4_code
def yX3_deal : MethodName := ⟨RX3, "deal", "(LCandleStatute$State;)V"⟩
abbrev cX3_greatest : ByteArray := prog_5_method_5_code
def yX3_greatest : MethodName := ⟨RX3, "greatest", "([I)I"⟩
def RX4 : String := "CandleStatute$State"
def TX4 : u_T := fun k => match k with
  | 0 => ("CandleStatute$State", "stubs", "LCandleStatute$Stubs;", true)
  | 1 => ("CandleStatute$State", "isOpen", "[Z", true)
  | 2 => ("CandleStatute$State", "heir", "[I", true)
  | 3 => ("CandleStatute$State", "store", "[I", true)
  | 4 => ("CandleStatute$State", "pooled", "[I", true)
  | 5 => ("CandleStatute$State", "pool", "I", false)
  | 6 => ("CandleStatute$State", "brought", "I", false)
  | 7 => ("CandleStatute$State", "burnt", "I", false)
  | 8 => ("CandleStatute$State", "given", "I", false)
  | 9 => ("CandleStatute$State", "paid", "I", false)
  | _ => ("CandleStatute$State", "hours", "I", false)
def tyX4 : Nat → FieldType := fun k => match k with
  | 0 => .object "CandleStatute$Stubs"
  | 1 => .array .boolean
  | 2 => .array .int
  | 3 => .array .int
  | 4 => .array .int
  | 5 => .int
  | 6 => .int
  | 7 => .int
  | 8 => .int
  | 9 => .int
  | _ => .int
abbrev wsX40 : List Cond := u_ws RX4 TX4 11
theorem nmX4 : ∀ a, a < 11 → ∀ b, b < 11 → a ≠ b → (TX4 a).2.1 ≠ (TX4 b).2.1 := by decide +kernel
theorem tyX4_ok : ∀ k, k < 11 → parseFieldDescriptor (TX4 k).2.2.1 = some (tyX4 k) := by decide +kernel
abbrev cX4_init : ByteArray := prog_6_method_1_code
def yX4_init : MethodName := ⟨RX4, "<init>", "()V"⟩
abbrev cX4_copyFrom : ByteArray := prog_6_method_2_code
def yX4_copyFrom : MethodName := ⟨RX4, "copyFrom", "(LCandleStatute$State;)V"⟩
abbrev cX4_burnDown : ByteArray := prog_6_method_3_code
def yX4_burnDown : MethodName := ⟨RX4, "burnDown", "(II)I"⟩
abbrev cX4_claimOf : ByteArray := prog_6_method_4_code
def yX4_claimOf : MethodName := ⟨RX4, "claimOf", "(I)I"⟩
abbrev cX4_allClaims : ByteArray := prog_6_method_5_code
def yX4_allClaims : MethodName := ⟨RX4, "allClaims", "()I"⟩
abbrev cX4_allStores : ByteArray := prog_6_method_6_code
def yX4_allStores : MethodName := ⟨RX4, "allStores", "()I"⟩
abbrev cX4_allPooled : ByteArray := prog_6_method_7_code
def yX4_allPooled : MethodName := ⟨RX4, "allPooled", "()I"⟩
abbrev cX4_openHouses : ByteArray := prog_6_method_8_code
def yX4_openHouses : MethodName := ⟨RX4, "openHouses", "()I"⟩
abbrev cX4_successorOf : ByteArray := prog_6_method_9_code
def yX4_successorOf : MethodName := ⟨RX4, "successorOf", "(I)I"⟩
abbrev cX4_handOver : ByteArray := prog_6_method_10_code
def yX4_handOver : MethodName := ⟨RX4, "handOver", "(II)V"⟩
abbrev cX4_handOverRights : ByteArray := prog_6_method_11_code
def yX4_handOverRights : MethodName := ⟨RX4, "handOverRights", "(II)V"⟩
abbrev cX4_handOverStubs : ByteArray := prog_6_method_12_code
def yX4_handOverStubs : MethodName := ⟨RX4, "handOverStubs", "(II)V"⟩
abbrev cX4_dropWhatIsOwn : ByteArray := prog_6_method_13_code
def yX4_dropWhatIsOwn : MethodName := ⟨RX4, "dropWhatIsOwn", "()V"⟩
abbrev cX4_housesAheadOf : ByteArray := prog_6_method_14_code
def yX4_housesAheadOf : MethodName := ⟨RX4, "housesAheadOf", "(I)I"⟩
abbrev cX4_isAhead : ByteArray := prog_6_method_15_code
def yX4_isAhead : MethodName := ⟨RX4, "isAhead", "(II)Z"⟩
def RX5 : String := "CandleStatute$Stubs"
def TX5 : u_T := fun k => match k with
  | 0 => ("CandleStatute$Stubs", "house", "[I", true)
  | 1 => ("CandleStatute$Stubs", "wax", "[I", true)
  | 2 => ("CandleStatute$Stubs", "wick", "[I", true)
  | 3 => ("CandleStatute$Stubs", "creditor", "[I", true)
  | 4 => ("CandleStatute$Stubs", "debt", "[I", true)
  | 5 => ("CandleStatute$Stubs", "snuffer", "[I", true)
  | 6 => ("CandleStatute$Stubs", "snuffed", "[I", true)
  | 7 => ("CandleStatute$Stubs", "gave", "[I", true)
  | _ => ("CandleStatute$Stubs", "count", "I", false)
def tyX5 : Nat → FieldType := fun k => match k with
  | 0 => .array .int
  | 1 => .array .int
  | 2 => .array .int
  | 3 => .array .int
  | 4 => .array .int
  | 5 => .array .int
  | 6 => .array .int
  | 7 => .array .int
  | _ => .int
abbrev wsX50 : List Cond := u_ws RX5 TX5 9
theorem nmX5 : ∀ a, a < 9 → ∀ b, b < 9 → a ≠ b → (TX5 a).2.1 ≠ (TX5 b).2.1 := by decide +kernel
theorem tyX5_ok : ∀ k, k < 9 → parseFieldDescriptor (TX5 k).2.2.1 = some (tyX5 k) := by decide +kernel
abbrev cX5_init : ByteArray := prog_7_method_1_code
def yX5_init : MethodName := ⟨RX5, "<init>", "()V"⟩
abbrev cX5_copyFrom : ByteArray := prog_7_method_2_code
def yX5_copyFrom : MethodName := ⟨RX5, "copyFrom", "(LCandleStatute$Stubs;)V"⟩
abbrev cX5_copyStub : ByteArray := prog_7_method_3_code
def yX5_copyStub : MethodName := ⟨RX5, "copyStub", "(ILCandleStatute$Stubs;I)V"⟩
abbrev cX5_put : ByteArray := prog_7_method_4_code
def yX5_put : MethodName := ⟨RX5, "put", "(III)I"⟩
abbrev cX5_remove : ByteArray := prog_7_method_5_code
def yX5_remove : MethodName := ⟨RX5, "remove", "(I)V"⟩
abbrev cX5_takeWax : ByteArray := prog_7_method_6_code
def yX5_takeWax : MethodName := ⟨RX5, "takeWax", "(II)V"⟩
abbrev cX5_forgive : ByteArray := prog_7_method_7_code
def yX5_forgive : MethodName := ⟨RX5, "forgive", "(I)V"⟩
abbrev cX5_release : ByteArray := prog_7_method_8_code
def yX5_release : MethodName := ⟨RX5, "release", "(I)V"⟩
abbrev cX5_payBack : ByteArray := prog_7_method_9_code
def yX5_payBack : MethodName := ⟨RX5, "payBack", "(II)I"⟩
abbrev cX5_shortenWrits : ByteArray := prog_7_method_10_code
def yX5_shortenWrits : MethodName := ⟨RX5, "shortenWrits", "(I)I"⟩
abbrev cX5_countOn : ByteArray := prog_7_method_11_code
def yX5_countOn : MethodName := ⟨RX5, "countOn", "(I)I"⟩
abbrev cX5_weightOn : ByteArray := prog_7_method_12_code
def yX5_weightOn : MethodName := ⟨RX5, "weightOn", "(I)I"⟩
abbrev cX5_weightBesideOthers : ByteArray := prog_7_method_13_code
def yX5_weightBesideOthers : MethodName := ⟨RX5, "weightBesideOthers", "(I)I"⟩
abbrev cX5_tooManyFor : ByteArray := prog_7_method_14_code
def yX5_tooManyFor : MethodName := ⟨RX5, "tooManyFor", "(II)I"⟩
abbrev cX5_writsBy : ByteArray := prog_7_method_15_code
def yX5_writsBy : MethodName := ⟨RX5, "writsBy", "(I)I"⟩
abbrev cX5_owedTo : ByteArray := prog_7_method_16_code
def yX5_owedTo : MethodName := ⟨RX5, "owedTo", "(I)I"⟩
abbrev cX5_owedBy : ByteArray := prog_7_method_17_code
def yX5_owedBy : MethodName := ⟨RX5, "owedBy", "(I)I"⟩
abbrev cX5_allWrits : ByteArray := prog_7_method_18_code
def yX5_allWrits : MethodName := ⟨RX5, "allWrits", "()I"⟩
abbrev cX5_allWax : ByteArray := prog_7_method_19_code
def yX5_allWax : MethodName := ⟨RX5, "allWax", "()I"⟩
abbrev cX5_allDebts : ByteArray := prog_7_method_20_code
def yX5_allDebts : MethodName := ⟨RX5, "allDebts", "()I"⟩
abbrev cX5_stubsAheadOf : ByteArray := prog_7_method_21_code
def yX5_stubsAheadOf : MethodName := ⟨RX5, "stubsAheadOf", "(I)I"⟩
abbrev cX5_isAhead : ByteArray := prog_7_method_22_code
def yX5_isAhead : MethodName := ⟨RX5, "isAhead", "(II)Z"⟩
def RX6 : String := "CandleStatute"
def TX6 : u_T := fun k => match k with
  | 0 => ("CandleStatute", "now", "LCandleStatute$State;", true)
  | 1 => ("CandleStatute", "snapshot", "LCandleStatute$State;", true)
  | 2 => ("CandleStatute", "hasSnapshot", "Z", false)
  | 3 => ("CandleStatute", "history", "LCandleStatute$History;", true)
  | 4 => ("CandleStatute", "reasons", "LCandleStatute$Reasons;", true)
  | 5 => ("CandleStatute", "orders", "LCandleStatute$Orders;", true)
  | 6 => ("CandleStatute", "sharing", "LCandleStatute$Sharing;", true)
  | 7 => ("CandleStatute", "text", "Ljava/lang/StringBuilder;", true)
  | _ => ("CandleStatute", "line", "Ljava/lang/StringBuilder;", true)
def tyX6 : Nat → FieldType := fun k => match k with
  | 0 => .object "CandleStatute$State"
  | 1 => .object "CandleStatute$State"
  | 2 => .boolean
  | 3 => .object "CandleStatute$History"
  | 4 => .object "CandleStatute$Reasons"
  | 5 => .object "CandleStatute$Orders"
  | 6 => .object "CandleStatute$Sharing"
  | 7 => .object "java/lang/StringBuilder"
  | _ => .object "java/lang/StringBuilder"
abbrev wsX60 : List Cond := u_ws RX6 TX6 9
theorem nmX6 : ∀ a, a < 9 → ∀ b, b < 9 → a ≠ b → (TX6 a).2.1 ≠ (TX6 b).2.1 := by decide +kernel
theorem tyX6_ok : ∀ k, k < 9 → parseFieldDescriptor (TX6 k).2.2.1 = some (tyX6 k) := by decide +kernel
abbrev cX6_init : ByteArray := prog_1_method_1_code
def yX6_init : MethodName := ⟨RX6, "<init>", "()V"⟩
abbrev cX6_stub : ByteArray := prog_1_method_2_code
def yX6_stub : MethodName := ⟨RX6, "stub", "(III)I"⟩
abbrev cX6_burn : ByteArray := prog_1_method_3_code
def yX6_burn : MethodName := ⟨RX6, "burn", "(II)I"⟩
abbrev cX6_owe : ByteArray := prog_1_method_4_code
def yX6_owe : MethodName := ⟨RX6, "owe", "(III)I"⟩
abbrev cX6_writ : ByteArray := prog_1_method_5_code
def yX6_writ : MethodName := ⟨RX6, "writ", "(III)I"⟩
abbrev cX6_stubOf : ByteArray := prog_1_method_6_code
def yX6_stubOf : MethodName := ⟨RX6, "stubOf", "(II)I"⟩
abbrev cX6_pool : ByteArray := prog_1_method_7_code
def yX6_pool : MethodName := ⟨RX6, "pool", "(II)I"⟩
abbrev cX6_share : ByteArray := prog_1_method_8_code
def yX6_share : MethodName := ⟨RX6, "share", "()I"⟩
abbrev cX6_part : ByteArray := prog_1_method_9_code
def yX6_part : MethodName := ⟨RX6, "part", "(I)I"⟩
abbrev cX6_partAgain : ByteArray := prog_1_method_10_code
def yX6_partAgain : MethodName := ⟨RX6, "partAgain", "(I)I"⟩
abbrev cX6_mould : ByteArray := prog_1_method_11_code
def yX6_mould : MethodName := ⟨RX6, "mould", "(III)I"⟩
abbrev cX6_heir : ByteArray := prog_1_method_12_code
def yX6_heir : MethodName := ⟨RX6, "heir", "(II)I"⟩
abbrev cX6_end : ByteArray := prog_1_method_13_code
def yX6_end : MethodName := ⟨RX6, "end", "(I)I"⟩
abbrev cX6_pass : ByteArray := prog_1_method_14_code
def yX6_pass : MethodName := ⟨RX6, "pass", "(I)I"⟩
abbrev cX6_houseOf : ByteArray := prog_1_method_15_code
def yX6_houseOf : MethodName := ⟨RX6, "houseOf", "(II)I"⟩
abbrev cX6_inherits : ByteArray := prog_1_method_16_code
def yX6_inherits : MethodName := ⟨RX6, "inherits", "(I)I"⟩
abbrev cX6_wouldMelt : ByteArray := prog_1_method_17_code
def yX6_wouldMelt : MethodName := ⟨RX6, "wouldMelt", "(I)I"⟩
abbrev cX6_weight : ByteArray := prog_1_method_18_code
def yX6_weight : MethodName := ⟨RX6, "weight", "(I)I"⟩
abbrev cX6_weightAgain : ByteArray := prog_1_method_19_code
def yX6_weightAgain : MethodName := ⟨RX6, "weightAgain", "(I)I"⟩
abbrev cX6_ranked : ByteArray := prog_1_method_20_code
def yX6_ranked : MethodName := ⟨RX6, "ranked", "(I)I"⟩
abbrev cX6_brightest : ByteArray := prog_1_method_21_code
def yX6_brightest : MethodName := ⟨RX6, "brightest", "(I)I"⟩
abbrev cX6_append : ByteArray := prog_1_method_22_code
def yX6_append : MethodName := ⟨RX6, "append", "(I)I"⟩
abbrev cX6_run : ByteArray := prog_1_method_23_code
def yX6_run : MethodName := ⟨RX6, "run", "()I"⟩
abbrev cX6_tell : ByteArray := prog_1_method_24_code
def yX6_tell : MethodName := ⟨RX6, "tell", "(I)I"⟩
abbrev cX6_tellHouses : ByteArray := prog_1_method_25_code
def yX6_tellHouses : MethodName := ⟨RX6, "tellHouses", "()I"⟩
abbrev cX6_character : ByteArray := prog_1_method_26_code
def yX6_character : MethodName := ⟨RX6, "character", "(I)I"⟩
abbrev cX6_reason : ByteArray := prog_1_method_27_code
def yX6_reason : MethodName := ⟨RX6, "reason", "(IZ)I"⟩
abbrev cX6_account : ByteArray := prog_1_method_28_code
def yX6_account : MethodName := ⟨RX6, "account", "(I)I"⟩
abbrev cX6_isBalanced : ByteArray := prog_1_method_29_code
def yX6_isBalanced : MethodName := ⟨RX6, "isBalanced", "()I"⟩
abbrev cX6_meanWax : ByteArray := prog_1_method_30_code
def yX6_meanWax : MethodName := ⟨RX6, "meanWax", "()D"⟩
abbrev cX6_snuffedShare : ByteArray := prog_1_method_31_code
def yX6_snuffedShare : MethodName := ⟨RX6, "snuffedShare", "()F"⟩
abbrev cX6_undo : ByteArray := prog_1_method_32_code
def yX6_undo : MethodName := ⟨RX6, "undo", "()I"⟩
abbrev cX6_save : ByteArray := prog_1_method_33_code
def yX6_save : MethodName := ⟨RX6, "save", "()I"⟩
abbrev cX6_restore : ByteArray := prog_1_method_34_code
def yX6_restore : MethodName := ⟨RX6, "restore", "()I"⟩
abbrev cX6_settle : ByteArray := prog_1_method_35_code
def yX6_settle : MethodName := ⟨RX6, "settle", "(I)I"⟩
abbrev cX6_bringStub : ByteArray := prog_1_method_36_code
def yX6_bringStub : MethodName := ⟨RX6, "bringStub", "(III)I"⟩
abbrev cX6_mouldStub : ByteArray := prog_1_method_37_code
def yX6_mouldStub : MethodName := ⟨RX6, "mouldStub", "(III)I"⟩
abbrev cX6_hasRoomFor : ByteArray := prog_1_method_38_code
def yX6_hasRoomFor : MethodName := ⟨RX6, "hasRoomFor", "(II)Z"⟩
abbrev cX6_burnStub : ByteArray := prog_1_method_39_code
def yX6_burnStub : MethodName := ⟨RX6, "burnStub", "(II)I"⟩
abbrev cX6_oweLight : ByteArray := prog_1_method_40_code
def yX6_oweLight : MethodName := ⟨RX6, "oweLight", "(III)I"⟩
abbrev cX6_snuffStub : ByteArray := prog_1_method_41_code
def yX6_snuffStub : MethodName := ⟨RX6, "snuffStub", "(III)I"⟩
abbrev cX6_poolWax : ByteArray := prog_1_method_42_code
def yX6_poolWax : MethodName := ⟨RX6, "poolWax", "(II)I"⟩
abbrev cX6_sharePool : ByteArray := prog_1_method_43_code
def yX6_sharePool : MethodName := ⟨RX6, "sharePool", "()I"⟩
abbrev cX6_tellHeir : ByteArray := prog_1_method_44_code
def yX6_tellHeir : MethodName := ⟨RX6, "tellHeir", "(II)I"⟩
abbrev cX6_endHouse : ByteArray := prog_1_method_45_code
def yX6_endHouse : MethodName := ⟨RX6, "endHouse", "(I)I"⟩
abbrev cX6_passHours : ByteArray := prog_1_method_46_code
def yX6_passHours : MethodName := ⟨RX6, "passHours", "(I)I"⟩
abbrev cX6_carryOut : ByteArray := prog_1_method_47_code
def yX6_carryOut : MethodName := ⟨RX6, "carryOut", "(I)I"⟩
abbrev cX6_isFrom : ByteArray := prog_1_method_48_code
def yX6_isFrom : MethodName := ⟨RX6, "isFrom", "(III)Z"⟩
abbrev cX6_isHouse : ByteArray := prog_1_method_49_code
def yX6_isHouse : MethodName := ⟨RX6, "isHouse", "(I)Z"⟩
abbrev cX6_isStub : ByteArray := prog_1_method_50_code
def yX6_isStub : MethodName := ⟨RX6, "isStub", "(I)Z"⟩
abbrev cX6_orNothing : ByteArray := prog_1_method_51_code
def yX6_orNothing : MethodName := ⟨RX6, "orNothing", "(I)I"⟩
abbrev cX6_refuse : ByteArray := prog_1_method_52_code
def yX6_refuse : MethodName := ⟨RX6, "refuse", "(II)I"⟩
abbrev cX6_refuseOrder : ByteArray := prog_1_method_53_code
def yX6_refuseOrder : MethodName := ⟨RX6, "refuseOrder", "(II)I"⟩
abbrev cX6_writeHouse : ByteArray := prog_1_method_54_code
def yX6_writeHouse : MethodName := ⟨RX6, "writeHouse", "(I)V"⟩
abbrev cX6_isWaxAccountedFor : ByteArray := prog_1_method_55_code
def yX6_isWaxAccountedFor : MethodName := ⟨RX6, "isWaxAccountedFor", "()Z"⟩
abbrev cX6_areSharesSame : ByteArray := prog_1_method_56_code
def yX6_areSharesSame : MethodName := ⟨RX6, "areSharesSame", "()Z"⟩
abbrev cX6_areWeightsSame : ByteArray := prog_1_method_57_code
def yX6_areWeightsSame : MethodName := ⟨RX6, "areWeightsSame", "()Z"⟩
def RX7 : String := "CandleStatuteModel"
def TX7 : u_T := fun k => match k with
  | 0 => ("CandleStatuteModel", "fails", "I", false)
  | 1 => ("CandleStatuteModel", "changes", "I", false)
  | 2 => ("CandleStatuteModel", "why", "I", false)
  | 3 => ("CandleStatuteModel", "detail", "I", false)
  | 4 => ("CandleStatuteModel", "behindWhy", "I", false)
  | 5 => ("CandleStatuteModel", "behindDetail", "I", false)
  | 6 => ("CandleStatuteModel", "lastWhy", "I", false)
  | 7 => ("CandleStatuteModel", "lastDetail", "I", false)
  | 8 => ("CandleStatuteModel", "isSaved", "Z", false)
  | 9 => ("CandleStatuteModel", "v", "[I", true)
  | 10 => ("CandleStatuteModel", "before", "[I", true)
  | 11 => ("CandleStatuteModel", "saved", "[I", true)
  | 12 => ("CandleStatuteModel", "kept", "[I", true)
  | 13 => ("CandleStatuteModel", "past", "[I", true)
  | 14 => ("CandleStatuteModel", "parts", "[I", true)
  | 15 => ("CandleStatuteModel", "rests", "[I", true)
  | 16 => ("CandleStatuteModel", "melted", "I", false)
  | 17 => ("CandleStatuteModel", "text", "[I", true)
  | 18 => ("CandleStatuteModel", "line", "[I", true)
  | 19 => ("CandleStatuteModel", "textN", "I", false)
  | 20 => ("CandleStatuteModel", "here", "I", false)
  | 21 => ("CandleStatuteModel", "end", "I", false)
  | 22 => ("CandleStatuteModel", "lineN", "I", false)
  | 23 => ("CandleStatuteModel", "isWrong", "Z", false)
  | _ => ("CandleStatuteModel", "isDoing", "Z", false)
def tyX7 : Nat → FieldType := fun k => match k with
  | 0 => .int
  | 1 => .int
  | 2 => .int
  | 3 => .int
  | 4 => .int
  | 5 => .int
  | 6 => .int
  | 7 => .int
  | 8 => .boolean
  | 9 => .array .int
  | 10 => .array .int
  | 11 => .array .int
  | 12 => .array .int
  | 13 => .array .int
  | 14 => .array .int
  | 15 => .array .int
  | 16 => .int
  | 17 => .array .int
  | 18 => .array .int
  | 19 => .int
  | 20 => .int
  | 21 => .int
  | 22 => .int
  | 23 => .boolean
  | _ => .boolean
abbrev wsX70 : List Cond := u_ws RX7 TX7 25
theorem nmX7 : ∀ a, a < 25 → ∀ b, b < 25 → a ≠ b → (TX7 a).2.1 ≠ (TX7 b).2.1 := by decide +kernel
theorem tyX7_ok : ∀ k, k < 25 → parseFieldDescriptor (TX7 k).2.2.1 = some (tyX7 k) := by decide +kernel
abbrev cX7_init : ByteArray := prog_9_method_1_code
def yX7_init : MethodName := ⟨RX7, "<init>", "()V"⟩
abbrev cX7_fail : ByteArray := prog_9_method_2_code
def yX7_fail : MethodName := ⟨RX7, "fail", "(I)I"⟩
abbrev cX7_refuses : ByteArray := prog_9_method_3_code
def yX7_refuses : MethodName := ⟨RX7, "refuses", "(II)I"⟩
abbrev cX7_isIn : ByteArray := prog_9_method_4_code
def yX7_isIn : MethodName := ⟨RX7, "isIn", "(III)Z"⟩
abbrev cX7_lays : ByteArray := prog_9_method_5_code
def yX7_lays : MethodName := ⟨RX7, "lays", "([I[I)V"⟩
abbrev cX7_begins : ByteArray := prog_9_method_6_code
def yX7_begins : MethodName := ⟨RX7, "begins", "()V"⟩
abbrev cX7_ends : ByteArray := prog_9_method_7_code
def yX7_ends : MethodName := ⟨RX7, "ends", "(I)I"⟩
abbrev cX7_at : ByteArray := prog_9_method_8_code
def yX7_at : MethodName := ⟨RX7, "at", "(II)I"⟩
abbrev cX7_in : ByteArray := prog_9_method_9_code
def yX7_in : MethodName := ⟨RX7, "in", "(II)I"⟩
abbrev cX7_isHouse : ByteArray := prog_9_method_10_code
def yX7_isHouse : MethodName := ⟨RX7, "isHouse", "(I)Z"⟩
abbrev cX7_isStub : ByteArray := prog_9_method_11_code
def yX7_isStub : MethodName := ⟨RX7, "isStub", "(I)Z"⟩
abbrev cX7_isOpen : ByteArray := prog_9_method_12_code
def yX7_isOpen : MethodName := ⟨RX7, "isOpen", "(I)Z"⟩
abbrev cX7_opens : ByteArray := prog_9_method_13_code
def yX7_opens : MethodName := ⟨RX7, "opens", "()I"⟩
abbrev cX7_tray : ByteArray := prog_9_method_14_code
def yX7_tray : MethodName := ⟨RX7, "tray", "(I)I"⟩
abbrev cX7_goes : ByteArray := prog_9_method_15_code
def yX7_goes : MethodName := ⟨RX7, "goes", "(I)V"⟩
abbrev cX7_owed : ByteArray := prog_9_method_16_code
def yX7_owed : MethodName := ⟨RX7, "owed", "(I)I"⟩
abbrev cX7_writs : ByteArray := prog_9_method_17_code
def yX7_writs : MethodName := ⟨RX7, "writs", "(I)I"⟩
abbrev cX7_isMade : ByteArray := prog_9_method_18_code
def yX7_isMade : MethodName := ⟨RX7, "isMade", "(II)Z"⟩
abbrev cX7_makes : ByteArray := prog_9_method_19_code
def yX7_makes : MethodName := ⟨RX7, "makes", "(III)I"⟩
abbrev cX7_comes : ByteArray := prog_9_method_20_code
def yX7_comes : MethodName := ⟨RX7, "comes", "(III)I"⟩
abbrev cX7_stub : ByteArray := prog_9_method_21_code
def yX7_stub : MethodName := ⟨RX7, "stub", "(III)I"⟩
abbrev cX7_refusesBurning : ByteArray := prog_9_method_22_code
def yX7_refusesBurning : MethodName := ⟨RX7, "refusesBurning", "(III)I"⟩
abbrev cX7_burns : ByteArray := prog_9_method_23_code
def yX7_burns : MethodName := ⟨RX7, "burns", "(II)I"⟩
abbrev cX7_burn : ByteArray := prog_9_method_24_code
def yX7_burn : MethodName := ⟨RX7, "burn", "(II)I"⟩
abbrev cX7_owes : ByteArray := prog_9_method_25_code
def yX7_owes : MethodName := ⟨RX7, "owes", "(III)I"⟩
abbrev cX7_owe : ByteArray := prog_9_method_26_code
def yX7_owe : MethodName := ⟨RX7, "owe", "(III)I"⟩
abbrev cX7_snuffs : ByteArray := prog_9_method_27_code
def yX7_snuffs : MethodName := ⟨RX7, "snuffs", "(III)I"⟩
abbrev cX7_writ : ByteArray := prog_9_method_28_code
def yX7_writ : MethodName := ⟨RX7, "writ", "(III)I"⟩
abbrev cX7_stubOf : ByteArray := prog_9_method_29_code
def yX7_stubOf : MethodName := ⟨RX7, "stubOf", "(II)I"⟩
abbrev cX7_pooled : ByteArray := prog_9_method_30_code
def yX7_pooled : MethodName := ⟨RX7, "pooled", "()I"⟩
abbrev cX7_pools : ByteArray := prog_9_method_31_code
def yX7_pools : MethodName := ⟨RX7, "pools", "(II)I"⟩
abbrev cX7_pool : ByteArray := prog_9_method_32_code
def yX7_pool : MethodName := ⟨RX7, "pool", "(II)I"⟩
abbrev cX7_claim : ByteArray := prog_9_method_33_code
def yX7_claim : MethodName := ⟨RX7, "claim", "(I)I"⟩
abbrev cX7_claims : ByteArray := prog_9_method_34_code
def yX7_claims : MethodName := ⟨RX7, "claims", "()I"⟩
abbrev cX7_finds : ByteArray := prog_9_method_35_code
def yX7_finds : MethodName := ⟨RX7, "finds", "()V"⟩
abbrev cX7_shares : ByteArray := prog_9_method_36_code
def yX7_shares : MethodName := ⟨RX7, "shares", "()I"⟩
abbrev cX7_share : ByteArray := prog_9_method_37_code
def yX7_share : MethodName := ⟨RX7, "share", "()I"⟩
abbrev cX7_part : ByteArray := prog_9_method_38_code
def yX7_part : MethodName := ⟨RX7, "part", "(I)I"⟩
abbrev cX7_partAgain : ByteArray := prog_9_method_39_code
def yX7_partAgain : MethodName := ⟨RX7, "partAgain", "(I)I"⟩
abbrev cX7_moulds : ByteArray := prog_9_method_40_code
def yX7_moulds : MethodName := ⟨RX7, "moulds", "(III)I"⟩
abbrev cX7_mould : ByteArray := prog_9_method_41_code
def yX7_mould : MethodName := ⟨RX7, "mould", "(III)I"⟩
abbrev cX7_tellsHeir : ByteArray := prog_9_method_42_code
def yX7_tellsHeir : MethodName := ⟨RX7, "tellsHeir", "(II)I"⟩
abbrev cX7_heir : ByteArray := prog_9_method_43_code
def yX7_heir : MethodName := ⟨RX7, "heir", "(II)I"⟩
abbrev cX7_inForce : ByteArray := prog_9_method_44_code
def yX7_inForce : MethodName := ⟨RX7, "inForce", "(I)I"⟩
abbrev cX7_inheritsStubs : ByteArray := prog_9_method_45_code
def yX7_inheritsStubs : MethodName := ⟨RX7, "inheritsStubs", "(II)I"⟩
abbrev cX7_frees : ByteArray := prog_9_method_46_code
def yX7_frees : MethodName := ⟨RX7, "frees", "(I)V"⟩
abbrev cX7_closes : ByteArray := prog_9_method_47_code
def yX7_closes : MethodName := ⟨RX7, "closes", "(I)I"⟩
abbrev cX7_end : ByteArray := prog_9_method_48_code
def yX7_end : MethodName := ⟨RX7, "end", "(I)I"⟩
abbrev cX7_passes : ByteArray := prog_9_method_49_code
def yX7_passes : MethodName := ⟨RX7, "passes", "(I)I"⟩
abbrev cX7_pass : ByteArray := prog_9_method_50_code
def yX7_pass : MethodName := ⟨RX7, "pass", "(I)I"⟩
abbrev cX7_ofStubs : ByteArray := prog_9_method_51_code
def yX7_ofStubs : MethodName := ⟨RX7, "ofStubs", "(II)I"⟩
abbrev cX7_houseOf : ByteArray := prog_9_method_52_code
def yX7_houseOf : MethodName := ⟨RX7, "houseOf", "(II)I"⟩
abbrev cX7_inherits : ByteArray := prog_9_method_53_code
def yX7_inherits : MethodName := ⟨RX7, "inherits", "(I)I"⟩
abbrev cX7_wouldMelt : ByteArray := prog_9_method_54_code
def yX7_wouldMelt : MethodName := ⟨RX7, "wouldMelt", "(I)I"⟩
abbrev cX7_weight : ByteArray := prog_9_method_55_code
def yX7_weight : MethodName := ⟨RX7, "weight", "(I)I"⟩
abbrev cX7_weightAgain : ByteArray := prog_9_method_56_code
def yX7_weightAgain : MethodName := ⟨RX7, "weightAgain", "(I)I"⟩
abbrev cX7_ranked : ByteArray := prog_9_method_57_code
def yX7_ranked : MethodName := ⟨RX7, "ranked", "(I)I"⟩
abbrev cX7_brightest : ByteArray := prog_9_method_58_code
def yX7_brightest : MethodName := ⟨RX7, "brightest", "(I)I"⟩
abbrev cX7_writes : ByteArray := prog_9_method_59_code
def yX7_writes : MethodName := ⟨RX7, "writes", "(I)V"⟩
abbrev cX7_writesNumber : ByteArray := prog_9_method_60_code
def yX7_writesNumber : MethodName := ⟨RX7, "writesNumber", "(I)V"⟩
abbrev cX7_append : ByteArray := prog_9_method_61_code
def yX7_append : MethodName := ⟨RX7, "append", "(I)I"⟩
abbrev cX7_sign : ByteArray := prog_9_method_62_code
def yX7_sign : MethodName := ⟨RX7, "sign", "()I"⟩
abbrev cX7_mark : ByteArray := prog_9_method_63_code
def yX7_mark : MethodName := ⟨RX7, "mark", "(I)V"⟩
abbrev cX7_digits : ByteArray := prog_9_method_64_code
def yX7_digits : MethodName := ⟨RX7, "digits", "(I)I"⟩
abbrev cX7_behind : ByteArray := prog_9_method_65_code
def yX7_behind : MethodName := ⟨RX7, "behind", "(II)I"⟩
abbrev cX7_does : ByteArray := prog_9_method_66_code
def yX7_does : MethodName := ⟨RX7, "does", "(IIII)I"⟩
abbrev cX7_isKnown : ByteArray := prog_9_method_67_code
def yX7_isKnown : MethodName := ⟨RX7, "isKnown", "(I)Z"⟩
abbrev cX7_order : ByteArray := prog_9_method_68_code
def yX7_order : MethodName := ⟨RX7, "order", "()V"⟩
abbrev cX7_orders : ByteArray := prog_9_method_69_code
def yX7_orders : MethodName := ⟨RX7, "orders", "()I"⟩
abbrev cX7_refusesOrder : ByteArray := prog_9_method_70_code
def yX7_refusesOrder : MethodName := ⟨RX7, "refusesOrder", "(I)I"⟩
abbrev cX7_run : ByteArray := prog_9_method_71_code
def yX7_run : MethodName := ⟨RX7, "run", "()I"⟩
abbrev cX7_tell : ByteArray := prog_9_method_72_code
def yX7_tell : MethodName := ⟨RX7, "tell", "(I)I"⟩
abbrev cX7_tellHouses : ByteArray := prog_9_method_73_code
def yX7_tellHouses : MethodName := ⟨RX7, "tellHouses", "()I"⟩
abbrev cX7_character : ByteArray := prog_9_method_74_code
def yX7_character : MethodName := ⟨RX7, "character", "(I)I"⟩
abbrev cX7_reason : ByteArray := prog_9_method_75_code
def yX7_reason : MethodName := ⟨RX7, "reason", "(IZ)I"⟩
abbrev cX7_ofAll : ByteArray := prog_9_method_76_code
def yX7_ofAll : MethodName := ⟨RX7, "ofAll", "(I)I"⟩
abbrev cX7_stores : ByteArray := prog_9_method_77_code
def yX7_stores : MethodName := ⟨RX7, "stores", "()I"⟩
abbrev cX7_account : ByteArray := prog_9_method_78_code
def yX7_account : MethodName := ⟨RX7, "account", "(I)I"⟩
abbrev cX7_isBalanced : ByteArray := prog_9_method_79_code
def yX7_isBalanced : MethodName := ⟨RX7, "isBalanced", "()I"⟩
abbrev cX7_meanWax : ByteArray := prog_9_method_80_code
def yX7_meanWax : MethodName := ⟨RX7, "meanWax", "()D"⟩
abbrev cX7_snuffedShare : ByteArray := prog_9_method_81_code
def yX7_snuffedShare : MethodName := ⟨RX7, "snuffedShare", "()F"⟩
abbrev cX7_undo : ByteArray := prog_9_method_82_code
def yX7_undo : MethodName := ⟨RX7, "undo", "()I"⟩
abbrev cX7_save : ByteArray := prog_9_method_83_code
def yX7_save : MethodName := ⟨RX7, "save", "()I"⟩
abbrev cX7_restore : ByteArray := prog_9_method_84_code
def yX7_restore : MethodName := ⟨RX7, "restore", "()I"⟩
def RJ5 : String := "java/lang/AbstractStringBuilder"
abbrev cJ5_init_d00df : ByteArray := prog_10_method_2_code
def yJ5_init_d00df : MethodName := ⟨RJ5, "<init>", "(I)V"⟩
abbrev cJ5_length_8abf5 : ByteArray := prog_10_method_6_code
def yJ5_length_8abf5 : MethodName := ⟨RJ5, "length", "()I"⟩
abbrev cJ5_ensureCapacityInternal_d00df : ByteArray := prog_10_method_9_code
def yJ5_ensureCapacityInternal_d00df : MethodName := ⟨RJ5, "ensureCapacityInternal", "(I)V"⟩
abbrev cJ5_newCapacity_0f7a4 : ByteArray := prog_10_method_10_code
def yJ5_newCapacity_0f7a4 : MethodName := ⟨RJ5, "newCapacity", "(I)I"⟩
abbrev cJ5_inflate_da8c8 : ByteArray := prog_10_method_11_code
def yJ5_inflate_da8c8 : MethodName := ⟨RJ5, "inflate", "()V"⟩
abbrev cJ5_setLength_d00df : ByteArray := prog_10_method_13_code
def yJ5_setLength_d00df : MethodName := ⟨RJ5, "setLength", "(I)V"⟩
abbrev cJ5_charAt_5068e : ByteArray := prog_10_method_14_code
def yJ5_charAt_5068e : MethodName := ⟨RJ5, "charAt", "(I)C"⟩
abbrev cJ5_append_3fe6f : ByteArray := prog_10_method_31_code
def yJ5_append_3fe6f : MethodName := ⟨RJ5, "append", "(C)Ljava/lang/AbstractStringBuilder;"⟩
abbrev cJ5_append_c97b9 : ByteArray := prog_10_method_32_code
def yJ5_append_c97b9 : MethodName := ⟨RJ5, "append", "(I)Ljava/lang/AbstractStringBuilder;"⟩
abbrev cJ5_isLatin1_aae02 : ByteArray := prog_10_method_68_code
def yJ5_isLatin1_aae02 : MethodName := ⟨RJ5, "isLatin1", "()Z"⟩
def RJ11 : String := "java/lang/Character"
abbrev cJ11_isValidCodePoint_9a6ad : ByteArray := prog_11_method_11_code
def yJ11_isValidCodePoint_9a6ad : MethodName := ⟨RJ11, "isValidCodePoint", "(I)Z"⟩
abbrev cJ11_highSurrogate_5068e : ByteArray := prog_11_method_28_code
def yJ11_highSurrogate_5068e : MethodName := ⟨RJ11, "highSurrogate", "(I)C"⟩
abbrev cJ11_lowSurrogate_5068e : ByteArray := prog_11_method_29_code
def yJ11_lowSurrogate_5068e : MethodName := ⟨RJ11, "lowSurrogate", "(I)C"⟩
def RJ6 : String := "java/lang/Integer"
abbrev cJ6_getChars_ba4f3 : ByteArray := prog_13_method_12_code
def yJ6_getChars_ba4f3 : MethodName := ⟨RJ6, "getChars", "(II[B)I"⟩
abbrev cJ6_stringSize_0f7a4 : ByteArray := prog_13_method_13_code
def yJ6_stringSize_0f7a4 : MethodName := ⟨RJ6, "stringSize", "(I)I"⟩
def RJ9 : String := "java/lang/Math"
abbrev cJ9_max_7cf53 : ByteArray := prog_14_method_65_code
def yJ9_max_7cf53 : MethodName := ⟨RJ9, "max", "(II)I"⟩
abbrev cJ9_min_7cf53 : ByteArray := prog_14_method_69_code
def yJ9_min_7cf53 : MethodName := ⟨RJ9, "min", "(II)I"⟩
def RJ0 : String := "java/lang/String"
abbrev cJ0_length_8abf5 : ByteArray := prog_15_method_54_code
def yJ0_length_8abf5 : MethodName := ⟨RJ0, "length", "()I"⟩
abbrev cJ0_charAt_5068e : ByteArray := prog_15_method_56_code
def yJ0_charAt_5068e : MethodName := ⟨RJ0, "charAt", "(I)C"⟩
abbrev cJ0_indexOf_0f7a4 : ByteArray := prog_15_method_79_code
def yJ0_indexOf_0f7a4 : MethodName := ⟨RJ0, "indexOf", "(I)I"⟩
abbrev cJ0_indexOf_7cf53 : ByteArray := prog_15_method_80_code
def yJ0_indexOf_7cf53 : MethodName := ⟨RJ0, "indexOf", "(II)I"⟩
abbrev cJ0_coder_7d493 : ByteArray := prog_15_method_152_code
def yJ0_coder_7d493 : MethodName := ⟨RJ0, "coder", "()B"⟩
abbrev cJ0_isLatin1_aae02 : ByteArray := prog_15_method_154_code
def yJ0_isLatin1_aae02 : MethodName := ⟨RJ0, "isLatin1", "()Z"⟩
abbrev cJ0_checkIndex_df160 : ByteArray := prog_15_method_155_code
def yJ0_checkIndex_df160 : MethodName := ⟨RJ0, "checkIndex", "(II)V"⟩
abbrev cJ0_checkBoundsOffCount_cabcc : ByteArray := prog_15_method_157_code
def yJ0_checkBoundsOffCount_cabcc : MethodName := ⟨RJ0, "checkBoundsOffCount", "(III)I"⟩
abbrev cJ0_checkBoundsBeginEnd_23922 : ByteArray := prog_15_method_158_code
def yJ0_checkBoundsBeginEnd_23922 : MethodName := ⟨RJ0, "checkBoundsBeginEnd", "(III)V"⟩
def RJ4 : String := "java/lang/StringBuilder"
def TJ4 : u_T := fun k => match k with
  | 0 => ("java/lang/AbstractStringBuilder", "value", "[B", false)
  | 1 => ("java/lang/AbstractStringBuilder", "coder", "B", false)
  | 2 => ("java/lang/AbstractStringBuilder", "maybeLatin1", "Z", false)
  | _ => ("java/lang/AbstractStringBuilder", "count", "I", false)
def tyJ4 : Nat → FieldType := fun k => match k with
  | 0 => .array .byte
  | 1 => .byte
  | 2 => .boolean
  | _ => .int
abbrev wsJ40 : List Cond := u_ws RJ4 TJ4 4
theorem nmJ4 : ∀ a, a < 4 → ∀ b, b < 4 → a ≠ b → (TJ4 a).2.1 ≠ (TJ4 b).2.1 := by decide +kernel
theorem tyJ4_ok : ∀ k, k < 4 → parseFieldDescriptor (TJ4 k).2.2.1 = some (tyJ4 k) := by decide +kernel
abbrev cJ4_init_da8c8 : ByteArray := prog_16_method_1_code
def yJ4_init_da8c8 : MethodName := ⟨RJ4, "<init>", "()V"⟩
abbrev cJ4_append_cf468 : ByteArray := prog_16_method_14_code
def yJ4_append_cf468 : MethodName := ⟨RJ4, "append", "(C)Ljava/lang/StringBuilder;"⟩
abbrev cJ4_append_bf812 : ByteArray := prog_16_method_15_code
def yJ4_append_bf812 : MethodName := ⟨RJ4, "append", "(I)Ljava/lang/StringBuilder;"⟩
abbrev cJ4_charAt_5068e : ByteArray := prog_16_method_88_code
def yJ4_charAt_5068e : MethodName := ⟨RJ4, "charAt", "(I)C"⟩
abbrev cJ4_setLength_d00df : ByteArray := prog_16_method_89_code
def yJ4_setLength_d00df : MethodName := ⟨RJ4, "setLength", "(I)V"⟩
abbrev cJ4_length_8abf5 : ByteArray := prog_16_method_93_code
def yJ4_length_8abf5 : MethodName := ⟨RJ4, "length", "()I"⟩
def RJ1 : String := "java/lang/StringLatin1"
abbrev cJ1_charAt_3b067 : ByteArray := prog_17_method_2_code
def yJ1_charAt_3b067 : MethodName := ⟨RJ1, "charAt", "([BI)C"⟩
abbrev cJ1_canEncode_fc78d : ByteArray := prog_17_method_3_code
def yJ1_canEncode_fc78d : MethodName := ⟨RJ1, "canEncode", "(C)Z"⟩
abbrev cJ1_canEncode_9a6ad : ByteArray := prog_17_method_4_code
def yJ1_canEncode_9a6ad : MethodName := ⟨RJ1, "canEncode", "(I)Z"⟩
abbrev cJ1_indexOf_4cfef : ByteArray := prog_17_method_22_code
def yJ1_indexOf_4cfef : MethodName := ⟨RJ1, "indexOf", "([BIII)I"⟩
abbrev cJ1_indexOfChar_4cfef : ByteArray := prog_17_method_23_code
def yJ1_indexOfChar_4cfef : MethodName := ⟨RJ1, "indexOfChar", "([BIII)I"⟩
abbrev cJ1_fillNull_b72d1 : ByteArray := prog_17_method_48_code
def yJ1_fillNull_b72d1 : MethodName := ⟨RJ1, "fillNull", "([BII)V"⟩
abbrev cJ1_inflate_0e8fd : ByteArray := prog_17_method_50_code
def yJ1_inflate_0e8fd : MethodName := ⟨RJ1, "inflate", "([BI[BII)V"⟩
def RJ2 : String := "java/lang/StringUTF16"
abbrev cJ2_newBytesFor_77867 : ByteArray := prog_18_method_2_code
def yJ2_newBytesFor_77867 : MethodName := ⟨RJ2, "newBytesFor", "(I)[B"⟩
abbrev cJ2_newBytesLength_0f7a4 : ByteArray := prog_18_method_3_code
def yJ2_newBytesLength_0f7a4 : MethodName := ⟨RJ2, "newBytesLength", "(I)I"⟩
abbrev cJ2_putChar_b72d1 : ByteArray := prog_18_method_4_code
def yJ2_putChar_b72d1 : MethodName := ⟨RJ2, "putChar", "([BII)V"⟩
abbrev cJ2_getChar_3b067 : ByteArray := prog_18_method_5_code
def yJ2_getChar_3b067 : MethodName := ⟨RJ2, "getChar", "([BI)C"⟩
abbrev cJ2_length_9d52b : ByteArray := prog_18_method_6_code
def yJ2_length_9d52b : MethodName := ⟨RJ2, "length", "([B)I"⟩
abbrev cJ2_indexOf_4cfef : ByteArray := prog_18_method_40_code
def yJ2_indexOf_4cfef : MethodName := ⟨RJ2, "indexOf", "([BIII)I"⟩
abbrev cJ2_indexOfChar_4cfef : ByteArray := prog_18_method_47_code
def yJ2_indexOfChar_4cfef : MethodName := ⟨RJ2, "indexOfChar", "([BIII)I"⟩
abbrev cJ2_indexOfCharUnsafe_4cfef : ByteArray := prog_18_method_48_code
def yJ2_indexOfCharUnsafe_4cfef : MethodName := ⟨RJ2, "indexOfCharUnsafe", "([BIII)I"⟩
abbrev cJ2_indexOfSupplementary_4cfef : ByteArray := prog_18_method_49_code
def yJ2_indexOfSupplementary_4cfef : MethodName := ⟨RJ2, "indexOfSupplementary", "([BIII)I"⟩
abbrev cJ2_fillNull_b72d1 : ByteArray := prog_18_method_70_code
def yJ2_fillNull_b72d1 : MethodName := ⟨RJ2, "fillNull", "([BII)V"⟩
abbrev cJ2_putCharSB_b72d1 : ByteArray := prog_18_method_71_code
def yJ2_putCharSB_b72d1 : MethodName := ⟨RJ2, "putCharSB", "([BII)V"⟩
abbrev cJ2_getChars_46870 : ByteArray := prog_18_method_77_code
def yJ2_getChars_46870 : MethodName := ⟨RJ2, "getChars", "(III[B)I"⟩
abbrev cJ2_charAt_3b067 : ByteArray := prog_18_method_83_code
def yJ2_charAt_3b067 : MethodName := ⟨RJ2, "charAt", "([BI)C"⟩
abbrev cJ2_inflate_0e8fd : ByteArray := prog_18_method_86_code
def yJ2_inflate_0e8fd : MethodName := ⟨RJ2, "inflate", "([BI[BII)V"⟩
abbrev cJ2_getChars_ba4f3 : ByteArray := prog_18_method_89_code
def yJ2_getChars_ba4f3 : MethodName := ⟨RJ2, "getChars", "(II[B)I"⟩
abbrev cJ2_checkIndex_2214a : ByteArray := prog_18_method_91_code
def yJ2_checkIndex_2214a : MethodName := ⟨RJ2, "checkIndex", "(I[B)V"⟩
abbrev cJ2_checkBoundsBeginEnd_d044e : ByteArray := prog_18_method_93_code
def yJ2_checkBoundsBeginEnd_d044e : MethodName := ⟨RJ2, "checkBoundsBeginEnd", "(II[B)V"⟩
abbrev cJ2_checkBoundsOffCount_d044e : ByteArray := prog_18_method_94_code
def yJ2_checkBoundsOffCount_d044e : MethodName := ⟨RJ2, "checkBoundsOffCount", "(II[B)V"⟩
def RJ10 : String := "java/lang/System"
def RJ7 : String := "java/util/Arrays"
abbrev cJ7_rangeCheck_23922 : ByteArray := prog_20_method_30_code
def yJ7_rangeCheck_23922 : MethodName := ⟨RJ7, "rangeCheck", "(III)V"⟩
abbrev cJ7_fill_eb02e : ByteArray := prog_20_method_110_code
def yJ7_fill_eb02e : MethodName := ⟨RJ7, "fill", "([BIIB)V"⟩
abbrev cJ7_copyOf_9075b : ByteArray := prog_20_method_121_code
def yJ7_copyOf_9075b : MethodName := ⟨RJ7, "copyOf", "([BI)[B"⟩
def RJ8 : String := "jdk/internal/util/ArraysSupport"
abbrev cJ8_newLength_cabcc : ByteArray := prog_21_method_27_code
def yJ8_newLength_cabcc : MethodName := ⟨RJ8, "newLength", "(III)I"⟩
abbrev cJ8_hugeLength_7cf53 : ByteArray := prog_21_method_28_code
def yJ8_hugeLength_7cf53 : MethodName := ⟨RJ8, "hugeLength", "(II)I"⟩
def RJ3 : String := "jdk/internal/util/Preconditions"
abbrev cJ3_checkIndex_8e157 : ByteArray := prog_22_method_11_code
def yJ3_checkIndex_8e157 : MethodName := ⟨RJ3, "checkIndex", "(IILjava/util/function/BiFunction;)I"⟩
abbrev cJ3_checkFromToIndex_8c36e : ByteArray := prog_22_method_12_code
def yJ3_checkFromToIndex_8c36e : MethodName := ⟨RJ3, "checkFromToIndex", "(IIILjava/util/function/BiFunction;)I"⟩
abbrev cJ3_checkFromIndexSize_8c36e : ByteArray := prog_22_method_13_code
def yJ3_checkFromIndexSize_8c36e : MethodName := ⟨RJ3, "checkFromIndexSize", "(IIILjava/util/function/BiFunction;)I"⟩
def RL : String := "CandleStatuteLaw"
abbrev cL_law : ByteArray := code
def yL_law : MethodName := ⟨RL, "law", "([I)Z"⟩
abbrev vwCl : List vw_C := [(RJ4, TJ4, 4), (RX0, TX0, 3), (RX1, TX1, 6), (RX2, TX2, 3), (RX3, TX3, 3), (RX4, TX4, 11), (RX5, TX5, 9), (RX6, TX6, 9), (RX7, TX7, 25)]


