/-! the checks of the tables, by program -/
def nY (k : Nat) : MethodName := mYL.getD k ⟨"", "", ""⟩
def nB (k : Nat) : ByteArray := mBL.getD k ⟨#[]⟩
def nR (k : Nat) : Option FieldType := mRL.getD k none
def nL (k : Nat) : Nat := (mI.getD k (0, 0, 0, 0)).1
def nA (k : Nat) : Nat := (mI.getD k (0, 0, 0, 0)).2.1
def nS (k : Nat) : Nat := (mI.getD k (0, 0, 0, 0)).2.2.1
def nC (k : Nat) : Nat := (mI.getD k (0, 0, 0, 0)).2.2.2
def nO (k : Nat) : Nat := mO.getD k 99
def cN (i : Nat) : String := clsN.getD i ""
def rcN (ci : Nat) : String := if ci = 25 then "java/lang/String" else ((vwCl[ci]?).map (fun q => q.1)).getD ""
def mOK (k : Nat) : Bool :=
  let y := nY k; let p := mP.getD k (0, 0, 0, 0)
  atT p.2.1 (.initialized y.cls) &&
  (if nS k = 1 then atT p.2.2.1 (.static y) else atT p.2.2.1 (.instanceMethod y)) &&
  decide (y.cls = cN (nO k)) && decide (y.cls ≠ "java/lang/invoke/MethodHandle" ∧ y.cls ≠ "java/lang/invoke/VarHandle") && decide (y.name ≠ "<init>") &&
  decide ((parseMethodDescriptor y.desc).map (fun d => d.parameters.length) = some (if nS k = 1 then nA k else nA k - 1)) && decide (nS k = 1 ∨ 1 ≤ nA k) &&
  decide (nA k ≤ nL k) && decide (nL k ≤ 19) && plainFor y
theorem mAll : (List.range mnames).all mOK = true := by decide +kernel
def fOK (f : Nat × Nat × Nat × Nat × Nat × Nat) : Bool := match vwCl[f.2.2.1]? with
  | some (_, T, N) => decide (f.2.2.2.1 < N) && atT f.2.2.2.2.2 (.fieldLink (cN f.1) f.2.1 (T f.2.2.2.1).1 (T f.2.2.2.1).2.1 (T f.2.2.2.1).2.2.1) &&
      decide (f.2.2.2.2.1 = 0 → (T f.2.2.2.1).2.2.1 = "I" ∧ (T f.2.2.2.1).2.2.2 = false) && decide (f.2.2.2.2.1 = 1 → (T f.2.2.2.1).2.2.1 = "Z" ∧ (T f.2.2.2.1).2.2.2 = false)
  | none => false
theorem fAll : ftab.all fOK = true := by decide +kernel
def iOK (f : Nat × Nat × Nat × Nat × Nat × Nat × Nat) : Bool :=
  let y := nY f.2.2.1; let own := cN f.1; let k := f.2.2.1
  decide (k < mnames) && atT f.2.2.2.2.1 (.methodLink own f.2.1 y) &&
  (if f.2.2.2.1 = 0 then decide (nS k = 0) && decide (rcN (nC k) = y.cls) && atT (mP.getD k (0, 0, 0, 0)).2.2.2 (.selects y.cls y y)
   else if f.2.2.2.1 = 1 then decide (nS k = 1)
   else if f.2.2.2.1 = 2 then decide (nS k = 0) && decide (rcN (nC k) = "java/lang/StringBuilder") && atT (mP.getD k (0, 0, 0, 0)).2.2.2 (.selects "java/lang/StringBuilder" y y) && atT f.2.2.2.2.2.1 (.sameMethod y.cls y.cls y.name y.desc)
   else decide (nS k = 0) && decide (rcN (nC k) = "java/lang/StringBuilder") && atT f.2.2.2.2.2.1 (.sameMethod y.cls y.cls y.name y.desc) && atT f.2.2.2.2.2.2 (.superclass own y.cls))
theorem iAll : itab.all iOK = true := by decide +kernel
def ilen : Instr → Nat
  | .bipush _ | .iload _ | .aload _ | .istore _ | .astore _ | .ldc _ | .newarray _ => 2
  | .sipush _ | .ifCond _ _ | .if_icmp _ _ | .goto _ | .iinc _ _ | .getfield _ | .putfield _ | .getstatic _ | .invokevirtual _ | .invokestatic _ | .invokespecial _ | .new _ => 3
  | _ => 1
def isTS : Instr → Bool
  | .tableswitch .. => true
  | _ => false
def jOK (pc : Nat) : Instr → Bool
  | .ifCond _ o | .if_icmp _ o | .goto o => decide (0 ≤ (pc : Int) + o)
  | .tableswitch d _ _ os => decide (0 ≤ (pc : Int) + d) && os.toList.all (fun o => decide (0 ≤ (pc : Int) + o))
  | _ => true
def callOK (k idx a b c : Nat) (kinds : List Nat) : Bool := decide (b = 999) || (match itab[a]? with
  | some f => decide (f.1 = nO k) && decide (f.2.1 = idx) && decide (f.2.2.1 = b) && decide (f.2.2.2.1 = c) && kinds.contains c
  | none => false)
def eOK (k : Nat) (e : Ent) : Bool :=
  (match decode (nB k) e.1 with
   | .ok (i, L) => decide (i = e.2.1) && (decide (L = ilen i) || isTS i)
   | .error _ => false) && jOK e.1 e.2.1 &&
  (match e.2.1 with
   | .getfield idx | .putfield idx => if e.2.2.2.1 = 25 then (match rtab[e.2.2.1]? with
        | some f => decide (f.1 = nO k) && decide (f.2.1 = idx) && decide (f.2.2.1 = e.2.2.2.2.1)
        | none => false) else (match ftab[e.2.2.1]? with
        | some f => decide (f.1 = nO k) && decide (f.2.1 = idx) && decide (f.2.2.1 = e.2.2.2.1) && decide (f.2.2.2.1 = e.2.2.2.2.1) && decide (f.2.2.2.2.1 = e.2.2.2.2.2)
        | none => false)
   | .invokevirtual idx => callOK k idx e.2.2.1 e.2.2.2.1 e.2.2.2.2.1 [0, 2]
   | .invokestatic idx => callOK k idx e.2.2.1 e.2.2.2.1 e.2.2.2.2.1 [1]
   | .invokespecial idx => callOK k idx e.2.2.1 e.2.2.2.1 e.2.2.2.2.1 [3]
   | .getstatic idx => (match stab[e.2.2.1]? with
        | some f => decide (f.1 = nO k) && decide (f.2.1 = idx) && decide (f.2.2.1 = e.2.2.2.1)
        | none => false)
   | .ldc idx => (match ltab[e.2.2.1]? with
        | some f => decide (f.1 = nO k) && decide (f.2.1 = idx) && decide (e.2.2.2.2.1 = e.2.2.1)
        | none => false)
   | _ => true)
def sOK (f : Nat × Nat × Nat × Nat) : Bool := match f.2.2.1 with
  | 0 => atT f.2.2.2 (.fieldLink (cN f.1) f.2.1 "java/lang/String" "COMPACT_STRINGS" "Z")
  | 1 => atT f.2.2.2 (.fieldLink (cN f.1) f.2.1 "jdk/internal/util/Preconditions" "SIOOBE_FORMATTER" "Ljava/util/function/BiFunction;")
  | 2 => atT f.2.2.2 (.fieldLink (cN f.1) f.2.1 "java/lang/Integer" "DigitOnes" "[B")
  | 3 => atT f.2.2.2 (.fieldLink (cN f.1) f.2.1 "java/lang/Integer" "DigitTens" "[B")
  | _ => false
theorem sAll : stab.all sOK = true := by decide +kernel
def rOK (f : Nat × Nat × Nat × Nat) : Bool := match f.2.2.1 with
  | 0 => atT f.2.2.2 (.fieldLink (cN f.1) f.2.1 "java/lang/String" "value" "[B")
  | 1 => atT f.2.2.2 (.fieldLink (cN f.1) f.2.1 "java/lang/String" "coder" "B")
  | _ => false
theorem rAll : rtab.all rOK = true := by decide +kernel
def lOK (f : Nat × Nat × Nat × String) : Bool := (match (TTs (f.2.2.1 / 1000))[f.2.2.1 % 1000]? with
  | some w => decide (w = .stringRef (cN f.1) f.2.1 f.2.2.2)
  | none => false)
theorem lAll : ltab.all lOK = true := by decide +kernel
def eAllK (k : Nat) : Bool := (mE.getD k []).all (eOK k)
theorem cIn_0 : Cond.code yX0_begin cX0_begin 2 none ∈ Tall := List.mem_filter.mpr ⟨TTs_in (j := 7) (List.mem_of_getElem? (i := 47) rfl), rfl⟩
theorem cIn_1 : Cond.code yX0_takeBack cX0_takeBack 2 none ∈ Tall := List.mem_filter.mpr ⟨TTs_in (j := 9) (List.mem_of_getElem? (i := 139) rfl), rfl⟩
theorem cIn_2 : Cond.code yX0_keep cX0_keep 1 none ∈ Tall := List.mem_filter.mpr ⟨TTs_in (j := 7) (List.mem_of_getElem? (i := 109) rfl), rfl⟩
theorem cIn_3 : Cond.code yX0_stepBack cX0_stepBack 2 (some .boolean) ∈ Tall := List.mem_filter.mpr ⟨TTs_in (j := 10) (List.mem_of_getElem? (i := 7) rfl), rfl⟩
theorem cIn_4 : Cond.code yX0_forget cX0_forget 1 none ∈ Tall := List.mem_filter.mpr ⟨TTs_in (j := 10) (List.mem_of_getElem? (i := 21) rfl), rfl⟩
theorem cIn_5 : Cond.code yX1_read cX1_read 3 (some .int) ∈ Tall := List.mem_filter.mpr ⟨TTs_in (j := 8) (List.mem_of_getElem? (i := 225) rfl), rfl⟩
theorem cIn_6 : Cond.code yX1_isOrderRead cX1_isOrderRead 8 (some .boolean) ∈ Tall := List.mem_filter.mpr ⟨TTs_in (j := 8) (List.mem_of_getElem? (i := 229) rfl), rfl⟩
theorem cIn_7 : Cond.code yX1_patternOf cX1_patternOf 1 (some (.object "java/lang/String")) ∈ Tall := List.mem_filter.mpr ⟨TTs_in (j := 9) (List.mem_of_getElem? (i := 74) rfl), rfl⟩
theorem cIn_8 : Cond.code yX1_isSignRead cX1_isSignRead 3 (some .boolean) ∈ Tall := List.mem_filter.mpr ⟨TTs_in (j := 9) (List.mem_of_getElem? (i := 111) rfl), rfl⟩
theorem cIn_9 : Cond.code yX1_hasDigit cX1_hasDigit 2 (some .boolean) ∈ Tall := List.mem_filter.mpr ⟨TTs_in (j := 9) (List.mem_of_getElem? (i := 99) rfl), rfl⟩
theorem cIn_10 : Cond.code yX1_readNumber cX1_readNumber 6 (some .int) ∈ Tall := List.mem_filter.mpr ⟨TTs_in (j := 9) (List.mem_of_getElem? (i := 103) rfl), rfl⟩
theorem cIn_11 : Cond.code yX1_keepNumber cX1_keepNumber 4 none ∈ Tall := List.mem_filter.mpr ⟨TTs_in (j := 9) (List.mem_of_getElem? (i := 107) rfl), rfl⟩
theorem cIn_12 : Cond.code yX2_clear cX2_clear 1 none ∈ Tall := List.mem_filter.mpr ⟨TTs_in (j := 7) (List.mem_of_getElem? (i := 77) rfl), rfl⟩
theorem cIn_13 : Cond.code yX2_putBehind cX2_putBehind 3 none ∈ Tall := List.mem_filter.mpr ⟨TTs_in (j := 7) (List.mem_of_getElem? (i := 81) rfl), rfl⟩
theorem cIn_14 : Cond.code yX2_putAhead cX2_putAhead 4 none ∈ Tall := List.mem_filter.mpr ⟨TTs_in (j := 9) (List.mem_of_getElem? (i := 147) rfl), rfl⟩
theorem cIn_15 : Cond.code yX3_divide cX3_divide 6 none ∈ Tall := List.mem_filter.mpr ⟨TTs_in (j := 7) (List.mem_of_getElem? (i := 206) rfl), rfl⟩
theorem cIn_16 : Cond.code yX3_giveOneByRest cX3_giveOneByRest 2 none ∈ Tall := List.mem_filter.mpr ⟨TTs_in (j := 7) (List.mem_of_getElem? (i := 212) rfl), rfl⟩
theorem cIn_17 : Cond.code yX3_deal cX3_deal 6 none ∈ Tall := List.mem_filter.mpr ⟨TTs_in (j := 7) (List.mem_of_getElem? (i := 227) rfl), rfl⟩
theorem cIn_18 : Cond.code yX3_greatest cX3_greatest 3 (some .int) ∈ Tall := List.mem_filter.mpr ⟨TTs_in (j := 7) (List.mem_of_getElem? (i := 215) rfl), rfl⟩
theorem cIn_19 : Cond.code yX4_copyFrom cX4_copyFrom 3 none ∈ Tall := List.mem_filter.mpr ⟨TTs_in (j := 7) (List.mem_of_getElem? (i := 51) rfl), rfl⟩
theorem cIn_20 : Cond.code yX4_burnDown cX4_burnDown 5 (some .int) ∈ Tall := List.mem_filter.mpr ⟨TTs_in (j := 7) (List.mem_of_getElem? (i := 128) rfl), rfl⟩
theorem cIn_21 : Cond.code yX4_claimOf cX4_claimOf 2 (some .int) ∈ Tall := List.mem_filter.mpr ⟨TTs_in (j := 7) (List.mem_of_getElem? (i := 201) rfl), rfl⟩
theorem cIn_22 : Cond.code yX4_allClaims cX4_allClaims 3 (some .int) ∈ Tall := List.mem_filter.mpr ⟨TTs_in (j := 7) (List.mem_of_getElem? (i := 197) rfl), rfl⟩
theorem cIn_23 : Cond.code yX4_allStores cX4_allStores 3 (some .int) ∈ Tall := List.mem_filter.mpr ⟨TTs_in (j := 9) (List.mem_of_getElem? (i := 207) rfl), rfl⟩
theorem cIn_24 : Cond.code yX4_allPooled cX4_allPooled 3 (some .int) ∈ Tall := List.mem_filter.mpr ⟨TTs_in (j := 9) (List.mem_of_getElem? (i := 223) rfl), rfl⟩
theorem cIn_25 : Cond.code yX4_openHouses cX4_openHouses 3 (some .int) ∈ Tall := List.mem_filter.mpr ⟨TTs_in (j := 9) (List.mem_of_getElem? (i := 202) rfl), rfl⟩
theorem cIn_26 : Cond.code yX4_successorOf cX4_successorOf 4 (some .int) ∈ Tall := List.mem_filter.mpr ⟨TTs_in (j := 8) (List.mem_of_getElem? (i := 15) rfl), rfl⟩
theorem cIn_27 : Cond.code yX4_handOver cX4_handOver 3 none ∈ Tall := List.mem_filter.mpr ⟨TTs_in (j := 8) (List.mem_of_getElem? (i := 19) rfl), rfl⟩
theorem cIn_28 : Cond.code yX4_handOverRights cX4_handOverRights 4 none ∈ Tall := List.mem_filter.mpr ⟨TTs_in (j := 8) (List.mem_of_getElem? (i := 23) rfl), rfl⟩
theorem cIn_29 : Cond.code yX4_handOverStubs cX4_handOverStubs 7 none ∈ Tall := List.mem_filter.mpr ⟨TTs_in (j := 8) (List.mem_of_getElem? (i := 28) rfl), rfl⟩
theorem cIn_30 : Cond.code yX4_dropWhatIsOwn cX4_dropWhatIsOwn 2 none ∈ Tall := List.mem_filter.mpr ⟨TTs_in (j := 8) (List.mem_of_getElem? (i := 34) rfl), rfl⟩
theorem cIn_31 : Cond.code yX4_housesAheadOf cX4_housesAheadOf 4 (some .int) ∈ Tall := List.mem_filter.mpr ⟨TTs_in (j := 8) (List.mem_of_getElem? (i := 97) rfl), rfl⟩
theorem cIn_32 : Cond.code yX4_isAhead cX4_isAhead 5 (some .boolean) ∈ Tall := List.mem_filter.mpr ⟨TTs_in (j := 8) (List.mem_of_getElem? (i := 101) rfl), rfl⟩
theorem cIn_33 : Cond.code yX5_copyFrom cX5_copyFrom 3 none ∈ Tall := List.mem_filter.mpr ⟨TTs_in (j := 7) (List.mem_of_getElem? (i := 55) rfl), rfl⟩
theorem cIn_34 : Cond.code yX5_copyStub cX5_copyStub 4 none ∈ Tall := List.mem_filter.mpr ⟨TTs_in (j := 7) (List.mem_of_getElem? (i := 59) rfl), rfl⟩
theorem cIn_35 : Cond.code yX5_put cX5_put 5 (some .int) ∈ Tall := List.mem_filter.mpr ⟨TTs_in (j := 7) (List.mem_of_getElem? (i := 93) rfl), rfl⟩
theorem cIn_36 : Cond.code yX5_remove cX5_remove 3 none ∈ Tall := List.mem_filter.mpr ⟨TTs_in (j := 7) (List.mem_of_getElem? (i := 141) rfl), rfl⟩
theorem cIn_37 : Cond.code yX5_takeWax cX5_takeWax 3 none ∈ Tall := List.mem_filter.mpr ⟨TTs_in (j := 7) (List.mem_of_getElem? (i := 137) rfl), rfl⟩
theorem cIn_38 : Cond.code yX5_forgive cX5_forgive 2 none ∈ Tall := List.mem_filter.mpr ⟨TTs_in (j := 7) (List.mem_of_getElem? (i := 97) rfl), rfl⟩
theorem cIn_39 : Cond.code yX5_release cX5_release 2 none ∈ Tall := List.mem_filter.mpr ⟨TTs_in (j := 7) (List.mem_of_getElem? (i := 101) rfl), rfl⟩
theorem cIn_40 : Cond.code yX5_payBack cX5_payBack 4 (some .int) ∈ Tall := List.mem_filter.mpr ⟨TTs_in (j := 7) (List.mem_of_getElem? (i := 132) rfl), rfl⟩
theorem cIn_41 : Cond.code yX5_shortenWrits cX5_shortenWrits 4 (some .int) ∈ Tall := List.mem_filter.mpr ⟨TTs_in (j := 8) (List.mem_of_getElem? (i := 47) rfl), rfl⟩
theorem cIn_42 : Cond.code yX5_countOn cX5_countOn 4 (some .int) ∈ Tall := List.mem_filter.mpr ⟨TTs_in (j := 8) (List.mem_of_getElem? (i := 56) rfl), rfl⟩
theorem cIn_43 : Cond.code yX5_weightOn cX5_weightOn 4 (some .int) ∈ Tall := List.mem_filter.mpr ⟨TTs_in (j := 7) (List.mem_of_getElem? (i := 89) rfl), rfl⟩
theorem cIn_44 : Cond.code yX5_weightBesideOthers cX5_weightBesideOthers 4 (some .int) ∈ Tall := List.mem_filter.mpr ⟨TTs_in (j := 8) (List.mem_of_getElem? (i := 85) rfl), rfl⟩
theorem cIn_45 : Cond.code yX5_tooManyFor cX5_tooManyFor 7 (some .int) ∈ Tall := List.mem_filter.mpr ⟨TTs_in (j := 8) (List.mem_of_getElem? (i := 72) rfl), rfl⟩
theorem cIn_46 : Cond.code yX5_writsBy cX5_writsBy 4 (some .int) ∈ Tall := List.mem_filter.mpr ⟨TTs_in (j := 7) (List.mem_of_getElem? (i := 165) rfl), rfl⟩
theorem cIn_47 : Cond.code yX5_owedTo cX5_owedTo 4 (some .int) ∈ Tall := List.mem_filter.mpr ⟨TTs_in (j := 7) (List.mem_of_getElem? (i := 153) rfl), rfl⟩
theorem cIn_48 : Cond.code yX5_owedBy cX5_owedBy 4 (some .int) ∈ Tall := List.mem_filter.mpr ⟨TTs_in (j := 8) (List.mem_of_getElem? (i := 60) rfl), rfl⟩
theorem cIn_49 : Cond.code yX5_allWrits cX5_allWrits 3 (some .int) ∈ Tall := List.mem_filter.mpr ⟨TTs_in (j := 7) (List.mem_of_getElem? (i := 169) rfl), rfl⟩
theorem cIn_50 : Cond.code yX5_allWax cX5_allWax 3 (some .int) ∈ Tall := List.mem_filter.mpr ⟨TTs_in (j := 8) (List.mem_of_getElem? (i := 89) rfl), rfl⟩
theorem cIn_51 : Cond.code yX5_allDebts cX5_allDebts 3 (some .int) ∈ Tall := List.mem_filter.mpr ⟨TTs_in (j := 9) (List.mem_of_getElem? (i := 211) rfl), rfl⟩
theorem cIn_52 : Cond.code yX5_stubsAheadOf cX5_stubsAheadOf 4 (some .int) ∈ Tall := List.mem_filter.mpr ⟨TTs_in (j := 8) (List.mem_of_getElem? (i := 109) rfl), rfl⟩
theorem cIn_53 : Cond.code yX5_isAhead cX5_isAhead 5 (some .boolean) ∈ Tall := List.mem_filter.mpr ⟨TTs_in (j := 8) (List.mem_of_getElem? (i := 113) rfl), rfl⟩
theorem cIn_54 : Cond.code yX6_stub cX6_stub 4 (some .int) ∈ Tall := List.mem_filter.mpr ⟨TTs_in (j := 7) (List.mem_of_getElem? (i := 43) rfl), rfl⟩
theorem cIn_55 : Cond.code yX6_burn cX6_burn 3 (some .int) ∈ Tall := List.mem_filter.mpr ⟨TTs_in (j := 7) (List.mem_of_getElem? (i := 116) rfl), rfl⟩
theorem cIn_56 : Cond.code yX6_owe cX6_owe 4 (some .int) ∈ Tall := List.mem_filter.mpr ⟨TTs_in (j := 7) (List.mem_of_getElem? (i := 145) rfl), rfl⟩
theorem cIn_57 : Cond.code yX6_writ cX6_writ 4 (some .int) ∈ Tall := List.mem_filter.mpr ⟨TTs_in (j := 7) (List.mem_of_getElem? (i := 157) rfl), rfl⟩
theorem cIn_58 : Cond.code yX6_stubOf cX6_stubOf 4 (some .int) ∈ Tall := List.mem_filter.mpr ⟨TTs_in (j := 7) (List.mem_of_getElem? (i := 173) rfl), rfl⟩
theorem cIn_59 : Cond.code yX6_pool cX6_pool 3 (some .int) ∈ Tall := List.mem_filter.mpr ⟨TTs_in (j := 7) (List.mem_of_getElem? (i := 180) rfl), rfl⟩
theorem cIn_60 : Cond.code yX6_share cX6_share 1 (some .int) ∈ Tall := List.mem_filter.mpr ⟨TTs_in (j := 7) (List.mem_of_getElem? (i := 189) rfl), rfl⟩
theorem cIn_61 : Cond.code yX6_part cX6_part 2 (some .int) ∈ Tall := List.mem_filter.mpr ⟨TTs_in (j := 7) (List.mem_of_getElem? (i := 219) rfl), rfl⟩
theorem cIn_62 : Cond.code yX6_partAgain cX6_partAgain 2 (some .int) ∈ Tall := List.mem_filter.mpr ⟨TTs_in (j := 7) (List.mem_of_getElem? (i := 223) rfl), rfl⟩
theorem cIn_63 : Cond.code yX6_mould cX6_mould 4 (some .int) ∈ Tall := List.mem_filter.mpr ⟨TTs_in (j := 7) (List.mem_of_getElem? (i := 231) rfl), rfl⟩
theorem cIn_64 : Cond.code yX6_heir cX6_heir 3 (some .int) ∈ Tall := List.mem_filter.mpr ⟨TTs_in (j := 7) (List.mem_of_getElem? (i := 239) rfl), rfl⟩
theorem cIn_65 : Cond.code yX6_end cX6_end 2 (some .int) ∈ Tall := List.mem_filter.mpr ⟨TTs_in (j := 8) (List.mem_of_getElem? (i := 7) rfl), rfl⟩
theorem cIn_66 : Cond.code yX6_pass cX6_pass 2 (some .int) ∈ Tall := List.mem_filter.mpr ⟨TTs_in (j := 8) (List.mem_of_getElem? (i := 39) rfl), rfl⟩
theorem cIn_67 : Cond.code yX6_houseOf cX6_houseOf 3 (some .int) ∈ Tall := List.mem_filter.mpr ⟨TTs_in (j := 8) (List.mem_of_getElem? (i := 51) rfl), rfl⟩
theorem cIn_68 : Cond.code yX6_inherits cX6_inherits 2 (some .int) ∈ Tall := List.mem_filter.mpr ⟨TTs_in (j := 8) (List.mem_of_getElem? (i := 64) rfl), rfl⟩
theorem cIn_69 : Cond.code yX6_wouldMelt cX6_wouldMelt 3 (some .int) ∈ Tall := List.mem_filter.mpr ⟨TTs_in (j := 8) (List.mem_of_getElem? (i := 68) rfl), rfl⟩
theorem cIn_70 : Cond.code yX6_weight cX6_weight 2 (some .int) ∈ Tall := List.mem_filter.mpr ⟨TTs_in (j := 8) (List.mem_of_getElem? (i := 77) rfl), rfl⟩
theorem cIn_71 : Cond.code yX6_weightAgain cX6_weightAgain 2 (some .int) ∈ Tall := List.mem_filter.mpr ⟨TTs_in (j := 8) (List.mem_of_getElem? (i := 81) rfl), rfl⟩
theorem cIn_72 : Cond.code yX6_ranked cX6_ranked 3 (some .int) ∈ Tall := List.mem_filter.mpr ⟨TTs_in (j := 8) (List.mem_of_getElem? (i := 93) rfl), rfl⟩
theorem cIn_73 : Cond.code yX6_brightest cX6_brightest 3 (some .int) ∈ Tall := List.mem_filter.mpr ⟨TTs_in (j := 8) (List.mem_of_getElem? (i := 105) rfl), rfl⟩
theorem cIn_74 : Cond.code yX6_append cX6_append 2 (some .int) ∈ Tall := List.mem_filter.mpr ⟨TTs_in (j := 8) (List.mem_of_getElem? (i := 117) rfl), rfl⟩
theorem cIn_75 : Cond.code yX6_run cX6_run 4 (some .int) ∈ Tall := List.mem_filter.mpr ⟨TTs_in (j := 8) (List.mem_of_getElem? (i := 221) rfl), rfl⟩
theorem cIn_76 : Cond.code yX6_tell cX6_tell 3 (some .int) ∈ Tall := List.mem_filter.mpr ⟨TTs_in (j := 9) (List.mem_of_getElem? (i := 152) rfl), rfl⟩
theorem cIn_77 : Cond.code yX6_tellHouses cX6_tellHouses 2 (some .int) ∈ Tall := List.mem_filter.mpr ⟨TTs_in (j := 9) (List.mem_of_getElem? (i := 181) rfl), rfl⟩
theorem cIn_78 : Cond.code yX6_character cX6_character 2 (some .int) ∈ Tall := List.mem_filter.mpr ⟨TTs_in (j := 9) (List.mem_of_getElem? (i := 189) rfl), rfl⟩
theorem cIn_79 : Cond.code yX6_reason cX6_reason 3 (some .int) ∈ Tall := List.mem_filter.mpr ⟨TTs_in (j := 9) (List.mem_of_getElem? (i := 194) rfl), rfl⟩
theorem cIn_80 : Cond.code yX6_account cX6_account 2 (some .int) ∈ Tall := List.mem_filter.mpr ⟨TTs_in (j := 9) (List.mem_of_getElem? (i := 198) rfl), rfl⟩
theorem cIn_81 : Cond.code yX6_isBalanced cX6_isBalanced 1 (some .int) ∈ Tall := List.mem_filter.mpr ⟨TTs_in (j := 9) (List.mem_of_getElem? (i := 215) rfl), rfl⟩
theorem cIn_82 : Cond.code yX6_undo cX6_undo 1 (some .int) ∈ Tall := List.mem_filter.mpr ⟨TTs_in (j := 10) (List.mem_of_getElem? (i := 3) rfl), rfl⟩
theorem cIn_83 : Cond.code yX6_save cX6_save 1 (some .int) ∈ Tall := List.mem_filter.mpr ⟨TTs_in (j := 10) (List.mem_of_getElem? (i := 12) rfl), rfl⟩
theorem cIn_84 : Cond.code yX6_restore cX6_restore 1 (some .int) ∈ Tall := List.mem_filter.mpr ⟨TTs_in (j := 10) (List.mem_of_getElem? (i := 17) rfl), rfl⟩
theorem cIn_85 : Cond.code yX6_settle cX6_settle 2 (some .int) ∈ Tall := List.mem_filter.mpr ⟨TTs_in (j := 7) (List.mem_of_getElem? (i := 105) rfl), rfl⟩
theorem cIn_86 : Cond.code yX6_bringStub cX6_bringStub 4 (some .int) ∈ Tall := List.mem_filter.mpr ⟨TTs_in (j := 7) (List.mem_of_getElem? (i := 63) rfl), rfl⟩
theorem cIn_87 : Cond.code yX6_mouldStub cX6_mouldStub 4 (some .int) ∈ Tall := List.mem_filter.mpr ⟨TTs_in (j := 7) (List.mem_of_getElem? (i := 235) rfl), rfl⟩
theorem cIn_88 : Cond.code yX6_hasRoomFor cX6_hasRoomFor 4 (some .boolean) ∈ Tall := List.mem_filter.mpr ⟨TTs_in (j := 7) (List.mem_of_getElem? (i := 85) rfl), rfl⟩
theorem cIn_89 : Cond.code yX6_burnStub cX6_burnStub 4 (some .int) ∈ Tall := List.mem_filter.mpr ⟨TTs_in (j := 7) (List.mem_of_getElem? (i := 120) rfl), rfl⟩
theorem cIn_90 : Cond.code yX6_oweLight cX6_oweLight 5 (some .int) ∈ Tall := List.mem_filter.mpr ⟨TTs_in (j := 7) (List.mem_of_getElem? (i := 149) rfl), rfl⟩
theorem cIn_91 : Cond.code yX6_snuffStub cX6_snuffStub 5 (some .int) ∈ Tall := List.mem_filter.mpr ⟨TTs_in (j := 7) (List.mem_of_getElem? (i := 161) rfl), rfl⟩
theorem cIn_92 : Cond.code yX6_poolWax cX6_poolWax 3 (some .int) ∈ Tall := List.mem_filter.mpr ⟨TTs_in (j := 7) (List.mem_of_getElem? (i := 184) rfl), rfl⟩
theorem cIn_93 : Cond.code yX6_sharePool cX6_sharePool 3 (some .int) ∈ Tall := List.mem_filter.mpr ⟨TTs_in (j := 7) (List.mem_of_getElem? (i := 193) rfl), rfl⟩
theorem cIn_94 : Cond.code yX6_tellHeir cX6_tellHeir 4 (some .int) ∈ Tall := List.mem_filter.mpr ⟨TTs_in (j := 8) (List.mem_of_getElem? (i := 3) rfl), rfl⟩
theorem cIn_95 : Cond.code yX6_endHouse cX6_endHouse 3 (some .int) ∈ Tall := List.mem_filter.mpr ⟨TTs_in (j := 8) (List.mem_of_getElem? (i := 11) rfl), rfl⟩
theorem cIn_96 : Cond.code yX6_passHours cX6_passHours 2 (some .int) ∈ Tall := List.mem_filter.mpr ⟨TTs_in (j := 8) (List.mem_of_getElem? (i := 43) rfl), rfl⟩
theorem cIn_97 : Cond.code yX6_carryOut cX6_carryOut 5 (some .int) ∈ Tall := List.mem_filter.mpr ⟨TTs_in (j := 9) (List.mem_of_getElem? (i := 135) rfl), rfl⟩
theorem cIn_98 : Cond.code yX6_isFrom cX6_isFrom 3 (some .boolean) ∈ Tall := List.mem_filter.mpr ⟨TTs_in (j := 7) (List.mem_of_getElem? (i := 69) rfl), rfl⟩
theorem cIn_99 : Cond.code yX6_isHouse cX6_isHouse 1 (some .boolean) ∈ Tall := List.mem_filter.mpr ⟨TTs_in (j := 7) (List.mem_of_getElem? (i := 66) rfl), rfl⟩
theorem cIn_100 : Cond.code yX6_isStub cX6_isStub 2 (some .boolean) ∈ Tall := List.mem_filter.mpr ⟨TTs_in (j := 7) (List.mem_of_getElem? (i := 124) rfl), rfl⟩
theorem cIn_101 : Cond.code yX6_orNothing cX6_orNothing 1 (some .int) ∈ Tall := List.mem_filter.mpr ⟨TTs_in (j := 7) (List.mem_of_getElem? (i := 176) rfl), rfl⟩
theorem cIn_102 : Cond.code yX6_refuse cX6_refuse 3 (some .int) ∈ Tall := List.mem_filter.mpr ⟨TTs_in (j := 7) (List.mem_of_getElem? (i := 73) rfl), rfl⟩
theorem cIn_103 : Cond.code yX6_refuseOrder cX6_refuseOrder 3 (some .int) ∈ Tall := List.mem_filter.mpr ⟨TTs_in (j := 9) (List.mem_of_getElem? (i := 143) rfl), rfl⟩
theorem cIn_104 : Cond.code yX6_writeHouse cX6_writeHouse 2 none ∈ Tall := List.mem_filter.mpr ⟨TTs_in (j := 9) (List.mem_of_getElem? (i := 185) rfl), rfl⟩
theorem cIn_105 : Cond.code yX6_isWaxAccountedFor cX6_isWaxAccountedFor 2 (some .boolean) ∈ Tall := List.mem_filter.mpr ⟨TTs_in (j := 9) (List.mem_of_getElem? (i := 219) rfl), rfl⟩
theorem cIn_106 : Cond.code yX6_areSharesSame cX6_areSharesSame 3 (some .boolean) ∈ Tall := List.mem_filter.mpr ⟨TTs_in (j := 9) (List.mem_of_getElem? (i := 227) rfl), rfl⟩
theorem cIn_107 : Cond.code yX6_areWeightsSame cX6_areWeightsSame 2 (some .boolean) ∈ Tall := List.mem_filter.mpr ⟨TTs_in (j := 9) (List.mem_of_getElem? (i := 231) rfl), rfl⟩
theorem cIn_108 : Cond.code yX7_fail cX7_fail 2 (some .int) ∈ Tall := List.mem_filter.mpr ⟨TTs_in (j := 10) (List.mem_of_getElem? (i := 131) rfl), rfl⟩
theorem cIn_109 : Cond.code yX7_refuses cX7_refuses 3 (some .int) ∈ Tall := List.mem_filter.mpr ⟨TTs_in (j := 10) (List.mem_of_getElem? (i := 142) rfl), rfl⟩
theorem cIn_110 : Cond.code yX7_isIn cX7_isIn 3 (some .boolean) ∈ Tall := List.mem_filter.mpr ⟨TTs_in (j := 10) (List.mem_of_getElem? (i := 127) rfl), rfl⟩
theorem cIn_111 : Cond.code yX7_lays cX7_lays 3 none ∈ Tall := List.mem_filter.mpr ⟨TTs_in (j := 10) (List.mem_of_getElem? (i := 117) rfl), rfl⟩
theorem cIn_112 : Cond.code yX7_begins cX7_begins 1 none ∈ Tall := List.mem_filter.mpr ⟨TTs_in (j := 10) (List.mem_of_getElem? (i := 114) rfl), rfl⟩
theorem cIn_113 : Cond.code yX7_ends cX7_ends 3 (some .int) ∈ Tall := List.mem_filter.mpr ⟨TTs_in (j := 10) (List.mem_of_getElem? (i := 157) rfl), rfl⟩
theorem cIn_114 : Cond.code yX7_at cX7_at 2 (some .int) ∈ Tall := List.mem_filter.mpr ⟨TTs_in (j := 10) (List.mem_of_getElem? (i := 30) rfl), rfl⟩
theorem cIn_115 : Cond.code yX7_in cX7_in 2 (some .int) ∈ Tall := List.mem_filter.mpr ⟨TTs_in (j := 10) (List.mem_of_getElem? (i := 153) rfl), rfl⟩
theorem cIn_116 : Cond.code yX7_isHouse cX7_isHouse 1 (some .boolean) ∈ Tall := List.mem_filter.mpr ⟨TTs_in (j := 10) (List.mem_of_getElem? (i := 124) rfl), rfl⟩
theorem cIn_117 : Cond.code yX7_isStub cX7_isStub 2 (some .boolean) ∈ Tall := List.mem_filter.mpr ⟨TTs_in (j := 10) (List.mem_of_getElem? (i := 169) rfl), rfl⟩
theorem cIn_118 : Cond.code yX7_isOpen cX7_isOpen 2 (some .boolean) ∈ Tall := List.mem_filter.mpr ⟨TTs_in (j := 10) (List.mem_of_getElem? (i := 138) rfl), rfl⟩
theorem cIn_119 : Cond.code yX7_opens cX7_opens 3 (some .int) ∈ Tall := List.mem_filter.mpr ⟨TTs_in (j := 11) (List.mem_of_getElem? (i := 34) rfl), rfl⟩
theorem cIn_120 : Cond.code yX7_tray cX7_tray 4 (some .int) ∈ Tall := List.mem_filter.mpr ⟨TTs_in (j := 10) (List.mem_of_getElem? (i := 150) rfl), rfl⟩
theorem cIn_121 : Cond.code yX7_goes cX7_goes 3 none ∈ Tall := List.mem_filter.mpr ⟨TTs_in (j := 10) (List.mem_of_getElem? (i := 177) rfl), rfl⟩
theorem cIn_122 : Cond.code yX7_owed cX7_owed 4 (some .int) ∈ Tall := List.mem_filter.mpr ⟨TTs_in (j := 10) (List.mem_of_getElem? (i := 189) rfl), rfl⟩
theorem cIn_123 : Cond.code yX7_writs cX7_writs 4 (some .int) ∈ Tall := List.mem_filter.mpr ⟨TTs_in (j := 10) (List.mem_of_getElem? (i := 201) rfl), rfl⟩
theorem cIn_124 : Cond.code yX7_isMade cX7_isMade 2 (some .boolean) ∈ Tall := List.mem_filter.mpr ⟨TTs_in (j := 10) (List.mem_of_getElem? (i := 134) rfl), rfl⟩
theorem cIn_125 : Cond.code yX7_makes cX7_makes 7 (some .int) ∈ Tall := List.mem_filter.mpr ⟨TTs_in (j := 10) (List.mem_of_getElem? (i := 146) rfl), rfl⟩
theorem cIn_126 : Cond.code yX7_comes cX7_comes 4 (some .int) ∈ Tall := List.mem_filter.mpr ⟨TTs_in (j := 10) (List.mem_of_getElem? (i := 121) rfl), rfl⟩
theorem cIn_127 : Cond.code yX7_stub cX7_stub 4 (some .int) ∈ Tall := List.mem_filter.mpr ⟨TTs_in (j := 10) (List.mem_of_getElem? (i := 110) rfl), rfl⟩
theorem cIn_128 : Cond.code yX7_refusesBurning cX7_refusesBurning 5 (some .int) ∈ Tall := List.mem_filter.mpr ⟨TTs_in (j := 10) (List.mem_of_getElem? (i := 173) rfl), rfl⟩
theorem cIn_129 : Cond.code yX7_burns cX7_burns 5 (some .int) ∈ Tall := List.mem_filter.mpr ⟨TTs_in (j := 10) (List.mem_of_getElem? (i := 165) rfl), rfl⟩
theorem cIn_130 : Cond.code yX7_burn cX7_burn 3 (some .int) ∈ Tall := List.mem_filter.mpr ⟨TTs_in (j := 10) (List.mem_of_getElem? (i := 161) rfl), rfl⟩
theorem cIn_131 : Cond.code yX7_owes cX7_owes 4 (some .int) ∈ Tall := List.mem_filter.mpr ⟨TTs_in (j := 10) (List.mem_of_getElem? (i := 185) rfl), rfl⟩
theorem cIn_132 : Cond.code yX7_owe cX7_owe 4 (some .int) ∈ Tall := List.mem_filter.mpr ⟨TTs_in (j := 10) (List.mem_of_getElem? (i := 181) rfl), rfl⟩
theorem cIn_133 : Cond.code yX7_snuffs cX7_snuffs 4 (some .int) ∈ Tall := List.mem_filter.mpr ⟨TTs_in (j := 10) (List.mem_of_getElem? (i := 197) rfl), rfl⟩
theorem cIn_134 : Cond.code yX7_writ cX7_writ 4 (some .int) ∈ Tall := List.mem_filter.mpr ⟨TTs_in (j := 10) (List.mem_of_getElem? (i := 193) rfl), rfl⟩
theorem cIn_135 : Cond.code yX7_stubOf cX7_stubOf 4 (some .int) ∈ Tall := List.mem_filter.mpr ⟨TTs_in (j := 10) (List.mem_of_getElem? (i := 205) rfl), rfl⟩
theorem cIn_136 : Cond.code yX7_pooled cX7_pooled 3 (some .int) ∈ Tall := List.mem_filter.mpr ⟨TTs_in (j := 10) (List.mem_of_getElem? (i := 217) rfl), rfl⟩
theorem cIn_137 : Cond.code yX7_pools cX7_pools 4 (some .int) ∈ Tall := List.mem_filter.mpr ⟨TTs_in (j := 10) (List.mem_of_getElem? (i := 213) rfl), rfl⟩
theorem cIn_138 : Cond.code yX7_pool cX7_pool 3 (some .int) ∈ Tall := List.mem_filter.mpr ⟨TTs_in (j := 10) (List.mem_of_getElem? (i := 209) rfl), rfl⟩
theorem cIn_139 : Cond.code yX7_claim cX7_claim 2 (some .int) ∈ Tall := List.mem_filter.mpr ⟨TTs_in (j := 10) (List.mem_of_getElem? (i := 233) rfl), rfl⟩
theorem cIn_140 : Cond.code yX7_claims cX7_claims 3 (some .int) ∈ Tall := List.mem_filter.mpr ⟨TTs_in (j := 10) (List.mem_of_getElem? (i := 229) rfl), rfl⟩
theorem cIn_141 : Cond.code yX7_finds cX7_finds 6 none ∈ Tall := List.mem_filter.mpr ⟨TTs_in (j := 10) (List.mem_of_getElem? (i := 237) rfl), rfl⟩
theorem cIn_142 : Cond.code yX7_shares cX7_shares 3 (some .int) ∈ Tall := List.mem_filter.mpr ⟨TTs_in (j := 10) (List.mem_of_getElem? (i := 225) rfl), rfl⟩
theorem cIn_143 : Cond.code yX7_share cX7_share 1 (some .int) ∈ Tall := List.mem_filter.mpr ⟨TTs_in (j := 10) (List.mem_of_getElem? (i := 221) rfl), rfl⟩
theorem cIn_144 : Cond.code yX7_part cX7_part 2 (some .int) ∈ Tall := List.mem_filter.mpr ⟨TTs_in (j := 11) (List.mem_of_getElem? (i := 1) rfl), rfl⟩
theorem cIn_145 : Cond.code yX7_partAgain cX7_partAgain 2 (some .int) ∈ Tall := List.mem_filter.mpr ⟨TTs_in (j := 11) (List.mem_of_getElem? (i := 5) rfl), rfl⟩
theorem cIn_146 : Cond.code yX7_moulds cX7_moulds 4 (some .int) ∈ Tall := List.mem_filter.mpr ⟨TTs_in (j := 11) (List.mem_of_getElem? (i := 14) rfl), rfl⟩
theorem cIn_147 : Cond.code yX7_mould cX7_mould 4 (some .int) ∈ Tall := List.mem_filter.mpr ⟨TTs_in (j := 11) (List.mem_of_getElem? (i := 10) rfl), rfl⟩
theorem cIn_148 : Cond.code yX7_tellsHeir cX7_tellsHeir 4 (some .int) ∈ Tall := List.mem_filter.mpr ⟨TTs_in (j := 11) (List.mem_of_getElem? (i := 22) rfl), rfl⟩
theorem cIn_149 : Cond.code yX7_heir cX7_heir 3 (some .int) ∈ Tall := List.mem_filter.mpr ⟨TTs_in (j := 11) (List.mem_of_getElem? (i := 18) rfl), rfl⟩
theorem cIn_150 : Cond.code yX7_inForce cX7_inForce 4 (some .int) ∈ Tall := List.mem_filter.mpr ⟨TTs_in (j := 11) (List.mem_of_getElem? (i := 38) rfl), rfl⟩
theorem cIn_151 : Cond.code yX7_inheritsStubs cX7_inheritsStubs 6 (some .int) ∈ Tall := List.mem_filter.mpr ⟨TTs_in (j := 11) (List.mem_of_getElem? (i := 42) rfl), rfl⟩
theorem cIn_152 : Cond.code yX7_frees cX7_frees 5 none ∈ Tall := List.mem_filter.mpr ⟨TTs_in (j := 11) (List.mem_of_getElem? (i := 46) rfl), rfl⟩
theorem cIn_153 : Cond.code yX7_closes cX7_closes 4 (some .int) ∈ Tall := List.mem_filter.mpr ⟨TTs_in (j := 11) (List.mem_of_getElem? (i := 30) rfl), rfl⟩
theorem cIn_154 : Cond.code yX7_end cX7_end 2 (some .int) ∈ Tall := List.mem_filter.mpr ⟨TTs_in (j := 11) (List.mem_of_getElem? (i := 26) rfl), rfl⟩
theorem cIn_155 : Cond.code yX7_passes cX7_passes 5 (some .int) ∈ Tall := List.mem_filter.mpr ⟨TTs_in (j := 11) (List.mem_of_getElem? (i := 54) rfl), rfl⟩
theorem cIn_156 : Cond.code yX7_pass cX7_pass 2 (some .int) ∈ Tall := List.mem_filter.mpr ⟨TTs_in (j := 11) (List.mem_of_getElem? (i := 50) rfl), rfl⟩
theorem cIn_157 : Cond.code yX7_ofStubs cX7_ofStubs 5 (some .int) ∈ Tall := List.mem_filter.mpr ⟨TTs_in (j := 11) (List.mem_of_getElem? (i := 62) rfl), rfl⟩
theorem cIn_158 : Cond.code yX7_houseOf cX7_houseOf 3 (some .int) ∈ Tall := List.mem_filter.mpr ⟨TTs_in (j := 11) (List.mem_of_getElem? (i := 58) rfl), rfl⟩
theorem cIn_159 : Cond.code yX7_inherits cX7_inherits 2 (some .int) ∈ Tall := List.mem_filter.mpr ⟨TTs_in (j := 11) (List.mem_of_getElem? (i := 66) rfl), rfl⟩
theorem cIn_160 : Cond.code yX7_wouldMelt cX7_wouldMelt 3 (some .int) ∈ Tall := List.mem_filter.mpr ⟨TTs_in (j := 11) (List.mem_of_getElem? (i := 70) rfl), rfl⟩
theorem cIn_161 : Cond.code yX7_weight cX7_weight 2 (some .int) ∈ Tall := List.mem_filter.mpr ⟨TTs_in (j := 11) (List.mem_of_getElem? (i := 74) rfl), rfl⟩
theorem cIn_162 : Cond.code yX7_weightAgain cX7_weightAgain 2 (some .int) ∈ Tall := List.mem_filter.mpr ⟨TTs_in (j := 11) (List.mem_of_getElem? (i := 78) rfl), rfl⟩
theorem cIn_163 : Cond.code yX7_ranked cX7_ranked 6 (some .int) ∈ Tall := List.mem_filter.mpr ⟨TTs_in (j := 11) (List.mem_of_getElem? (i := 83) rfl), rfl⟩
theorem cIn_164 : Cond.code yX7_brightest cX7_brightest 6 (some .int) ∈ Tall := List.mem_filter.mpr ⟨TTs_in (j := 11) (List.mem_of_getElem? (i := 87) rfl), rfl⟩
theorem cIn_165 : Cond.code yX7_writes cX7_writes 2 none ∈ Tall := List.mem_filter.mpr ⟨TTs_in (j := 11) (List.mem_of_getElem? (i := 142) rfl), rfl⟩
theorem cIn_166 : Cond.code yX7_writesNumber cX7_writesNumber 3 none ∈ Tall := List.mem_filter.mpr ⟨TTs_in (j := 11) (List.mem_of_getElem? (i := 138) rfl), rfl⟩
theorem cIn_167 : Cond.code yX7_append cX7_append 2 (some .int) ∈ Tall := List.mem_filter.mpr ⟨TTs_in (j := 11) (List.mem_of_getElem? (i := 91) rfl), rfl⟩
theorem cIn_168 : Cond.code yX7_sign cX7_sign 1 (some .int) ∈ Tall := List.mem_filter.mpr ⟨TTs_in (j := 11) (List.mem_of_getElem? (i := 107) rfl), rfl⟩
theorem cIn_169 : Cond.code yX7_mark cX7_mark 2 none ∈ Tall := List.mem_filter.mpr ⟨TTs_in (j := 11) (List.mem_of_getElem? (i := 122) rfl), rfl⟩
theorem cIn_170 : Cond.code yX7_digits cX7_digits 4 (some .int) ∈ Tall := List.mem_filter.mpr ⟨TTs_in (j := 11) (List.mem_of_getElem? (i := 114) rfl), rfl⟩
theorem cIn_171 : Cond.code yX7_behind cX7_behind 3 (some .int) ∈ Tall := List.mem_filter.mpr ⟨TTs_in (j := 11) (List.mem_of_getElem? (i := 118) rfl), rfl⟩
theorem cIn_172 : Cond.code yX7_does cX7_does 5 (some .int) ∈ Tall := List.mem_filter.mpr ⟨TTs_in (j := 11) (List.mem_of_getElem? (i := 126) rfl), rfl⟩
theorem cIn_173 : Cond.code yX7_isKnown cX7_isKnown 1 (some .boolean) ∈ Tall := List.mem_filter.mpr ⟨TTs_in (j := 11) (List.mem_of_getElem? (i := 110) rfl), rfl⟩
theorem cIn_174 : Cond.code yX7_order cX7_order 7 none ∈ Tall := List.mem_filter.mpr ⟨TTs_in (j := 11) (List.mem_of_getElem? (i := 103) rfl), rfl⟩
theorem cIn_175 : Cond.code yX7_orders cX7_orders 2 (some .int) ∈ Tall := List.mem_filter.mpr ⟨TTs_in (j := 11) (List.mem_of_getElem? (i := 99) rfl), rfl⟩
theorem cIn_176 : Cond.code yX7_refusesOrder cX7_refusesOrder 8 (some .int) ∈ Tall := List.mem_filter.mpr ⟨TTs_in (j := 11) (List.mem_of_getElem? (i := 130) rfl), rfl⟩
theorem cIn_177 : Cond.code yX7_run cX7_run 2 (some .int) ∈ Tall := List.mem_filter.mpr ⟨TTs_in (j := 11) (List.mem_of_getElem? (i := 95) rfl), rfl⟩
theorem cIn_178 : Cond.code yX7_tell cX7_tell 2 (some .int) ∈ Tall := List.mem_filter.mpr ⟨TTs_in (j := 11) (List.mem_of_getElem? (i := 134) rfl), rfl⟩
theorem cIn_179 : Cond.code yX7_tellHouses cX7_tellHouses 2 (some .int) ∈ Tall := List.mem_filter.mpr ⟨TTs_in (j := 11) (List.mem_of_getElem? (i := 146) rfl), rfl⟩
theorem cIn_180 : Cond.code yX7_character cX7_character 2 (some .int) ∈ Tall := List.mem_filter.mpr ⟨TTs_in (j := 11) (List.mem_of_getElem? (i := 150) rfl), rfl⟩
theorem cIn_181 : Cond.code yX7_reason cX7_reason 4 (some .int) ∈ Tall := List.mem_filter.mpr ⟨TTs_in (j := 11) (List.mem_of_getElem? (i := 154) rfl), rfl⟩
theorem cIn_182 : Cond.code yX7_ofAll cX7_ofAll 4 (some .int) ∈ Tall := List.mem_filter.mpr ⟨TTs_in (j := 11) (List.mem_of_getElem? (i := 162) rfl), rfl⟩
theorem cIn_183 : Cond.code yX7_stores cX7_stores 3 (some .int) ∈ Tall := List.mem_filter.mpr ⟨TTs_in (j := 11) (List.mem_of_getElem? (i := 166) rfl), rfl⟩
theorem cIn_184 : Cond.code yX7_account cX7_account 2 (some .int) ∈ Tall := List.mem_filter.mpr ⟨TTs_in (j := 11) (List.mem_of_getElem? (i := 158) rfl), rfl⟩
theorem cIn_185 : Cond.code yX7_isBalanced cX7_isBalanced 1 (some .int) ∈ Tall := List.mem_filter.mpr ⟨TTs_in (j := 11) (List.mem_of_getElem? (i := 170) rfl), rfl⟩
theorem cIn_186 : Cond.code yX7_undo cX7_undo 2 (some .int) ∈ Tall := List.mem_filter.mpr ⟨TTs_in (j := 11) (List.mem_of_getElem? (i := 182) rfl), rfl⟩
theorem cIn_187 : Cond.code yX7_save cX7_save 1 (some .int) ∈ Tall := List.mem_filter.mpr ⟨TTs_in (j := 11) (List.mem_of_getElem? (i := 186) rfl), rfl⟩
theorem cIn_188 : Cond.code yX7_restore cX7_restore 1 (some .int) ∈ Tall := List.mem_filter.mpr ⟨TTs_in (j := 11) (List.mem_of_getElem? (i := 190) rfl), rfl⟩
theorem cIn_189 : Cond.code yJ4_append_cf468 cJ4_append_cf468 2 (some (.object "java/lang/StringBuilder")) ∈ Tall := List.mem_filter.mpr ⟨TTs_in (j := 8) (List.mem_of_getElem? (i := 128) rfl), rfl⟩
theorem cIn_190 : Cond.code yJ4_append_bf812 cJ4_append_bf812 2 (some (.object "java/lang/StringBuilder")) ∈ Tall := List.mem_filter.mpr ⟨TTs_in (j := 9) (List.mem_of_getElem? (i := 156) rfl), rfl⟩
theorem cIn_191 : Cond.code yJ4_charAt_5068e cJ4_charAt_5068e 2 (some .char) ∈ Tall := List.mem_filter.mpr ⟨TTs_in (j := 8) (List.mem_of_getElem? (i := 235) rfl), rfl⟩
theorem cIn_192 : Cond.code yJ4_setLength_d00df cJ4_setLength_d00df 2 none ∈ Tall := List.mem_filter.mpr ⟨TTs_in (j := 9) (List.mem_of_getElem? (i := 115) rfl), rfl⟩
theorem cIn_193 : Cond.code yJ4_length_8abf5 cJ4_length_8abf5 1 (some .int) ∈ Tall := List.mem_filter.mpr ⟨TTs_in (j := 8) (List.mem_of_getElem? (i := 121) rfl), rfl⟩
theorem cIn_194 : Cond.code yJ5_length_8abf5 cJ5_length_8abf5 1 (some .int) ∈ Tall := List.mem_filter.mpr ⟨TTs_in (j := 8) (List.mem_of_getElem? (i := 124) rfl), rfl⟩
theorem cIn_195 : Cond.code yJ5_charAt_5068e cJ5_charAt_5068e 5 (some .char) ∈ Tall := List.mem_filter.mpr ⟨TTs_in (j := 8) (List.mem_of_getElem? (i := 238) rfl), rfl⟩
theorem cIn_196 : Cond.code yJ5_setLength_d00df cJ5_setLength_d00df 2 none ∈ Tall := List.mem_filter.mpr ⟨TTs_in (j := 9) (List.mem_of_getElem? (i := 118) rfl), rfl⟩
theorem cIn_197 : Cond.code yJ5_append_3fe6f cJ5_append_3fe6f 2 (some (.object "java/lang/AbstractStringBuilder")) ∈ Tall := List.mem_filter.mpr ⟨TTs_in (j := 8) (List.mem_of_getElem? (i := 131) rfl), rfl⟩
theorem cIn_198 : Cond.code yJ5_append_c97b9 cJ5_append_c97b9 4 (some (.object "java/lang/AbstractStringBuilder")) ∈ Tall := List.mem_filter.mpr ⟨TTs_in (j := 9) (List.mem_of_getElem? (i := 159) rfl), rfl⟩
theorem cIn_199 : Cond.code yJ5_isLatin1_aae02 cJ5_isLatin1_aae02 1 (some .boolean) ∈ Tall := List.mem_filter.mpr ⟨TTs_in (j := 8) (List.mem_of_getElem? (i := 169) rfl), rfl⟩
theorem cIn_200 : Cond.code yJ6_getChars_ba4f3 cJ6_getChars_ba4f3 7 (some .int) ∈ Tall := List.mem_filter.mpr ⟨TTs_in (j := 9) (List.mem_of_getElem? (i := 165) rfl), rfl⟩
theorem cIn_201 : Cond.code yJ6_stringSize_0f7a4 cJ6_stringSize_0f7a4 4 (some .int) ∈ Tall := List.mem_filter.mpr ⟨TTs_in (j := 9) (List.mem_of_getElem? (i := 162) rfl), rfl⟩
theorem cIn_202 : Cond.code yJ9_min_7cf53 cJ9_min_7cf53 2 (some .int) ∈ Tall := List.mem_filter.mpr ⟨TTs_in (j := 7) (List.mem_of_getElem? (i := 112) rfl), rfl⟩
theorem cIn_203 : Cond.code yJ9_max_7cf53 cJ9_max_7cf53 2 (some .int) ∈ Tall := List.mem_filter.mpr ⟨TTs_in (j := 8) (List.mem_of_getElem? (i := 145) rfl), rfl⟩
theorem cIn_204 : Cond.code yJ0_length_8abf5 cJ0_length_8abf5 1 (some .int) ∈ Tall := List.mem_filter.mpr ⟨TTs_in (j := 9) (List.mem_of_getElem? (i := 20) rfl), rfl⟩
theorem cIn_205 : Cond.code yJ0_charAt_5068e cJ0_charAt_5068e 2 (some .char) ∈ Tall := List.mem_filter.mpr ⟨TTs_in (j := 9) (List.mem_of_getElem? (i := 88) rfl), rfl⟩
theorem cIn_206 : Cond.code yJ0_indexOf_0f7a4 cJ0_indexOf_0f7a4 2 (some .int) ∈ Tall := List.mem_filter.mpr ⟨TTs_in (j := 9) (List.mem_of_getElem? (i := 7) rfl), rfl⟩
theorem cIn_207 : Cond.code yJ0_indexOf_7cf53 cJ0_indexOf_7cf53 3 (some .int) ∈ Tall := List.mem_filter.mpr ⟨TTs_in (j := 9) (List.mem_of_getElem? (i := 11) rfl), rfl⟩
theorem cIn_208 : Cond.code yJ0_isLatin1_aae02 cJ0_isLatin1_aae02 1 (some .boolean) ∈ Tall := List.mem_filter.mpr ⟨TTs_in (j := 9) (List.mem_of_getElem? (i := 15) rfl), rfl⟩
theorem cIn_209 : Cond.code yJ0_coder_7d493 cJ0_coder_7d493 1 (some .byte) ∈ Tall := List.mem_filter.mpr ⟨TTs_in (j := 9) (List.mem_of_getElem? (i := 24) rfl), rfl⟩
theorem cIn_210 : Cond.code yJ0_checkIndex_df160 cJ0_checkIndex_df160 2 none ∈ Tall := List.mem_filter.mpr ⟨TTs_in (j := 8) (List.mem_of_getElem? (i := 214) rfl), rfl⟩
theorem cIn_211 : Cond.code yJ3_checkIndex_8e157 cJ3_checkIndex_8e157 3 (some .int) ∈ Tall := List.mem_filter.mpr ⟨TTs_in (j := 8) (List.mem_of_getElem? (i := 217) rfl), rfl⟩
theorem cIn_212 : Cond.code yJ1_charAt_3b067 cJ1_charAt_3b067 2 (some .char) ∈ Tall := List.mem_filter.mpr ⟨TTs_in (j := 9) (List.mem_of_getElem? (i := 91) rfl), rfl⟩
theorem cIn_213 : Cond.code yJ1_canEncode_fc78d cJ1_canEncode_fc78d 1 (some .boolean) ∈ Tall := List.mem_filter.mpr ⟨TTs_in (j := 8) (List.mem_of_getElem? (i := 172) rfl), rfl⟩
theorem cIn_214 : Cond.code yJ1_canEncode_9a6ad cJ1_canEncode_9a6ad 1 (some .boolean) ∈ Tall := List.mem_filter.mpr ⟨TTs_in (j := 9) (List.mem_of_getElem? (i := 30) rfl), rfl⟩
theorem cIn_215 : Cond.code yJ1_indexOf_4cfef cJ1_indexOf_4cfef 4 (some .int) ∈ Tall := List.mem_filter.mpr ⟨TTs_in (j := 9) (List.mem_of_getElem? (i := 27) rfl), rfl⟩
theorem cIn_216 : Cond.code yJ1_indexOfChar_4cfef cJ1_indexOfChar_4cfef 6 (some .int) ∈ Tall := List.mem_filter.mpr ⟨TTs_in (j := 9) (List.mem_of_getElem? (i := 35) rfl), rfl⟩
theorem cIn_217 : Cond.code yJ5_ensureCapacityInternal_d00df cJ5_ensureCapacityInternal_d00df 3 none ∈ Tall := List.mem_filter.mpr ⟨TTs_in (j := 8) (List.mem_of_getElem? (i := 135) rfl), rfl⟩
theorem codeIn_0 (j : Nat) (hj : j < 20) : Cond.code (nY (0 + j)) (nB (0 + j)) (nL (0 + j)) (nR (0 + j)) ∈ Tall := match j, hj with
  | 0, _ => cIn_0
  | 1, _ => cIn_1
  | 2, _ => cIn_2
  | 3, _ => cIn_3
  | 4, _ => cIn_4
  | 5, _ => cIn_5
  | 6, _ => cIn_6
  | 7, _ => cIn_7
  | 8, _ => cIn_8
  | 9, _ => cIn_9
  | 10, _ => cIn_10
  | 11, _ => cIn_11
  | 12, _ => cIn_12
  | 13, _ => cIn_13
  | 14, _ => cIn_14
  | 15, _ => cIn_15
  | 16, _ => cIn_16
  | 17, _ => cIn_17
  | 18, _ => cIn_18
  | 19, _ => cIn_19
  | x + 20, h => absurd h (by omega)
theorem codeIn_20 (j : Nat) (hj : j < 20) : Cond.code (nY (20 + j)) (nB (20 + j)) (nL (20 + j)) (nR (20 + j)) ∈ Tall := match j, hj with
  | 0, _ => cIn_20
  | 1, _ => cIn_21
  | 2, _ => cIn_22
  | 3, _ => cIn_23
  | 4, _ => cIn_24
  | 5, _ => cIn_25
  | 6, _ => cIn_26
  | 7, _ => cIn_27
  | 8, _ => cIn_28
  | 9, _ => cIn_29
  | 10, _ => cIn_30
  | 11, _ => cIn_31
  | 12, _ => cIn_32
  | 13, _ => cIn_33
  | 14, _ => cIn_34
  | 15, _ => cIn_35
  | 16, _ => cIn_36
  | 17, _ => cIn_37
  | 18, _ => cIn_38
  | 19, _ => cIn_39
  | x + 20, h => absurd h (by omega)
theorem codeIn_40 (j : Nat) (hj : j < 20) : Cond.code (nY (40 + j)) (nB (40 + j)) (nL (40 + j)) (nR (40 + j)) ∈ Tall := match j, hj with
  | 0, _ => cIn_40
  | 1, _ => cIn_41
  | 2, _ => cIn_42
  | 3, _ => cIn_43
  | 4, _ => cIn_44
  | 5, _ => cIn_45
  | 6, _ => cIn_46
  | 7, _ => cIn_47
  | 8, _ => cIn_48
  | 9, _ => cIn_49
  | 10, _ => cIn_50
  | 11, _ => cIn_51
  | 12, _ => cIn_52
  | 13, _ => cIn_53
  | 14, _ => cIn_54
  | 15, _ => cIn_55
  | 16, _ => cIn_56
  | 17, _ => cIn_57
  | 18, _ => cIn_58
  | 19, _ => cIn_59
  | x + 20, h => absurd h (by omega)
theorem codeIn_60 (j : Nat) (hj : j < 20) : Cond.code (nY (60 + j)) (nB (60 + j)) (nL (60 + j)) (nR (60 + j)) ∈ Tall := match j, hj with
  | 0, _ => cIn_60
  | 1, _ => cIn_61
  | 2, _ => cIn_62
  | 3, _ => cIn_63
  | 4, _ => cIn_64
  | 5, _ => cIn_65
  | 6, _ => cIn_66
  | 7, _ => cIn_67
  | 8, _ => cIn_68
  | 9, _ => cIn_69
  | 10, _ => cIn_70
  | 11, _ => cIn_71
  | 12, _ => cIn_72
  | 13, _ => cIn_73
  | 14, _ => cIn_74
  | 15, _ => cIn_75
  | 16, _ => cIn_76
  | 17, _ => cIn_77
  | 18, _ => cIn_78
  | 19, _ => cIn_79
  | x + 20, h => absurd h (by omega)
theorem codeIn_80 (j : Nat) (hj : j < 20) : Cond.code (nY (80 + j)) (nB (80 + j)) (nL (80 + j)) (nR (80 + j)) ∈ Tall := match j, hj with
  | 0, _ => cIn_80
  | 1, _ => cIn_81
  | 2, _ => cIn_82
  | 3, _ => cIn_83
  | 4, _ => cIn_84
  | 5, _ => cIn_85
  | 6, _ => cIn_86
  | 7, _ => cIn_87
  | 8, _ => cIn_88
  | 9, _ => cIn_89
  | 10, _ => cIn_90
  | 11, _ => cIn_91
  | 12, _ => cIn_92
  | 13, _ => cIn_93
  | 14, _ => cIn_94
  | 15, _ => cIn_95
  | 16, _ => cIn_96
  | 17, _ => cIn_97
  | 18, _ => cIn_98
  | 19, _ => cIn_99
  | x + 20, h => absurd h (by omega)
theorem codeIn_100 (j : Nat) (hj : j < 20) : Cond.code (nY (100 + j)) (nB (100 + j)) (nL (100 + j)) (nR (100 + j)) ∈ Tall := match j, hj with
  | 0, _ => cIn_100
  | 1, _ => cIn_101
  | 2, _ => cIn_102
  | 3, _ => cIn_103
  | 4, _ => cIn_104
  | 5, _ => cIn_105
  | 6, _ => cIn_106
  | 7, _ => cIn_107
  | 8, _ => cIn_108
  | 9, _ => cIn_109
  | 10, _ => cIn_110
  | 11, _ => cIn_111
  | 12, _ => cIn_112
  | 13, _ => cIn_113
  | 14, _ => cIn_114
  | 15, _ => cIn_115
  | 16, _ => cIn_116
  | 17, _ => cIn_117
  | 18, _ => cIn_118
  | 19, _ => cIn_119
  | x + 20, h => absurd h (by omega)
theorem codeIn_120 (j : Nat) (hj : j < 20) : Cond.code (nY (120 + j)) (nB (120 + j)) (nL (120 + j)) (nR (120 + j)) ∈ Tall := match j, hj with
  | 0, _ => cIn_120
  | 1, _ => cIn_121
  | 2, _ => cIn_122
  | 3, _ => cIn_123
  | 4, _ => cIn_124
  | 5, _ => cIn_125
  | 6, _ => cIn_126
  | 7, _ => cIn_127
  | 8, _ => cIn_128
  | 9, _ => cIn_129
  | 10, _ => cIn_130
  | 11, _ => cIn_131
  | 12, _ => cIn_132
  | 13, _ => cIn_133
  | 14, _ => cIn_134
  | 15, _ => cIn_135
  | 16, _ => cIn_136
  | 17, _ => cIn_137
  | 18, _ => cIn_138
  | 19, _ => cIn_139
  | x + 20, h => absurd h (by omega)
theorem codeIn_140 (j : Nat) (hj : j < 20) : Cond.code (nY (140 + j)) (nB (140 + j)) (nL (140 + j)) (nR (140 + j)) ∈ Tall := match j, hj with
  | 0, _ => cIn_140
  | 1, _ => cIn_141
  | 2, _ => cIn_142
  | 3, _ => cIn_143
  | 4, _ => cIn_144
  | 5, _ => cIn_145
  | 6, _ => cIn_146
  | 7, _ => cIn_147
  | 8, _ => cIn_148
  | 9, _ => cIn_149
  | 10, _ => cIn_150
  | 11, _ => cIn_151
  | 12, _ => cIn_152
  | 13, _ => cIn_153
  | 14, _ => cIn_154
  | 15, _ => cIn_155
  | 16, _ => cIn_156
  | 17, _ => cIn_157
  | 18, _ => cIn_158
  | 19, _ => cIn_159
  | x + 20, h => absurd h (by omega)
theorem codeIn_160 (j : Nat) (hj : j < 20) : Cond.code (nY (160 + j)) (nB (160 + j)) (nL (160 + j)) (nR (160 + j)) ∈ Tall := match j, hj with
  | 0, _ => cIn_160
  | 1, _ => cIn_161
  | 2, _ => cIn_162
  | 3, _ => cIn_163
  | 4, _ => cIn_164
  | 5, _ => cIn_165
  | 6, _ => cIn_166
  | 7, _ => cIn_167
  | 8, _ => cIn_168
  | 9, _ => cIn_169
  | 10, _ => cIn_170
  | 11, _ => cIn_171
  | 12, _ => cIn_172
  | 13, _ => cIn_173
  | 14, _ => cIn_174
  | 15, _ => cIn_175
  | 16, _ => cIn_176
  | 17, _ => cIn_177
  | 18, _ => cIn_178
  | 19, _ => cIn_179
  | x + 20, h => absurd h (by omega)
theorem codeIn_180 (j : Nat) (hj : j < 20) : Cond.code (nY (180 + j)) (nB (180 + j)) (nL (180 + j)) (nR (180 + j)) ∈ Tall := match j, hj with
  | 0, _ => cIn_180
  | 1, _ => cIn_181
  | 2, _ => cIn_182
  | 3, _ => cIn_183
  | 4, _ => cIn_184
  | 5, _ => cIn_185
  | 6, _ => cIn_186
  | 7, _ => cIn_187
  | 8, _ => cIn_188
  | 9, _ => cIn_189
  | 10, _ => cIn_190
  | 11, _ => cIn_191
  | 12, _ => cIn_192
  | 13, _ => cIn_193
  | 14, _ => cIn_194
  | 15, _ => cIn_195
  | 16, _ => cIn_196
  | 17, _ => cIn_197
  | 18, _ => cIn_198
  | 19, _ => cIn_199
  | x + 20, h => absurd h (by omega)
theorem codeIn_200 (j : Nat) (hj : j < 18) : Cond.code (nY (200 + j)) (nB (200 + j)) (nL (200 + j)) (nR (200 + j)) ∈ Tall := match j, hj with
  | 0, _ => cIn_200
  | 1, _ => cIn_201
  | 2, _ => cIn_202
  | 3, _ => cIn_203
  | 4, _ => cIn_204
  | 5, _ => cIn_205
  | 6, _ => cIn_206
  | 7, _ => cIn_207
  | 8, _ => cIn_208
  | 9, _ => cIn_209
  | 10, _ => cIn_210
  | 11, _ => cIn_211
  | 12, _ => cIn_212
  | 13, _ => cIn_213
  | 14, _ => cIn_214
  | 15, _ => cIn_215
  | 16, _ => cIn_216
  | 17, _ => cIn_217
  | x + 18, h => absurd h (by omega)
theorem codeIn (k : Nat) (hk : k < mnames) : Cond.code (nY k) (nB k) (nL k) (nR k) ∈ Tall := by
  have hk2 : k < 218 := hk
  by_cases h0 : k < 20
  · obtain ⟨j, hj⟩ : ∃ j, k = 0 + j := ⟨k - 0, by omega⟩
    subst hj
    exact codeIn_0 j (by omega)
  by_cases h20 : k < 40
  · obtain ⟨j, hj⟩ : ∃ j, k = 20 + j := ⟨k - 20, by omega⟩
    subst hj
    exact codeIn_20 j (by omega)
  by_cases h40 : k < 60
  · obtain ⟨j, hj⟩ : ∃ j, k = 40 + j := ⟨k - 40, by omega⟩
    subst hj
    exact codeIn_40 j (by omega)
  by_cases h60 : k < 80
  · obtain ⟨j, hj⟩ : ∃ j, k = 60 + j := ⟨k - 60, by omega⟩
    subst hj
    exact codeIn_60 j (by omega)
  by_cases h80 : k < 100
  · obtain ⟨j, hj⟩ : ∃ j, k = 80 + j := ⟨k - 80, by omega⟩
    subst hj
    exact codeIn_80 j (by omega)
  by_cases h100 : k < 120
  · obtain ⟨j, hj⟩ : ∃ j, k = 100 + j := ⟨k - 100, by omega⟩
    subst hj
    exact codeIn_100 j (by omega)
  by_cases h120 : k < 140
  · obtain ⟨j, hj⟩ : ∃ j, k = 120 + j := ⟨k - 120, by omega⟩
    subst hj
    exact codeIn_120 j (by omega)
  by_cases h140 : k < 160
  · obtain ⟨j, hj⟩ : ∃ j, k = 140 + j := ⟨k - 140, by omega⟩
    subst hj
    exact codeIn_140 j (by omega)
  by_cases h160 : k < 180
  · obtain ⟨j, hj⟩ : ∃ j, k = 160 + j := ⟨k - 160, by omega⟩
    subst hj
    exact codeIn_160 j (by omega)
  by_cases h180 : k < 200
  · obtain ⟨j, hj⟩ : ∃ j, k = 180 + j := ⟨k - 180, by omega⟩
    subst hj
    exact codeIn_180 j (by omega)
  by_cases h200 : k < 218
  · obtain ⟨j, hj⟩ : ∃ j, k = 200 + j := ⟨k - 200, by omega⟩
    subst hj
    exact codeIn_200 j (by omega)
  omega
theorem eAll_0 : (List.range' 0 24).all eAllK = true := by decide +kernel
theorem eAll_24 : (List.range' 24 24).all eAllK = true := by decide +kernel
theorem eAll_48 : (List.range' 48 24).all eAllK = true := by decide +kernel
theorem eAll_72 : (List.range' 72 24).all eAllK = true := by decide +kernel
theorem eAll_96 : (List.range' 96 24).all eAllK = true := by decide +kernel
theorem eAll_120 : (List.range' 120 24).all eAllK = true := by decide +kernel
theorem eAll_144 : (List.range' 144 24).all eAllK = true := by decide +kernel
theorem eAll_168 : (List.range' 168 24).all eAllK = true := by decide +kernel
theorem eAll_192 : (List.range' 192 24).all eAllK = true := by decide +kernel
theorem eAll_216 : (List.range' 216 2).all eAllK = true := by decide +kernel
theorem eAll (k : Nat) (hk : k < mnames) : eAllK k = true := by
  have hk2 : k < 218 := hk
  by_cases h0 : k < 24
  · exact List.all_eq_true.mp eAll_0 k (by rw [List.mem_range'_1]; omega)
  by_cases h24 : k < 48
  · exact List.all_eq_true.mp eAll_24 k (by rw [List.mem_range'_1]; omega)
  by_cases h48 : k < 72
  · exact List.all_eq_true.mp eAll_48 k (by rw [List.mem_range'_1]; omega)
  by_cases h72 : k < 96
  · exact List.all_eq_true.mp eAll_72 k (by rw [List.mem_range'_1]; omega)
  by_cases h96 : k < 120
  · exact List.all_eq_true.mp eAll_96 k (by rw [List.mem_range'_1]; omega)
  by_cases h120 : k < 144
  · exact List.all_eq_true.mp eAll_120 k (by rw [List.mem_range'_1]; omega)
  by_cases h144 : k < 168
  · exact List.all_eq_true.mp eAll_144 k (by rw [List.mem_range'_1]; omega)
  by_cases h168 : k < 192
  · exact List.all_eq_true.mp eAll_168 k (by rw [List.mem_range'_1]; omega)
  by_cases h192 : k < 216
  · exact List.all_eq_true.mp eAll_192 k (by rw [List.mem_range'_1]; omega)
  by_cases h216 : k < 218
  · exact List.all_eq_true.mp eAll_216 k (by rw [List.mem_range'_1]; omega)
  omega
