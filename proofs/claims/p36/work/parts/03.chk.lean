/-! the checks of the tables, by program -/
def nY (k : Nat) : MethodName := mYL.getD k ⟨"", "", ""⟩
def nB (k : Nat) : ByteArray := mBL.getD k ⟨#[]⟩
def nR (k : Nat) : Option FieldType := mRL.getD k none
def nL (k : Nat) : Nat := (mI.getD k (0, 0, 0, 0)).1
def nA (k : Nat) : Nat := (mI.getD k (0, 0, 0, 0)).2.1
def nS (k : Nat) : Nat := (mI.getD k (0, 0, 0, 0)).2.2.1
def nC (k : Nat) : Nat := (mI.getD k (0, 0, 0, 0)).2.2.2
def nO (k : Nat) : Nat := mO.getD k 99
def cN (i : Nat) : String := clsN.getD i ""
def rcN (ci : Nat) : String := if ci = 25 then "java/lang/String" else ((vwCl[ci]?).map (fun q => q.1)).getD ""
def mOK (k : Nat) : Bool :=
  let y := nY k; let p := mP.getD k (0, 0, 0, 0)
  atT p.2.1 (.initialized y.cls) &&
  (if nS k = 1 then atT p.2.2.1 (.static y) else atT p.2.2.1 (.instanceMethod y)) &&
  decide (y.cls = cN (nO k)) && decide (y.cls ≠ "java/lang/invoke/MethodHandle" ∧ y.cls ≠ "java/lang/invoke/VarHandle") &&
  decide ((parseMethodDescriptor y.desc).map (fun d => d.parameters.length) = some (if nS k = 1 then nA k else nA k - 1)) && decide (nS k = 1 ∨ 1 ≤ nA k) &&
  decide (nA k ≤ nL k) && decide (nL k ≤ 21) && plainFor y
theorem mAll : (List.range mnames).all mOK = true := by decide +kernel
def fOK (f : Nat × Nat × Nat × Nat × Nat × Nat) : Bool := match vwCl[f.2.2.1]? with
  | some (_, T, N) => decide (f.2.2.2.1 < N) && atT f.2.2.2.2.2 (.fieldLink (cN f.1) f.2.1 (T f.2.2.2.1).1 (T f.2.2.2.1).2.1 (T f.2.2.2.1).2.2.1) &&
      decide (f.2.2.2.2.1 = 0 → (T f.2.2.2.1).2.2.1 = "I" ∧ (T f.2.2.2.1).2.2.2 = false) && decide (f.2.2.2.2.1 = 1 → (T f.2.2.2.1).2.2.1 = "Z" ∧ (T f.2.2.2.1).2.2.2 = false) && decide (f.2.2.2.2.1 = 2 → (T f.2.2.2.1).2.2.1 = "B" ∧ (T f.2.2.2.1).2.2.2 = false) && decide (f.2.2.2.2.1 = 3 → f.2.2.1 = 0 → (T f.2.2.2.1).2.2.1 = "[B" ∧ (T f.2.2.2.1).2.2.2 = false)
  | none => false
theorem fAll : ftab.all fOK = true := by decide +kernel
def k6 (k : Nat) : Nat := if k = 193 then 194 else 128
def iOK (f : Nat × Nat × Nat × Nat × Nat × Nat × Nat) : Bool :=
  let y := nY f.2.2.1; let own := cN f.1; let k := f.2.2.1
  decide (k < mnames) && atT f.2.2.2.2.1 (.methodLink own f.2.1 (if f.2.2.2.1 = 6 then ⟨"java/lang/AbstractStringBuilder", y.name, y.desc⟩ else y)) &&
  (if f.2.2.2.1 = 0 then decide (nS k = 0) && decide (rcN (nC k) = y.cls) && atT (mP.getD k (0, 0, 0, 0)).2.2.2 (.selects y.cls y y)
   else if f.2.2.2.1 = 1 then decide (nS k = 1)
   else if f.2.2.2.1 = 2 then decide (nS k = 0) && decide (rcN (nC k) = "java/lang/StringBuilder") && atT (mP.getD k (0, 0, 0, 0)).2.2.2 (.selects "java/lang/StringBuilder" y y) && atT f.2.2.2.2.2.1 (.sameMethod y.cls y.cls y.name y.desc)
   else if f.2.2.2.1 = 3 then decide (nS k = 0) && decide (rcN (nC k) = "java/lang/StringBuilder") && atT f.2.2.2.2.2.1 (.sameMethod y.cls y.cls y.name y.desc) && atT f.2.2.2.2.2.2 (.superclass own y.cls) && decide (y.name ≠ "<init>")
   else if f.2.2.2.1 = 4 then decide (nS k = 0) && decide (y.name = "<init>") && decide (nR k = none)
   else decide (nS k = 0) && decide (rcN (nC k) = "java/lang/StringBuilder") && decide (nY (k6 k) = ⟨"java/lang/AbstractStringBuilder", y.name, y.desc⟩) && decide (k6 k < mnames) && decide (nS (k6 k) = 0) && atT f.2.2.2.2.2.2 (.selects "java/lang/StringBuilder" ⟨"java/lang/AbstractStringBuilder", y.name, y.desc⟩ y) && atT f.2.2.2.2.2.1 (.sameMethod "java/lang/AbstractStringBuilder" "java/lang/AbstractStringBuilder" y.name y.desc))
theorem iAll : itab.all iOK = true := by decide +kernel
def ilen : Instr → Nat
  | .bipush _ | .iload _ | .aload _ | .dload _ | .dstore _ | .fload _ | .fstore _ | .istore _ | .astore _ | .ldc _ | .newarray _ => 2
  | .sipush _ | .ifCond _ _ | .if_icmp _ _ | .ldc_w _ | .if_acmp _ _ | .ifnonnull _ | .instanceof _ | .checkcast _ | .goto _ | .iinc _ _ | .getfield _ | .putfield _ | .getstatic _ | .invokevirtual _ | .invokestatic _ | .invokespecial _ | .new _ => 3
  | _ => 1
def isTS : Instr → Bool
  | .tableswitch .. => true
  | _ => false
def jOK (pc : Nat) : Instr → Bool
  | .ifCond _ o | .if_icmp _ o | .if_acmp _ o | .ifnonnull o | .goto o => decide (0 ≤ (pc : Int) + o)
  | .tableswitch d _ _ os => decide (0 ≤ (pc : Int) + d) && os.toList.all (fun o => decide (0 ≤ (pc : Int) + o))
  | _ => true
def callOK (k idx a b c : Nat) (kinds : List Nat) : Bool := decide (996 ≤ b) || (match itab[a]? with
  | some f => decide (f.1 = nO k) && decide (f.2.1 = idx) && decide (f.2.2.1 = b) && decide (f.2.2.2.1 = c) && kinds.contains c
  | none => false)
def yRow (k idx a t : Nat) : Bool := match ytab[a]? with
  | some f => decide (f.1 = nO k) && decide (f.2.1 = idx) && decide (f.2.2.2 = t)
  | none => false
def oRow (k idx a : Nat) : Bool := match otab[a]? with
  | some f => decide (f.1 = nO k) && decide (f.2.1 = idx)
  | none => false
def eOK (k : Nat) (e : Ent) : Bool :=
  (match decode (nB k) e.1 with
   | .ok (i, L) => decide (i = e.2.1) && (decide (L = ilen i) || isTS i)
   | .error _ => false) && jOK e.1 e.2.1 &&
  (match e.2.1 with
   | .getfield idx | .putfield idx => if e.2.2.2.1 = 25 then (match rtab[e.2.2.1]? with
        | some f => decide (f.1 = nO k) && decide (f.2.1 = idx) && decide (f.2.2.1 = e.2.2.2.2.1)
        | none => false) else (match ftab[e.2.2.1]? with
        | some f => decide (f.1 = nO k) && decide (f.2.1 = idx) && decide (f.2.2.1 = e.2.2.2.1) && decide (f.2.2.2.1 = e.2.2.2.2.1) && decide (f.2.2.2.2.1 = e.2.2.2.2.2)
        | none => false)
   | .invokevirtual idx => callOK k idx e.2.2.1 e.2.2.2.1 e.2.2.2.2.1 [0, 2, 6] && (decide (e.2.2.2.1 ≠ 997) || yRow k idx e.2.2.1 1)
   | .invokestatic idx => callOK k idx e.2.2.1 e.2.2.2.1 e.2.2.2.2.1 [1] && (decide (e.2.2.2.1 ≠ 998) || yRow k idx e.2.2.1 0)
   | .invokespecial idx => callOK k idx e.2.2.1 e.2.2.2.1 e.2.2.2.2.1 [3, 4] && (decide (e.2.2.2.1 ≠ 996) || oRow k idx e.2.2.1)
   | .getstatic idx => (match stab[e.2.2.1]? with
        | some f => decide (f.1 = nO k) && decide (f.2.1 = idx) && decide (f.2.2.1 = e.2.2.2.1)
        | none => false)
   | .ldc idx => if e.2.2.2.1 = 999 then true else if e.2.2.2.1 = 2 then (match ctab[e.2.2.1]? with
        | some f => decide (f.1 = nO k) && decide (f.2.1 = idx) && decide (e.2.2.2.2.1 = e.2.2.1)
        | none => false) else (match ltab[e.2.2.1]? with
        | some f => decide (f.1 = nO k) && decide (f.2.1 = idx) && decide (e.2.2.2.2.1 = lmp.getD e.2.2.1 0)
        | none => false)
   | .new idx => if e.2.2.2.1 = 999 then true else (match ntab[e.2.2.1]? with
        | some f => decide (f.1 = nO k) && decide (f.2.1 = idx) && decide (f.2.2.1 = e.2.2.2.1)
        | none => false)
   | .instanceof idx | .checkcast idx => if e.2.2.2.1 = 999 then true else (match gtab[e.2.2.1]? with
        | some f => decide (f.1 = nO k) && decide (f.2.1 = idx) && decide (f.2.2.1 = e.2.2.2.1)
        | none => false)
   | _ => true)
def nOK (f : Nat × Nat × Nat × Nat × Nat × Nat) : Bool := match vwCl[f.2.2.1]? with
  | some (C, _, N) => decide (f.2.2.1 = 0 ∨ f.2.2.1 = 8 ∨ f.2.2.1 = 9) && atT f.2.2.2.1 (.classLink (cN f.1) f.2.1 C) && atT f.2.2.2.2.1 (.instantiable C N) && atT f.2.2.2.2.2 (.initialized C)
  | none => false
theorem nAll : ntab.all nOK = true := by decide +kernel
def kOK (f : Nat × Nat × Nat × Int32) : Bool := atT f.2.2.1 (.constant (cN f.1) f.2.1 f.2.2.2)
theorem kAll : ctab.all kOK = true := by decide +kernel
def gOK (f : Nat × Nat × Nat × Nat) : Bool := atT f.2.2.2 (.classLink (cN f.1) f.2.1 (if f.2.2.1 = 0 then "java/lang/String" else "[B"))
theorem gAll : gtab.all gOK = true := by decide +kernel
def yOK (f : Nat × Nat × Nat × Nat) : Bool := atT f.2.2.1 (.methodLink (cN f.1) f.2.1 (if f.2.2.2 = 0 then arraycopyName else ⟨"[B", "clone", "()Ljava/lang/Object;"⟩))
theorem yAll : ytab.all yOK = true := by decide +kernel
def oOK (f : Nat × Nat × Nat) : Bool := atT f.2.2 (.methodLink (cN f.1) f.2.1 objectInit)
theorem oAll : otab.all oOK = true := by decide +kernel
def sOK (f : Nat × Nat × Nat × Nat) : Bool := match f.2.2.1 with
  | 0 => atT f.2.2.2 (.fieldLink (cN f.1) f.2.1 "java/lang/String" "COMPACT_STRINGS" "Z")
  | 1 => atT f.2.2.2 (.fieldLink (cN f.1) f.2.1 "jdk/internal/util/Preconditions" "SIOOBE_FORMATTER" "Ljava/util/function/BiFunction;")
  | 2 => atT f.2.2.2 (.fieldLink (cN f.1) f.2.1 "java/lang/Integer" "DigitOnes" "[B")
  | 3 => atT f.2.2.2 (.fieldLink (cN f.1) f.2.1 "java/lang/Integer" "DigitTens" "[B")
  | _ => false
theorem sAll : stab.all sOK = true := by decide +kernel
def rOK (f : Nat × Nat × Nat × Nat) : Bool := match f.2.2.1 with
  | 0 => atT f.2.2.2 (.fieldLink (cN f.1) f.2.1 "java/lang/String" "value" "[B")
  | 1 => atT f.2.2.2 (.fieldLink (cN f.1) f.2.1 "java/lang/String" "coder" "B")
  | _ => false
theorem rAll : rtab.all rOK = true := by decide +kernel
def lOK (f : Nat × Nat × Nat × String) : Bool := (match (TTs (f.2.2.1 / 1000))[f.2.2.1 % 1000]? with
  | some w => decide (w = .stringRef (cN f.1) f.2.1 f.2.2.2)
  | none => false)
theorem lAll : ltab.all lOK = true := by decide +kernel
def eAllK (k : Nat) : Bool := (mE.getD k []).all (eOK k)
theorem cIn_0 : Cond.code yX0_begin cX0_begin 2 none ∈ Tall := List.mem_filter.mpr ⟨TTs_in (j := 4) (List.mem_of_getElem? (i := 48) rfl), rfl⟩
theorem cIn_1 : Cond.code yX0_takeBack cX0_takeBack 2 none ∈ Tall := List.mem_filter.mpr ⟨TTs_in (j := 6) (List.mem_of_getElem? (i := 6) rfl), rfl⟩
theorem cIn_2 : Cond.code yX0_keep cX0_keep 1 none ∈ Tall := List.mem_filter.mpr ⟨TTs_in (j := 4) (List.mem_of_getElem? (i := 110) rfl), rfl⟩
theorem cIn_3 : Cond.code yX0_stepBack cX0_stepBack 2 (some .boolean) ∈ Tall := List.mem_filter.mpr ⟨TTs_in (j := 6) (List.mem_of_getElem? (i := 91) rfl), rfl⟩
theorem cIn_4 : Cond.code yX0_forget cX0_forget 1 none ∈ Tall := List.mem_filter.mpr ⟨TTs_in (j := 6) (List.mem_of_getElem? (i := 101) rfl), rfl⟩
theorem cIn_5 : Cond.code yX1_read cX1_read 3 (some .int) ∈ Tall := List.mem_filter.mpr ⟨TTs_in (j := 4) (List.mem_of_getElem? (i := 222) rfl), rfl⟩
theorem cIn_6 : Cond.code yX1_isOrderRead cX1_isOrderRead 8 (some .boolean) ∈ Tall := List.mem_filter.mpr ⟨TTs_in (j := 4) (List.mem_of_getElem? (i := 226) rfl), rfl⟩
theorem cIn_7 : Cond.code yX1_patternOf cX1_patternOf 1 (some (.object "java/lang/String")) ∈ Tall := List.mem_filter.mpr ⟨TTs_in (j := 5) (List.mem_of_getElem? (i := 95) rfl), rfl⟩
theorem cIn_8 : Cond.code yX1_isSignRead cX1_isSignRead 3 (some .boolean) ∈ Tall := List.mem_filter.mpr ⟨TTs_in (j := 5) (List.mem_of_getElem? (i := 136) rfl), rfl⟩
theorem cIn_9 : Cond.code yX1_hasDigit cX1_hasDigit 2 (some .boolean) ∈ Tall := List.mem_filter.mpr ⟨TTs_in (j := 5) (List.mem_of_getElem? (i := 124) rfl), rfl⟩
theorem cIn_10 : Cond.code yX1_readNumber cX1_readNumber 6 (some .int) ∈ Tall := List.mem_filter.mpr ⟨TTs_in (j := 5) (List.mem_of_getElem? (i := 128) rfl), rfl⟩
theorem cIn_11 : Cond.code yX1_keepNumber cX1_keepNumber 4 none ∈ Tall := List.mem_filter.mpr ⟨TTs_in (j := 5) (List.mem_of_getElem? (i := 132) rfl), rfl⟩
theorem cIn_12 : Cond.code yX2_clear cX2_clear 1 none ∈ Tall := List.mem_filter.mpr ⟨TTs_in (j := 4) (List.mem_of_getElem? (i := 78) rfl), rfl⟩
theorem cIn_13 : Cond.code yX2_putBehind cX2_putBehind 3 none ∈ Tall := List.mem_filter.mpr ⟨TTs_in (j := 4) (List.mem_of_getElem? (i := 82) rfl), rfl⟩
theorem cIn_14 : Cond.code yX2_putAhead cX2_putAhead 4 none ∈ Tall := List.mem_filter.mpr ⟨TTs_in (j := 6) (List.mem_of_getElem? (i := 14) rfl), rfl⟩
theorem cIn_15 : Cond.code yX3_divide cX3_divide 6 none ∈ Tall := List.mem_filter.mpr ⟨TTs_in (j := 4) (List.mem_of_getElem? (i := 166) rfl), rfl⟩
theorem cIn_16 : Cond.code yX3_giveOneByRest cX3_giveOneByRest 2 none ∈ Tall := List.mem_filter.mpr ⟨TTs_in (j := 4) (List.mem_of_getElem? (i := 172) rfl), rfl⟩
theorem cIn_17 : Cond.code yX3_deal cX3_deal 6 none ∈ Tall := List.mem_filter.mpr ⟨TTs_in (j := 6) (List.mem_of_getElem? (i := 65) rfl), rfl⟩
theorem cIn_18 : Cond.code yX3_greatest cX3_greatest 3 (some .int) ∈ Tall := List.mem_filter.mpr ⟨TTs_in (j := 4) (List.mem_of_getElem? (i := 175) rfl), rfl⟩
theorem cIn_19 : Cond.code yX4_copyFrom cX4_copyFrom 3 none ∈ Tall := List.mem_filter.mpr ⟨TTs_in (j := 4) (List.mem_of_getElem? (i := 52) rfl), rfl⟩
theorem cIn_20 : Cond.code yX4_burnDown cX4_burnDown 5 (some .int) ∈ Tall := List.mem_filter.mpr ⟨TTs_in (j := 4) (List.mem_of_getElem? (i := 129) rfl), rfl⟩
theorem cIn_21 : Cond.code yX4_claimOf cX4_claimOf 2 (some .int) ∈ Tall := List.mem_filter.mpr ⟨TTs_in (j := 4) (List.mem_of_getElem? (i := 158) rfl), rfl⟩
theorem cIn_22 : Cond.code yX4_allClaims cX4_allClaims 3 (some .int) ∈ Tall := List.mem_filter.mpr ⟨TTs_in (j := 4) (List.mem_of_getElem? (i := 154) rfl), rfl⟩
theorem cIn_23 : Cond.code yX4_allStores cX4_allStores 3 (some .int) ∈ Tall := List.mem_filter.mpr ⟨TTs_in (j := 6) (List.mem_of_getElem? (i := 41) rfl), rfl⟩
theorem cIn_24 : Cond.code yX4_allPooled cX4_allPooled 3 (some .int) ∈ Tall := List.mem_filter.mpr ⟨TTs_in (j := 6) (List.mem_of_getElem? (i := 57) rfl), rfl⟩
theorem cIn_25 : Cond.code yX4_openHouses cX4_openHouses 3 (some .int) ∈ Tall := List.mem_filter.mpr ⟨TTs_in (j := 6) (List.mem_of_getElem? (i := 33) rfl), rfl⟩
theorem cIn_26 : Cond.code yX4_successorOf cX4_successorOf 4 (some .int) ∈ Tall := List.mem_filter.mpr ⟨TTs_in (j := 4) (List.mem_of_getElem? (i := 211) rfl), rfl⟩
theorem cIn_27 : Cond.code yX4_handOver cX4_handOver 3 none ∈ Tall := List.mem_filter.mpr ⟨TTs_in (j := 5) (List.mem_of_getElem? (i := 226) rfl), rfl⟩
theorem cIn_28 : Cond.code yX4_handOverRights cX4_handOverRights 4 none ∈ Tall := List.mem_filter.mpr ⟨TTs_in (j := 5) (List.mem_of_getElem? (i := 230) rfl), rfl⟩
theorem cIn_29 : Cond.code yX4_handOverStubs cX4_handOverStubs 7 none ∈ Tall := List.mem_filter.mpr ⟨TTs_in (j := 5) (List.mem_of_getElem? (i := 235) rfl), rfl⟩
theorem cIn_30 : Cond.code yX4_dropWhatIsOwn cX4_dropWhatIsOwn 2 none ∈ Tall := List.mem_filter.mpr ⟨TTs_in (j := 6) (List.mem_of_getElem? (i := 1) rfl), rfl⟩
theorem cIn_31 : Cond.code yX4_housesAheadOf cX4_housesAheadOf 4 (some .int) ∈ Tall := List.mem_filter.mpr ⟨TTs_in (j := 7) (List.mem_of_getElem? (i := 141) rfl), rfl⟩
theorem cIn_32 : Cond.code yX4_isAhead cX4_isAhead 5 (some .boolean) ∈ Tall := List.mem_filter.mpr ⟨TTs_in (j := 7) (List.mem_of_getElem? (i := 145) rfl), rfl⟩
theorem cIn_33 : Cond.code yX5_copyFrom cX5_copyFrom 3 none ∈ Tall := List.mem_filter.mpr ⟨TTs_in (j := 4) (List.mem_of_getElem? (i := 56) rfl), rfl⟩
theorem cIn_34 : Cond.code yX5_copyStub cX5_copyStub 4 none ∈ Tall := List.mem_filter.mpr ⟨TTs_in (j := 4) (List.mem_of_getElem? (i := 60) rfl), rfl⟩
theorem cIn_35 : Cond.code yX5_put cX5_put 5 (some .int) ∈ Tall := List.mem_filter.mpr ⟨TTs_in (j := 4) (List.mem_of_getElem? (i := 94) rfl), rfl⟩
theorem cIn_36 : Cond.code yX5_remove cX5_remove 3 none ∈ Tall := List.mem_filter.mpr ⟨TTs_in (j := 4) (List.mem_of_getElem? (i := 142) rfl), rfl⟩
theorem cIn_37 : Cond.code yX5_takeWax cX5_takeWax 3 none ∈ Tall := List.mem_filter.mpr ⟨TTs_in (j := 4) (List.mem_of_getElem? (i := 138) rfl), rfl⟩
theorem cIn_38 : Cond.code yX5_forgive cX5_forgive 2 none ∈ Tall := List.mem_filter.mpr ⟨TTs_in (j := 4) (List.mem_of_getElem? (i := 98) rfl), rfl⟩
theorem cIn_39 : Cond.code yX5_release cX5_release 2 none ∈ Tall := List.mem_filter.mpr ⟨TTs_in (j := 4) (List.mem_of_getElem? (i := 102) rfl), rfl⟩
theorem cIn_40 : Cond.code yX5_payBack cX5_payBack 4 (some .int) ∈ Tall := List.mem_filter.mpr ⟨TTs_in (j := 4) (List.mem_of_getElem? (i := 133) rfl), rfl⟩
theorem cIn_41 : Cond.code yX5_shortenWrits cX5_shortenWrits 4 (some .int) ∈ Tall := List.mem_filter.mpr ⟨TTs_in (j := 4) (List.mem_of_getElem? (i := 203) rfl), rfl⟩
theorem cIn_42 : Cond.code yX5_countOn cX5_countOn 4 (some .int) ∈ Tall := List.mem_filter.mpr ⟨TTs_in (j := 7) (List.mem_of_getElem? (i := 90) rfl), rfl⟩
theorem cIn_43 : Cond.code yX5_weightOn cX5_weightOn 4 (some .int) ∈ Tall := List.mem_filter.mpr ⟨TTs_in (j := 4) (List.mem_of_getElem? (i := 90) rfl), rfl⟩
theorem cIn_44 : Cond.code yX5_weightBesideOthers cX5_weightBesideOthers 4 (some .int) ∈ Tall := List.mem_filter.mpr ⟨TTs_in (j := 6) (List.mem_of_getElem? (i := 73) rfl), rfl⟩
theorem cIn_45 : Cond.code yX5_tooManyFor cX5_tooManyFor 7 (some .int) ∈ Tall := List.mem_filter.mpr ⟨TTs_in (j := 7) (List.mem_of_getElem? (i := 175) rfl), rfl⟩
theorem cIn_46 : Cond.code yX5_writsBy cX5_writsBy 4 (some .int) ∈ Tall := List.mem_filter.mpr ⟨TTs_in (j := 5) (List.mem_of_getElem? (i := 209) rfl), rfl⟩
theorem cIn_47 : Cond.code yX5_owedTo cX5_owedTo 4 (some .int) ∈ Tall := List.mem_filter.mpr ⟨TTs_in (j := 4) (List.mem_of_getElem? (i := 162) rfl), rfl⟩
theorem cIn_48 : Cond.code yX5_owedBy cX5_owedBy 4 (some .int) ∈ Tall := List.mem_filter.mpr ⟨TTs_in (j := 7) (List.mem_of_getElem? (i := 94) rfl), rfl⟩
theorem cIn_49 : Cond.code yX5_allWrits cX5_allWrits 3 (some .int) ∈ Tall := List.mem_filter.mpr ⟨TTs_in (j := 5) (List.mem_of_getElem? (i := 213) rfl), rfl⟩
theorem cIn_50 : Cond.code yX5_allWax cX5_allWax 3 (some .int) ∈ Tall := List.mem_filter.mpr ⟨TTs_in (j := 6) (List.mem_of_getElem? (i := 37) rfl), rfl⟩
theorem cIn_51 : Cond.code yX5_allDebts cX5_allDebts 3 (some .int) ∈ Tall := List.mem_filter.mpr ⟨TTs_in (j := 6) (List.mem_of_getElem? (i := 45) rfl), rfl⟩
theorem cIn_52 : Cond.code yX5_stubsAheadOf cX5_stubsAheadOf 4 (some .int) ∈ Tall := List.mem_filter.mpr ⟨TTs_in (j := 7) (List.mem_of_getElem? (i := 115) rfl), rfl⟩
theorem cIn_53 : Cond.code yX5_isAhead cX5_isAhead 5 (some .boolean) ∈ Tall := List.mem_filter.mpr ⟨TTs_in (j := 7) (List.mem_of_getElem? (i := 119) rfl), rfl⟩
theorem cIn_54 : Cond.code yX6_stub cX6_stub 4 (some .int) ∈ Tall := List.mem_filter.mpr ⟨TTs_in (j := 4) (List.mem_of_getElem? (i := 44) rfl), rfl⟩
theorem cIn_55 : Cond.code yX6_burn cX6_burn 3 (some .int) ∈ Tall := List.mem_filter.mpr ⟨TTs_in (j := 4) (List.mem_of_getElem? (i := 117) rfl), rfl⟩
theorem cIn_56 : Cond.code yX6_owe cX6_owe 4 (some .int) ∈ Tall := List.mem_filter.mpr ⟨TTs_in (j := 6) (List.mem_of_getElem? (i := 130) rfl), rfl⟩
theorem cIn_57 : Cond.code yX6_writ cX6_writ 4 (some .int) ∈ Tall := List.mem_filter.mpr ⟨TTs_in (j := 6) (List.mem_of_getElem? (i := 134) rfl), rfl⟩
theorem cIn_58 : Cond.code yX6_stubOf cX6_stubOf 4 (some .int) ∈ Tall := List.mem_filter.mpr ⟨TTs_in (j := 7) (List.mem_of_getElem? (i := 81) rfl), rfl⟩
theorem cIn_59 : Cond.code yX6_pool cX6_pool 3 (some .int) ∈ Tall := List.mem_filter.mpr ⟨TTs_in (j := 6) (List.mem_of_getElem? (i := 138) rfl), rfl⟩
theorem cIn_60 : Cond.code yX6_share cX6_share 1 (some .int) ∈ Tall := List.mem_filter.mpr ⟨TTs_in (j := 4) (List.mem_of_getElem? (i := 146) rfl), rfl⟩
theorem cIn_61 : Cond.code yX6_part cX6_part 2 (some .int) ∈ Tall := List.mem_filter.mpr ⟨TTs_in (j := 7) (List.mem_of_getElem? (i := 160) rfl), rfl⟩
theorem cIn_62 : Cond.code yX6_partAgain cX6_partAgain 2 (some .int) ∈ Tall := List.mem_filter.mpr ⟨TTs_in (j := 7) (List.mem_of_getElem? (i := 164) rfl), rfl⟩
theorem cIn_63 : Cond.code yX6_mould cX6_mould 4 (some .int) ∈ Tall := List.mem_filter.mpr ⟨TTs_in (j := 4) (List.mem_of_getElem? (i := 179) rfl), rfl⟩
theorem cIn_64 : Cond.code yX6_heir cX6_heir 3 (some .int) ∈ Tall := List.mem_filter.mpr ⟨TTs_in (j := 4) (List.mem_of_getElem? (i := 187) rfl), rfl⟩
theorem cIn_65 : Cond.code yX6_end cX6_end 2 (some .int) ∈ Tall := List.mem_filter.mpr ⟨TTs_in (j := 6) (List.mem_of_getElem? (i := 142) rfl), rfl⟩
theorem cIn_66 : Cond.code yX6_pass cX6_pass 2 (some .int) ∈ Tall := List.mem_filter.mpr ⟨TTs_in (j := 4) (List.mem_of_getElem? (i := 195) rfl), rfl⟩
theorem cIn_67 : Cond.code yX6_houseOf cX6_houseOf 3 (some .int) ∈ Tall := List.mem_filter.mpr ⟨TTs_in (j := 7) (List.mem_of_getElem? (i := 85) rfl), rfl⟩
theorem cIn_68 : Cond.code yX6_inherits cX6_inherits 2 (some .int) ∈ Tall := List.mem_filter.mpr ⟨TTs_in (j := 4) (List.mem_of_getElem? (i := 207) rfl), rfl⟩
theorem cIn_69 : Cond.code yX6_wouldMelt cX6_wouldMelt 3 (some .int) ∈ Tall := List.mem_filter.mpr ⟨TTs_in (j := 7) (List.mem_of_getElem? (i := 171) rfl), rfl⟩
theorem cIn_70 : Cond.code yX6_weight cX6_weight 2 (some .int) ∈ Tall := List.mem_filter.mpr ⟨TTs_in (j := 7) (List.mem_of_getElem? (i := 149) rfl), rfl⟩
theorem cIn_71 : Cond.code yX6_weightAgain cX6_weightAgain 2 (some .int) ∈ Tall := List.mem_filter.mpr ⟨TTs_in (j := 7) (List.mem_of_getElem? (i := 153) rfl), rfl⟩
theorem cIn_72 : Cond.code yX6_ranked cX6_ranked 3 (some .int) ∈ Tall := List.mem_filter.mpr ⟨TTs_in (j := 7) (List.mem_of_getElem? (i := 137) rfl), rfl⟩
theorem cIn_73 : Cond.code yX6_brightest cX6_brightest 3 (some .int) ∈ Tall := List.mem_filter.mpr ⟨TTs_in (j := 7) (List.mem_of_getElem? (i := 111) rfl), rfl⟩
theorem cIn_74 : Cond.code yL_cell cL_cell 2 (some .int) ∈ Tall := List.mem_filter.mpr ⟨TTs_in (j := 6) (List.mem_of_getElem? (i := 119) rfl), rfl⟩
theorem cIn_75 : Cond.code yX6_run cX6_run 4 (some .int) ∈ Tall := List.mem_filter.mpr ⟨TTs_in (j := 4) (List.mem_of_getElem? (i := 218) rfl), rfl⟩
theorem cIn_76 : Cond.code yX6_tell cX6_tell 3 (some .int) ∈ Tall := List.mem_filter.mpr ⟨TTs_in (j := 7) (List.mem_of_getElem? (i := 76) rfl), rfl⟩
theorem cIn_77 : Cond.code yX6_tellHouses cX6_tellHouses 2 (some .int) ∈ Tall := List.mem_filter.mpr ⟨TTs_in (j := 6) (List.mem_of_getElem? (i := 150) rfl), rfl⟩
theorem cIn_78 : Cond.code yX6_character cX6_character 2 (some .int) ∈ Tall := List.mem_filter.mpr ⟨TTs_in (j := 6) (List.mem_of_getElem? (i := 19) rfl), rfl⟩
theorem cIn_79 : Cond.code yX6_reason cX6_reason 3 (some .int) ∈ Tall := List.mem_filter.mpr ⟨TTs_in (j := 6) (List.mem_of_getElem? (i := 25) rfl), rfl⟩
theorem cIn_80 : Cond.code yX6_account cX6_account 2 (some .int) ∈ Tall := List.mem_filter.mpr ⟨TTs_in (j := 6) (List.mem_of_getElem? (i := 29) rfl), rfl⟩
theorem cIn_81 : Cond.code yX6_isBalanced cX6_isBalanced 1 (some .int) ∈ Tall := List.mem_filter.mpr ⟨TTs_in (j := 6) (List.mem_of_getElem? (i := 49) rfl), rfl⟩
theorem cIn_82 : Cond.code yX6_undo cX6_undo 1 (some .int) ∈ Tall := List.mem_filter.mpr ⟨TTs_in (j := 6) (List.mem_of_getElem? (i := 87) rfl), rfl⟩
theorem cIn_83 : Cond.code yX6_save cX6_save 1 (some .int) ∈ Tall := List.mem_filter.mpr ⟨TTs_in (j := 7) (List.mem_of_getElem? (i := 182) rfl), rfl⟩
theorem cIn_84 : Cond.code yX6_restore cX6_restore 1 (some .int) ∈ Tall := List.mem_filter.mpr ⟨TTs_in (j := 6) (List.mem_of_getElem? (i := 96) rfl), rfl⟩
theorem cIn_85 : Cond.code yX6_settle cX6_settle 2 (some .int) ∈ Tall := List.mem_filter.mpr ⟨TTs_in (j := 4) (List.mem_of_getElem? (i := 106) rfl), rfl⟩
theorem cIn_86 : Cond.code yX6_bringStub cX6_bringStub 4 (some .int) ∈ Tall := List.mem_filter.mpr ⟨TTs_in (j := 4) (List.mem_of_getElem? (i := 64) rfl), rfl⟩
theorem cIn_87 : Cond.code yX6_mouldStub cX6_mouldStub 4 (some .int) ∈ Tall := List.mem_filter.mpr ⟨TTs_in (j := 4) (List.mem_of_getElem? (i := 183) rfl), rfl⟩
theorem cIn_88 : Cond.code yX6_hasRoomFor cX6_hasRoomFor 4 (some .boolean) ∈ Tall := List.mem_filter.mpr ⟨TTs_in (j := 4) (List.mem_of_getElem? (i := 86) rfl), rfl⟩
theorem cIn_89 : Cond.code yX6_burnStub cX6_burnStub 4 (some .int) ∈ Tall := List.mem_filter.mpr ⟨TTs_in (j := 4) (List.mem_of_getElem? (i := 121) rfl), rfl⟩
theorem cIn_90 : Cond.code yX6_oweLight cX6_oweLight 5 (some .int) ∈ Tall := List.mem_filter.mpr ⟨TTs_in (j := 5) (List.mem_of_getElem? (i := 200) rfl), rfl⟩
theorem cIn_91 : Cond.code yX6_snuffStub cX6_snuffStub 5 (some .int) ∈ Tall := List.mem_filter.mpr ⟨TTs_in (j := 5) (List.mem_of_getElem? (i := 205) rfl), rfl⟩
theorem cIn_92 : Cond.code yX6_poolWax cX6_poolWax 3 (some .int) ∈ Tall := List.mem_filter.mpr ⟨TTs_in (j := 5) (List.mem_of_getElem? (i := 217) rfl), rfl⟩
theorem cIn_93 : Cond.code yX6_sharePool cX6_sharePool 3 (some .int) ∈ Tall := List.mem_filter.mpr ⟨TTs_in (j := 4) (List.mem_of_getElem? (i := 150) rfl), rfl⟩
theorem cIn_94 : Cond.code yX6_tellHeir cX6_tellHeir 4 (some .int) ∈ Tall := List.mem_filter.mpr ⟨TTs_in (j := 4) (List.mem_of_getElem? (i := 191) rfl), rfl⟩
theorem cIn_95 : Cond.code yX6_endHouse cX6_endHouse 3 (some .int) ∈ Tall := List.mem_filter.mpr ⟨TTs_in (j := 5) (List.mem_of_getElem? (i := 222) rfl), rfl⟩
theorem cIn_96 : Cond.code yX6_passHours cX6_passHours 2 (some .int) ∈ Tall := List.mem_filter.mpr ⟨TTs_in (j := 4) (List.mem_of_getElem? (i := 199) rfl), rfl⟩
theorem cIn_97 : Cond.code yX6_carryOut cX6_carryOut 5 (some .int) ∈ Tall := List.mem_filter.mpr ⟨TTs_in (j := 5) (List.mem_of_getElem? (i := 196) rfl), rfl⟩
theorem cIn_98 : Cond.code yX6_isFrom cX6_isFrom 3 (some .boolean) ∈ Tall := List.mem_filter.mpr ⟨TTs_in (j := 4) (List.mem_of_getElem? (i := 70) rfl), rfl⟩
theorem cIn_99 : Cond.code yX6_isHouse cX6_isHouse 1 (some .boolean) ∈ Tall := List.mem_filter.mpr ⟨TTs_in (j := 4) (List.mem_of_getElem? (i := 67) rfl), rfl⟩
theorem cIn_100 : Cond.code yX6_isStub cX6_isStub 2 (some .boolean) ∈ Tall := List.mem_filter.mpr ⟨TTs_in (j := 4) (List.mem_of_getElem? (i := 125) rfl), rfl⟩
theorem cIn_101 : Cond.code yX6_orNothing cX6_orNothing 1 (some .int) ∈ Tall := List.mem_filter.mpr ⟨TTs_in (j := 4) (List.mem_of_getElem? (i := 214) rfl), rfl⟩
theorem cIn_102 : Cond.code yX6_refuse cX6_refuse 3 (some .int) ∈ Tall := List.mem_filter.mpr ⟨TTs_in (j := 4) (List.mem_of_getElem? (i := 74) rfl), rfl⟩
theorem cIn_103 : Cond.code yX6_refuseOrder cX6_refuseOrder 3 (some .int) ∈ Tall := List.mem_filter.mpr ⟨TTs_in (j := 6) (List.mem_of_getElem? (i := 10) rfl), rfl⟩
theorem cIn_104 : Cond.code yX6_writeHouse cX6_writeHouse 2 none ∈ Tall := List.mem_filter.mpr ⟨TTs_in (j := 6) (List.mem_of_getElem? (i := 189) rfl), rfl⟩
theorem cIn_105 : Cond.code yX6_isWaxAccountedFor cX6_isWaxAccountedFor 2 (some .boolean) ∈ Tall := List.mem_filter.mpr ⟨TTs_in (j := 6) (List.mem_of_getElem? (i := 53) rfl), rfl⟩
theorem cIn_106 : Cond.code yX6_areSharesSame cX6_areSharesSame 3 (some .boolean) ∈ Tall := List.mem_filter.mpr ⟨TTs_in (j := 6) (List.mem_of_getElem? (i := 61) rfl), rfl⟩
theorem cIn_107 : Cond.code yX6_areWeightsSame cX6_areWeightsSame 2 (some .boolean) ∈ Tall := List.mem_filter.mpr ⟨TTs_in (j := 6) (List.mem_of_getElem? (i := 69) rfl), rfl⟩
theorem cIn_108 : Cond.code yL_some cL_some 2 (some .int) ∈ Tall := List.mem_filter.mpr ⟨TTs_in (j := 6) (List.mem_of_getElem? (i := 125) rfl), rfl⟩
theorem cIn_109 : Cond.code yL_acts cL_acts 5 (some .int) ∈ Tall := List.mem_filter.mpr ⟨TTs_in (j := 6) (List.mem_of_getElem? (i := 122) rfl), rfl⟩
theorem cIn_110 : Cond.code yL_line cL_line 4 (some (.object "java/lang/String")) ∈ Tall := List.mem_filter.mpr ⟨TTs_in (j := 6) (List.mem_of_getElem? (i := 217) rfl), rfl⟩
theorem cIn_111 : Cond.code yL_told cL_told 3 (some (.object "java/lang/String")) ∈ Tall := List.mem_filter.mpr ⟨TTs_in (j := 6) (List.mem_of_getElem? (i := 145) rfl), rfl⟩
theorem cIn_112 : Cond.code yL_stock cL_stock 2 (some .int) ∈ Tall := List.mem_filter.mpr ⟨TTs_in (j := 7) (List.mem_of_getElem? (i := 97) rfl), rfl⟩
theorem cIn_113 : Cond.code yL_stubs cL_stubs 12 (some .boolean) ∈ Tall := List.mem_filter.mpr ⟨TTs_in (j := 7) (List.mem_of_getElem? (i := 100) rfl), rfl⟩
theorem cIn_114 : Cond.code yL_houses cL_houses 17 (some .boolean) ∈ Tall := List.mem_filter.mpr ⟨TTs_in (j := 7) (List.mem_of_getElem? (i := 130) rfl), rfl⟩
theorem cIn_115 : Cond.code yL_parts cL_parts 11 (some .boolean) ∈ Tall := List.mem_filter.mpr ⟨TTs_in (j := 7) (List.mem_of_getElem? (i := 156) rfl), rfl⟩
theorem cIn_116 : Cond.code yL_heirs cL_heirs 7 (some .boolean) ∈ Tall := List.mem_filter.mpr ⟨TTs_in (j := 7) (List.mem_of_getElem? (i := 167) rfl), rfl⟩
theorem cIn_117 : Cond.code yL_foretold cL_foretold 21 (some .boolean) ∈ Tall := List.mem_filter.mpr ⟨TTs_in (j := 7) (List.mem_of_getElem? (i := 178) rfl), rfl⟩
theorem cIn_118 : Cond.code yX7_init cX7_init 2 none ∈ Tall := List.mem_filter.mpr ⟨TTs_in (j := 6) (List.mem_of_getElem? (i := 106) rfl), rfl⟩
theorem cIn_119 : Cond.code yX7_next cX7_next 2 (some .int) ∈ Tall := List.mem_filter.mpr ⟨TTs_in (j := 6) (List.mem_of_getElem? (i := 115) rfl), rfl⟩
theorem cIn_120 : Cond.code yX6_meanWax cX6_meanWax 2 (some .double) ∈ Tall := List.mem_filter.mpr ⟨TTs_in (j := 6) (List.mem_of_getElem? (i := 79) rfl), rfl⟩
theorem cIn_121 : Cond.code yX6_snuffedShare cX6_snuffedShare 2 (some .float) ∈ Tall := List.mem_filter.mpr ⟨TTs_in (j := 6) (List.mem_of_getElem? (i := 83) rfl), rfl⟩
theorem cIn_122 : Cond.code yJ4_init_da8c8 cJ4_init_da8c8 1 none ∈ Tall := List.mem_filter.mpr ⟨TTs_in (j := 3) (List.mem_of_getElem? (i := 224) rfl), rfl⟩
theorem cIn_123 : Cond.code yJ4_init_a7421 cJ4_init_a7421 2 none ∈ Tall := List.mem_filter.mpr ⟨TTs_in (j := 7) (List.mem_of_getElem? (i := 32) rfl), rfl⟩
theorem cIn_124 : Cond.code yJ5_init_d00df cJ5_init_d00df 2 none ∈ Tall := List.mem_filter.mpr ⟨TTs_in (j := 3) (List.mem_of_getElem? (i := 227) rfl), rfl⟩
theorem cIn_125 : Cond.code yJ5_init_a7421 cJ5_init_a7421 5 none ∈ Tall := List.mem_filter.mpr ⟨TTs_in (j := 7) (List.mem_of_getElem? (i := 35) rfl), rfl⟩
theorem cIn_126 : Cond.code yJ4_append_15ec4 cJ4_append_15ec4 2 (some (.object "java/lang/StringBuilder")) ∈ Tall := List.mem_filter.mpr ⟨TTs_in (j := 7) (List.mem_of_getElem? (i := 48) rfl), rfl⟩
theorem cIn_127 : Cond.code yJ4_append_cf1ce cJ4_append_cf1ce 2 (some (.object "java/lang/AbstractStringBuilder")) ∈ Tall := List.mem_filter.mpr ⟨TTs_in (j := 7) (List.mem_of_getElem? (i := 44) rfl), rfl⟩
theorem cIn_128 : Cond.code yJ5_append_cf1ce cJ5_append_cf1ce 3 (some (.object "java/lang/AbstractStringBuilder")) ∈ Tall := List.mem_filter.mpr ⟨TTs_in (j := 7) (List.mem_of_getElem? (i := 50) rfl), rfl⟩
theorem cIn_129 : Cond.code yJ5_putStringAt_47b60 cJ5_putStringAt_47b60 3 none ∈ Tall := List.mem_filter.mpr ⟨TTs_in (j := 7) (List.mem_of_getElem? (i := 61) rfl), rfl⟩
theorem cIn_130 : Cond.code yJ5_inflateIfNeededFor_a7421 cJ5_inflateIfNeededFor_a7421 2 none ∈ Tall := List.mem_filter.mpr ⟨TTs_in (j := 7) (List.mem_of_getElem? (i := 65) rfl), rfl⟩
theorem cIn_131 : Cond.code yJ5_newCapacity_0f7a4 cJ5_newCapacity_0f7a4 6 (some .int) ∈ Tall := List.mem_filter.mpr ⟨TTs_in (j := 5) (List.mem_of_getElem? (i := 151) rfl), rfl⟩
theorem cIn_132 : Cond.code yJ8_newLength_cabcc cJ8_newLength_cabcc 4 (some .int) ∈ Tall := List.mem_filter.mpr ⟨TTs_in (j := 5) (List.mem_of_getElem? (i := 154) rfl), rfl⟩
theorem cIn_133 : Cond.code yJ7_copyOf_9075b cJ7_copyOf_9075b 3 (some (.array .byte)) ∈ Tall := List.mem_filter.mpr ⟨TTs_in (j := 5) (List.mem_of_getElem? (i := 163) rfl), rfl⟩
theorem cIn_134 : Cond.code yJ0_getBytes_840e7 cJ0_getBytes_840e7 4 none ∈ Tall := List.mem_filter.mpr ⟨TTs_in (j := 7) (List.mem_of_getElem? (i := 69) rfl), rfl⟩
theorem cIn_135 : Cond.code yJ4_toString_0e30d cJ4_toString_0e30d 1 (some (.object "java/lang/String")) ∈ Tall := List.mem_filter.mpr ⟨TTs_in (j := 6) (List.mem_of_getElem? (i := 223) rfl), rfl⟩
theorem cIn_136 : Cond.code yJ0_init_81219 cJ0_init_81219 2 none ∈ Tall := List.mem_filter.mpr ⟨TTs_in (j := 6) (List.mem_of_getElem? (i := 228) rfl), rfl⟩
theorem cIn_137 : Cond.code yJ0_init_db425 cJ0_init_db425 5 none ∈ Tall := List.mem_filter.mpr ⟨TTs_in (j := 6) (List.mem_of_getElem? (i := 231) rfl), rfl⟩
theorem cIn_138 : Cond.code yJ5_getValue_6d5f1 cJ5_getValue_6d5f1 1 (some (.array .byte)) ∈ Tall := List.mem_filter.mpr ⟨TTs_in (j := 6) (List.mem_of_getElem? (i := 237) rfl), rfl⟩
theorem cIn_139 : Cond.code yJ7_copyOfRange_39247 cJ7_copyOfRange_39247 3 (some (.array .byte)) ∈ Tall := List.mem_filter.mpr ⟨TTs_in (j := 7) (List.mem_of_getElem? (i := 2) rfl), rfl⟩
theorem cIn_140 : Cond.code yJ7_copyOfRangeByte_39247 cJ7_copyOfRangeByte_39247 5 (some (.array .byte)) ∈ Tall := List.mem_filter.mpr ⟨TTs_in (j := 7) (List.mem_of_getElem? (i := 5) rfl), rfl⟩
theorem cIn_141 : Cond.code yJ7_checkLength_df160 cJ7_checkLength_df160 2 none ∈ Tall := List.mem_filter.mpr ⟨TTs_in (j := 7) (List.mem_of_getElem? (i := 8) rfl), rfl⟩
theorem cIn_142 : Cond.code yJ0_equals_9ea2d cJ0_equals_9ea2d 3 (some .boolean) ∈ Tall := List.mem_filter.mpr ⟨TTs_in (j := 7) (List.mem_of_getElem? (i := 123) rfl), rfl⟩
theorem cIn_143 : Cond.code yJ1_equals_b5fdf cJ1_equals_b5fdf 3 (some .boolean) ∈ Tall := List.mem_filter.mpr ⟨TTs_in (j := 7) (List.mem_of_getElem? (i := 127) rfl), rfl⟩
theorem cIn_144 : Cond.code yX6_isFrom cX6_isFrom 3 (some .boolean) ∈ Tall := List.mem_filter.mpr ⟨TTs_in (j := 4) (List.mem_of_getElem? (i := 70) rfl), rfl⟩
theorem cIn_145 : Cond.code yX6_isFrom cX6_isFrom 3 (some .boolean) ∈ Tall := List.mem_filter.mpr ⟨TTs_in (j := 4) (List.mem_of_getElem? (i := 70) rfl), rfl⟩
theorem cIn_146 : Cond.code yX6_isFrom cX6_isFrom 3 (some .boolean) ∈ Tall := List.mem_filter.mpr ⟨TTs_in (j := 4) (List.mem_of_getElem? (i := 70) rfl), rfl⟩
theorem cIn_147 : Cond.code yX6_isFrom cX6_isFrom 3 (some .boolean) ∈ Tall := List.mem_filter.mpr ⟨TTs_in (j := 4) (List.mem_of_getElem? (i := 70) rfl), rfl⟩
theorem cIn_148 : Cond.code yX6_isFrom cX6_isFrom 3 (some .boolean) ∈ Tall := List.mem_filter.mpr ⟨TTs_in (j := 4) (List.mem_of_getElem? (i := 70) rfl), rfl⟩
theorem cIn_149 : Cond.code yX6_isFrom cX6_isFrom 3 (some .boolean) ∈ Tall := List.mem_filter.mpr ⟨TTs_in (j := 4) (List.mem_of_getElem? (i := 70) rfl), rfl⟩
theorem cIn_150 : Cond.code yX6_isFrom cX6_isFrom 3 (some .boolean) ∈ Tall := List.mem_filter.mpr ⟨TTs_in (j := 4) (List.mem_of_getElem? (i := 70) rfl), rfl⟩
theorem cIn_151 : Cond.code yX6_isFrom cX6_isFrom 3 (some .boolean) ∈ Tall := List.mem_filter.mpr ⟨TTs_in (j := 4) (List.mem_of_getElem? (i := 70) rfl), rfl⟩
theorem cIn_152 : Cond.code yX6_isFrom cX6_isFrom 3 (some .boolean) ∈ Tall := List.mem_filter.mpr ⟨TTs_in (j := 4) (List.mem_of_getElem? (i := 70) rfl), rfl⟩
theorem cIn_153 : Cond.code yX6_isFrom cX6_isFrom 3 (some .boolean) ∈ Tall := List.mem_filter.mpr ⟨TTs_in (j := 4) (List.mem_of_getElem? (i := 70) rfl), rfl⟩
theorem cIn_154 : Cond.code yX6_isFrom cX6_isFrom 3 (some .boolean) ∈ Tall := List.mem_filter.mpr ⟨TTs_in (j := 4) (List.mem_of_getElem? (i := 70) rfl), rfl⟩
theorem cIn_155 : Cond.code yX6_isFrom cX6_isFrom 3 (some .boolean) ∈ Tall := List.mem_filter.mpr ⟨TTs_in (j := 4) (List.mem_of_getElem? (i := 70) rfl), rfl⟩
theorem cIn_156 : Cond.code yX6_isFrom cX6_isFrom 3 (some .boolean) ∈ Tall := List.mem_filter.mpr ⟨TTs_in (j := 4) (List.mem_of_getElem? (i := 70) rfl), rfl⟩
theorem cIn_157 : Cond.code yX6_isFrom cX6_isFrom 3 (some .boolean) ∈ Tall := List.mem_filter.mpr ⟨TTs_in (j := 4) (List.mem_of_getElem? (i := 70) rfl), rfl⟩
theorem cIn_158 : Cond.code yX6_isFrom cX6_isFrom 3 (some .boolean) ∈ Tall := List.mem_filter.mpr ⟨TTs_in (j := 4) (List.mem_of_getElem? (i := 70) rfl), rfl⟩
theorem cIn_159 : Cond.code yX6_isFrom cX6_isFrom 3 (some .boolean) ∈ Tall := List.mem_filter.mpr ⟨TTs_in (j := 4) (List.mem_of_getElem? (i := 70) rfl), rfl⟩
theorem cIn_160 : Cond.code yX6_isFrom cX6_isFrom 3 (some .boolean) ∈ Tall := List.mem_filter.mpr ⟨TTs_in (j := 4) (List.mem_of_getElem? (i := 70) rfl), rfl⟩
theorem cIn_161 : Cond.code yX6_isFrom cX6_isFrom 3 (some .boolean) ∈ Tall := List.mem_filter.mpr ⟨TTs_in (j := 4) (List.mem_of_getElem? (i := 70) rfl), rfl⟩
theorem cIn_162 : Cond.code yX6_isFrom cX6_isFrom 3 (some .boolean) ∈ Tall := List.mem_filter.mpr ⟨TTs_in (j := 4) (List.mem_of_getElem? (i := 70) rfl), rfl⟩
theorem cIn_163 : Cond.code yX6_isFrom cX6_isFrom 3 (some .boolean) ∈ Tall := List.mem_filter.mpr ⟨TTs_in (j := 4) (List.mem_of_getElem? (i := 70) rfl), rfl⟩
theorem cIn_164 : Cond.code yX6_isFrom cX6_isFrom 3 (some .boolean) ∈ Tall := List.mem_filter.mpr ⟨TTs_in (j := 4) (List.mem_of_getElem? (i := 70) rfl), rfl⟩
theorem cIn_165 : Cond.code yX6_isFrom cX6_isFrom 3 (some .boolean) ∈ Tall := List.mem_filter.mpr ⟨TTs_in (j := 4) (List.mem_of_getElem? (i := 70) rfl), rfl⟩
theorem cIn_166 : Cond.code yX6_isFrom cX6_isFrom 3 (some .boolean) ∈ Tall := List.mem_filter.mpr ⟨TTs_in (j := 4) (List.mem_of_getElem? (i := 70) rfl), rfl⟩
theorem cIn_167 : Cond.code yX6_isFrom cX6_isFrom 3 (some .boolean) ∈ Tall := List.mem_filter.mpr ⟨TTs_in (j := 4) (List.mem_of_getElem? (i := 70) rfl), rfl⟩
theorem cIn_168 : Cond.code yX6_isFrom cX6_isFrom 3 (some .boolean) ∈ Tall := List.mem_filter.mpr ⟨TTs_in (j := 4) (List.mem_of_getElem? (i := 70) rfl), rfl⟩
theorem cIn_169 : Cond.code yX6_isFrom cX6_isFrom 3 (some .boolean) ∈ Tall := List.mem_filter.mpr ⟨TTs_in (j := 4) (List.mem_of_getElem? (i := 70) rfl), rfl⟩
theorem cIn_170 : Cond.code yX6_isFrom cX6_isFrom 3 (some .boolean) ∈ Tall := List.mem_filter.mpr ⟨TTs_in (j := 4) (List.mem_of_getElem? (i := 70) rfl), rfl⟩
theorem cIn_171 : Cond.code yX6_isFrom cX6_isFrom 3 (some .boolean) ∈ Tall := List.mem_filter.mpr ⟨TTs_in (j := 4) (List.mem_of_getElem? (i := 70) rfl), rfl⟩
theorem cIn_172 : Cond.code yX6_isFrom cX6_isFrom 3 (some .boolean) ∈ Tall := List.mem_filter.mpr ⟨TTs_in (j := 4) (List.mem_of_getElem? (i := 70) rfl), rfl⟩
theorem cIn_173 : Cond.code yX6_isFrom cX6_isFrom 3 (some .boolean) ∈ Tall := List.mem_filter.mpr ⟨TTs_in (j := 4) (List.mem_of_getElem? (i := 70) rfl), rfl⟩
theorem cIn_174 : Cond.code yX6_isFrom cX6_isFrom 3 (some .boolean) ∈ Tall := List.mem_filter.mpr ⟨TTs_in (j := 4) (List.mem_of_getElem? (i := 70) rfl), rfl⟩
theorem cIn_175 : Cond.code yX6_isFrom cX6_isFrom 3 (some .boolean) ∈ Tall := List.mem_filter.mpr ⟨TTs_in (j := 4) (List.mem_of_getElem? (i := 70) rfl), rfl⟩
theorem cIn_176 : Cond.code yX6_isFrom cX6_isFrom 3 (some .boolean) ∈ Tall := List.mem_filter.mpr ⟨TTs_in (j := 4) (List.mem_of_getElem? (i := 70) rfl), rfl⟩
theorem cIn_177 : Cond.code yX6_isFrom cX6_isFrom 3 (some .boolean) ∈ Tall := List.mem_filter.mpr ⟨TTs_in (j := 4) (List.mem_of_getElem? (i := 70) rfl), rfl⟩
theorem cIn_178 : Cond.code yX6_isFrom cX6_isFrom 3 (some .boolean) ∈ Tall := List.mem_filter.mpr ⟨TTs_in (j := 4) (List.mem_of_getElem? (i := 70) rfl), rfl⟩
theorem cIn_179 : Cond.code yX6_isFrom cX6_isFrom 3 (some .boolean) ∈ Tall := List.mem_filter.mpr ⟨TTs_in (j := 4) (List.mem_of_getElem? (i := 70) rfl), rfl⟩
theorem cIn_180 : Cond.code yX6_isFrom cX6_isFrom 3 (some .boolean) ∈ Tall := List.mem_filter.mpr ⟨TTs_in (j := 4) (List.mem_of_getElem? (i := 70) rfl), rfl⟩
theorem cIn_181 : Cond.code yX6_isFrom cX6_isFrom 3 (some .boolean) ∈ Tall := List.mem_filter.mpr ⟨TTs_in (j := 4) (List.mem_of_getElem? (i := 70) rfl), rfl⟩
theorem cIn_182 : Cond.code yX6_isFrom cX6_isFrom 3 (some .boolean) ∈ Tall := List.mem_filter.mpr ⟨TTs_in (j := 4) (List.mem_of_getElem? (i := 70) rfl), rfl⟩
theorem cIn_183 : Cond.code yX6_isFrom cX6_isFrom 3 (some .boolean) ∈ Tall := List.mem_filter.mpr ⟨TTs_in (j := 4) (List.mem_of_getElem? (i := 70) rfl), rfl⟩
theorem cIn_184 : Cond.code yX6_isFrom cX6_isFrom 3 (some .boolean) ∈ Tall := List.mem_filter.mpr ⟨TTs_in (j := 4) (List.mem_of_getElem? (i := 70) rfl), rfl⟩
theorem cIn_185 : Cond.code yX6_isFrom cX6_isFrom 3 (some .boolean) ∈ Tall := List.mem_filter.mpr ⟨TTs_in (j := 4) (List.mem_of_getElem? (i := 70) rfl), rfl⟩
theorem cIn_186 : Cond.code yX6_isFrom cX6_isFrom 3 (some .boolean) ∈ Tall := List.mem_filter.mpr ⟨TTs_in (j := 4) (List.mem_of_getElem? (i := 70) rfl), rfl⟩
theorem cIn_187 : Cond.code yX6_isFrom cX6_isFrom 3 (some .boolean) ∈ Tall := List.mem_filter.mpr ⟨TTs_in (j := 4) (List.mem_of_getElem? (i := 70) rfl), rfl⟩
theorem cIn_188 : Cond.code yX6_isFrom cX6_isFrom 3 (some .boolean) ∈ Tall := List.mem_filter.mpr ⟨TTs_in (j := 4) (List.mem_of_getElem? (i := 70) rfl), rfl⟩
theorem cIn_189 : Cond.code yJ4_append_cf468 cJ4_append_cf468 2 (some (.object "java/lang/StringBuilder")) ∈ Tall := List.mem_filter.mpr ⟨TTs_in (j := 6) (List.mem_of_getElem? (i := 154) rfl), rfl⟩
theorem cIn_190 : Cond.code yJ4_append_bf812 cJ4_append_bf812 2 (some (.object "java/lang/StringBuilder")) ∈ Tall := List.mem_filter.mpr ⟨TTs_in (j := 6) (List.mem_of_getElem? (i := 193) rfl), rfl⟩
theorem cIn_191 : Cond.code yJ4_charAt_5068e cJ4_charAt_5068e 2 (some .char) ∈ Tall := List.mem_filter.mpr ⟨TTs_in (j := 4) (List.mem_of_getElem? (i := 238) rfl), rfl⟩
theorem cIn_192 : Cond.code yJ4_setLength_d00df cJ4_setLength_d00df 2 none ∈ Tall := List.mem_filter.mpr ⟨TTs_in (j := 5) (List.mem_of_getElem? (i := 140) rfl), rfl⟩
theorem cIn_193 : Cond.code yJ4_length_8abf5 cJ4_length_8abf5 1 (some .int) ∈ Tall := List.mem_filter.mpr ⟨TTs_in (j := 4) (List.mem_of_getElem? (i := 230) rfl), rfl⟩
theorem cIn_194 : Cond.code yJ5_length_8abf5 cJ5_length_8abf5 1 (some .int) ∈ Tall := List.mem_filter.mpr ⟨TTs_in (j := 4) (List.mem_of_getElem? (i := 233) rfl), rfl⟩
theorem cIn_195 : Cond.code yJ5_charAt_5068e cJ5_charAt_5068e 5 (some .char) ∈ Tall := List.mem_filter.mpr ⟨TTs_in (j := 5) (List.mem_of_getElem? (i := 1) rfl), rfl⟩
theorem cIn_196 : Cond.code yJ5_setLength_d00df cJ5_setLength_d00df 2 none ∈ Tall := List.mem_filter.mpr ⟨TTs_in (j := 5) (List.mem_of_getElem? (i := 143) rfl), rfl⟩
theorem cIn_197 : Cond.code yJ5_append_3fe6f cJ5_append_3fe6f 2 (some (.object "java/lang/AbstractStringBuilder")) ∈ Tall := List.mem_filter.mpr ⟨TTs_in (j := 6) (List.mem_of_getElem? (i := 157) rfl), rfl⟩
theorem cIn_198 : Cond.code yJ5_append_c97b9 cJ5_append_c97b9 4 (some (.object "java/lang/AbstractStringBuilder")) ∈ Tall := List.mem_filter.mpr ⟨TTs_in (j := 6) (List.mem_of_getElem? (i := 196) rfl), rfl⟩
theorem cIn_199 : Cond.code yJ5_isLatin1_aae02 cJ5_isLatin1_aae02 1 (some .boolean) ∈ Tall := List.mem_filter.mpr ⟨TTs_in (j := 5) (List.mem_of_getElem? (i := 179) rfl), rfl⟩
theorem cIn_200 : Cond.code yJ6_getChars_ba4f3 cJ6_getChars_ba4f3 7 (some .int) ∈ Tall := List.mem_filter.mpr ⟨TTs_in (j := 6) (List.mem_of_getElem? (i := 202) rfl), rfl⟩
theorem cIn_201 : Cond.code yJ6_stringSize_0f7a4 cJ6_stringSize_0f7a4 4 (some .int) ∈ Tall := List.mem_filter.mpr ⟨TTs_in (j := 6) (List.mem_of_getElem? (i := 199) rfl), rfl⟩
theorem cIn_202 : Cond.code yJ9_min_7cf53 cJ9_min_7cf53 2 (some .int) ∈ Tall := List.mem_filter.mpr ⟨TTs_in (j := 4) (List.mem_of_getElem? (i := 113) rfl), rfl⟩
theorem cIn_203 : Cond.code yJ9_max_7cf53 cJ9_max_7cf53 2 (some .int) ∈ Tall := List.mem_filter.mpr ⟨TTs_in (j := 5) (List.mem_of_getElem? (i := 52) rfl), rfl⟩
theorem cIn_204 : Cond.code yJ0_length_8abf5 cJ0_length_8abf5 1 (some .int) ∈ Tall := List.mem_filter.mpr ⟨TTs_in (j := 5) (List.mem_of_getElem? (i := 39) rfl), rfl⟩
theorem cIn_205 : Cond.code yJ0_charAt_5068e cJ0_charAt_5068e 2 (some .char) ∈ Tall := List.mem_filter.mpr ⟨TTs_in (j := 5) (List.mem_of_getElem? (i := 109) rfl), rfl⟩
theorem cIn_206 : Cond.code yJ0_indexOf_0f7a4 cJ0_indexOf_0f7a4 2 (some .int) ∈ Tall := List.mem_filter.mpr ⟨TTs_in (j := 5) (List.mem_of_getElem? (i := 26) rfl), rfl⟩
theorem cIn_207 : Cond.code yJ0_indexOf_7cf53 cJ0_indexOf_7cf53 3 (some .int) ∈ Tall := List.mem_filter.mpr ⟨TTs_in (j := 5) (List.mem_of_getElem? (i := 30) rfl), rfl⟩
theorem cIn_208 : Cond.code yJ0_isLatin1_aae02 cJ0_isLatin1_aae02 1 (some .boolean) ∈ Tall := List.mem_filter.mpr ⟨TTs_in (j := 5) (List.mem_of_getElem? (i := 34) rfl), rfl⟩
theorem cIn_209 : Cond.code yJ0_coder_7d493 cJ0_coder_7d493 1 (some .byte) ∈ Tall := List.mem_filter.mpr ⟨TTs_in (j := 5) (List.mem_of_getElem? (i := 43) rfl), rfl⟩
theorem cIn_210 : Cond.code yJ0_checkIndex_df160 cJ0_checkIndex_df160 2 none ∈ Tall := List.mem_filter.mpr ⟨TTs_in (j := 5) (List.mem_of_getElem? (i := 5) rfl), rfl⟩
theorem cIn_211 : Cond.code yJ3_checkIndex_8e157 cJ3_checkIndex_8e157 3 (some .int) ∈ Tall := List.mem_filter.mpr ⟨TTs_in (j := 5) (List.mem_of_getElem? (i := 10) rfl), rfl⟩
theorem cIn_212 : Cond.code yJ1_charAt_3b067 cJ1_charAt_3b067 2 (some .char) ∈ Tall := List.mem_filter.mpr ⟨TTs_in (j := 5) (List.mem_of_getElem? (i := 112) rfl), rfl⟩
theorem cIn_213 : Cond.code yJ1_canEncode_fc78d cJ1_canEncode_fc78d 1 (some .boolean) ∈ Tall := List.mem_filter.mpr ⟨TTs_in (j := 6) (List.mem_of_getElem? (i := 160) rfl), rfl⟩
theorem cIn_214 : Cond.code yJ1_canEncode_9a6ad cJ1_canEncode_9a6ad 1 (some .boolean) ∈ Tall := List.mem_filter.mpr ⟨TTs_in (j := 5) (List.mem_of_getElem? (i := 49) rfl), rfl⟩
theorem cIn_215 : Cond.code yJ1_indexOf_4cfef cJ1_indexOf_4cfef 4 (some .int) ∈ Tall := List.mem_filter.mpr ⟨TTs_in (j := 5) (List.mem_of_getElem? (i := 46) rfl), rfl⟩
theorem cIn_216 : Cond.code yJ1_indexOfChar_4cfef cJ1_indexOfChar_4cfef 6 (some .int) ∈ Tall := List.mem_filter.mpr ⟨TTs_in (j := 5) (List.mem_of_getElem? (i := 56) rfl), rfl⟩
theorem cIn_217 : Cond.code yJ5_ensureCapacityInternal_d00df cJ5_ensureCapacityInternal_d00df 3 none ∈ Tall := List.mem_filter.mpr ⟨TTs_in (j := 5) (List.mem_of_getElem? (i := 147) rfl), rfl⟩
theorem codeIn_0 (j : Nat) (hj : j < 20) : Cond.code (nY (0 + j)) (nB (0 + j)) (nL (0 + j)) (nR (0 + j)) ∈ Tall := match j, hj with
  | 0, _ => cIn_0
  | 1, _ => cIn_1
  | 2, _ => cIn_2
  | 3, _ => cIn_3
  | 4, _ => cIn_4
  | 5, _ => cIn_5
  | 6, _ => cIn_6
  | 7, _ => cIn_7
  | 8, _ => cIn_8
  | 9, _ => cIn_9
  | 10, _ => cIn_10
  | 11, _ => cIn_11
  | 12, _ => cIn_12
  | 13, _ => cIn_13
  | 14, _ => cIn_14
  | 15, _ => cIn_15
  | 16, _ => cIn_16
  | 17, _ => cIn_17
  | 18, _ => cIn_18
  | 19, _ => cIn_19
  | x + 20, h => absurd h (by omega)
theorem codeIn_20 (j : Nat) (hj : j < 20) : Cond.code (nY (20 + j)) (nB (20 + j)) (nL (20 + j)) (nR (20 + j)) ∈ Tall := match j, hj with
  | 0, _ => cIn_20
  | 1, _ => cIn_21
  | 2, _ => cIn_22
  | 3, _ => cIn_23
  | 4, _ => cIn_24
  | 5, _ => cIn_25
  | 6, _ => cIn_26
  | 7, _ => cIn_27
  | 8, _ => cIn_28
  | 9, _ => cIn_29
  | 10, _ => cIn_30
  | 11, _ => cIn_31
  | 12, _ => cIn_32
  | 13, _ => cIn_33
  | 14, _ => cIn_34
  | 15, _ => cIn_35
  | 16, _ => cIn_36
  | 17, _ => cIn_37
  | 18, _ => cIn_38
  | 19, _ => cIn_39
  | x + 20, h => absurd h (by omega)
theorem codeIn_40 (j : Nat) (hj : j < 20) : Cond.code (nY (40 + j)) (nB (40 + j)) (nL (40 + j)) (nR (40 + j)) ∈ Tall := match j, hj with
  | 0, _ => cIn_40
  | 1, _ => cIn_41
  | 2, _ => cIn_42
  | 3, _ => cIn_43
  | 4, _ => cIn_44
  | 5, _ => cIn_45
  | 6, _ => cIn_46
  | 7, _ => cIn_47
  | 8, _ => cIn_48
  | 9, _ => cIn_49
  | 10, _ => cIn_50
  | 11, _ => cIn_51
  | 12, _ => cIn_52
  | 13, _ => cIn_53
  | 14, _ => cIn_54
  | 15, _ => cIn_55
  | 16, _ => cIn_56
  | 17, _ => cIn_57
  | 18, _ => cIn_58
  | 19, _ => cIn_59
  | x + 20, h => absurd h (by omega)
theorem codeIn_60 (j : Nat) (hj : j < 20) : Cond.code (nY (60 + j)) (nB (60 + j)) (nL (60 + j)) (nR (60 + j)) ∈ Tall := match j, hj with
  | 0, _ => cIn_60
  | 1, _ => cIn_61
  | 2, _ => cIn_62
  | 3, _ => cIn_63
  | 4, _ => cIn_64
  | 5, _ => cIn_65
  | 6, _ => cIn_66
  | 7, _ => cIn_67
  | 8, _ => cIn_68
  | 9, _ => cIn_69
  | 10, _ => cIn_70
  | 11, _ => cIn_71
  | 12, _ => cIn_72
  | 13, _ => cIn_73
  | 14, _ => cIn_74
  | 15, _ => cIn_75
  | 16, _ => cIn_76
  | 17, _ => cIn_77
  | 18, _ => cIn_78
  | 19, _ => cIn_79
  | x + 20, h => absurd h (by omega)
theorem codeIn_80 (j : Nat) (hj : j < 20) : Cond.code (nY (80 + j)) (nB (80 + j)) (nL (80 + j)) (nR (80 + j)) ∈ Tall := match j, hj with
  | 0, _ => cIn_80
  | 1, _ => cIn_81
  | 2, _ => cIn_82
  | 3, _ => cIn_83
  | 4, _ => cIn_84
  | 5, _ => cIn_85
  | 6, _ => cIn_86
  | 7, _ => cIn_87
  | 8, _ => cIn_88
  | 9, _ => cIn_89
  | 10, _ => cIn_90
  | 11, _ => cIn_91
  | 12, _ => cIn_92
  | 13, _ => cIn_93
  | 14, _ => cIn_94
  | 15, _ => cIn_95
  | 16, _ => cIn_96
  | 17, _ => cIn_97
  | 18, _ => cIn_98
  | 19, _ => cIn_99
  | x + 20, h => absurd h (by omega)
theorem codeIn_100 (j : Nat) (hj : j < 20) : Cond.code (nY (100 + j)) (nB (100 + j)) (nL (100 + j)) (nR (100 + j)) ∈ Tall := match j, hj with
  | 0, _ => cIn_100
  | 1, _ => cIn_101
  | 2, _ => cIn_102
  | 3, _ => cIn_103
  | 4, _ => cIn_104
  | 5, _ => cIn_105
  | 6, _ => cIn_106
  | 7, _ => cIn_107
  | 8, _ => cIn_108
  | 9, _ => cIn_109
  | 10, _ => cIn_110
  | 11, _ => cIn_111
  | 12, _ => cIn_112
  | 13, _ => cIn_113
  | 14, _ => cIn_114
  | 15, _ => cIn_115
  | 16, _ => cIn_116
  | 17, _ => cIn_117
  | 18, _ => cIn_118
  | 19, _ => cIn_119
  | x + 20, h => absurd h (by omega)
theorem codeIn_120 (j : Nat) (hj : j < 20) : Cond.code (nY (120 + j)) (nB (120 + j)) (nL (120 + j)) (nR (120 + j)) ∈ Tall := match j, hj with
  | 0, _ => cIn_120
  | 1, _ => cIn_121
  | 2, _ => cIn_122
  | 3, _ => cIn_123
  | 4, _ => cIn_124
  | 5, _ => cIn_125
  | 6, _ => cIn_126
  | 7, _ => cIn_127
  | 8, _ => cIn_128
  | 9, _ => cIn_129
  | 10, _ => cIn_130
  | 11, _ => cIn_131
  | 12, _ => cIn_132
  | 13, _ => cIn_133
  | 14, _ => cIn_134
  | 15, _ => cIn_135
  | 16, _ => cIn_136
  | 17, _ => cIn_137
  | 18, _ => cIn_138
  | 19, _ => cIn_139
  | x + 20, h => absurd h (by omega)
theorem codeIn_140 (j : Nat) (hj : j < 20) : Cond.code (nY (140 + j)) (nB (140 + j)) (nL (140 + j)) (nR (140 + j)) ∈ Tall := match j, hj with
  | 0, _ => cIn_140
  | 1, _ => cIn_141
  | 2, _ => cIn_142
  | 3, _ => cIn_143
  | 4, _ => cIn_144
  | 5, _ => cIn_145
  | 6, _ => cIn_146
  | 7, _ => cIn_147
  | 8, _ => cIn_148
  | 9, _ => cIn_149
  | 10, _ => cIn_150
  | 11, _ => cIn_151
  | 12, _ => cIn_152
  | 13, _ => cIn_153
  | 14, _ => cIn_154
  | 15, _ => cIn_155
  | 16, _ => cIn_156
  | 17, _ => cIn_157
  | 18, _ => cIn_158
  | 19, _ => cIn_159
  | x + 20, h => absurd h (by omega)
theorem codeIn_160 (j : Nat) (hj : j < 20) : Cond.code (nY (160 + j)) (nB (160 + j)) (nL (160 + j)) (nR (160 + j)) ∈ Tall := match j, hj with
  | 0, _ => cIn_160
  | 1, _ => cIn_161
  | 2, _ => cIn_162
  | 3, _ => cIn_163
  | 4, _ => cIn_164
  | 5, _ => cIn_165
  | 6, _ => cIn_166
  | 7, _ => cIn_167
  | 8, _ => cIn_168
  | 9, _ => cIn_169
  | 10, _ => cIn_170
  | 11, _ => cIn_171
  | 12, _ => cIn_172
  | 13, _ => cIn_173
  | 14, _ => cIn_174
  | 15, _ => cIn_175
  | 16, _ => cIn_176
  | 17, _ => cIn_177
  | 18, _ => cIn_178
  | 19, _ => cIn_179
  | x + 20, h => absurd h (by omega)
theorem codeIn_180 (j : Nat) (hj : j < 20) : Cond.code (nY (180 + j)) (nB (180 + j)) (nL (180 + j)) (nR (180 + j)) ∈ Tall := match j, hj with
  | 0, _ => cIn_180
  | 1, _ => cIn_181
  | 2, _ => cIn_182
  | 3, _ => cIn_183
  | 4, _ => cIn_184
  | 5, _ => cIn_185
  | 6, _ => cIn_186
  | 7, _ => cIn_187
  | 8, _ => cIn_188
  | 9, _ => cIn_189
  | 10, _ => cIn_190
  | 11, _ => cIn_191
  | 12, _ => cIn_192
  | 13, _ => cIn_193
  | 14, _ => cIn_194
  | 15, _ => cIn_195
  | 16, _ => cIn_196
  | 17, _ => cIn_197
  | 18, _ => cIn_198
  | 19, _ => cIn_199
  | x + 20, h => absurd h (by omega)
theorem codeIn_200 (j : Nat) (hj : j < 18) : Cond.code (nY (200 + j)) (nB (200 + j)) (nL (200 + j)) (nR (200 + j)) ∈ Tall := match j, hj with
  | 0, _ => cIn_200
  | 1, _ => cIn_201
  | 2, _ => cIn_202
  | 3, _ => cIn_203
  | 4, _ => cIn_204
  | 5, _ => cIn_205
  | 6, _ => cIn_206
  | 7, _ => cIn_207
  | 8, _ => cIn_208
  | 9, _ => cIn_209
  | 10, _ => cIn_210
  | 11, _ => cIn_211
  | 12, _ => cIn_212
  | 13, _ => cIn_213
  | 14, _ => cIn_214
  | 15, _ => cIn_215
  | 16, _ => cIn_216
  | 17, _ => cIn_217
  | x + 18, h => absurd h (by omega)
theorem codeIn (k : Nat) (hk : k < mnames) : Cond.code (nY k) (nB k) (nL k) (nR k) ∈ Tall := by
  have hk2 : k < 218 := hk
  by_cases h0 : k < 20
  · obtain ⟨j, hj⟩ : ∃ j, k = 0 + j := ⟨k - 0, by omega⟩
    subst hj
    exact codeIn_0 j (by omega)
  by_cases h20 : k < 40
  · obtain ⟨j, hj⟩ : ∃ j, k = 20 + j := ⟨k - 20, by omega⟩
    subst hj
    exact codeIn_20 j (by omega)
  by_cases h40 : k < 60
  · obtain ⟨j, hj⟩ : ∃ j, k = 40 + j := ⟨k - 40, by omega⟩
    subst hj
    exact codeIn_40 j (by omega)
  by_cases h60 : k < 80
  · obtain ⟨j, hj⟩ : ∃ j, k = 60 + j := ⟨k - 60, by omega⟩
    subst hj
    exact codeIn_60 j (by omega)
  by_cases h80 : k < 100
  · obtain ⟨j, hj⟩ : ∃ j, k = 80 + j := ⟨k - 80, by omega⟩
    subst hj
    exact codeIn_80 j (by omega)
  by_cases h100 : k < 120
  · obtain ⟨j, hj⟩ : ∃ j, k = 100 + j := ⟨k - 100, by omega⟩
    subst hj
    exact codeIn_100 j (by omega)
  by_cases h120 : k < 140
  · obtain ⟨j, hj⟩ : ∃ j, k = 120 + j := ⟨k - 120, by omega⟩
    subst hj
    exact codeIn_120 j (by omega)
  by_cases h140 : k < 160
  · obtain ⟨j, hj⟩ : ∃ j, k = 140 + j := ⟨k - 140, by omega⟩
    subst hj
    exact codeIn_140 j (by omega)
  by_cases h160 : k < 180
  · obtain ⟨j, hj⟩ : ∃ j, k = 160 + j := ⟨k - 160, by omega⟩
    subst hj
    exact codeIn_160 j (by omega)
  by_cases h180 : k < 200
  · obtain ⟨j, hj⟩ : ∃ j, k = 180 + j := ⟨k - 180, by omega⟩
    subst hj
    exact codeIn_180 j (by omega)
  by_cases h200 : k < 218
  · obtain ⟨j, hj⟩ : ∃ j, k = 200 + j := ⟨k - 200, by omega⟩
    subst hj
    exact codeIn_200 j (by omega)
  omega
theorem eAll_0 : (List.range' 0 24).all eAllK = true := by decide +kernel
theorem eAll_24 : (List.range' 24 24).all eAllK = true := by decide +kernel
theorem eAll_48 : (List.range' 48 24).all eAllK = true := by decide +kernel
theorem eAll_72 : (List.range' 72 24).all eAllK = true := by decide +kernel
theorem eAll_96 : (List.range' 96 12).all eAllK = true := by decide +kernel
theorem eAll_108 : (List.range' 108 1).all eAllK = true := by decide +kernel
theorem eAll_109 : (List.range' 109 1).all eAllK = true := by decide +kernel
theorem eAll_110 : (List.range' 110 1).all eAllK = true := by decide +kernel
theorem eAll_111 : (List.range' 111 1).all eAllK = true := by decide +kernel
theorem eAll_112 : (List.range' 112 1).all eAllK = true := by decide +kernel
theorem eAll_113 : (List.range' 113 1).all eAllK = true := by decide +kernel
theorem eAll_114 : (List.range' 114 1).all eAllK = true := by decide +kernel
theorem eAll_115 : (List.range' 115 1).all eAllK = true := by decide +kernel
theorem eAll_116 : (List.range' 116 1).all eAllK = true := by decide +kernel
theorem eAll_117 : (List.range' 117 1).all eAllK = true := by decide +kernel
theorem eAll_118 : (List.range' 118 1).all eAllK = true := by decide +kernel
theorem eAll_119 : (List.range' 119 1).all eAllK = true := by decide +kernel
theorem eAll_120 : (List.range' 120 1).all eAllK = true := by decide +kernel
theorem eAll_121 : (List.range' 121 1).all eAllK = true := by decide +kernel
theorem eAll_122 : (List.range' 122 1).all eAllK = true := by decide +kernel
theorem eAll_123 : (List.range' 123 1).all eAllK = true := by decide +kernel
theorem eAll_124 : (List.range' 124 1).all eAllK = true := by decide +kernel
theorem eAll_125 : (List.range' 125 1).all eAllK = true := by decide +kernel
theorem eAll_126 : (List.range' 126 1).all eAllK = true := by decide +kernel
theorem eAll_127 : (List.range' 127 1).all eAllK = true := by decide +kernel
theorem eAll_128 : (List.range' 128 1).all eAllK = true := by decide +kernel
theorem eAll_129 : (List.range' 129 1).all eAllK = true := by decide +kernel
theorem eAll_130 : (List.range' 130 1).all eAllK = true := by decide +kernel
theorem eAll_131 : (List.range' 131 1).all eAllK = true := by decide +kernel
theorem eAll_132 : (List.range' 132 1).all eAllK = true := by decide +kernel
theorem eAll_133 : (List.range' 133 1).all eAllK = true := by decide +kernel
theorem eAll_134 : (List.range' 134 1).all eAllK = true := by decide +kernel
theorem eAll_135 : (List.range' 135 1).all eAllK = true := by decide +kernel
theorem eAll_136 : (List.range' 136 1).all eAllK = true := by decide +kernel
theorem eAll_137 : (List.range' 137 1).all eAllK = true := by decide +kernel
theorem eAll_138 : (List.range' 138 1).all eAllK = true := by decide +kernel
theorem eAll_139 : (List.range' 139 1).all eAllK = true := by decide +kernel
theorem eAll_140 : (List.range' 140 1).all eAllK = true := by decide +kernel
theorem eAll_141 : (List.range' 141 1).all eAllK = true := by decide +kernel
theorem eAll_142 : (List.range' 142 1).all eAllK = true := by decide +kernel
theorem eAll_143 : (List.range' 143 1).all eAllK = true := by decide +kernel
theorem eAll_144 : (List.range' 144 1).all eAllK = true := by decide +kernel
theorem eAll_145 : (List.range' 145 1).all eAllK = true := by decide +kernel
theorem eAll_146 : (List.range' 146 24).all eAllK = true := by decide +kernel
theorem eAll_170 : (List.range' 170 19).all eAllK = true := by decide +kernel
theorem eAll_189 : (List.range' 189 10).all eAllK = true := by decide +kernel
theorem eAll_199 : (List.range' 199 10).all eAllK = true := by decide +kernel
theorem eAll_209 : (List.range' 209 10).all eAllK = true := by decide +kernel
theorem eAll (k : Nat) (hk : k < mnames + 1) : eAllK k = true := by
  have hk2 : k < 219 := hk
  by_cases h0 : k < 24
  · exact List.all_eq_true.mp eAll_0 k (by rw [List.mem_range'_1]; omega)
  by_cases h24 : k < 48
  · exact List.all_eq_true.mp eAll_24 k (by rw [List.mem_range'_1]; omega)
  by_cases h48 : k < 72
  · exact List.all_eq_true.mp eAll_48 k (by rw [List.mem_range'_1]; omega)
  by_cases h72 : k < 96
  · exact List.all_eq_true.mp eAll_72 k (by rw [List.mem_range'_1]; omega)
  by_cases h96 : k < 108
  · exact List.all_eq_true.mp eAll_96 k (by rw [List.mem_range'_1]; omega)
  by_cases h108 : k < 109
  · exact List.all_eq_true.mp eAll_108 k (by rw [List.mem_range'_1]; omega)
  by_cases h109 : k < 110
  · exact List.all_eq_true.mp eAll_109 k (by rw [List.mem_range'_1]; omega)
  by_cases h110 : k < 111
  · exact List.all_eq_true.mp eAll_110 k (by rw [List.mem_range'_1]; omega)
  by_cases h111 : k < 112
  · exact List.all_eq_true.mp eAll_111 k (by rw [List.mem_range'_1]; omega)
  by_cases h112 : k < 113
  · exact List.all_eq_true.mp eAll_112 k (by rw [List.mem_range'_1]; omega)
  by_cases h113 : k < 114
  · exact List.all_eq_true.mp eAll_113 k (by rw [List.mem_range'_1]; omega)
  by_cases h114 : k < 115
  · exact List.all_eq_true.mp eAll_114 k (by rw [List.mem_range'_1]; omega)
  by_cases h115 : k < 116
  · exact List.all_eq_true.mp eAll_115 k (by rw [List.mem_range'_1]; omega)
  by_cases h116 : k < 117
  · exact List.all_eq_true.mp eAll_116 k (by rw [List.mem_range'_1]; omega)
  by_cases h117 : k < 118
  · exact List.all_eq_true.mp eAll_117 k (by rw [List.mem_range'_1]; omega)
  by_cases h118 : k < 119
  · exact List.all_eq_true.mp eAll_118 k (by rw [List.mem_range'_1]; omega)
  by_cases h119 : k < 120
  · exact List.all_eq_true.mp eAll_119 k (by rw [List.mem_range'_1]; omega)
  by_cases h120 : k < 121
  · exact List.all_eq_true.mp eAll_120 k (by rw [List.mem_range'_1]; omega)
  by_cases h121 : k < 122
  · exact List.all_eq_true.mp eAll_121 k (by rw [List.mem_range'_1]; omega)
  by_cases h122 : k < 123
  · exact List.all_eq_true.mp eAll_122 k (by rw [List.mem_range'_1]; omega)
  by_cases h123 : k < 124
  · exact List.all_eq_true.mp eAll_123 k (by rw [List.mem_range'_1]; omega)
  by_cases h124 : k < 125
  · exact List.all_eq_true.mp eAll_124 k (by rw [List.mem_range'_1]; omega)
  by_cases h125 : k < 126
  · exact List.all_eq_true.mp eAll_125 k (by rw [List.mem_range'_1]; omega)
  by_cases h126 : k < 127
  · exact List.all_eq_true.mp eAll_126 k (by rw [List.mem_range'_1]; omega)
  by_cases h127 : k < 128
  · exact List.all_eq_true.mp eAll_127 k (by rw [List.mem_range'_1]; omega)
  by_cases h128 : k < 129
  · exact List.all_eq_true.mp eAll_128 k (by rw [List.mem_range'_1]; omega)
  by_cases h129 : k < 130
  · exact List.all_eq_true.mp eAll_129 k (by rw [List.mem_range'_1]; omega)
  by_cases h130 : k < 131
  · exact List.all_eq_true.mp eAll_130 k (by rw [List.mem_range'_1]; omega)
  by_cases h131 : k < 132
  · exact List.all_eq_true.mp eAll_131 k (by rw [List.mem_range'_1]; omega)
  by_cases h132 : k < 133
  · exact List.all_eq_true.mp eAll_132 k (by rw [List.mem_range'_1]; omega)
  by_cases h133 : k < 134
  · exact List.all_eq_true.mp eAll_133 k (by rw [List.mem_range'_1]; omega)
  by_cases h134 : k < 135
  · exact List.all_eq_true.mp eAll_134 k (by rw [List.mem_range'_1]; omega)
  by_cases h135 : k < 136
  · exact List.all_eq_true.mp eAll_135 k (by rw [List.mem_range'_1]; omega)
  by_cases h136 : k < 137
  · exact List.all_eq_true.mp eAll_136 k (by rw [List.mem_range'_1]; omega)
  by_cases h137 : k < 138
  · exact List.all_eq_true.mp eAll_137 k (by rw [List.mem_range'_1]; omega)
  by_cases h138 : k < 139
  · exact List.all_eq_true.mp eAll_138 k (by rw [List.mem_range'_1]; omega)
  by_cases h139 : k < 140
  · exact List.all_eq_true.mp eAll_139 k (by rw [List.mem_range'_1]; omega)
  by_cases h140 : k < 141
  · exact List.all_eq_true.mp eAll_140 k (by rw [List.mem_range'_1]; omega)
  by_cases h141 : k < 142
  · exact List.all_eq_true.mp eAll_141 k (by rw [List.mem_range'_1]; omega)
  by_cases h142 : k < 143
  · exact List.all_eq_true.mp eAll_142 k (by rw [List.mem_range'_1]; omega)
  by_cases h143 : k < 144
  · exact List.all_eq_true.mp eAll_143 k (by rw [List.mem_range'_1]; omega)
  by_cases h144 : k < 145
  · exact List.all_eq_true.mp eAll_144 k (by rw [List.mem_range'_1]; omega)
  by_cases h145 : k < 146
  · exact List.all_eq_true.mp eAll_145 k (by rw [List.mem_range'_1]; omega)
  by_cases h146 : k < 170
  · exact List.all_eq_true.mp eAll_146 k (by rw [List.mem_range'_1]; omega)
  by_cases h170 : k < 189
  · exact List.all_eq_true.mp eAll_170 k (by rw [List.mem_range'_1]; omega)
  by_cases h189 : k < 199
  · exact List.all_eq_true.mp eAll_189 k (by rw [List.mem_range'_1]; omega)
  by_cases h199 : k < 209
  · exact List.all_eq_true.mp eAll_199 k (by rw [List.mem_range'_1]; omega)
  by_cases h209 : k < 219
  · exact List.all_eq_true.mp eAll_209 k (by rw [List.mem_range'_1]; omega)
  omega
