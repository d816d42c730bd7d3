/-! what the law's entry knows: words, classes, constants, statics -/
theorem in_TT {i : Nat} {w : Cond} (h : (TTs (i / 1000))[i % 1000]? = some w) : w ∈ TT := TTs_in (List.mem_of_getElem? h)
theorem in_tbl {w : Cond} (h : w ∈ TT) (h2 : w ∉ sbX) : w ∈ lw_tbl := (List.mem_append.mp h).resolve_left h2
theorem sel_sub {y z : MethodName} {C : String} {s : State} {args : Array Value} (hyz : y.cls = z.cls) (hy : y.cls ≠ "java/lang/invoke/MethodHandle" ∧ y.cls ≠ "java/lang/invoke/VarHandle") (hsel : (Cond.selects C z z).before args s = true) (hpriv : (Cond.privateMethod y).before args s = true) (hinst : (Cond.instanceMethod y).before args s = true) : (Cond.selects C y y).before args s = true := by
  obtain ⟨c2, r2, m2, q1, q2, q3, q4, kP, hkP, hkPi⟩ := Cond.selects_spec hsel
  obtain ⟨mk, methM, hnamed, hmethM, -, -⟩ := Cond.instanceMethod_spec hinst
  have hfound : s.methodFound? y.cls y.name y.desc = some mk := State.methodFound?_of_named hnamed hy
  have h1 := findClass_of_methodNamed hnamed
  have h2 := findClass_of_methodNamed q3
  rw [hyz] at h1
  have hcls : mk.cls = m2.cls := Option.some.inj (h1.symm.trans h2)
  have hsel2 : selectMethod {} s.vm c2 mk = .method mk := selectMethod_private hmethM (Cond.privateMethod_at hpriv mk methM hnamed hmethM)
  simp only [Cond.before, Cond.holds, Cond.value, q1, hfound, hnamed, hsel2, hcls, hkP]
  simp
  exact hkPi
theorem law_TT {s : State} {args : Array Value} (hts : ∀ w ∈ lw_tbl, w.before args s = true) : ∀ w ∈ TT, w.before args s = true := by
  intro w hw
  rcases List.mem_append.mp hw with h | h
  · have hz : (Cond.selects "java/lang/StringBuilder" ⟨"java/lang/AbstractStringBuilder", "isLatin1", "()Z"⟩ ⟨"java/lang/AbstractStringBuilder", "isLatin1", "()Z"⟩).before args s = true := hts _ (in_tbl (in_TT (i := 5178) (by decide +kernel)) (by decide +kernel))
    have p1 : (Cond.privateMethod ⟨"java/lang/AbstractStringBuilder", "ensureCapacityInternal", "(I)V"⟩).before args s = true := hts _ (in_tbl (in_TT (i := 5145) (by decide +kernel)) (by decide +kernel))
    have p2 : (Cond.instanceMethod ⟨"java/lang/AbstractStringBuilder", "ensureCapacityInternal", "(I)V"⟩).before args s = true := hts _ (in_tbl (in_TT (i := 5146) (by decide +kernel)) (by decide +kernel))
    have p3 : (Cond.privateMethod ⟨"java/lang/AbstractStringBuilder", "newCapacity", "(I)I"⟩).before args s = true := hts _ (in_tbl (in_TT (i := 5149) (by decide +kernel)) (by decide +kernel))
    have p4 : (Cond.instanceMethod ⟨"java/lang/AbstractStringBuilder", "newCapacity", "(I)I"⟩).before args s = true := hts _ (in_tbl (in_TT (i := 5150) (by decide +kernel)) (by decide +kernel))
    have p5 : (Cond.privateMethod ⟨"java/lang/AbstractStringBuilder", "putStringAt", "(ILjava/lang/String;)V"⟩).before args s = true := hts _ (in_tbl (in_TT (i := 7059) (by decide +kernel)) (by decide +kernel))
    have p6 : (Cond.instanceMethod ⟨"java/lang/AbstractStringBuilder", "putStringAt", "(ILjava/lang/String;)V"⟩).before args s = true := hts _ (in_tbl (in_TT (i := 7060) (by decide +kernel)) (by decide +kernel))
    have p7 : (Cond.privateMethod ⟨"java/lang/AbstractStringBuilder", "inflateIfNeededFor", "(Ljava/lang/String;)V"⟩).before args s = true := hts _ (in_tbl (in_TT (i := 7063) (by decide +kernel)) (by decide +kernel))
    have p8 : (Cond.instanceMethod ⟨"java/lang/AbstractStringBuilder", "inflateIfNeededFor", "(Ljava/lang/String;)V"⟩).before args s = true := hts _ (in_tbl (in_TT (i := 7064) (by decide +kernel)) (by decide +kernel))
    have gz : ∀ (n d : String), (Cond.privateMethod ⟨"java/lang/AbstractStringBuilder", n, d⟩).before args s = true → (Cond.instanceMethod ⟨"java/lang/AbstractStringBuilder", n, d⟩).before args s = true → (Cond.selects "java/lang/StringBuilder" ⟨"java/lang/AbstractStringBuilder", n, d⟩ ⟨"java/lang/AbstractStringBuilder", n, d⟩).before args s = true := fun n d a b => sel_sub (z := ⟨"java/lang/AbstractStringBuilder", "isLatin1", "()Z"⟩) rfl ⟨fun e => absurd e (by decide : ¬ ("java/lang/AbstractStringBuilder" = "java/lang/invoke/MethodHandle")), fun e => absurd e (by decide : ¬ ("java/lang/AbstractStringBuilder" = "java/lang/invoke/VarHandle"))⟩ hz a b
    rcases List.mem_cons.mp h with e | h
    · rw [e]; exact gz _ _ p1 p2
    rcases List.mem_cons.mp h with e | h
    · rw [e]; exact gz _ _ p3 p4
    rcases List.mem_cons.mp h with e | h
    · rw [e]; exact gz _ _ p5 p6
    · rw [List.mem_singleton.mp h]; exact gz _ _ p7 p8
  · exact hts w h
theorem law_T {s : State} {args : Array Value} (hts : ∀ w ∈ lw_tbl, w.before args s = true) : ∀ w ∈ Tall, w.before args s = true := fun w hw => law_TT hts w (List.mem_filter.mp hw).1
theorem arr_K {s : State} {args : Array Value} {ty : FieldType} (h : (Cond.arrayClass ty).before args s = true) (hn : ∀ C, ty ≠ .object C) : ∃ cA : ClassId, ArrOfT s cA ty ∧ va_RA s cA ty := by
  obtain ⟨cA, kA, comp, h1, h2, h3⟩ := Cond.arrayClass_spec h
  refine ⟨cA, fun n z => ⟨fun k h => (by cases h), kA, h2, comp, h3⟩, ?_⟩
  cases ty with
  | object C => exact absurd rfl (hn C)
  | _ => exact h1
theorem arr_KO {s : State} {args : Array Value} {C : String} (h : (Cond.arrayOver (.object C)).before args s = true) : ∃ cA : ClassId, ArrOfT s cA (.object C) ∧ va_RA s cA (.object C) := by
  obtain ⟨comp, cA, kA, h1, h2, h3, h4, h5⟩ := Cond.arrayOver_spec h
  exact ⟨cA, fun n z => ⟨fun k h => (by cases h), kA, h3, comp, h4⟩, kA, comp, h3, h4, h1, h5⟩
theorem law_K {s : State} {args : Array Value} (hts : ∀ w ∈ lw_tbl, w.before args s = true) : ∃ (g : va_G) (cA : Nat → ClassId), va_K g vwCl (tysA cA) s := by
  have hT := law_T hts
  have hTT := law_TT hts
  obtain ⟨c0, i0, k0⟩ := u_known (C := RJ4) (T := TJ4) (N := 4) (n := 4) hT uin_J4 (hTT (.instantiable RJ4 4) (in_TT (i := 3221) (by decide +kernel)))
  obtain ⟨c1, i1, k1⟩ := u_known (C := RX0) (T := TX0) (N := 3) (n := 3) hT uin_X0 (hTT (.instantiable RX0 3) (in_TT (i := 3134) (by decide +kernel)))
  obtain ⟨c2, i2, k2⟩ := u_known (C := RX1) (T := TX1) (N := 6) (n := 6) hT uin_X1 (hTT (.instantiable RX1 6) (in_TT (i := 3173) (by decide +kernel)))
  obtain ⟨c3, i3, k3⟩ := u_known (C := RX2) (T := TX2) (N := 3) (n := 3) hT uin_X2 (hTT (.instantiable RX2 3) (in_TT (i := 3154) (by decide +kernel)))
  obtain ⟨c4, i4, k4⟩ := u_known (C := RX3) (T := TX3) (N := 3) (n := 3) hT uin_X3 (hTT (.instantiable RX3 3) (in_TT (i := 3203) (by decide +kernel)))
  obtain ⟨c5, i5, k5⟩ := u_known (C := RX4) (T := TX4) (N := 11) (n := 11) hT uin_X4 (hTT (.instantiable RX4 11) (in_TT (i := 3030) (by decide +kernel)))
  obtain ⟨c6, i6, k6⟩ := u_known (C := RX5) (T := TX5) (N := 9) (n := 9) hT uin_X5 (hTT (.instantiable RX5 9) (in_TT (i := 3036) (by decide +kernel)))
  obtain ⟨c7, i7, k7⟩ := u_known (C := RX6) (T := TX6) (N := 9) (n := 9) hT uin_X6 (hTT (.instantiable RX6 9) (in_TT (i := 3022) (by decide +kernel)))
  obtain ⟨c8, i8, k8⟩ := u_known (C := RX7) (T := TX7) (N := 1) (n := 1) hT uin_X7 (hTT (.instantiable RX7 1) (in_TT (i := 6103) (by decide +kernel)))
  obtain ⟨c9, i9, k9⟩ := u_known (C := RJ0) (T := TJ0) (N := 4) (n := 4) hT uin_J0 (hTT (.instantiable RJ0 4) (in_TT (i := 6225) (by decide +kernel)))
  obtain ⟨a0, p0, q0⟩ := arr_K (ty := .int) (hTT (.arrayClass .int) (in_TT (i := 3085) (by decide +kernel))) (fun C h => by cases h)
  obtain ⟨a1, p1, q1⟩ := arr_K (ty := .boolean) (hTT (.arrayClass .boolean) (in_TT (i := 3132) (by decide +kernel))) (fun C h => by cases h)
  obtain ⟨a2, p2, q2⟩ := arr_K (ty := .byte) (hTT (.arrayClass .byte) (in_TT (i := 4012) (by decide +kernel))) (fun C h => by cases h)
  obtain ⟨a3, p3, q3⟩ := arr_KO (C := "CandleStatute$State") (hTT (.arrayOver (.object "CandleStatute$State")) (in_TT (i := 3140) (by decide +kernel)))
  refine ⟨(fun k => [c0, c1, c2, c3, c4, c5, c6, c7, c8, c9].getD k c0, fun k => [i0, i1, i2, i3, i4, i5, i6, i7, i8, i9].getD k i0), fun k => [a0, a1, a2, a3].getD k a0, fun k q hq => ?_, fun k q hq => ?_⟩
  · match k, hq with
    | 0, hq => cases hq; exact k0
    | 1, hq => cases hq; exact k1
    | 2, hq => cases hq; exact k2
    | 3, hq => cases hq; exact k3
    | 4, hq => cases hq; exact k4
    | 5, hq => cases hq; exact k5
    | 6, hq => cases hq; exact k6
    | 7, hq => cases hq; exact k7
    | 8, hq => cases hq; exact k8
    | 9, hq => cases hq; exact k9
    | k + 10, hq => simp [vwCl] at hq
  · match k, hq with
    | 0, hq => cases hq; exact ⟨p0, q0⟩
    | 1, hq => cases hq; exact ⟨p1, q1⟩
    | 2, hq => cases hq; exact ⟨p2, q2⟩
    | 3, hq => cases hq; exact ⟨p3, q3⟩
    | k + 4, hq => simp [tysA] at hq
def FLc : List Cond := flatC (Jvm.Cond.and given_1 narrow_1)
def ixS (i : Nat) : Nat := [45, 75, 77, 79, 81, 83, 85, 87, 89, 91, 112, 114, 116, 118, 120, 124, 141, 143, 145].getD i 0
def ixP (i : Nat) : Nat := [229, 243, 253, 262, 274, 287, 299, 312, 324, 337, 350, 365, 381, 398, 416, 454, 475, 497, 520].getD i 0
def ixO (i : Nat) : Nat := if i < 15 then i else i + 1
def tmK (i : Nat) : Term := .string (if i < 10 then "CandleStatute$Orders" else "CandleStatuteLaw") (ixS i)
theorem fl_at {s : State} {args : Array Value} (hgv : (Jvm.Cond.and given_1 narrow_1).before args s = true) {i : Nat} {w : Cond} (h : FLc[i]? = some w) : w.before args s = true := flat_of_before _ hgv w (List.mem_of_getElem? h)
theorem flS1 : ∀ i, i < 19 → FLc[ixP i]? = some (Cond.exactly (tmK i) "java/lang/String") ∧ FLc[ixP i + 1]? = some (Cond.eq (.field (tmK i) "java/lang/String" "coder" "B") (.int 0)) ∧ FLc[ixP i + 2]? = some (Cond.arrayOf (.field (tmK i) "java/lang/String" "value" "[B") .byte) ∧ FLc[ixP i + 3]? = some (Cond.eq (.length (.field (tmK i) "java/lang/String" "value" "[B")) (.int (Int32.ofNat (lenB.getD i 0)))) := by decide +kernel
theorem flS2 : ∀ i, i < 19 → ∀ j, j < lenB.getD i 0 → FLc[ixP i + 4 + j]? = some (Cond.eq (.elem (.field (tmK i) "java/lang/String" "value" "[B") (.int (Int32.ofNat j))) (.int ((strB.getD i []).getD j 0))) := by decide +kernel
theorem flS3 : ∀ j, j < 19 → ∀ i, i < j → FLc[ixP j + 4 + lenB.getD j 0 + ixO i]? = some (Cond.not (Cond.eq (tmK i) (tmK j))) := by decide +kernel
theorem flD1 : ∀ j, j < 100 → FLc[12 + j]? = some (Cond.eq (.elem (.static "java/lang/Integer" "DigitOnes" "[B") (.int (Int32.ofNat j))) (.int (dgO.getD j 0))) := by decide +kernel
theorem flD2 : ∀ j, j < 100 → FLc[115 + j]? = some (Cond.eq (.elem (.static "java/lang/Integer" "DigitTens" "[B") (.int (Int32.ofNat j))) (.int (dgT.getD j 0))) := by decide +kernel
theorem eq_ref {args : Array Value} {s : State} {t u : Term} {a b : Nat} (h : (Cond.eq t u).before args s = true) (h1 : t.eval args s none [] s = some (.ref a)) (h2 : u.eval args s none [] s = some (.ref b)) : b = a := by
  simp only [Cond.before, Cond.holds, Cond.value, h1, h2] at h
  simp_all
theorem RO_hi {ad ad2 : Nat → Nat} {fv : Value} {A : Nat → Prop} {U : State} {H : Heap} (ha : ∀ k, 1000 ≤ k → ad2 k = ad k) (h : RO ad fv A U H) : RO ad2 fv A U H := by
  have e1 : (fun i => ad2 (1000 + i)) = (fun i => ad (1000 + i)) := by funext i; exact ha _ (by omega)
  have e2 : (fun i => ad2 (2000 + i)) = (fun i => ad (2000 + i)) := by funext i; exact ha _ (by omega)
  have e3 := ha 3000 (by decide)
  have e4 := ha 3001 (by decide)
  have e5 : ∀ c, ad2 (1000 + c) = ad (1000 + c) := fun c => ha _ (by omega)
  unfold RO at h ⊢
  rw [e1, e2, e3, e4]
  refine ⟨h.1, h.2.1, h.2.2.1, h.2.2.2.1, h.2.2.2.2.1, h.2.2.2.2.2.1, h.2.2.2.2.2.2.1, fun c hc q hq => ?_, h.2.2.2.2.2.2.2.2⟩
  rw [e5]
  exact h.2.2.2.2.2.2.2.1 c hc q hq
set_option maxHeartbeats 1000000 in
theorem law_RO {s : State} {args : Array Value} {A : Nat → Prop} (hts : ∀ w ∈ lw_tbl, w.before args s = true) (hgv : (Jvm.Cond.and given_1 narrow_1).before args s = true) (hA : ∀ a : Nat, a < s.heap.size → ¬ A a) : ∃ (ad : Nat → Nat) (fv : Value), RO ad fv A s s.heap := by
  have hTT := law_TT hts
  obtain ⟨adK, adV, hS, hE⟩ := vk_Sof (args := args) (s := s) (N := 19) (tm := tmK) (len := lenB) (byt := strB) (A := A) (by decide +kernel) (fun i hi => fl_at hgv (flS1 i hi).1) (fun i hi => fl_at hgv (flS1 i hi).2.1) (fun i hi => fl_at hgv (flS1 i hi).2.2.1) (fun i hi => fl_at hgv (flS1 i hi).2.2.2) (fun i hi j hj => fl_at hgv (flS2 i hi j hj))
    (fun i j hi hj hij => by
      rcases Nat.lt_or_gt_of_ne hij with h | h
      · exact Or.inl (fl_at hgv (flS3 j hj i h))
      · exact Or.inr (fl_at hgv (flS3 i hi j h))) hA
  have hcs : va_Z "java/lang/String" "COMPACT_STRINGS" "Z" (.int 1) A s s.heap := va_Zof (hTT (.laysStatic "java/lang/String" "COMPACT_STRINGS" "Z") (in_TT (i := 3230) (by decide +kernel))) (hTT (.initialized "java/lang/String") (in_TT (i := 3010) (by decide +kernel))) (va_eqi (fl_at hgv (i := 4) (by decide +kernel))) hA
  have hsf : va_Zq "jdk/internal/util/Preconditions" "SIOOBE_FORMATTER" "Ljava/util/function/BiFunction;" A s s.heap := va_Zqof (hTT (.laysStatic "jdk/internal/util/Preconditions" "SIOOBE_FORMATTER" "Ljava/util/function/BiFunction;") (in_TT (i := 5007) (by decide +kernel))) (hTT (.initialized "jdk/internal/util/Preconditions") (in_TT (i := 3013) (by decide +kernel))) (fl_at hgv (i := 5) (by decide +kernel)) hA
  obtain ⟨t1, e1, T1⟩ := va_Tof (args := args) (s := s) (tm := .static "java/lang/Integer" "DigitOnes" "[B") (ty := .byte) (N := 100) (f := fun j => .int (dgO.getD j 0)) (A := A) (by decide) (fl_at hgv (i := 10) (by decide +kernel)) (va_eqt (fl_at hgv (i := 11) (by decide +kernel))) (fun j hj => va_eqt (fl_at hgv (flD1 j hj))) hA
  obtain ⟨t2, e2, T2⟩ := va_Tof (args := args) (s := s) (tm := .static "java/lang/Integer" "DigitTens" "[B") (ty := .byte) (N := 100) (f := fun j => .int (dgT.getD j 0)) (A := A) (by decide) (fl_at hgv (i := 113) (by decide +kernel)) (va_eqt (fl_at hgv (i := 114) (by decide +kernel))) (fun j hj => va_eqt (fl_at hgv (flD2 j hj))) hA
  have hin : (Cond.initialized "java/lang/Integer").before args s = true := hTT _ (in_TT (i := 3020) (by decide +kernel))
  have Z1 : va_Z "java/lang/Integer" "DigitOnes" "[B" (.ref t1) A s s.heap := va_Zof (hTT (.laysStatic "java/lang/Integer" "DigitOnes" "[B") (in_TT (i := 6204) (by decide +kernel))) hin e1 hA
  have Z2 : va_Z "java/lang/Integer" "DigitTens" "[B" (.ref t2) A s s.heap := va_Zof (hTT (.laysStatic "java/lang/Integer" "DigitTens" "[B") (in_TT (i := 6206) (by decide +kernel))) hin e2 hA
  obtain ⟨fv, hfc, hfz⟩ : ∃ fv : Value, fv.category = 1 ∧ va_Z "jdk/internal/util/Preconditions" "SIOOBE_FORMATTER" "Ljava/util/function/BiFunction;" fv A s s.heap := by
    rcases hsf with h | ⟨t, h⟩
    · exact ⟨.null, rfl, h⟩
    · exact ⟨.ref t, rfl, h⟩
  refine ⟨fun k => if k = 3000 then t1 else if k = 3001 then t2 else if k < 2000 then adK (k - 1000) else adV (k - 2000), fv, ?_, hcs, hfz, Z1, T1, Z2, T2, ?_, hfc⟩
  · have f1 : ∀ i, i < 19 → (fun i => if 1000 + i = 3000 then t1 else if 1000 + i = 3001 then t2 else if 1000 + i < 2000 then adK (1000 + i - 1000) else adV (1000 + i - 2000)) i = adK i := fun i hi => by
      show (if 1000 + i = 3000 then t1 else if 1000 + i = 3001 then t2 else if 1000 + i < 2000 then adK (1000 + i - 1000) else adV (1000 + i - 2000)) = adK i
      rw [if_neg (by omega), if_neg (by omega), if_pos (by omega), Nat.add_sub_cancel_left]
    have f2 : ∀ i, i < 19 → (fun i => if 2000 + i = 3000 then t1 else if 2000 + i = 3001 then t2 else if 2000 + i < 2000 then adK (2000 + i - 1000) else adV (2000 + i - 2000)) i = adV i := fun i hi => by
      show (if 2000 + i = 3000 then t1 else if 2000 + i = 3001 then t2 else if 2000 + i < 2000 then adK (2000 + i - 1000) else adV (2000 + i - 2000)) = adV i
      rw [if_neg (by omega), if_neg (by omega), if_neg (by omega), Nat.add_sub_cancel_left]
    refine ⟨fun i hi => ?_, fun i j hi hj h => ?_⟩
    · rw [f1 i hi, f2 i hi]
      exact hS.1 i hi
    · rw [f1 i hi, f1 j hj] at h
      exact hS.2 i j hi hj h
  · have f1 : ∀ c, c < 19 → (if 1000 + c = 3000 then t1 else if 1000 + c = 3001 then t2 else if 1000 + c < 2000 then adK (1000 + c - 1000) else adV (1000 + c - 2000)) = adK c := fun c hc => by
      rw [if_neg (by omega), if_neg (by omega), if_pos (by omega), Nat.add_sub_cancel_left]
    intro c hc q hq
    show vk_R (cN q.1) q.2.1 q.2.2.2 (if 1000 + lmp.getD c 0 = 3000 then t1 else if 1000 + lmp.getD c 0 = 3001 then t2 else if 1000 + lmp.getD c 0 < 2000 then adK (1000 + lmp.getD c 0 - 1000) else adV (1000 + lmp.getD c 0 - 2000)) s
    rw [f1 _ (lmp_lt hc)]
    match c, hc, hq with
    | 0, _, hq => cases hq; exact vk_R.of (A := args) (hTT (.stringRef "CandleStatute$Orders" 45 "sbowpdmhet") (in_TT (i := 4234) (by decide +kernel))) (hE 0 (by decide))
    | 1, _, hq => cases hq; exact vk_R.of (A := args) (hTT (.stringRef "CandleStatute$Orders" 75 "1:2/1") (in_TT (i := 5096) (by decide +kernel))) (hE 1 (by decide))
    | 2, _, hq => cases hq; exact vk_R.of (A := args) (hTT (.stringRef "CandleStatute$Orders" 77 "2*2") (in_TT (i := 5097) (by decide +kernel))) (hE 2 (by decide))
    | 3, _, hq => cases hq; exact vk_R.of (A := args) (hTT (.stringRef "CandleStatute$Orders" 79 "2>1=2") (in_TT (i := 5098) (by decide +kernel))) (hE 3 (by decide))
    | 4, _, hq => cases hq; exact vk_R.of (A := args) (hTT (.stringRef "CandleStatute$Orders" 81 "1!2*2") (in_TT (i := 5099) (by decide +kernel))) (hE 4 (by decide))
    | 5, _, hq => cases hq; exact vk_R.of (A := args) (hTT (.stringRef "CandleStatute$Orders" 83 "2+2") (in_TT (i := 5100) (by decide +kernel))) (hE 5 (by decide))
    | 6, _, hq => cases hq; exact vk_R.of (A := args) (hTT (.stringRef "CandleStatute$Orders" 85 "1>1") (in_TT (i := 5101) (by decide +kernel))) (hE 6 (by decide))
    | 7, _, hq => cases hq; exact vk_R.of (A := args) (hTT (.stringRef "CandleStatute$Orders" 87 "1") (in_TT (i := 5102) (by decide +kernel))) (hE 7 (by decide))
    | 8, _, hq => cases hq; exact vk_R.of (A := args) (hTT (.stringRef "CandleStatute$Orders" 89 "2") (in_TT (i := 5103) (by decide +kernel))) (hE 8 (by decide))
    | 9, _, hq => cases hq; exact vk_R.of (A := args) (hTT (.stringRef "CandleStatute$Orders" 91 "") (in_TT (i := 5104) (by decide +kernel))) (hE 9 (by decide))
    | 10, _, hq => cases hq; exact vk_R.of (A := args) (hTT (.stringRef "CandleStatuteLaw" 112 "@") (in_TT (i := 7101) (by decide +kernel))) (hE 10 (by decide))
    | 11, _, hq => cases hq; exact vk_R.of (A := args) (hTT (.stringRef "CandleStatuteLaw" 114 ":") (in_TT (i := 7102) (by decide +kernel))) (hE 11 (by decide))
    | 12, _, hq => cases hq; exact vk_R.of (A := args) (hTT (.stringRef "CandleStatuteLaw" 116 "/") (in_TT (i := 7103) (by decide +kernel))) (hE 12 (by decide))
    | 13, _, hq => cases hq; exact vk_R.of (A := args) (hTT (.stringRef "CandleStatuteLaw" 118 ">") (in_TT (i := 7104) (by decide +kernel))) (hE 13 (by decide))
    | 14, _, hq => cases hq; exact vk_R.of (A := args) (hTT (.stringRef "CandleStatuteLaw" 120 "=") (in_TT (i := 7105) (by decide +kernel))) (hE 14 (by decide))
    | 15, _, hq =>
      cases hq
      obtain ⟨a, _, _, _, q1, _⟩ := Cond.exactly_spec (args := args) (first := s) (o := none) (s := s) (idx := []) (t := .string "CandleStatuteLaw" 122) (cls := "java/lang/String") (fl_at hgv (i := 435) (by decide +kernel))
      have e9 := eq_ref (t := tmK 9) (fl_at hgv (i := 448) (by decide +kernel)) (hE 9 (by decide)) q1
      rw [e9] at q1
      exact vk_R.of (A := args) (hTT (.stringRef "CandleStatuteLaw" 122 "") (in_TT (i := 7106) (by decide +kernel))) q1
    | 16, _, hq => cases hq; exact vk_R.of (A := args) (hTT (.stringRef "CandleStatuteLaw" 124 "!") (in_TT (i := 7107) (by decide +kernel))) (hE 15 (by decide))
    | 17, _, hq => cases hq; exact vk_R.of (A := args) (hTT (.stringRef "CandleStatuteLaw" 141 " ") (in_TT (i := 7131) (by decide +kernel))) (hE 16 (by decide))
    | 18, _, hq => cases hq; exact vk_R.of (A := args) (hTT (.stringRef "CandleStatuteLaw" 143 "x") (in_TT (i := 7132) (by decide +kernel))) (hE 17 (by decide))
    | 19, _, hq => cases hq; exact vk_R.of (A := args) (hTT (.stringRef "CandleStatuteLaw" 145 "+") (in_TT (i := 7133) (by decide +kernel))) (hE 18 (by decide))
    | c + 20, hc, _ => omega
theorem law_XT {s : State} {args : Array Value} {A : Nat → Prop} (hts : ∀ w ∈ lw_tbl, w.before args s = true) (hgv : (Jvm.Cond.and given_1 narrow_1).before args s = true) (hA : ∀ a : Nat, a < s.heap.size → ¬ A a) : XT A s s.heap := by
  have hTT := law_TT hts
  refine ⟨va_Zof (hTT (.laysStatic "java/lang/String" "COMPACT_STRINGS" "Z") (in_TT (i := 3230) (by decide +kernel))) (hTT (.initialized "java/lang/String") (in_TT (i := 3010) (by decide +kernel))) (va_eqi (fl_at hgv (i := 4) (by decide +kernel))) hA, va_AO.of (A := args) (hTT (.arrayOver (.object "CandleStatute$State")) (in_TT (i := 3140) (by decide +kernel))), ?_, ?_, ?_, ?_⟩
  · exact va_Nw.of rfl (A := args) (hTT (.methodLinkNest RX4 11 yX5_init RX6) (in_TT (i := 3037) (by decide +kernel)))
  · exact va_Nw.of rfl (A := args) (hTT (.methodLinkNest RX6 32 yX2_init RX6) (in_TT (i := 3155) (by decide +kernel)))
  · exact va_Nw.of rfl (A := args) (hTT (.methodLinkNest RX6 39 yX1_init RX6) (in_TT (i := 3174) (by decide +kernel)))
  · exact va_Nw.of rfl (A := args) (hTT (.methodLinkNest RX6 46 yX3_init RX6) (in_TT (i := 3204) (by decide +kernel)))
theorem law_Cst {s : State} {args : Array Value} (hts : ∀ w ∈ lw_tbl, w.before args s = true) : va_Nw (.castable "[B" "java/lang/Cloneable") s := va_Nw.of rfl (A := args) (law_TT hts (.castable "[B" "java/lang/Cloneable") (in_TT (i := 5169) (by decide +kernel)))
