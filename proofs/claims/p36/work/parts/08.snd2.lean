/-! the abstract machine's steps are the machine's -/
theorem fld_fact {k pc : Nat} {i : Instr} {idx a b c d : Nat} (hk : k < mnames + 1) (hi : i = .getfield idx ∨ i = .putfield idx) (hb : b ≠ 25) (h : ins k pc = some (i, a, b, c, d)) : ∃ q : vw_C, vwCl[b]? = some q ∧ c < q.2.2 ∧ Cond.fieldLink (cN (nO k)) idx (q.2.1 c).1 (q.2.1 c).2.1 (q.2.1 c).2.2.1 ∈ Tall ∧ (d = 0 → (q.2.1 c).2.2.1 = "I" ∧ (q.2.1 c).2.2.2 = false) ∧ (d = 1 → (q.2.1 c).2.2.1 = "Z" ∧ (q.2.1 c).2.2.2 = false) ∧ (d = 2 → (q.2.1 c).2.2.1 = "B" ∧ (q.2.1 c).2.2.2 = false) ∧ (d = 3 → b = 0 → (q.2.1 c).2.2.1 = "[B" ∧ (q.2.1 c).2.2.2 = false) := by
  have h1 := ins_ok hk h
  unfold eOK at h1
  rw [Bool.and_eq_true] at h1
  have h2 : (match ftab[a]? with
        | some f => decide (f.1 = nO k) && decide (f.2.1 = idx) && decide (f.2.2.1 = b) && decide (f.2.2.2.1 = c) && decide (f.2.2.2.2.1 = d)
        | none => false) = true := by
    rcases hi with rfl | rfl
    · have h3 := h1.2
      dsimp only at h3
      rw [if_neg hb] at h3
      exact h3
    · have h3 := h1.2
      dsimp only at h3
      rw [if_neg hb] at h3
      exact h3
  split at h2
  · next f hf =>
    simp only [Bool.and_eq_true, decide_eq_true_eq] at h2
    obtain ⟨⟨⟨⟨e1, e2⟩, e3⟩, e4⟩, e5⟩ := h2
    have h4 := List.all_eq_true.mp fAll _ (List.mem_of_getElem? hf)
    unfold fOK at h4
    rw [e1, e2, e3, e4, e5] at h4
    split at h4
    · next C T N hq =>
      simp only [Bool.and_eq_true, decide_eq_true_eq] at h4
      exact ⟨(C, T, N), hq, h4.1.1.1.1.1, atT_in h4.1.1.1.1.2, h4.1.1.1.2, h4.1.1.2, h4.1.2, h4.2⟩
    · cases h4
  · cases h2
theorem str_fact {k pc : Nat} {i : Instr} {idx a b c d : Nat} (hk : k < mnames + 1) (hb : b = 25) (hg : i = .getfield idx ∨ i = .putfield idx) (h : ins k pc = some (i, a, b, c, d)) : (c = 0 → Cond.fieldLink (cN (nO k)) idx "java/lang/String" "value" "[B" ∈ Tall) ∧ (c = 1 → Cond.fieldLink (cN (nO k)) idx "java/lang/String" "coder" "B" ∈ Tall) := by
  have h1 := ins_ok hk h
  unfold eOK at h1
  rw [Bool.and_eq_true] at h1
  have h3 : (match rtab[a]? with
        | some f => decide (f.1 = nO k) && decide (f.2.1 = idx) && decide (f.2.2.1 = c)
        | none => false) = true := by
    rcases hg with rfl | rfl
    · have h3 := h1.2
      dsimp only at h3
      rw [if_pos hb] at h3
      exact h3
    · have h3 := h1.2
      dsimp only at h3
      rw [if_pos hb] at h3
      exact h3
  split at h3
  · next f hf =>
    simp only [Bool.and_eq_true, decide_eq_true_eq] at h3
    obtain ⟨⟨e1, e2⟩, e3⟩ := h3
    have h4 := List.all_eq_true.mp rAll _ (List.mem_of_getElem? hf)
    unfold rOK at h4
    rw [e1, e2, e3] at h4
    refine ⟨fun q => ?_, fun q => ?_⟩
    · subst q; exact atT_in h4
    · subst q; exact atT_in h4
  · cases h3
theorem stat_fact {k pc : Nat} {idx a b c d : Nat} (hk : k < mnames + 1) (h : ins k pc = some (.getstatic idx, a, b, c, d)) : (b = 0 → Cond.fieldLink (cN (nO k)) idx "java/lang/String" "COMPACT_STRINGS" "Z" ∈ Tall) ∧ (b = 1 → Cond.fieldLink (cN (nO k)) idx "jdk/internal/util/Preconditions" "SIOOBE_FORMATTER" "Ljava/util/function/BiFunction;" ∈ Tall) ∧
    (b = 2 → Cond.fieldLink (cN (nO k)) idx "java/lang/Integer" "DigitOnes" "[B" ∈ Tall) ∧ (b = 3 → Cond.fieldLink (cN (nO k)) idx "java/lang/Integer" "DigitTens" "[B" ∈ Tall) := by
  have h1 := ins_ok hk h
  unfold eOK at h1
  rw [Bool.and_eq_true] at h1
  have h3 := h1.2
  dsimp only at h3
  split at h3
  · next f hf =>
    simp only [Bool.and_eq_true, decide_eq_true_eq] at h3
    obtain ⟨⟨e1, e2⟩, e3⟩ := h3
    have h4 := List.all_eq_true.mp sAll _ (List.mem_of_getElem? hf)
    unfold sOK at h4
    rw [e1, e2, e3] at h4
    refine ⟨fun q => ?_, fun q => ?_, fun q => ?_, fun q => ?_⟩ <;> (subst q; exact atT_in h4)
  · cases h3
theorem ldc_fact {k pc : Nat} {idx a b c d : Nat} (hk : k < mnames + 1) (hb : b = 1) (h : ins k pc = some (.ldc idx, a, b, c, d)) : ∃ q, ltab[a]? = some q ∧ q.1 = nO k ∧ q.2.1 = idx ∧ c = lmp.getD a 0 := by
  have h1 := ins_ok hk h
  unfold eOK at h1
  rw [Bool.and_eq_true] at h1
  have h3 := h1.2
  dsimp only at h3
  rw [hb, if_neg (by decide), if_neg (by decide)] at h3
  split at h3
  · next f hf =>
    simp only [Bool.and_eq_true, decide_eq_true_eq] at h3
    obtain ⟨⟨e1, e2⟩, e3⟩ := h3
    exact ⟨f, hf, e1, e2, e3⟩
  · cases h3
theorem ldcI_fact {k pc : Nat} {idx a b c d : Nat} (hk : k < mnames + 1) (hb : b = 2) (h : ins k pc = some (.ldc idx, a, b, c, d)) : ∀ q, ctab[c]? = some q → Cond.constant (cN (nO k)) idx q.2.2.2 ∈ Tall := by
  have h1 := ins_ok hk h
  unfold eOK at h1
  rw [Bool.and_eq_true] at h1
  have h3 := h1.2
  dsimp only at h3
  rw [hb, if_neg (by decide), if_pos rfl] at h3
  split at h3
  · next f hf =>
    simp only [Bool.and_eq_true, decide_eq_true_eq] at h3
    obtain ⟨⟨e1, e2⟩, e3⟩ := h3
    intro q hq
    rw [e3, hf] at hq
    cases hq
    have h4 := List.all_eq_true.mp kAll f (List.mem_of_getElem? hf)
    unfold kOK at h4
    rw [e1, e2] at h4
    exact atT_in h4
  · cases h3
theorem new_fact {k pc : Nat} {idx a b c d : Nat} (hk : k < mnames + 1) (hb : b ≠ 999) (h : ins k pc = some (.new idx, a, b, c, d)) : ∃ q : vw_C, vwCl[b]? = some q ∧ Cond.classLink (cN (nO k)) idx q.1 ∈ Tall ∧ Cond.instantiable q.1 q.2.2 ∈ Tall ∧ Cond.initialized q.1 ∈ Tall := by
  have h1 := ins_ok hk h
  unfold eOK at h1
  rw [Bool.and_eq_true] at h1
  have h3 := h1.2
  dsimp only at h3
  rw [if_neg hb] at h3
  split at h3
  · next f hf =>
    simp only [Bool.and_eq_true, decide_eq_true_eq] at h3
    obtain ⟨⟨e1, e2⟩, e3⟩ := h3
    have h4 := List.all_eq_true.mp nAll f (List.mem_of_getElem? hf)
    unfold nOK at h4
    rw [e1, e2, e3] at h4
    split at h4
    · next C T N hq =>
      simp only [Bool.and_eq_true] at h4
      exact ⟨(C, T, N), hq, atT_in h4.1.1.2, atT_in h4.1.2, atT_in h4.2⟩
    · cases h4
  · cases h3
theorem cls_fact {k pc : Nat} {i : Instr} {idx a b c d : Nat} (hk : k < mnames + 1) (hi : i = .instanceof idx ∨ i = .checkcast idx) (hb : b ≠ 999) (h : ins k pc = some (i, a, b, c, d)) : Cond.classLink (cN (nO k)) idx (if b = 0 then "java/lang/String" else "[B") ∈ Tall := by
  have h1 := ins_ok hk h
  unfold eOK at h1
  rw [Bool.and_eq_true] at h1
  have h3 : (match gtab[a]? with
        | some f => decide (f.1 = nO k) && decide (f.2.1 = idx) && decide (f.2.2.1 = b)
        | none => false) = true := by
    rcases hi with rfl | rfl
    · have h3 := h1.2
      dsimp only at h3
      rw [if_neg hb] at h3
      exact h3
    · have h3 := h1.2
      dsimp only at h3
      rw [if_neg hb] at h3
      exact h3
  split at h3
  · next f hf =>
    simp only [Bool.and_eq_true, decide_eq_true_eq] at h3
    obtain ⟨⟨e1, e2⟩, e3⟩ := h3
    have h4 := List.all_eq_true.mp gAll f (List.mem_of_getElem? hf)
    unfold gOK at h4
    rw [e1, e2, e3] at h4
    exact atT_in h4
  · cases h3
theorem yRow_fact {k idx a t : Nat} (h : yRow k idx a t = true) : Cond.methodLink (cN (nO k)) idx (if t = 0 then arraycopyName else ⟨"[B", "clone", "()Ljava/lang/Object;"⟩) ∈ Tall := by
  unfold yRow at h
  split at h
  · next f hf =>
    simp only [Bool.and_eq_true, decide_eq_true_eq] at h
    obtain ⟨⟨e1, e2⟩, e3⟩ := h
    have h4 := List.all_eq_true.mp yAll f (List.mem_of_getElem? hf)
    unfold yOK at h4
    rw [e1, e2, e3] at h4
    exact atT_in h4
  · cases h
theorem cpy_fact {k pc : Nat} {idx a b c d : Nat} (hk : k < mnames + 1) (hb : b = 998) (h : ins k pc = some (.invokestatic idx, a, b, c, d)) : Cond.methodLink (cN (nO k)) idx arraycopyName ∈ Tall := by
  have h1 := ins_ok hk h
  unfold eOK at h1
  rw [Bool.and_eq_true] at h1
  have h3 := h1.2
  dsimp only at h3
  rw [Bool.and_eq_true, hb] at h3
  have h4 := yRow_fact (t := 0) (by have := h3.2; simpa using this)
  exact h4
theorem cln_fact {k pc : Nat} {idx a b c d : Nat} (hk : k < mnames + 1) (hb : b = 997) (h : ins k pc = some (.invokevirtual idx, a, b, c, d)) : Cond.methodLink (cN (nO k)) idx ⟨"[B", "clone", "()Ljava/lang/Object;"⟩ ∈ Tall := by
  have h1 := ins_ok hk h
  unfold eOK at h1
  rw [Bool.and_eq_true] at h1
  have h3 := h1.2
  dsimp only at h3
  rw [Bool.and_eq_true, hb] at h3
  have h4 := yRow_fact (t := 1) (by have := h3.2; simpa using this)
  exact h4
theorem oin_fact {k pc : Nat} {idx a b c d : Nat} (hk : k < mnames + 1) (hb : b = 996) (h : ins k pc = some (.invokespecial idx, a, b, c, d)) : Cond.methodLink (cN (nO k)) idx objectInit ∈ Tall := by
  have h1 := ins_ok hk h
  unfold eOK at h1
  rw [Bool.and_eq_true] at h1
  have h3 := h1.2
  dsimp only at h3
  rw [Bool.and_eq_true, hb] at h3
  have h4 : oRow k idx a = true := by have := h3.2; simpa using this
  unfold oRow at h4
  split at h4
  · next f hf =>
    simp only [Bool.and_eq_true, decide_eq_true_eq] at h4
    obtain ⟨e1, e2⟩ := h4
    have h5 := List.all_eq_true.mp oAll f (List.mem_of_getElem? hf)
    unfold oOK at h5
    rw [e1, e2] at h5
    exact atT_in h5
  · cases h4
theorem call_fact {k pc : Nat} {i : Instr} {idx a b c d : Nat} (hk : k < mnames + 1) (hb : b < mnames) (hi : i = .invokevirtual idx ∨ i = .invokestatic idx ∨ i = .invokespecial idx) (h : ins k pc = some (i, a, b, c, d)) :
    (c ≠ 6 → Cond.methodLink (cN (nO k)) idx (nY b) ∈ Tall) ∧
    (c = 0 → nS b = 0 ∧ rcN (nC b) = (nY b).cls ∧ Cond.selects (nY b).cls (nY b) (nY b) ∈ Tall) ∧ (c = 1 → nS b = 1) ∧
    (c = 2 → nS b = 0 ∧ rcN (nC b) = "java/lang/StringBuilder" ∧ Cond.selects "java/lang/StringBuilder" (nY b) (nY b) ∈ Tall ∧ Cond.sameMethod (nY b).cls (nY b).cls (nY b).name (nY b).desc ∈ Tall) ∧
    (c = 3 → nS b = 0 ∧ rcN (nC b) = "java/lang/StringBuilder" ∧ Cond.sameMethod (nY b).cls (nY b).cls (nY b).name (nY b).desc ∈ Tall ∧ Cond.superclass (cN (nO k)) (nY b).cls ∈ Tall ∧ (nY b).name ≠ "<init>") ∧
    (c = 4 → nS b = 0 ∧ (nY b).name = "<init>" ∧ nR b = none) ∧
    (c = 6 → nS b = 0 ∧ rcN (nC b) = "java/lang/StringBuilder" ∧ nY (k6 b) = ⟨"java/lang/AbstractStringBuilder", (nY b).name, (nY b).desc⟩ ∧ k6 b < mnames ∧ nS (k6 b) = 0 ∧ Cond.methodLink (cN (nO k)) idx ⟨"java/lang/AbstractStringBuilder", (nY b).name, (nY b).desc⟩ ∈ Tall ∧ Cond.selects "java/lang/StringBuilder" ⟨"java/lang/AbstractStringBuilder", (nY b).name, (nY b).desc⟩ (nY b) ∈ Tall ∧ Cond.sameMethod "java/lang/AbstractStringBuilder" "java/lang/AbstractStringBuilder" (nY b).name (nY b).desc ∈ Tall) := by
  have h1 := ins_ok hk h
  unfold eOK at h1
  rw [Bool.and_eq_true] at h1
  have h2 : ∃ ks, callOK k idx a b c ks = true := by
    rcases hi with rfl | rfl | rfl
    · have h3 := h1.2; dsimp only at h3; rw [Bool.and_eq_true] at h3; exact ⟨_, h3.1⟩
    · have h3 := h1.2; dsimp only at h3; rw [Bool.and_eq_true] at h3; exact ⟨_, h3.1⟩
    · have h3 := h1.2; dsimp only at h3; rw [Bool.and_eq_true] at h3; exact ⟨_, h3.1⟩
  obtain ⟨ks, h2⟩ := h2
  obtain ⟨f, hf, e1, e2, e3, e4⟩ := ins_call hb h2
  have h4 := List.all_eq_true.mp iAll f hf
  unfold iOK at h4
  rw [e1, e2, e3, e4] at h4
  simp only [Bool.and_eq_true, decide_eq_true_eq] at h4
  obtain ⟨⟨-, h5⟩, h6⟩ := h4
  refine ⟨fun h9 => ?_, ?_, ?_, ?_, ?_, ?_, ?_⟩
  · rw [if_neg h9] at h5; exact atT_in h5
  · rintro rfl
    rw [if_pos rfl] at h6
    simp only [Bool.and_eq_true, decide_eq_true_eq] at h6
    exact ⟨h6.1.1, h6.1.2, atT_in h6.2⟩
  · rintro rfl
    rw [if_neg (by decide), if_pos rfl] at h6
    exact of_decide_eq_true h6
  · rintro rfl
    rw [if_neg (by decide), if_neg (by decide), if_pos rfl] at h6
    simp only [Bool.and_eq_true, decide_eq_true_eq] at h6
    exact ⟨h6.1.1.1, h6.1.1.2, atT_in h6.1.2, atT_in h6.2⟩
  · rintro rfl
    rw [if_neg (by decide), if_neg (by decide), if_neg (by decide), if_pos rfl] at h6
    simp only [Bool.and_eq_true, decide_eq_true_eq] at h6
    exact ⟨h6.1.1.1.1, h6.1.1.1.2, atT_in h6.1.1.2, atT_in h6.1.2, h6.2⟩
  · rintro rfl
    rw [if_neg (by decide), if_neg (by decide), if_neg (by decide), if_neg (by decide), if_pos rfl] at h6
    simp only [Bool.and_eq_true, decide_eq_true_eq] at h6
    exact ⟨h6.1.1, h6.1.2, h6.2⟩
  · rintro rfl
    rw [if_neg (by decide), if_neg (by decide), if_neg (by decide), if_neg (by decide), if_neg (by decide)] at h6
    rw [if_pos rfl] at h5
    simp only [Bool.and_eq_true, decide_eq_true_eq] at h6
    exact ⟨h6.1.1.1.1.1.1, h6.1.1.1.1.1.2, h6.1.1.1.1.2, h6.1.1.1.2, h6.1.1.2, atT_in h5, atT_in h6.1.2, atT_in h6.2⟩
/-- the room of a frame: what stood there before, and the pot -/
def RmOK (R : Room) (d c0 s0 n : Nat) : Prop := d + 1 ≤ R.frames ∧ 40 * d + 40 ≤ R.locals ∧ c0 + n ≤ R.cells ∧ s0 + 2 * n ≤ R.slots
def PS (p : Program) (l : Launch) (e : Env) (R : Room) (c0 s0 : Nat) (s : State) (m : MethodId) (args : Array Value) (below : List Frame) (meth : Method) (c : Code) (G : Gp) (k : Nat) (A : Nat → Prop) (ad0 : Nat → Nat) (D0 : Mm) (Qf : State → Prop) (D1 : Mm) : Pst := fun pc ls st D =>
  pot D ≤ pot D1 ∧ ∀ (H : Heap) (locs : List Loc) (ad : Nat → Nat) (lsA : Array Slot), agree (nxt D0) ad0 ad → va_P G.1 vwCl (wsOf G.2.1 ad D) H → va_D A (wsOf G.2.1 ad D) → va_S A s.heap H locs → LOK ad G.2.2 (nL k) lsA ls → leD D0 D → (pot D = pot D0 → ad = ad0) → WFD D →
    W p l e R s m args below meth c H locs (c0 + (pot D - pot D0)) (s0 + 2 * (pot D - pot D0)) Qf (F0 m pc lsA (st.map (cv ad G.2.2)))
/-- behind a call -/
theorem call_arm {p : Program} {l : Launch} {e : Env} {R : Room} {c0 s0 : Nat} {s : State} {m : MethodId} {args : Array Value} {below : List Frame} {meth : Method} {c : Code} {G : Gp} {k : Nat} {A : Nat → Prop} {ad0 : Nat → Nat} {D0 : Mm} {Qf : State → Prop} {D1 : Mm}
    {pc : Nat} {ls rest : List Value} {st0 : List Value} {D D2 : Mm} {r : Option Value} {H : Heap} {locs : List Loc} {ad : Nat → Nat} {lsA : Array Slot} {As : Array Value} (hA : ∀ q : Nat, s.heap.size ≤ q → A q)
    (ha : agree (nxt D0) ad0 ad) (hD : va_D A (wsOf G.2.1 ad D)) (hS : va_S A s.heap H locs) (hl : LOK ad G.2.2 (nL k) lsA ls) (hp : leD D0 D) (hzd : pot D = pot D0 → ad = ad0) (hp2 : leD D D2)
    (hnl : (∀ v, v ∈ ls → nvV D v) ∨ pot D2 = pot D) (hnr : ∀ v, v ∈ rest → nvV D v)
    (hrun : va_Run p l e R s m args below meth c H locs (c0 + (pot D - pot D0)) (s0 + 2 * (pot D - pot D0)) (pot D2 - pot D) (2 * (pot D2 - pot D)) (F0 m pc lsA st0) (rest.map (cv ad G.2.2)) (MC G ad D H.size r D2 As) (va_A (wsOf G.2.1 ad D) H.size))
    (next : PS p l e R c0 s0 s m args below meth c G k A ad0 D0 Qf D1 (pc + 3) ls (r.toList ++ rest) D2) :
    W p l e R s m args below meth c H locs (c0 + (pot D - pot D0)) (s0 + 2 * (pot D - pot D0)) Qf (F0 m pc lsA st0) := by
  have hF : ∀ q, va_A (wsOf G.2.1 ad D) H.size q → A q := by
    intro q hq
    rcases hq with ⟨j, e, hj⟩ | hq
    · exact hD.2 j _ hj
    · exact hA q (Nat.le_trans hS.1 hq)
  refine va_callg (A1 := va_A (wsOf G.2.1 ad D) H.size) (Qx := MX G ad D H.size r D2) hrun hS (fun q _ h => hF q h) hF (fun v t H1 locs1 ht hvm hX hz hkeep hS1 => ?_)
  obtain ⟨ad2, ha2, hv, hP1, hK1, hD1, hz2, hW2⟩ := hX
  have hl2 : LOK ad2 G.2.2 (nL k) lsA ls := by
    rcases hnl with hnl | hnl
    · exact hl.agree ha2 hnl
    · rw [hz2 hnl]; exact hl
  have e1 : v.toList ++ rest.map (cv ad G.2.2) = (r.toList ++ rest).map (cv ad2 G.2.2) := by
    rw [hv, List.map_append, cv_agrees ha2 hnr]
    cases r <;> rfl
  rw [e1]
  have p1 := hp.1
  have p2 := hp2.1
  refine W.cs (cells' := c0 + (pot D2 - pot D0)) (slots' := s0 + 2 * (pot D2 - pot D0)) (by omega) (by omega) ?_
  exact next.2 H1 locs1 ad2 lsA (agree.tr ha ha2 hp.2.1) (by rw [← ht]; exact hP1) (hD1.weaken (fun _ _ _ h => hF _ h)) hS1 hl2 (leD.tr hp hp2) (fun e => (hz2 (by omega)).trans (hzd (by omega))) hW2
theorem jmp_ok {k pc : Nat} {i : Instr} {a b c d : Nat} (hk : k < mnames + 1) (h : ins k pc = some (i, a, b, c, d)) : jOK pc i = true := by
  obtain ⟨_, _, _, h3⟩ := ins_dec hk h
  exact h3
theorem roc_str {o : Nat} (h1 : 2000 ≤ o) (h2 : o < 2019) : roc o = strB.getD (o - 2000) [] := by
  unfold roc; rw [if_neg (by omega), if_neg (by omega)]
theorem lenB_get {i : Nat} : lenB.getD i 0 = (strB.getD i []).length := by
  unfold lenB
  rw [List.getD_eq_getElem?_getD, List.getD_eq_getElem?_getD, List.getElem?_map]
  cases strB[i]? <;> rfl
theorem RO_arr {ad : Nat → Nat} {fv : Value} {A : Nat → Prop} {U : State} {H : Heap} {o : Nat} (h : RO ad fv A U H) (ho : roK o) : va_T .byte (ad o) (roc o).length (fun j => .int ((roc o).getD j 0)) A U H := by
  rcases ho with ⟨h1, h2⟩ | rfl | rfl
  · have h3 := (h.1.1 (o - 2000) (by omega)).2.2.2
    rw [roc_str h1 h2]
    rw [lenB_get] at h3
    have e : 2000 + (o - 2000) = o := by omega
    dsimp only at h3
    rw [e] at h3
    exact h3
  · exact h.2.2.2.2.1
  · exact h.2.2.2.2.2.2.1
theorem clsneAll : (List.range mnames).all (fun k => decide ((nY k).cls ≠ "")) = true := by decide +kernel
theorem clsne {k : Nat} (hk : k < mnames) : (nY k).cls ≠ "" := of_decide_eq_true (List.all_eq_true.mp clsneAll k (List.mem_range.mpr hk))
theorem wsm_in {k : Nat} (hk : k < mnames) : ∀ w ∈ wsm k, w ∈ Tall := fun w hw => (goodW k hk w hw).1
theorem rm_ok {R : Room} {d b x c0 s0 n : Nat} (h1 : 1 ≤ d) (h2 : nL b ≤ 21) (h : RmOK R d c0 s0 n) : (rmD (d - 1) x).frames + 1 ≤ R.frames ∧ 8 + (nL b + 11) + (rmD (d - 1) x).locals ≤ R.locals := by
  obtain ⟨a, b, -, -⟩ := h
  constructor
  · show d - 1 + 1 + 1 ≤ _
    omega
  · show 8 + (_ + 11) + (40 * (d - 1) + 40) ≤ _
    omega
theorem cat_le {ad : Nat → Nat} {fv : Value} (hf : fv.category = 1) {st : List Value} (h : ∀ v, v ∈ st → c1B v = true) (hl : st.length ≤ 8) : ((st.map (cv ad fv)).map fun v => v.category).sum ≤ 8 := by
  have e : ((st.map (cv ad fv)).map fun v => v.category) = List.replicate st.length 1 := by
    apply List.eq_replicate_iff.mpr
    refine ⟨by simp, fun b hb => ?_⟩
    rw [List.map_map, List.mem_map] at hb
    obtain ⟨v, hv, rfl⟩ := hb
    exact c1_cat hf (h v hv)
  rw [e]
  simp
  exact hl
theorem st_split {b : Nat} {st : List Value} {o : Nat} (hn : nA b ≤ st.length) (h1 : 1 ≤ nA b) (h0 : ((st.take (nA b)).reverse)[0]? = some (.ref o)) : ∃ As : List Value, (st.take (nA b)).reverse = .ref o :: As ∧ As.length = nA b - 1 ∧ st = As.reverse ++ .ref o :: st.drop (nA b) := by
  cases hr : (st.take (nA b)).reverse with
  | nil => rw [hr] at h0; simp at h0
  | cons x As =>
    rw [hr] at h0
    simp at h0
    subst h0
    have hlen : ((st.take (nA b)).reverse).length = nA b := by simp; omega
    rw [hr] at hlen
    refine ⟨As, rfl, by simp at hlen; omega, ?_⟩
    have h2 : st.take (nA b) = As.reverse ++ [.ref o] := by
      rw [← List.reverse_reverse (st.take (nA b)), hr]
      simp
    have h3 := List.take_append_drop (nA b) st
    rw [h2, List.append_assoc] at h3
    exact h3.symm
theorem nF_le (k : Nat) : nF k ≤ 4 := by unfold nF; split <;> omega
theorem kd_obj {D : Mm} {o : Nat} (hW : WFD D) (ho : dv D o) (hk : kd D o < 20) : (kd D o = 0 ∨ kd D o = 8 ∨ kd D o = 9) ∧ ∃ q : vw_C, vwCl[kd D o]? = some q ∧ q.2.2 = nF (kd D o) := by
  have h := (hW.2 o ho).1
  rcases h with h | h | h | h | h
  · exact ⟨Or.inl h, by rw [h]; exact ⟨_, rfl, rfl⟩⟩
  · exact ⟨Or.inr (Or.inl h), by rw [h]; exact ⟨_, rfl, rfl⟩⟩
  · exact ⟨Or.inr (Or.inr h), by rw [h]; exact ⟨_, rfl, rfl⟩⟩
  · omega
  · omega
/-- the receiver of a call stands in the heap -/
theorem recv_ok {s : State} {G : Gp} {ad0 ad : Nat → Nat} {D D0 : Mm} {A : Nat → Prop} {H : Heap} {locs : List Loc} {o b : Nat} (ha : agree (nxt D0) ad0 ad) (hK : va_K G.1 vwCl (tysA G.2.1) s) (hRO0 : RO ad0 G.2.2 A s s.heap) (hP : va_P G.1 vwCl (wsOf G.2.1 ad D) H) (hS : va_S A s.heap H locs) (hW : WFD D) (ho : (rk o = b ∧ o < 1019) ∨ (dv D o ∧ kd D o = kb b ∧ kd D o < 20)) (hr : rcN b ≠ "") :
    ∃ cell : Cell, H[ad o]? = some cell ∧ cell.vm.isStatics = false ∧ s.vm.findClass (rcN b) = some cell.cls := by
  rcases ho with ⟨rfl, ho⟩ | ⟨ho, hk, hk2⟩
  · unfold rk at hr ⊢
    by_cases h : 1000 ≤ o ∧ o < 1019
    · rw [if_pos h] at hr ⊢
      have hE := (RO.agree ha hRO0).1
      have h2 := vk_recv hE (i := o - 1000) (by omega) hS
      have eo : 1000 + (o - 1000) = o := by omega
      rw [eo] at h2
      exact h2
    · rw [if_neg h] at hr ⊢
      have hlt : (sh o).1 < 20 := by
        rcases Nat.lt_or_ge (sh o).1 20 with q | q
        · exact q
        · refine absurd ?_ hr
          unfold rcN
          rw [if_neg ?_]
          · rw [List.getElem?_eq_none (by simp [vwCl]; omega)]
            rfl
          · intro e
            have ho2 : o < NC := sh_lt (by omega)
            have hm : sh o ∈ shL := by
              unfold sh
              rw [List.getD_eq_getElem?_getD, List.getElem?_eq_getElem (by rw [shAll.1]; exact ho2)]
              exact List.getElem_mem _
            have h9 : shL.all (fun s => !decide (s.1 = 25)) = true := by decide +kernel
            have := List.all_eq_true.mp h9 _ hm
            rw [e] at this
            cases this
      obtain ⟨-, q, hq, -⟩ := sh_cls hlt
      obtain ⟨cell, h1, h2, h3⟩ := va_recv hK hP (ci := (sh o).1) (q0 := ps o) (fs := (List.range (sh o).2.1).map (fld ad D o (sh o).2.2)) hq (by rw [ws_get (okSt rfl (by omega)), cell_obj hlt])
      refine ⟨cell, h1, h2, ?_⟩
      unfold rcN
      rw [if_neg (by omega), hq]
      exact h3
  · obtain ⟨h9, q, hq, hn⟩ := kd_obj hW ho hk2
    obtain ⟨cell, h1, h2, h3⟩ := va_recv hK hP (ci := kd D o) (q0 := ps o) (fs := (List.range (nF (kd D o))).map (dfl ad D o (kd D o))) hq (by rw [ws_get (Or.inr ho), cell_dobj ⟨ho, rfl⟩ (by omega) (by omega)])
    refine ⟨cell, h1, h2, ?_⟩
    unfold kb at hk
    by_cases e : b = 25
    · subst e
      rw [if_pos rfl] at hk
      rw [hk] at hq
      cases hq
      exact h3
    · rw [if_neg e] at hk
      unfold rcN
      rw [if_neg e, ← hk, hq]
      exact h3
set_option maxHeartbeats 4000000 in
theorem snd_stat {p : Program} {l : Launch} {e : Env} {R : Room} {c0 s0 : Nat} {s : State} {m : MethodId} {args : Array Value} {below : List Frame} {meth : Method} {c : Code} {G : Gp} {d k : Nat} {A : Nat → Prop} {ad0 : Nat → Nat} {D0 : Mm} {Qf : State → Prop} {D1 : Mm} (IH : Snd l G d) (hd1 : ∀ b a D Q, Ct d b a D Q → 1 ≤ d) (hR : RmOK R d c0 s0 (pot D1 - pot D0)) (hA : ∀ q : Nat, s.heap.size ≤ q → A q) (hk : k < mnames + 1)
    (hx : p.tables.exec = Jvm.exec) (hb : c.code = nB k) (hml : c.maxLocals = nL k) (hown : s.vm.findClass (cN (nO k)) = some m.cls) (htT : ∀ w ∈ Tall, w.before args s = true)
    (hK : va_K G.1 vwCl (tysA G.2.1) s) (hRO0 : RO ad0 G.2.2 A s s.heap) (hSX0 : SX ad0 (D0 4000) A s s.heap)
    {pc : Nat} {ls st : List Value} {D : Mm} {idx a b cc dd : Nat}
    (hi : ins k pc = some (.invokestatic idx, a, b, cc, dd)) (h : b < mnames ∧ cc = 1 ∧ callA (Ct d) b ls st D (fun st2 D1x => PS p l e R c0 s0 s m args below meth c G k A ad0 D0 Qf D1 (pc + 3) ls st2 D1x)) : PS p l e R c0 s0 s m args below meth c G k A ad0 D0 Qf D1 pc ls st D := by
  obtain ⟨hbm, hcc, hn, hnr0, h8, hrecv, h⟩ := h
  have hnr : ∀ v, v ∈ st.drop (nA b) → nvV D v := fun v hv => (hnr0 v hv).1
  have hc1 : ∀ v, v ∈ st.drop (nA b) → c1B v = true := fun v hv => (hnr0 v hv).2
  have hf : G.2.2.category = 1 := hRO0.2.2.2.2.2.2.2.2
  obtain ⟨r, D2, ⟨hnl, hnext⟩, hp2, hC⟩ := Ct_exact d _ _ _ _ h
  have hd := hd1 _ _ _ _ hC
  obtain ⟨m1, m2, m3, m4, m6, m7, m8, m9, m10⟩ := mfact hbm
  obtain ⟨hlink, -, g1, -⟩ := call_fact hk hbm (Or.inr (Or.inl rfl)) hi
  have hlink := hlink (by omega)
  have hst := g1 hcc
  rw [if_pos hst] at m2 m6
  refine ⟨Nat.le_trans hp2.1 hnext.1, fun H locs ad lsA ha hP hD hS hl hp hz hw => ?_⟩
  have hM := IH b ((st.take (nA b)).reverse) D r D2 ad H.size hC
  have hpre := MP_pre (as := ((st.take (nA b)).reverse).map (cv ad G.2.2)) hP hK hD hS hA (RO.agree ha hRO0) hw (by rw [hp.2.2]; exact SX.agree ha hSX0)
  have hpd : pot D2 ≤ pot D1 := hnext.1
  have q1 := hp.1
  have q2 := hp2.1
  have hroom : c0 + (pot D - pot D0) + (pot D2 - pot D) ≤ R.cells ∧ s0 + 2 * (pot D - pot D0) + 2 * (pot D2 - pot D) ≤ R.slots := by
    obtain ⟨-, -, r3, r4⟩ := hR
    exact ⟨by omega, by omega⟩
  refine call_arm (As := (((st.take (nA b)).reverse).map (cv ad G.2.2)).toArray) hA ha hD hS hl hp hz hp2 hnl hnr ?_ hnext
  refine va_runS (As := ((st.take (nA b)).reverse).map (cv ad G.2.2)) (n := nA b) (y := nY b) (bytes := nB b) (maxL := nL b) (ret := nR b) ⟨hx, hb, hml, hown, htT⟩ hM ?_ ⟨MP_blind, hpre⟩ rfl (by simp; omega) hl.1 ?_ (lv_room (cat_le hf hc1 h8)) (ins_d hk hi rfl) hroom
  · refine ⟨callB_of (nA b) htT (goodT (wsm_in hbm)) rfl rfl rfl (htT _ m1) (htT _ hlink) ⟨m4.1, m4.2, m6⟩ (rm_ok hd m9 hR), htT _ m2⟩
  · show st.map (cv ad G.2.2) = _
    rw [← List.map_reverse, List.reverse_reverse, ← List.map_append, List.take_append_drop]
set_option maxHeartbeats 4000000 in
theorem snd_virt {p : Program} {l : Launch} {e : Env} {R : Room} {c0 s0 : Nat} {s : State} {m : MethodId} {args : Array Value} {below : List Frame} {meth : Method} {c : Code} {G : Gp} {d k : Nat} {A : Nat → Prop} {ad0 : Nat → Nat} {D0 : Mm} {Qf : State → Prop} {D1 : Mm} (IH : Snd l G d) (hd1 : ∀ b a D Q, Ct d b a D Q → 1 ≤ d) (hR : RmOK R d c0 s0 (pot D1 - pot D0)) (hA : ∀ q : Nat, s.heap.size ≤ q → A q) (hk : k < mnames + 1)
    (hx : p.tables.exec = Jvm.exec) (hb : c.code = nB k) (hml : c.maxLocals = nL k) (hown : s.vm.findClass (cN (nO k)) = some m.cls) (htT : ∀ w ∈ Tall, w.before args s = true)
    (hK : va_K G.1 vwCl (tysA G.2.1) s) (hRO0 : RO ad0 G.2.2 A s s.heap) (hSX0 : SX ad0 (D0 4000) A s s.heap)
    {pc : Nat} {ls st : List Value} {D : Mm} {idx a b cc dd : Nat}
    (hi : ins k pc = some (.invokevirtual idx, a, b, cc, dd)) (h : b < mnames ∧ (cc = 0 ∨ cc = 2 ∨ cc = 6) ∧ callA (Ct d) b ls st D (fun st2 D1x => PS p l e R c0 s0 s m args below meth c G k A ad0 D0 Qf D1 (pc + 3) ls st2 D1x)) : PS p l e R c0 s0 s m args below meth c G k A ad0 D0 Qf D1 pc ls st D := by
  obtain ⟨hbm, hcc, hn, hnr0, h8, hrecv, h⟩ := h
  have hnr : ∀ v, v ∈ st.drop (nA b) → nvV D v := fun v hv => (hnr0 v hv).1
  have hc1 : ∀ v, v ∈ st.drop (nA b) → c1B v = true := fun v hv => (hnr0 v hv).2
  have hf : G.2.2.category = 1 := hRO0.2.2.2.2.2.2.2.2
  obtain ⟨r, D2, ⟨hnl, hnext⟩, hp2, hC⟩ := Ct_exact d _ _ _ _ h
  have hd := hd1 _ _ _ _ hC
  obtain ⟨m1, m2, m3, m4, m6, m7, m8, m9, m10⟩ := mfact hbm
  obtain ⟨hlink, g0, -, g2, -, -, g6⟩ := call_fact hk hbm (Or.inl rfl) hi
  have hst : nS b = 0 := by
    rcases hcc with q | q | q
    · exact (g0 q).1
    · exact (g2 q).1
    · exact (g6 q).1
  rw [if_neg (by omega)] at m2 m6
  obtain ⟨o, ho, hrk⟩ := hrecv hst
  obtain ⟨As, hAs, hAl, hspl⟩ := st_split hn (by omega) ho
  refine ⟨Nat.le_trans hp2.1 hnext.1, fun H locs ad lsA ha hP hD hS hl hp hz hw => ?_⟩
  have hM := IH b ((st.take (nA b)).reverse) D r D2 ad H.size hC
  have hpre := MP_pre (as := ((st.take (nA b)).reverse).map (cv ad G.2.2)) hP hK hD hS hA (RO.agree ha hRO0) hw (by rw [hp.2.2]; exact SX.agree ha hSX0)
  have hpd : pot D2 ≤ pot D1 := hnext.1
  have q1 := hp.1
  have q2 := hp2.1
  have hroom : c0 + (pot D - pot D0) + (pot D2 - pot D) ≤ R.cells ∧ s0 + 2 * (pot D - pot D0) + 2 * (pot D2 - pot D) ≤ R.slots := by
    obtain ⟨-, -, r3, r4⟩ := hR
    exact ⟨by omega, by omega⟩
  rw [hAs] at hM hpre
  refine call_arm (As := (Value.ref (ad o) :: As.map (cv ad G.2.2)).toArray) hA ha hD hS hl hp hz hp2 hnl hnr ?_ hnext
  have hstk : (F0 m pc lsA (st.map (cv ad G.2.2))).stack = (As.map (cv ad G.2.2)).reverse ++ .ref (ad o) :: (st.drop (nA b)).map (cv ad G.2.2) := by
    show st.map (cv ad G.2.2) = _
    conv => lhs; rw [hspl]
    rw [List.map_append, List.map_reverse]
    rfl
  rcases hcc with hcc | hcc | hcc
  · have hlink := hlink (by omega)
    obtain ⟨-, g5, g7⟩ := g0 hcc
    have hcell := recv_ok ha hK hRO0 hP hS hw hrk (by rw [g5]; exact clsne hbm)
    rw [g5] at hcell
    refine va_runV (As := As.map (cv ad G.2.2)) (n := nA b - 1) (y := nY b) (bytes := nB b) (maxL := nL b) (ret := nR b) (C := (nY b).cls) ⟨hx, hb, hml, hown, htT⟩ hM ?_ ⟨MP_blind, hcell, hpre⟩ rfl (by simp; omega) hl.1 hstk (lv_room (cat_le hf hc1 h8)) (ins_d hk hi rfl) hroom
    refine cwV (nA b - 1) htT (goodT ?_) rfl rfl rfl ⟨rfl, m4.1, m4.2, m6⟩ (rm_ok hd m9 hR)
    intro w hw
    unfold wsV at hw
    simp only [List.cons_append, List.nil_append, List.mem_cons] at hw
    rcases hw with rfl | rfl | rfl | rfl | hw
    · exact hlink
    · exact m2
    · exact g7
    · exact m1
    · exact wsm_in hbm w (by simpa using hw)
  · have hlink := hlink (by omega)
    obtain ⟨-, g5, g7, g8⟩ := g2 hcc
    have hcell := recv_ok ha hK hRO0 hP hS hw hrk (by rw [g5]; decide)
    rw [g5] at hcell
    refine va_runU (As := As.map (cv ad G.2.2)) (n := nA b - 1) (x := nY b) (y := nY b) (owner := (nY b).cls) (bytes := nB b) (maxL := nL b) (ret := nR b) (C := "java/lang/StringBuilder") ⟨hx, hb, hml, hown, htT⟩ hM ?_ ⟨MP_blind, hcell, hpre⟩ rfl (by simp; omega) hl.1 hstk (lv_room (cat_le hf hc1 h8)) (ins_d hk hi rfl) hroom
    refine va_cwU (nA b - 1) htT (goodT ?_) rfl rfl rfl rfl ⟨m4.1, m4.2, m6⟩ (rm_ok hd m9 hR)
    intro w hw
    unfold va_wsU at hw
    simp only [List.cons_append, List.nil_append, List.mem_cons] at hw
    rcases hw with rfl | rfl | rfl | rfl | rfl | hw
    · exact hlink
    · exact g8
    · exact g7
    · exact m2
    · exact m1
    · exact wsm_in hbm w (by simpa using hw)
  · obtain ⟨-, g5, g7, g8, g9, gl, gs, gm⟩ := g6 hcc
    have hcell := recv_ok ha hK hRO0 hP hS hw hrk (by rw [g5]; decide)
    rw [g5] at hcell
    obtain ⟨-, n2, -, -, -, -, -, -, -⟩ := mfact g8
    rw [if_neg (by omega), g7] at n2
    have hcd := codeIn (k6 b) g8
    rw [g7] at hcd
    refine va_runU (As := As.map (cv ad G.2.2)) (n := nA b - 1) (x := ⟨"java/lang/AbstractStringBuilder", (nY b).name, (nY b).desc⟩) (y := nY b) (owner := "java/lang/AbstractStringBuilder") (bytes := nB b) (maxL := nL b) (ret := nR b) (C := "java/lang/StringBuilder") ⟨hx, hb, hml, hown, htT⟩ hM ?_ ⟨MP_blind, hcell, hpre⟩ rfl (by simp; omega) hl.1 hstk (lv_room (cat_le hf hc1 h8)) (ins_d hk hi rfl) hroom
    refine va_cwO (nA b - 1) htT (goodT ?_) rfl rfl rfl hcd ⟨by decide, by decide, m6⟩ (rm_ok hd m9 hR)
    intro w hw
    unfold va_wsO at hw
    simp only [List.cons_append, List.nil_append, List.mem_cons] at hw
    rcases hw with rfl | rfl | rfl | rfl | rfl | rfl | hw
    · exact gl
    · exact gm
    · exact n2
    · exact gs
    · exact m2
    · exact m1
    · exact wsm_in hbm w (by simpa using hw)
set_option maxHeartbeats 4000000 in
theorem snd_spec {p : Program} {l : Launch} {e : Env} {R : Room} {c0 s0 : Nat} {s : State} {m : MethodId} {args : Array Value} {below : List Frame} {meth : Method} {c : Code} {G : Gp} {d k : Nat} {A : Nat → Prop} {ad0 : Nat → Nat} {D0 : Mm} {Qf : State → Prop} {D1 : Mm} (IH : Snd l G d) (hd1 : ∀ b a D Q, Ct d b a D Q → 1 ≤ d) (hR : RmOK R d c0 s0 (pot D1 - pot D0)) (hA : ∀ q : Nat, s.heap.size ≤ q → A q) (hk : k < mnames + 1)
    (hx : p.tables.exec = Jvm.exec) (hb : c.code = nB k) (hml : c.maxLocals = nL k) (hown : s.vm.findClass (cN (nO k)) = some m.cls) (htT : ∀ w ∈ Tall, w.before args s = true)
    (hK : va_K G.1 vwCl (tysA G.2.1) s) (hRO0 : RO ad0 G.2.2 A s s.heap) (hSX0 : SX ad0 (D0 4000) A s s.heap)
    {pc : Nat} {ls st : List Value} {D : Mm} {idx a b cc dd : Nat}
    (hi : ins k pc = some (.invokespecial idx, a, b, cc, dd)) (h : b < mnames ∧ (cc = 3 ∨ cc = 4) ∧ callA (Ct d) b ls st D (fun st2 D1x => PS p l e R c0 s0 s m args below meth c G k A ad0 D0 Qf D1 (pc + 3) ls st2 D1x)) : PS p l e R c0 s0 s m args below meth c G k A ad0 D0 Qf D1 pc ls st D := by
  obtain ⟨hbm, hcc, hn, hnr0, h8, hrecv, h⟩ := h
  have hnr : ∀ v, v ∈ st.drop (nA b) → nvV D v := fun v hv => (hnr0 v hv).1
  have hc1 : ∀ v, v ∈ st.drop (nA b) → c1B v = true := fun v hv => (hnr0 v hv).2
  have hf : G.2.2.category = 1 := hRO0.2.2.2.2.2.2.2.2
  obtain ⟨r, D2, ⟨hnl, hnext⟩, hp2, hC⟩ := Ct_exact d _ _ _ _ h
  have hd := hd1 _ _ _ _ hC
  obtain ⟨m1, m2, m3, m4, m6, m7, m8, m9, m10⟩ := mfact hbm
  obtain ⟨hlink, -, -, -, g3, g4, -⟩ := call_fact hk hbm (Or.inr (Or.inr rfl)) hi
  have hlink := hlink (by rcases hcc with q | q <;> (rw [q]; decide))
  have hst : nS b = 0 := by
    rcases hcc with q | q
    · exact (g3 q).1
    · exact (g4 q).1
  rw [if_neg (by omega)] at m2 m6
  obtain ⟨o, ho, hrk⟩ := hrecv hst
  obtain ⟨As, hAs, hAl, hspl⟩ := st_split hn (by omega) ho
  refine ⟨Nat.le_trans hp2.1 hnext.1, fun H locs ad lsA ha hP hD hS hl hp hz hw => ?_⟩
  have hM := IH b ((st.take (nA b)).reverse) D r D2 ad H.size hC
  have hpre := MP_pre (as := ((st.take (nA b)).reverse).map (cv ad G.2.2)) hP hK hD hS hA (RO.agree ha hRO0) hw (by rw [hp.2.2]; exact SX.agree ha hSX0)
  have hpd : pot D2 ≤ pot D1 := hnext.1
  have q1 := hp.1
  have q2 := hp2.1
  have hroom : c0 + (pot D - pot D0) + (pot D2 - pot D) ≤ R.cells ∧ s0 + 2 * (pot D - pot D0) + 2 * (pot D2 - pot D) ≤ R.slots := by
    obtain ⟨-, -, r3, r4⟩ := hR
    exact ⟨by omega, by omega⟩
  rw [hAs] at hM hpre
  refine call_arm (As := (Value.ref (ad o) :: As.map (cv ad G.2.2)).toArray) hA ha hD hS hl hp hz hp2 hnl hnr ?_ hnext
  have hstk : (F0 m pc lsA (st.map (cv ad G.2.2))).stack = (As.map (cv ad G.2.2)).reverse ++ .ref (ad o) :: (st.drop (nA b)).map (cv ad G.2.2) := by
    show st.map (cv ad G.2.2) = _
    conv => lhs; rw [hspl]
    rw [List.map_append, List.map_reverse]
    rfl
  rcases hcc with hcc | hcc
  · obtain ⟨-, g5, g7, g8, g9⟩ := g3 hcc
    have hcell := recv_ok ha hK hRO0 hP hS hw hrk (by rw [g5]; decide)
    rw [g5] at hcell
    refine va_runSU (As := As.map (cv ad G.2.2)) (n := nA b - 1) (y := nY b) (bytes := nB b) (maxL := nL b) (ret := nR b) (C := "java/lang/StringBuilder") (hK.1 0 _ rfl).2 ⟨hx, hb, hml, hown, htT⟩ hM ?_ ⟨MP_blind, hcell, hpre⟩ rfl (by simp; omega) hl.1 hstk (lv_room (cat_le hf hc1 h8)) (ins_d hk hi rfl) hroom
    refine va_cwSU (nA b - 1) htT (goodT ?_) rfl rfl rfl ⟨g9, m6⟩ (rm_ok hd m9 hR)
    intro w hw
    unfold va_wsSU at hw
    simp only [List.cons_append, List.nil_append, List.mem_cons] at hw
    rcases hw with rfl | rfl | rfl | rfl | rfl | hw
    · exact hlink
    · exact g7
    · exact g8
    · exact m2
    · exact m1
    · exact wsm_in hbm w (by simpa using hw)
  · obtain ⟨-, g5, g7⟩ := g4 hcc
    have hM : Met l (nY b) (Cond.code (nY b) (nB b) (nL b) none :: Tall) (rmD (d - 1) (pot D2 - pot D)) (va_Pc ((Value.ref o :: As).map (cv ad G.2.2)) (MP G ad D H.size)) (MC G ad D H.size r D2) (pot D2 - pot D) (2 * (pot D2 - pot D)) (va_A (wsOf G.2.1 ad D) H.size) := by rw [← g7]; exact hM
    have hci := codeIn b hbm
    rw [g7] at hci
    refine va_runI (As := As.map (cv ad G.2.2)) (n := nA b - 1) (y := nY b) (bytes := nB b) (maxL := nL b) ⟨hx, hb, hml, hown, htT⟩ hM ?_ ⟨MP_blind, hpre⟩ rfl (by simp; omega) hl.1 hstk (lv_room (cat_le hf hc1 h8)) (ins_d hk hi rfl) hroom
    refine ⟨callB_of (nA b - 1) htT (goodT ?_) rfl rfl rfl (htT _ m1) (htT _ hlink) ⟨m4.1, m4.2, m6⟩ (rm_ok hd m9 hR), g5, htT _ m2⟩
    intro w hw
    rcases List.mem_cons.mp hw with e9 | e9
    · rw [e9]; exact hci
    · exact e9
theorem zw_a_int : Cond.arrayClass .int ∈ Tall := atT_in (i := 3085) (by decide +kernel)
theorem zw_a_boolean : Cond.arrayClass .boolean ∈ Tall := atT_in (i := 3132) (by decide +kernel)
theorem zw_a_byte : Cond.arrayClass .byte ∈ Tall := atT_in (i := 4012) (by decide +kernel)
theorem zw_oI : Cond.instanceMethod objectInit ∈ Tall := atT_in (i := 3027) (by decide +kernel)
theorem zw_oC : Cond.code objectInit ⟨#[0xb1]⟩ 1 none ∈ Tall := atT_in (i := 3028) (by decide +kernel)
theorem zw_sAC : Cond.static arraycopyName ∈ Tall := atT_in (i := 5173) (by decide +kernel)
theorem zw_nAC : Cond.native arraycopyName ∈ Tall := atT_in (i := 5174) (by decide +kernel)
theorem zw_iSys : Cond.initialized "java/lang/System" ∈ Tall := atT_in (i := 3018) (by decide +kernel)
theorem zw_kSame : Cond.sameMethod "[B" "java/lang/Object" "clone" "()Ljava/lang/Object;" ∈ Tall := atT_in (i := 5165) (by decide +kernel)
theorem zw_kNat : Cond.native ⟨"java/lang/Object", "clone", "()Ljava/lang/Object;"⟩ ∈ Tall := atT_in (i := 5166) (by decide +kernel)
theorem zw_kIns : Cond.instanceMethod ⟨"java/lang/Object", "clone", "()Ljava/lang/Object;"⟩ ∈ Tall := atT_in (i := 5167) (by decide +kernel)
theorem zw_kSel : Cond.selects "[B" ⟨"[B", "clone", "()Ljava/lang/Object;"⟩ ⟨"java/lang/Object", "clone", "()Ljava/lang/Object;"⟩ ∈ Tall := atT_in (i := 5168) (by decide +kernel)
set_option maxHeartbeats 4000000 in
theorem snd_cpy {p : Program} {l : Launch} {e : Env} {R : Room} {c0 s0 : Nat} {s : State} {m : MethodId} {args : Array Value} {below : List Frame} {meth : Method} {c : Code} {G : Gp} {d k : Nat} {A : Nat → Prop} {ad0 : Nat → Nat} {D0 : Mm} {Qf : State → Prop} {D1 : Mm} (hR : RmOK R d c0 s0 (pot D1 - pot D0)) (hA : ∀ q : Nat, s.heap.size ≤ q → A q) (hk : k < mnames + 1)
    (hx : p.tables.exec = Jvm.exec) (hb : c.code = nB k) (hml : c.maxLocals = nL k) (hown : s.vm.findClass (cN (nO k)) = some m.cls) (htT : ∀ w ∈ Tall, w.before args s = true)
    (hK : va_K G.1 vwCl (tysA G.2.1) s) (hRO0 : RO ad0 G.2.2 A s s.heap) (hSX0 : SX ad0 (D0 4000) A s s.heap)
    {pc : Nat} {ls st : List Value} {D : Mm} {idx a b cc dd : Nat}
    (hi : ins k pc = some (.invokestatic idx, a, b, cc, dd)) (hb9 : b = 998) (h : cpyA (PS p l e R c0 s0 s m args below meth c G k A ad0 D0 Qf D1) pc ls D st) : PS p l e R c0 s0 s m args below meth c G k A ad0 D0 Qf D1 pc ls st D := by
  have hf : G.2.2.category = 1 := hRO0.2.2.2.2.2.2.2.2
  unfold cpyA at h
  split at h
  · next n dp dst sp src r =>
    obtain ⟨y1, y2, y3, y4, y5, y6, y7, y8, y9, y9b, y10, h⟩ := h
    have hdd := y2.1.1
    have hpt : pot (cpD D src dst sp.toNatClampNeg dp.toNatClampNeg n.toNatClampNeg) = pot D := by
      unfold DB at hdd
      unfold pot cap usd
      rw [cp_ne (by omega), cp_ne (by omega), cp_ne (by omega)]
    have hle := leD_cp (D := D) (src := src) (sp := sp.toNatClampNeg) (dp := dp.toNatClampNeg) (n := n.toNatClampNeg) y2.1
    have hhi : ∀ j, 1000000 ≤ j → cpD D src dst sp.toNatClampNeg dp.toNatClampNeg n.toNatClampNeg dst j = D dst j := fun j hj => by
      show (if dst = dst then va_cpy _ _ _ _ _ _ else _) = _
      rw [if_pos rfl]
      exact pk_cpy_out (Or.inr (by omega))
    have hdy2 : dyn (cpD D src dst sp.toNatClampNeg dp.toNatClampNeg n.toNatClampNeg) dst 22 := ⟨⟨y2.1.1, by unfold nxt; rw [cp_ne (by unfold DB at hdd; omega)]; exact y2.1.2⟩, by unfold kd; rw [hhi _ (by decide)]; exact y2.2⟩
    have hcp2 : cap (cpD D src dst sp.toNatClampNeg dp.toNatClampNeg n.toNatClampNeg) dst = cap D dst := by unfold cap; rw [hhi _ (by decide)]
    refine ⟨by rw [← hpt]; exact h.1, fun H locs ad lsA ha hP hD hS hl hp hz hw => ?_⟩
    have hw2 : WFD (cpD D src dst sp.toNatClampNeg dp.toNatClampNeg n.toNatClampNeg) := hw.row (by unfold nxt; rw [cp_ne (by unfold DB at hdd; omega)]) (fun q hq => by
      by_cases e9 : q = dst
      · subst e9
        exact ⟨by unfold kd; rw [hhi _ (by decide)], fun hr => by rw [y2.2] at hr; cases hr⟩
      · unfold kd
        rw [cp_ne e9]
        exact ⟨rfl, fun _ => Or.inl rfl⟩)
    have hrow : cpD D src dst sp.toNatClampNeg dp.toNatClampNeg n.toNatClampNeg dst = va_cpy (csD D src) (D dst) sp.toNatClampNeg dp.toNatClampNeg n.toNatClampNeg := by
      funext j
      show (if dst = dst then _ else _) = _
      rw [if_pos rfl]
    have hset : (wsOf G.2.1 ad D).set (ps dst) (ad dst, .inl (G.2.1 2, cap D dst, .inl (va_cpy (csD D src) (D dst) sp.toNatClampNeg dp.toNatClampNeg n.toNatClampNeg))) = wsOf G.2.1 ad (cpD D src dst sp.toNatClampNeg dp.toNatClampNeg n.toNatClampNeg) :=
      ws_set (okD y2) (by unfold nxt; rw [cp_ne (by unfold DB at hdd; omega)]) (fun z hz9 => cp_ne hz9) (by rw [cell_dbyte hdy2, hcp2, hrow])
    have hnext : ∀ (H1 : Heap) (locs1 : List Loc), va_P G.1 vwCl ((wsOf G.2.1 ad D).set (ps dst) (ad dst, .inl (G.2.1 2, cap D dst, .inl (va_cpy (csD D src) (D dst) sp.toNatClampNeg dp.toNatClampNeg n.toNatClampNeg)))) H1 → va_D A ((wsOf G.2.1 ad D).set (ps dst) (ad dst, .inl (G.2.1 2, cap D dst, .inl (va_cpy (csD D src) (D dst) sp.toNatClampNeg dp.toNatClampNeg n.toNatClampNeg)))) → va_S A s.heap H1 locs1 →
        W p l e R s m args below meth c H1 locs1 (c0 + (pot D - pot D0)) (s0 + 2 * (pot D - pot D0)) Qf (F0 m (pc + 3) lsA (r.map (cv ad G.2.2))) := by
      intro H1 locs1 hP1 hD1 hS1
      rw [hset] at hP1 hD1
      have h9 := h.2 H1 locs1 ad lsA ha hP1 hD1 hS1 hl (leD.tr hp hle) (by rw [hpt]; exact hz) hw2
      rw [hpt] at h9
      exact h9
    have h3 := cat_le (ad := ad) hf y3 y4
    have hloc : ((r.map (cv ad G.2.2)).map fun v => v.category).sum + (nativeFrameWords "java/lang/System" "arraycopy" 5 + 11) ≤ R.locals := Nat.le_trans (Nat.add_le_add_right h3 _) (Nat.le_trans (Nat.le_of_ble_eq_true rfl : 8 + (nativeFrameWords "java/lang/System" "arraycopy" 5 + 11) ≤ 40) (by have := hR.2.1; omega))
    have hlk := htT _ (cpy_fact hk hb9 hi)
    rcases y1 with y1 | ⟨y1, y1b⟩
    · have e1 : csD D src = D src := by unfold csD; rw [if_neg (by have := y1.1.1; omega)]
      have e2 : csL D src = cap D src := by unfold csL; rw [if_neg (by have := y1.1.1; omega)]
      rw [e2] at y8
      rw [e1] at hnext y10
      exact va_copyi hx hb (hml.trans hl.1.symm) hown hlk (htT _ zw_nAC) (htT _ zw_sAC) (htT _ zw_iSys) hK hP hD hS (ps src) (ps dst) 2 2 (by rw [ws_get (okD y1), cell_dbyte y1]) (by rw [ws_get (okD y2), cell_dbyte y2]) rfl rfl rfl (by rw [Int32.not_lt, Int32.le_iff_toInt_le]; exact y5) (by rw [Int32.not_lt, Int32.le_iff_toInt_le]; exact y6) (by rw [Int32.not_lt, Int32.le_iff_toInt_le]; exact y7) y8 y9 y10 (by have := hR.1; omega) hloc (ins_d hk hi rfl) hnext
    · have e1 : csD D src = fun j => (roc src).getD j 0 := by unfold csD; rw [if_pos (show (src : Nat) < DB from Nat.lt_trans y1b (by decide))]
      have e2 : csL D src = (roc src).length := by unfold csL; rw [if_pos (show (src : Nat) < DB from Nat.lt_trans y1b (by decide))]
      rw [e2] at y8
      rw [e1] at hnext y10
      exact vk_copyt hx hb (hml.trans hl.1.symm) hown hlk (htT _ zw_nAC) (htT _ zw_sAC) (htT _ zw_iSys) hK hP hD hS (RO_arr (RO.agree ha hRO0) (Or.inl ⟨y1, y1b⟩)) (ps dst) 2 (by rw [ws_get (okD y2), cell_dbyte y2]) rfl (by rw [Int32.not_lt, Int32.le_iff_toInt_le]; exact y5) (by rw [Int32.not_lt, Int32.le_iff_toInt_le]; exact y6) (by rw [Int32.not_lt, Int32.le_iff_toInt_le]; exact y7) y8 y9 y10 (by have := hR.1; omega) hloc (ins_d hk hi rfl) hnext
  · exact h.elim
set_option maxHeartbeats 4000000 in
theorem snd_cln {p : Program} {l : Launch} {e : Env} {R : Room} {c0 s0 : Nat} {s : State} {m : MethodId} {args : Array Value} {below : List Frame} {meth : Method} {c : Code} {G : Gp} {d k : Nat} {A : Nat → Prop} {ad0 : Nat → Nat} {D0 : Mm} {Qf : State → Prop} {D1 : Mm} (hR : RmOK R d c0 s0 (pot D1 - pot D0)) (hA : ∀ q : Nat, s.heap.size ≤ q → A q) (hk : k < mnames + 1)
    (hx : p.tables.exec = Jvm.exec) (hb : c.code = nB k) (hml : c.maxLocals = nL k) (hown : s.vm.findClass (cN (nO k)) = some m.cls) (htT : ∀ w ∈ Tall, w.before args s = true)
    (hK : va_K G.1 vwCl (tysA G.2.1) s) (hRO0 : RO ad0 G.2.2 A s s.heap) (hSX0 : SX ad0 (D0 4000) A s s.heap)
    {pc : Nat} {ls st : List Value} {D : Mm} {idx a b cc dd : Nat}
    (hi : ins k pc = some (.invokevirtual idx, a, b, cc, dd)) (hb9 : b = 997) (h : clnA (PS p l e R c0 s0 s m args below meth c G k A ad0 D0 Qf D1) pc ls D st) : PS p l e R c0 s0 s m args below meth c G k A ad0 D0 Qf D1 pc ls st D := by
  have hf : G.2.2.category = 1 := hRO0.2.2.2.2.2.2.2.2
  unfold clnA at h
  split at h
  · next ar r =>
    obtain ⟨y1, y2, y3, y4, y4b, hls, hst0, hfit, h⟩ := h
    have hst : lsok D r := fun v hv => hst0 v (List.mem_cons_of_mem _ hv)
    have hpd := h.1
    rw [al_pot hfit] at hpd
    refine ⟨by omega, fun H locs ad lsA ha hP hD hS hl hp hz hw => ?_⟩
    have q1' := hp.1
    obtain ⟨r1, r2, r3, r4⟩ := hR
    have h3 := cat_le (ad := ad) hf y3 y4
    have hdy : dyn (alD D (D ar) (cap D ar)) (DB + nxt D) 22 := ⟨⟨by omega, by rw [al_nxt hfit]; omega⟩, by unfold kd; rw [al_new]; exact y1.2⟩
    have hcp : cap (alD D (D ar) (cap D ar)) (DB + nxt D) = cap D ar := by unfold cap; rw [al_new]
    refine va_clone (x := (cap D ar, .inl (D ar))) (ty := .byte) hx hb (hml.trans hl.1.symm) hown (htT _ (cln_fact hk hb9 hi)) (htT _ zw_kSame) (htT _ zw_kNat) (htT _ zw_kIns) (htT _ zw_kSel) hSX0.2.2.2 hK hP hD hS hA (ps ar) 2 (cA := G.2.1 2) (by rw [ws_get (okD y1), cell_dbyte y1]) rfl (hK.2 2 (G.2.1 2, .byte) rfl).2 (fun i v hv => ?_) (by omega) (by omega) (by omega) (by show _ + cap D ar ≤ _; omega) (ins_d hk hi rfl) (fun q H1 hK1 hP1 hD1 hS1 => ?_)
    · have hv : (arrV (G.2.1 2) (cap D ar) (fun j => Value.int (D ar j))).slots[i]? = some v := hv
      unfold arrV at hv
      rw [Array.getElem?_ofFn] at hv
      split at hv
      · next hi9 => cases hv; exact y2 i hi9
      · cases hv
    · skip
      have hadA : agreeA (nxt D) ad (fun z => if z = DB + nxt D then q else ad z) := fun z hz9 => if_neg (by omega)
      have hws : wsOf G.2.1 (fun z => if z = DB + nxt D then q else ad z) (alD D (D ar) (cap D ar)) = wsOf G.2.1 ad D ++ [(q, .inl (G.2.1 2, cap D ar, .inl (D ar)))] := ws_al hw hfit hadA (if_pos rfl) (by rw [cell_dbyte hdy, hcp, al_new])
      rw [← hws] at hP1 hD1
      have hle := leD_al (f := (D ar)) hfit
      have hpa := al_pot (f := (D ar)) hfit
      have q1 := hp.1
      have h9 := h.2 H1 locs (fun z => if z = DB + nxt D then q else ad z) lsA (agree.tr ha hadA.a hp.2.1) hP1 hD1 hS1 (hl.agreeA hadA hls) (leD.tr hp hle) (fun e9 => by omega) (hw.al hfit (by have := y1.2; unfold kd at this; rw [this]; decide) (fun z => by have := y1.2; unfold kd at this; rw [this] at z; cases z))
      have e1 : (Value.ref (DB + nxt D) :: r : List Value).map (cv (fun z => if z = DB + nxt D then q else ad z) G.2.2) = Value.ref q :: (r : List Value).map (cv ad G.2.2) := by
        rw [List.map_cons, show cv (fun z => if z = DB + nxt D then q else ad z) G.2.2 (.ref (DB + nxt D)) = Value.ref q from congrArg Value.ref (if_pos rfl)]
        exact congrArg _ (List.map_congr_left (fun v hv => cv_agreeA hadA (hst v hv)))
      rw [e1] at h9
      exact W.widen (by omega) (by omega) h9
  · exact h.elim
set_option maxHeartbeats 8000000 in
theorem snd_step {p : Program} {l : Launch} {e : Env} {R : Room} {c0 s0 : Nat} {s : State} {m : MethodId} {args : Array Value} {below : List Frame} {meth : Method} {c : Code} {G : Gp} {d k : Nat} {A : Nat → Prop} {ad0 : Nat → Nat} {D0 : Mm} {Qf : State → Prop} {D1 : Mm} (IH : Snd l G d) (hd1 : ∀ b a D Q, Ct d b a D Q → 1 ≤ d) (hR : RmOK R d c0 s0 (pot D1 - pot D0)) (hA : ∀ q : Nat, s.heap.size ≤ q → A q) (hk : k < mnames + 1)
    (hx : p.tables.exec = Jvm.exec) (hb : c.code = nB k) (hml : c.maxLocals = nL k) (hown : s.vm.findClass (cN (nO k)) = some m.cls) (htT : ∀ w ∈ Tall, w.before args s = true)
    (hK : va_K G.1 vwCl (tysA G.2.1) s) (hRO0 : RO ad0 G.2.2 A s s.heap) (hSX0 : SX ad0 (D0 4000) A s s.heap)
    (hnmI : (nY k).name = "<init>" → meth.name = "<init>") {Qr : Option Value → Mm → Prop} (hret : ∀ (pc : Nat) (ls st : List Value) (D : Mm) (i : Instr) (a b cc dd : Nat), ins k pc = some (i, a, b, cc, dd) → (i = .ireturn ∨ i = .areturn ∨ i = .return_ ∨ i = .dreturn ∨ i = .freturn) → Step (Ct d) k Qr (PS p l e R c0 s0 s m args below meth c G k A ad0 D0 Qf D1) pc ls st D → PS p l e R c0 s0 s m args below meth c G k A ad0 D0 Qf D1 pc ls st D)
    (pc : Nat) (ls st : List Value) (D : Mm) (h : Step (Ct d) k Qr (PS p l e R c0 s0 s m args below meth c G k A ad0 D0 Qf D1) pc ls st D) : PS p l e R c0 s0 s m args below meth c G k A ad0 D0 Qf D1 pc ls st D := by
  have hf : G.2.2.category = 1 := hRO0.2.2.2.2.2.2.2.2
  cases hi : ins k pc with
  | none => unfold Step at h; rw [hi] at h; exact h.elim
  | some e0 =>
    obtain ⟨i, a, b, cc, dd⟩ := e0
    unfold Step at h
    rw [hi] at h
    cases i
    case iconst =>
      refine ⟨h.1, fun H locs ad lsA ha hP hD hS hl hp hz hw => ?_⟩
      exact lv_iconst hx hb (ins_d hk hi rfl) rfl (h.2 H locs ad lsA ha hP hD hS hl hp hz hw)
    case bipush =>
      refine ⟨h.1, fun H locs ad lsA ha hP hD hS hl hp hz hw => ?_⟩
      exact lv_bipush hx hb (ins_d hk hi rfl) rfl (h.2 H locs ad lsA ha hP hD hS hl hp hz hw)
    case sipush =>
      refine ⟨h.1, fun H locs ad lsA ha hP hD hS hl hp hz hw => ?_⟩
      exact lv_sipush hx hb (ins_d hk hi rfl) rfl (h.2 H locs ad lsA ha hP hD hS hl hp hz hw)
    case goto =>
      refine ⟨h.1, fun H locs ad lsA ha hP hD hS hl hp hz hw => ?_⟩
      exact lv_goto hx hb (ins_d hk hi rfl) (tg_eq (of_decide_eq_true (jmp_ok hk hi))) (h.2 H locs ad lsA ha hP hD hS hl hp hz hw)
    case iload_n =>
      obtain ⟨v, e1, h⟩ := lI_spec h
      refine ⟨h.1, fun H locs ad lsA ha hP hD hS hl hp hz hw => ?_⟩
      exact lv_iload_n hx hb (ins_d hk hi rfl) rfl (hl.get e1 rfl) (h.2 H locs ad lsA ha hP hD hS hl hp hz hw)
    case iload =>
      obtain ⟨v, e1, h⟩ := lI_spec h
      refine ⟨h.1, fun H locs ad lsA ha hP hD hS hl hp hz hw => ?_⟩
      exact lv_iload hx hb (ins_d hk hi rfl) (hl.get e1 rfl) (h.2 H locs ad lsA ha hP hD hS hl hp hz hw)
    case aload_n =>
      obtain ⟨v, e1, h⟩ := lA_spec h
      refine ⟨h.1, fun H locs ad lsA ha hP hD hS hl hp hz hw => ?_⟩
      exact lv_aload_n hx hb (ins_d hk hi rfl) rfl (hl.get e1 rfl) (h.2 H locs ad lsA ha hP hD hS hl hp hz hw)
    case aload =>
      obtain ⟨v, e1, h⟩ := lA_spec h
      refine ⟨h.1, fun H locs ad lsA ha hP hD hS hl hp hz hw => ?_⟩
      exact lv_aload hx hb (ins_d hk hi rfl) (hl.get e1 rfl) (h.2 H locs ad lsA ha hP hD hS hl hp hz hw)
    case istore_n =>
      obtain ⟨v, r, rfl, h0, h⟩ := sI_spec h
      refine ⟨h.1, fun H locs ad lsA ha hP hD hS hl hp hz hw => ?_⟩
      exact lv_istore_n hx hb (ins_d hk hi rfl) rfl hl.has (by rw [← hl.2.2.1]; exact h0) rfl (fun lsB hB => h.2 H locs ad lsB ha hP hD hS (hl.set hf h0 rfl (by simp) hB) hp hz hw)
    case istore =>
      obtain ⟨v, r, rfl, h0, h⟩ := sI_spec h
      refine ⟨h.1, fun H locs ad lsA ha hP hD hS hl hp hz hw => ?_⟩
      exact lv_istore hx hb (ins_d hk hi rfl) hl.has (by rw [← hl.2.2.1]; exact h0) rfl (fun lsB hB => h.2 H locs ad lsB ha hP hD hS (hl.set hf h0 rfl (by simp) hB) hp hz hw)
    case astore_n =>
      obtain ⟨v, r, rfl, h0, h⟩ := sA_spec h
      refine ⟨h.1, fun H locs ad lsA ha hP hD hS hl hp hz hw => ?_⟩
      exact lv_astore_n hx hb (ins_d hk hi rfl) rfl hl.has (by rw [← hl.2.2.1]; exact h0) rfl (fun lsB hB => h.2 H locs ad lsB ha hP hD hS (hl.set hf h0 rfl (by simp) hB) hp hz hw)
    case astore =>
      obtain ⟨v, r, rfl, h0, h⟩ := sA_spec h
      refine ⟨h.1, fun H locs ad lsA ha hP hD hS hl hp hz hw => ?_⟩
      exact lv_astore hx hb (ins_d hk hi rfl) hl.has (by rw [← hl.2.2.1]; exact h0) rfl (fun lsB hB => h.2 H locs ad lsB ha hP hD hS (hl.set hf h0 rfl (by simp) hB) hp hz hw)
    case iinc x n =>
      obtain ⟨v, e1, h⟩ := lI_spec h
      have h0 : x < ls.length := (List.getElem?_eq_some_iff.mp e1).1
      refine ⟨h.1, fun H locs ad lsA ha hP hD hS hl hp hz hw => ?_⟩
      obtain ⟨kk, hkk⟩ := List.getElem?_of_mem (lpair_in (ad := ad) (fv := G.2.2) (q := (x, .int v)) |>.mpr ⟨_, e1, by simp, by simp, (fun z => by cases z), rfl⟩)
      exact lv_iinc hx hb (ins_d hk hi rfl) hl.has hkk rfl (by rw [← hl.2.2.1]; exact h0) rfl (fun lsB hB => h.2 H locs ad lsB ha hP hD hS (hl.set hf h0 rfl (by simp) hB) hp hz hw)
    case iadd =>
      obtain ⟨x, y, r, rfl, h⟩ := sII_spec h
      refine ⟨h.1, fun H locs ad lsA ha hP hD hS hl hp hz hw => ?_⟩
      exact lv_iadd hx hb (ins_d hk hi rfl) (h.2 H locs ad lsA ha hP hD hS hl hp hz hw)
    case isub =>
      obtain ⟨x, y, r, rfl, h⟩ := sII_spec h
      refine ⟨h.1, fun H locs ad lsA ha hP hD hS hl hp hz hw => ?_⟩
      exact lv_isub hx hb (ins_d hk hi rfl) (h.2 H locs ad lsA ha hP hD hS hl hp hz hw)
    case imul =>
      obtain ⟨x, y, r, rfl, h⟩ := sII_spec h
      refine ⟨h.1, fun H locs ad lsA ha hP hD hS hl hp hz hw => ?_⟩
      exact lv_imul hx hb (ins_d hk hi rfl) (h.2 H locs ad lsA ha hP hD hS hl hp hz hw)
    case iand =>
      obtain ⟨x, y, r, rfl, h⟩ := sII_spec h
      refine ⟨h.1, fun H locs ad lsA ha hP hD hS hl hp hz hw => ?_⟩
      exact lv_iand hx hb (ins_d hk hi rfl) (h.2 H locs ad lsA ha hP hD hS hl hp hz hw)
    case ior =>
      obtain ⟨x, y, r, rfl, h⟩ := sII_spec h
      refine ⟨h.1, fun H locs ad lsA ha hP hD hS hl hp hz hw => ?_⟩
      exact lv_ior hx hb (ins_d hk hi rfl) (h.2 H locs ad lsA ha hP hD hS hl hp hz hw)
    case ishr =>
      obtain ⟨x, y, r, rfl, h⟩ := sII_spec h
      refine ⟨h.1, fun H locs ad lsA ha hP hD hS hl hp hz hw => ?_⟩
      exact lv_ishr hx hb (ins_d hk hi rfl) (h.2 H locs ad lsA ha hP hD hS hl hp hz hw)
    case idiv =>
      obtain ⟨x, y, r, rfl, h0, h⟩ := sII_spec h
      refine ⟨h.1, fun H locs ad lsA ha hP hD hS hl hp hz hw => ?_⟩
      exact lv_idiv hx hb (ins_d hk hi rfl) h0 (h.2 H locs ad lsA ha hP hD hS hl hp hz hw)
    case irem =>
      obtain ⟨x, y, r, rfl, h0, h⟩ := sII_spec h
      refine ⟨h.1, fun H locs ad lsA ha hP hD hS hl hp hz hw => ?_⟩
      exact lv_irem hx hb (ins_d hk hi rfl) h0 (h.2 H locs ad lsA ha hP hD hS hl hp hz hw)
    case ineg =>
      obtain ⟨x, r, rfl, h⟩ := sI_spec h
      refine ⟨h.1, fun H locs ad lsA ha hP hD hS hl hp hz hw => ?_⟩
      exact lv_ineg hx hb (ins_d hk hi rfl) (h.2 H locs ad lsA ha hP hD hS hl hp hz hw)
    case i2b =>
      obtain ⟨x, r, rfl, h⟩ := sI_spec h
      refine ⟨h.1, fun H locs ad lsA ha hP hD hS hl hp hz hw => ?_⟩
      exact lv_i2b hx hb (ins_d hk hi rfl) rfl (h.2 H locs ad lsA ha hP hD hS hl hp hz hw)
    case i2c =>
      obtain ⟨x, r, rfl, h⟩ := sI_spec h
      refine ⟨h.1, fun H locs ad lsA ha hP hD hS hl hp hz hw => ?_⟩
      exact lv_i2c hx hb (ins_d hk hi rfl) rfl (h.2 H locs ad lsA ha hP hD hS hl hp hz hw)
    case dup =>
      match st, h with
      | v :: r, ⟨h0, h⟩ =>
        refine ⟨h.1, fun H locs ad lsA ha hP hD hS hl hp hz hw => ?_⟩
        exact lv_dup hx hb (ins_d hk hi rfl) (c1_cat hf h0) (h.2 H locs ad lsA ha hP hD hS hl hp hz hw)
    case pop =>
      match st, h with
      | v :: r, ⟨h0, h⟩ =>
        refine ⟨h.1, fun H locs ad lsA ha hP hD hS hl hp hz hw => ?_⟩
        exact lv_pop hx hb (ins_d hk hi rfl) (c1_cat hf h0) (h.2 H locs ad lsA ha hP hD hS hl hp hz hw)
    case dup_x1 =>
      match st, h with
      | v :: w :: r, ⟨h0, h1, h⟩ =>
        refine ⟨h.1, fun H locs ad lsA ha hP hD hS hl hp hz hw => ?_⟩
        exact lv_dup_x1 hx hb (ins_d hk hi rfl) (c1_cat hf h0) (c1_cat hf h1) (h.2 H locs ad lsA ha hP hD hS hl hp hz hw)
    case dup2 =>
      match st, h with
      | v :: w :: r, ⟨h0, h1, h⟩ =>
        refine ⟨h.1, fun H locs ad lsA ha hP hD hS hl hp hz hw => ?_⟩
        exact lv_dup2_11 hx hb (ins_d hk hi rfl) (c1_cat hf h0) (c1_cat hf h1) (h.2 H locs ad lsA ha hP hD hS hl hp hz hw)
    case ifCond cd off =>
      obtain ⟨x, r, rfl, hht, hhf⟩ := sI_spec h
      have hj := tg_eq (of_decide_eq_true (jmp_ok hk hi))
      refine ⟨(Classical.em (icmp cd x 0)).elim (fun q => (hht q).1) (fun q => (hhf q).1), fun H locs ad lsA ha hP hD hS hl hp hz hw => ?_⟩
      have k1 := fun q => (hht q).2 H locs ad lsA ha hP hD hS hl hp hz hw
      have k2 := fun q => (hhf q).2 H locs ad lsA ha hP hD hS hl hp hz hw
      cases cd
      case eq => exact lv_if_eq hx hb (ins_d hk hi rfl) hj k1 k2
      case ne => exact lv_if_ne hx hb (ins_d hk hi rfl) hj k1 (fun q => k2 (fun z => z q))
      case lt => exact lv_if_lt hx hb (ins_d hk hi rfl) hj k1 k2
      case ge => exact lv_if_ge hx hb (ins_d hk hi rfl) hj k1 k2
      case gt => exact lv_if_gt hx hb (ins_d hk hi rfl) hj k1 k2
      case le => exact lv_if_le hx hb (ins_d hk hi rfl) hj k1 k2
    case if_icmp cd off =>
      obtain ⟨x, y, r, rfl, hht, hhf⟩ := sII_spec h
      have hj := tg_eq (of_decide_eq_true (jmp_ok hk hi))
      refine ⟨(Classical.em (icmp cd x y)).elim (fun q => (hht q).1) (fun q => (hhf q).1), fun H locs ad lsA ha hP hD hS hl hp hz hw => ?_⟩
      have k1 := fun q => (hht q).2 H locs ad lsA ha hP hD hS hl hp hz hw
      have k2 := fun q => (hhf q).2 H locs ad lsA ha hP hD hS hl hp hz hw
      cases cd
      case eq => exact lv_icmp_eq hx hb (ins_d hk hi rfl) hj k1 k2
      case ne => exact lv_icmp_ne hx hb (ins_d hk hi rfl) hj k1 (fun q => k2 (fun z => z q))
      case lt => exact lv_icmp_lt hx hb (ins_d hk hi rfl) hj k1 k2
      case ge => exact lv_icmp_ge hx hb (ins_d hk hi rfl) hj k1 k2
      case gt => exact lv_icmp_gt hx hb (ins_d hk hi rfl) hj k1 k2
      case le => exact lv_icmp_le hx hb (ins_d hk hi rfl) hj k1 k2
    case tableswitch dv lo hv os =>
      obtain ⟨x, r, rfl, t, ht, h⟩ := sI_spec h
      refine ⟨h.1, fun H locs ad lsA ha hP hD hS hl hp hz hw => ?_⟩
      obtain ⟨L, hdec, -, hj⟩ := ins_dec hk hi
      simp only [jOK, Bool.and_eq_true, decide_eq_true_eq, List.all_eq_true] at hj
      unfold tsel at ht
      by_cases hq : x.toInt < lo ∨ hv < x.toInt
      · rw [if_pos hq] at ht
        cases ht
        exact lv_tableOut hx hb hdec hq (tg_eq hj.1) (h.2 H locs ad lsA ha hP hD hS hl hp hz hw)
      · rw [if_neg hq] at ht
        cases hof : os[(x.toInt - lo).toNat]? with
        | none => rw [hof] at ht; cases ht
        | some off =>
          rw [hof] at ht
          cases ht
          exact lv_tableIn hx hb hdec (fun z => hq (Or.inl z)) (fun z => hq (Or.inr z)) hof (tg_eq (hj.2 off (by
            have := Array.mem_of_getElem? hof
            exact this.val))) (h.2 H locs ad lsA ha hP hD hS hl hp hz hw)
    case getfield idx =>
      obtain ⟨o, r, rfl, h⟩ := sA_spec h
      have h : gfA _ b cc pc ls D o r := h
      unfold gfA at h
      rcases h with ⟨hdy, hkb, hcF, hb2, h⟩ | h
      · have hdl : ∀ ad : Nat → Nat, dfl ad D o (kb b) cc = cv ad G.2.2 (dvl D o (kb b) cc) := fun ad => by
          unfold dfl dvl rv
          by_cases h1 : rfB (kb b) cc = true
          · rw [if_pos h1, if_pos h1]
            by_cases h2 : DB ≤ (D o cc).toNatClampNeg
            · rw [if_pos h2, if_pos h2]; rfl
            · rw [if_neg h2, if_neg h2]; rfl
          · rw [if_neg h1, if_neg h1]; rfl
        have hne : kb b ≠ 20 ∧ kb b ≠ 22 := by omega
        have hget : ∀ (ad : Nat → Nat), (wsOf G.2.1 ad D)[ps o]? = some (ad o, .inr (kb b, (List.range (nF (kb b))).map (dfl ad D o (kb b)))) := fun ad => by rw [ws_get (okD hdy), cell_dobj hdy hne.1 hne.2]
        refine ⟨h.1, fun H locs ad lsA ha hP hD hS hl hp hz hw => ?_⟩
        have hfl : ((List.range (nF (kb b))).map (dfl ad D o (kb b)))[cc]? = some (cv ad G.2.2 (dvl D o (kb b) cc)) := by rw [ds_get hcF, hdl]
        by_cases hb25 : b = 25
        · obtain ⟨s1, s2⟩ := str_fact hk hb25 (Or.inl rfl) hi
          have hkb9 : kb b = 9 := by unfold kb; rw [if_pos hb25]
          obtain ⟨hq1, -⟩ := clsF 9 _ rfl
          have hlink : Cond.fieldLink (cN (nO k)) idx "java/lang/String" (TJ0 cc).2.1 (TJ0 cc).2.2.1 ∈ Tall := by
            have := hb2 hb25
            match cc, this, s1, s2 with
            | 0, _, s1, _ => exact s1 rfl
            | 1, _, _, s2 => exact s2 rfl
          have hsame : ∀ x, s.fieldFound? (TJ0 cc).1 (TJ0 cc).2.1 (TJ0 cc).2.2.1 = some x → s.fieldFound? "java/lang/String" (TJ0 cc).2.1 (TJ0 cc).2.2.1 = some x := fun x hx9 => by
            have := hb2 hb25
            match cc, this, hx9 with
            | 0, _, hx9 => exact hx9
            | 1, _, hx9 => exact hx9
          have hget2 := hget ad
          rw [hkb9] at hget2 hfl hcF
          have h9 := h.2 H locs ad lsA ha hP hD hS hl hp hz hw
          rw [hkb9] at h9
          exact va_get hx hb htT hq1 hown hK hP (ps o) hget2 rfl cc hcF (htT _ hlink) hsame hfl (ins_d hk hi rfl) h9
        · obtain ⟨q, hq, hcN, hlink, -⟩ := fld_fact hk (Or.inl rfl) hb25 hi
          have hkbb : kb b = b := by unfold kb; rw [if_neg hb25]
          obtain ⟨hq1, -⟩ := clsF b q hq
          have hget2 := hget ad
          rw [hkbb] at hget2 hfl
          have h9 := h.2 H locs ad lsA ha hP hD hS hl hp hz hw
          rw [hkbb] at h9
          exact va_get hx hb htT hq1 hown hK hP (ps o) hget2 hq cc hcN (htT _ hlink) (fun _ z => z) hfl (ins_d hk hi rfl) h9
      by_cases hb25 : b = 25
      · rw [if_pos hb25] at h
        obtain ⟨h0, h1, h⟩ := h
        obtain ⟨s1, s2⟩ := str_fact hk hb25 (Or.inl rfl) hi
        have eo : 1000 + (o - 1000) = o := by omega
        have eo2 : 2000 + (o - 1000) = o + 1000 := by omega
        by_cases hc : cc = 0
        · rw [if_pos hc] at h
          refine ⟨h.1, fun H locs ad lsA ha hP hD hS hl hp hz hw => ?_⟩
          have hE := ((RO.agree ha hRO0).1.1 (o - 1000) (by omega)).2.2.1
          dsimp only at hE
          rw [eo, eo2] at hE
          exact vk_getf hx hb hE hS hown (htT _ (s1 hc)) (fun _ z => z) (ins_d hk hi rfl) (h.2 H locs ad lsA ha hP hD hS hl hp hz hw)
        · rw [if_neg hc] at h
          obtain ⟨hc1, h⟩ := h
          refine ⟨h.1, fun H locs ad lsA ha hP hD hS hl hp hz hw => ?_⟩
          have hE := ((RO.agree ha hRO0).1.1 (o - 1000) (by omega)).2.1
          dsimp only at hE
          rw [eo] at hE
          exact vk_getf hx hb hE hS hown (htT _ (s2 hc1)) (fun _ z => z) (ins_d hk hi rfl) (h.2 H locs ad lsA ha hP hD hS hl hp hz hw)
      · rw [if_neg hb25] at h
        obtain ⟨h0, h⟩ := h
        obtain ⟨q, hq, hcN, hlink, -⟩ := fld_fact hk (Or.inl rfl) hb25 hi
        have hlt : b < 20 := by have h9 := (List.getElem?_eq_some_iff.mp hq).1; simp [vwCl] at h9; omega
        have hsh : (sh o).1 < 20 := by omega
        obtain ⟨hq1, -⟩ := clsF b q hq
        obtain ⟨hlen, q2, hq2, hN⟩ := sh_cls hsh
        rw [h0, hq] at hq2
        cases hq2
        have hget : ∀ (ad : Nat → Nat), (wsOf G.2.1 ad D)[ps o]? = some (ad o, .inr (b, (List.range (sh o).2.1).map (fld ad D o (sh o).2.2))) := fun ad => by rw [ws_get (okSt h0 (by omega)), cell_obj hsh, h0]
        have hfl : ∀ (ad : Nat → Nat), ((List.range (sh o).2.1).map (fld ad D o (sh o).2.2))[cc]? = some (fld ad D o (sh o).2.2 cc) := fun ad => fs_get (by rw [← hN]; exact hcN)
        cases hrf : (sh o).2.2[cc]? with
        | none => rw [hrf] at h; exact h.elim
        | some z =>
          rw [hrf] at h
          cases z with
          | none =>
            refine ⟨h.1, fun H locs ad lsA ha hP hD hS hl hp hz hw => ?_⟩
            exact va_get hx hb htT hq1 hown hK hP (ps o) (hget ad) hq cc hcN (htT _ hlink) (fun _ z => z) (v := .int (D o cc)) (by rw [hfl]; unfold fld; rw [hrf]) (ins_d hk hi rfl) (h.2 H locs ad lsA ha hP hD hS hl hp hz hw)
          | some z =>
            refine ⟨h.1, fun H locs ad lsA ha hP hD hS hl hp hz hw => ?_⟩
            exact va_get hx hb htT hq1 hown hK hP (ps o) (hget ad) hq cc hcN (htT _ hlink) (fun _ z => z) (v := .ref (ad z)) (by rw [hfl]; unfold fld; rw [hrf]) (ins_d hk hi rfl) (h.2 H locs ad lsA ha hP hD hS hl hp hz hw)
    case putfield idx =>
      have h : pfA _ k b cc dd pc ls D st := h
      unfold pfA at h
      match st, h with
      | .int v :: .ref (o : Nat) :: r, Or.inl h =>
        obtain ⟨hdy, hkb, hcF, hrf, h25, hty, h⟩ := h
        have hne : kb b ≠ 20 ∧ kb b ≠ 22 := by omega
        have hpt : pot (mup D o cc v) = pot D := pot_mup (okc_ne (okD hdy)).1 (Or.inl (by rw [sh_big (by have := hdy.1.1; unfold DB at this; omega)]; decide))
        have hle : leD D (mup D o cc v) := leD_dy hdy.1
        refine ⟨by rw [← hpt]; exact h.1, fun H locs ad lsA ha hP hD hS hl hp hz hw => ?_⟩
        have hw2 : WFD (mup D o cc v) := hw.mup (okc_ne (okD hdy)).1 (by have := nF_le (kb b); unfold KND; omega) (fun _ hr hc => by subst hc; rw [hdy.2] at hr; rw [hr] at hrf; cases hrf)
        have hget : (wsOf G.2.1 ad D)[ps o]? = some (ad o, .inr (kb b, (List.range (nF (kb b))).map (dfl ad D o (kb b)))) := by rw [ws_get (okD hdy), cell_dobj hdy hne.1 hne.2]
        have hdy2 : dyn (mup D o cc v) o (kb b) := ⟨⟨hdy.1.1, by rw [nxt_mup (okc_ne (okD hdy)).1]; exact hdy.1.2⟩, by
          unfold kd; rw [mup_same]; unfold upd; rw [if_neg (by have := nF_le (kb b); unfold KND; omega)]; exact hdy.2⟩
        have hset : (wsOf G.2.1 ad D).set (ps o) (ad o, .inr (kb b, ((List.range (nF (kb b))).map (dfl ad D o (kb b))).set cc (.int v))) = wsOf G.2.1 ad (mup D o cc v) := ws_mup (okD hdy) (by rw [cell_dobj hdy2 hne.1 hne.2, ds_set hcF (v := .int v) (by unfold dfl; rw [if_neg (by rw [hrf]; decide), mup_same]; unfold upd; rw [if_pos rfl])])
        have hlen : cc < ((List.range (nF (kb b))).map (dfl ad D o (kb b))).length := by simpa using hcF
        have hnext : ∀ (H1 : Heap) (locs1 : List Loc), va_P G.1 vwCl ((wsOf G.2.1 ad D).set (ps o) (ad o, .inr (kb b, ((List.range (nF (kb b))).map (dfl ad D o (kb b))).set cc (.int v)))) H1 → va_D A ((wsOf G.2.1 ad D).set (ps o) (ad o, .inr (kb b, ((List.range (nF (kb b))).map (dfl ad D o (kb b))).set cc (.int v)))) → va_S A s.heap H1 locs1 →
            W p l e R s m args below meth c H1 locs1 (c0 + (pot D - pot D0)) (s0 + 2 * (pot D - pot D0)) Qf (F0 m (pc + 3) lsA (r.map (cv ad G.2.2))) := by
          intro H1 locs1 hP1 hD1 hS1
          rw [hset] at hP1 hD1
          have h9 := h.2 H1 locs1 ad lsA ha hP1 hD1 hS1 hl (leD.tr hp hle) (by rw [hpt]; exact hz) hw2
          rw [hpt] at h9
          exact h9
        by_cases hb25 : b = 25
        · obtain ⟨hc1, hnm0, hO⟩ := h25 hb25
          have hkb9 : kb b = 9 := by unfold kb; rw [if_pos hb25]
          obtain ⟨hq1, ty0, hty0, hnm⟩ := clsF 9 _ rfl
          obtain ⟨s1, s2⟩ := str_fact hk hb25 (Or.inr rfl) hi
          obtain ⟨hf1, hf2⟩ : fits .byte (.int v) = true ∧ narrow .byte (.int v) = .int v := by
            rcases hty with ⟨q, _⟩ | ⟨q, _⟩ | ⟨_, q⟩
            · exact absurd hb25 q
            · exact absurd hb25 q
            · exact q
          subst hc1
          rw [hkb9] at hget hnext hlen
          exact va_putF hx hb htT hq1 ty0 hty0 hnm hown hK hP hD hS (ps o) hget rfl 1 (by decide) (htT _ (s2 rfl)) (fun _ z => z) rfl (hnmI hnm0) (by show "java/lang/String" = _; rw [hO]; rfl) (ty := .byte) rfl hf2 hf1 hlen (ins_d hk hi rfl) hnext
        · obtain ⟨q, hq, hcN, hlink, t0, t1, t2, -⟩ := fld_fact hk (Or.inr rfl) hb25 hi
          have hkbb : kb b = b := by unfold kb; rw [if_neg hb25]
          obtain ⟨hq1, ty0, hty0, hnm⟩ := clsF b q hq
          rw [hkbb] at hget hnext hlen
          rcases hty with ⟨_, hdd⟩ | ⟨_, hdd, hv⟩ | ⟨hdd, hf1, hf2⟩
          · obtain ⟨e1, e2⟩ := t0 hdd
            exact va_put hx hb htT hq1 ty0 hty0 hnm hown hK hP hD hS (ps o) hget hq cc hcN (htT _ hlink) (fun _ z => z) e2 (ty := .int) (by rw [e1]; rfl) rfl rfl hlen (ins_d hk hi rfl) hnext
          · obtain ⟨e1, e2⟩ := t1 hdd
            exact va_put hx hb htT hq1 ty0 hty0 hnm hown hK hP hD hS (ps o) hget hq cc hcN (htT _ hlink) (fun _ z => z) e2 (ty := .boolean) (by rw [e1]; rfl) (by rcases hv with rfl | rfl <;> rfl) (by rcases hv with rfl | rfl <;> rfl) hlen (ins_d hk hi rfl) hnext
          · obtain ⟨e1, e2⟩ := t2 (hdd.resolve_left hb25)
            exact va_put hx hb htT hq1 ty0 hty0 hnm hown hK hP hD hS (ps o) hget hq cc hcN (htT _ hlink) (fun _ z => z) e2 (ty := .byte) (by rw [e1]; rfl) hf2 hf1 hlen (ins_d hk hi rfl) hnext
      | .int v :: .ref (o : Nat) :: r, Or.inr h =>
        obtain ⟨hb20, h0, hrf, hdd, h⟩ := h
        obtain ⟨q, hq, hcN, hlink, t0, t1, -⟩ := fld_fact hk (Or.inr rfl) (by omega) hi
        have hsh : (sh o).1 < 20 := by omega
        have hoc : okc D o := okSt h0 (by omega)
        obtain ⟨hq1, ty0, hty, hnm⟩ := clsF b q hq
        have hpt : pot (mup D o cc v) = pot D := pot_mup (okc_ne hoc).1 (Or.inl (by omega))
        have hle : leD D (mup D o cc v) := leD_st h0 (by omega) (Or.inl (by omega))
        refine ⟨by rw [← hpt]; exact h.1, fun H locs ad lsA ha hP hD hS hl hp hz hw => ?_⟩
        have hw2 : WFD (mup D o cc v) := hw.lo (fun z hz => mup_ne (fun e => by have := sh_lt (o := o) (by omega); unfold NC at this; unfold DB at hz; omega))
        have hget : (wsOf G.2.1 ad D)[ps o]? = some (ad o, .inr (b, (List.range (sh o).2.1).map (fld ad D o (sh o).2.2))) := by rw [ws_get hoc, cell_obj hsh, h0]
        have hset : (wsOf G.2.1 ad D).set (ps o) (ad o, .inr (b, ((List.range (sh o).2.1).map (fld ad D o (sh o).2.2)).set cc (.int v))) = wsOf G.2.1 ad (mup D o cc v) := ws_mup hoc (by rw [cell_obj hsh, h0, fs_set hsh hrf])
        have hlen : cc < ((List.range (sh o).2.1).map (fld ad D o (sh o).2.2)).length := by
          have := (sh_cls hsh).1
          have h9 := (List.getElem?_eq_some_iff.mp hrf).1
          simp
          omega
        have hnext : ∀ (H1 : Heap) (locs1 : List Loc), va_P G.1 vwCl ((wsOf G.2.1 ad D).set (ps o) (ad o, .inr (b, ((List.range (sh o).2.1).map (fld ad D o (sh o).2.2)).set cc (.int v)))) H1 → va_D A ((wsOf G.2.1 ad D).set (ps o) (ad o, .inr (b, ((List.range (sh o).2.1).map (fld ad D o (sh o).2.2)).set cc (.int v)))) → va_S A s.heap H1 locs1 →
            W p l e R s m args below meth c H1 locs1 (c0 + (pot D - pot D0)) (s0 + 2 * (pot D - pot D0)) Qf (F0 m (pc + 3) lsA (r.map (cv ad G.2.2))) := by
          intro H1 locs1 hP1 hD1 hS1
          rw [hset] at hP1 hD1
          have h9 := h.2 H1 locs1 ad lsA ha hP1 hD1 hS1 hl (leD.tr hp hle) (by rw [hpt]; exact hz) hw2
          rw [hpt] at h9
          exact h9
        rcases hdd with hdd | ⟨hdd, hv⟩
        · obtain ⟨e1, e2⟩ := t0 hdd
          exact va_put hx hb htT hq1 ty0 hty hnm hown hK hP hD hS (ps o) hget hq cc hcN (htT _ hlink) (fun _ z => z) e2 (ty := .int) (by rw [e1]; rfl) rfl rfl hlen (ins_d hk hi rfl) hnext
        · obtain ⟨e1, e2⟩ := t1 hdd
          exact va_put hx hb htT hq1 ty0 hty hnm hown hK hP hD hS (ps o) hget hq cc hcN (htT _ hlink) (fun _ z => z) e2 (ty := .boolean) (by rw [e1]; rfl) (by rcases hv with rfl | rfl <;> rfl) (by rcases hv with rfl | rfl <;> rfl) hlen (ins_d hk hi rfl) hnext
      | .ref (q : Nat) :: .ref (o : Nat) :: r, ⟨hdy, h⟩ =>
        obtain ⟨hb0, hc0, hd3, hdq, h⟩ := h
        have hkb : kb b = 0 ∨ kb b = 8 ∨ kb b = 9 := by
          rcases hb0 with q | q
          · rw [q]; exact Or.inl rfl
          · rw [q.1]; exact Or.inr (Or.inr rfl)
        have hcF : cc < nF (kb b) := by
          subst hc0
          unfold nF; split <;> omega
        have hrf : rfB (kb b) cc = true := by
          subst hc0
          rcases hb0 with q | q
          · rw [q]; rfl
          · rw [q.1]; rfl
        have hqn : WFD D → (nI q).toNatClampNeg = q := fun hw => nI_clamp (by have := hdq.2; have := hw.1; unfold DB at *; omega)
        have hne : kb b ≠ 20 ∧ kb b ≠ 22 := by omega
        have hpt : pot (mup D o cc (nI q)) = pot D := pot_mup (okc_ne (okD hdy)).1 (Or.inl (by rw [sh_big (by have := hdy.1.1; unfold DB at this; omega)]; decide))
        have hle : leD D (mup D o cc (nI q)) := leD_dy hdy.1
        refine ⟨by rw [← hpt]; exact h.1, fun H locs ad lsA ha hP hD hS hl hp hz hw => ?_⟩
        have hw2 : WFD (mup D o cc (nI q)) := hw.mup (okc_ne (okD hdy)).1 (by have := nF_le (kb b); unfold KND; omega) (fun _ _ _ => by rw [hqn hw]; exact hdq.2)
        have hget : (wsOf G.2.1 ad D)[ps o]? = some (ad o, .inr (kb b, (List.range (nF (kb b))).map (dfl ad D o (kb b)))) := by rw [ws_get (okD hdy), cell_dobj hdy hne.1 hne.2]
        have hdy2 : dyn (mup D o cc (nI q)) o (kb b) := ⟨⟨hdy.1.1, by rw [nxt_mup (okc_ne (okD hdy)).1]; exact hdy.1.2⟩, by
          unfold kd; rw [mup_same]; unfold upd; rw [if_neg (by have := nF_le (kb b); unfold KND; omega)]; exact hdy.2⟩
        have hset : (wsOf G.2.1 ad D).set (ps o) (ad o, .inr (kb b, ((List.range (nF (kb b))).map (dfl ad D o (kb b))).set cc (.ref (ad q)))) = wsOf G.2.1 ad (mup D o cc (nI q)) := ws_mup (okD hdy) (by rw [cell_dobj hdy2 hne.1 hne.2, ds_set hcF (v := .ref (ad q)) (by unfold dfl; rw [if_pos hrf, mup_same]; unfold upd; rw [if_pos rfl, hqn hw, if_pos hdq.1])])
        have hlen : cc < ((List.range (nF (kb b))).map (dfl ad D o (kb b))).length := by simpa using hcF
        have hnext : ∀ (H1 : Heap) (locs1 : List Loc), va_P G.1 vwCl ((wsOf G.2.1 ad D).set (ps o) (ad o, .inr (kb b, ((List.range (nF (kb b))).map (dfl ad D o (kb b))).set cc (.ref (ad q))))) H1 → va_D A ((wsOf G.2.1 ad D).set (ps o) (ad o, .inr (kb b, ((List.range (nF (kb b))).map (dfl ad D o (kb b))).set cc (.ref (ad q))))) → va_S A s.heap H1 locs1 →
            W p l e R s m args below meth c H1 locs1 (c0 + (pot D - pot D0)) (s0 + 2 * (pot D - pot D0)) Qf (F0 m (pc + 3) lsA (r.map (cv ad G.2.2))) := by
          intro H1 locs1 hP1 hD1 hS1
          rw [hset] at hP1 hD1
          have h9 := h.2 H1 locs1 ad lsA ha hP1 hD1 hS1 hl (leD.tr hp hle) (by rw [hpt]; exact hz) hw2
          rw [hpt] at h9
          exact h9
        rcases hb0 with hb0 | ⟨hb25, hnm0, hO⟩
        · obtain ⟨q2, hq, hcN, hlink, -, -, -, t3⟩ := fld_fact hk (Or.inr rfl) (by omega) hi
          have hkbb : kb b = b := by unfold kb; rw [if_neg (by omega)]
          obtain ⟨hq1, ty0, hty0, hnm⟩ := clsF b q2 hq
          rw [hkbb] at hget hnext hlen
          obtain ⟨e1, e2⟩ := t3 hd3 hb0
          exact va_put hx hb htT hq1 ty0 hty0 hnm hown hK hP hD hS (ps o) hget hq cc hcN (htT _ hlink) (fun _ z => z) e2 (ty := .array .byte) (by rw [e1]; rfl) rfl rfl hlen (ins_d hk hi rfl) hnext
        · have hkb9 : kb b = 9 := by unfold kb; rw [if_pos hb25]
          obtain ⟨hq1, ty0, hty0, hnm⟩ := clsF 9 _ rfl
          obtain ⟨s1, s2⟩ := str_fact hk hb25 (Or.inr rfl) hi
          subst hc0
          rw [hkb9] at hget hnext hlen
          exact va_putF hx hb htT hq1 ty0 hty0 hnm hown hK hP hD hS (ps o) hget rfl 0 (by decide) (htT _ (s1 rfl)) (fun _ z => z) rfl (hnmI hnm0) (by show "java/lang/String" = _; rw [hO]; rfl) (ty := .array .byte) rfl rfl rfl hlen (ins_d hk hi rfl) hnext
    case iaload =>
      obtain ⟨o, j, r, rfl, h⟩ := sIA_spec h
      rcases h with ⟨h0, h1, h⟩ | ⟨h0, h1, h⟩ | ⟨h0, h1, h⟩
      · refine ⟨h.1, fun H locs ad lsA ha hP hD hS hl hp hz hw => ?_⟩
        exact va_iald hx hb hK hP (ps o) 0 (by rw [ws_get (okSt h0), cell_int h0]) rfl h1 (ins_d hk hi rfl) (h.2 H locs ad lsA ha hP hD hS hl hp hz hw)
      · refine ⟨h.1, fun H locs ad lsA ha hP hD hS hl hp hz hw => ?_⟩
        exact va_iald hx hb hK hP (ps o) 0 (by rw [ws_get (okD h0), cell_dint h0]) rfl h1 (ins_d hk hi rfl) (h.2 H locs ad lsA ha hP hD hS hl hp hz hw)
      · refine ⟨h.1, fun H locs ad lsA ha hP hD hS hl hp hz hw => ?_⟩
        subst h0
        have hX := SX.agree ha hSX0
        rw [← hp.2.2] at hX
        exact va_sld hx hb hX.1 hX.2.1 hX.2.2.1 hS h1 (ins_d hk hi rfl) (h.2 H locs ad lsA ha hP hD hS hl hp hz hw)
    case aaload =>
      obtain ⟨o, j, r, rfl, h0, h1, q, hq, h⟩ := sIA_spec h
      refine ⟨h.1, fun H locs ad lsA ha hP hD hS hl hp hz hw => ?_⟩
      refine va_aldq hx hb hK hP (ps o) 3 (by rw [ws_get (okSt h0), cell_refs h0]) rfl h1 (ins_d hk hi rfl) ?_
      have h9 := (h.2 H locs ad lsA ha hP hD hS hl hp hz hw)
      rw [hq]
      exact h9
    case iastore =>
      obtain ⟨o, j, x, r, rfl, h⟩ := sIIA_spec h
      rcases h with ⟨h0, h1, h⟩ | ⟨h0, h1, h1b, h⟩
      · skip
        have hoc : okc D o := okSt h0
        have hpt : pot (mup D o j.toNatClampNeg x) = pot D := pot_mup (okc_ne hoc).1 (Or.inl (by omega))
        have hle : leD D (mup D o j.toNatClampNeg x) := leD_st h0 (by decide) (Or.inl (by decide))
        refine ⟨by rw [← hpt]; exact h.1, fun H locs ad lsA ha hP hD hS hl hp hz hw => ?_⟩
        refine va_iast hx hb hK hP hD hS (ps o) 0 (by rw [ws_get hoc, cell_int h0]) rfl h1 (ins_d hk hi rfl) (fun H1 locs1 hP1 hD1 hS1 => ?_)
        rw [ws_mup (D := D) (j := j.toNatClampNeg) (x := x) hoc (by rw [cell_int h0, mup_same])] at hP1 hD1
        have h9 := h.2 H1 locs1 ad lsA ha hP1 hD1 hS1 hl (leD.tr hp hle) (by rw [hpt]; exact hz) (hw.lo (fun z hz => mup_ne (fun e => by have := sh_lt (o := o) (by omega); unfold NC at this; unfold DB at hz; omega)))
        rw [hpt] at h9
        exact h9
      · skip
        have hoc : okc D o := okD h0
        have hpt : pot (mup D o j.toNatClampNeg x) = pot D := pot_mup (okc_ne hoc).1 (Or.inl (by rw [sh_big (by have := h0.1.1; unfold DB at this; omega)]; decide))
        have hle : leD D (mup D o j.toNatClampNeg x) := leD_dy h0.1
        refine ⟨by rw [← hpt]; exact h.1, fun H locs ad lsA ha hP hD hS hl hp hz hw => ?_⟩
        refine va_iast hx hb hK hP hD hS (ps o) 0 (by rw [ws_get hoc, cell_dint h0]) rfl h1 (ins_d hk hi rfl) (fun H1 locs1 hP1 hD1 hS1 => ?_)
        rw [ws_mup (D := D) (j := j.toNatClampNeg) (x := x) hoc (by rw [cell_dint (show dyn (mup D o j.toNatClampNeg x) o 20 from ⟨⟨h0.1.1, by rw [nxt_mup (okc_ne hoc).1]; exact h0.1.2⟩, by unfold kd; rw [mup_same]; unfold upd; rw [if_neg (by unfold KND; unfold LEN at h1b; omega)]; exact h0.2⟩), mup_same, cap_mup (Or.inr (by omega))])] at hP1 hD1
        have h9 := h.2 H1 locs1 ad lsA ha hP1 hD1 hS1 hl (leD.tr hp hle) (by rw [hpt]; exact hz) (hw.mup (okc_ne hoc).1 (by unfold KND; unfold LEN at h1b; omega) (fun _ hr _ => by rw [h0.2] at hr; cases hr))
        rw [hpt] at h9
        exact h9
    case baload =>
      obtain ⟨o, j, r, rfl, h⟩ := sIA_spec h
      rcases h with ⟨h0, h1, h⟩ | ⟨h0, h1, h1b, h⟩ | ⟨h0, h1, h⟩ | ⟨h0, h1, h⟩
      · refine ⟨h.1, fun H locs ad lsA ha hP hD hS hl hp hz hw => ?_⟩
        exact va_zald hx hb hK hP (ps o) 1 (by rw [ws_get (okSt h0), cell_bool h0]) rfl h1 (ins_d hk hi rfl) (h.2 H locs ad lsA ha hP hD hS hl hp hz hw)
      · refine ⟨h.1, fun H locs ad lsA ha hP hD hS hl hp hz hw => ?_⟩
        exact va_bald hx hb hK hP (ps o) 2 (by rw [ws_get (okSt h0), cell_byte h0]) rfl h1 (ins_d hk hi rfl) (h.2 H locs ad lsA ha hP hD hS hl hp hz hw)
      · refine ⟨h.1, fun H locs ad lsA ha hP hD hS hl hp hz hw => ?_⟩
        exact va_tb hx hb (RO_arr (RO.agree ha hRO0) h0) hS h1 rfl (ins_d hk hi rfl) (h.2 H locs ad lsA ha hP hD hS hl hp hz hw)
      · refine ⟨h.1, fun H locs ad lsA ha hP hD hS hl hp hz hw => ?_⟩
        exact va_bald hx hb hK hP (ps o) 2 (by rw [ws_get (okD h0), cell_dbyte h0]) rfl h1 (ins_d hk hi rfl) (h.2 H locs ad lsA ha hP hD hS hl hp hz hw)
    case bastore =>
      obtain ⟨o, j, x, r, rfl, h⟩ := sIIA_spec h
      rcases h with ⟨h0, h1, h⟩ | ⟨h0, h1, h1b, h⟩ | ⟨h0, h1, h1b, h⟩
      · skip
        have hoc : okc D o := okSt h0
        have hpt : pot (mup D o j.toNatClampNeg (vp_nar .boolean x)) = pot D := pot_mup (okc_ne hoc).1 (Or.inl (by omega))
        have hle : leD D (mup D o j.toNatClampNeg (vp_nar .boolean x)) := leD_st h0 (by decide) (Or.inl (by decide))
        refine ⟨by rw [← hpt]; exact h.1, fun H locs ad lsA ha hP hD hS hl hp hz hw => ?_⟩
        refine va_zast hx hb hK hP hD hS (ps o) 1 (by rw [ws_get hoc, cell_bool h0]) rfl h1 (ins_d hk hi rfl) (fun H1 locs1 hP1 hD1 hS1 => ?_)
        rw [ws_mup (D := D) (j := j.toNatClampNeg) (x := (vp_nar .boolean x)) hoc (by rw [cell_bool h0, mup_same])] at hP1 hD1
        have h9 := h.2 H1 locs1 ad lsA ha hP1 hD1 hS1 hl (leD.tr hp hle) (by rw [hpt]; exact hz) (hw.lo (fun z hz => mup_ne (fun e => by have := sh_lt (o := o) (by omega); unfold NC at this; unfold DB at hz; omega)))
        rw [hpt] at h9
        exact h9
      · skip
        have hoc : okc D o := okSt h0
        have hpt : pot (mup D o j.toNatClampNeg (vp_nar .byte x)) = pot D := pot_mup (okc_ne hoc).1 (Or.inr (by omega))
        have hle : leD D (mup D o j.toNatClampNeg (vp_nar .byte x)) := leD_st h0 (by decide) (Or.inr (by omega))
        refine ⟨by rw [← hpt]; exact h.1, fun H locs ad lsA ha hP hD hS hl hp hz hw => ?_⟩
        refine va_bast hx hb hK hP hD hS (ps o) 2 (by rw [ws_get hoc, cell_byte h0]) rfl h1 (ins_d hk hi rfl) (fun H1 locs1 hP1 hD1 hS1 => ?_)
        rw [ws_mup (D := D) (j := j.toNatClampNeg) (x := (vp_nar .byte x)) hoc (by rw [cell_byte h0, mup_same, cap_mup (Or.inr (by omega))])] at hP1 hD1
        have h9 := h.2 H1 locs1 ad lsA ha hP1 hD1 hS1 hl (leD.tr hp hle) (by rw [hpt]; exact hz) (hw.lo (fun z hz => mup_ne (fun e => by have := sh_lt (o := o) (by omega); unfold NC at this; unfold DB at hz; omega)))
        rw [hpt] at h9
        exact h9
      · skip
        have hoc : okc D o := okD h0
        have hpt : pot (mup D o j.toNatClampNeg (vp_nar .byte x)) = pot D := pot_mup (okc_ne hoc).1 (Or.inl (by rw [sh_big (by have := h0.1.1; unfold DB at this; omega)]; decide))
        have hle : leD D (mup D o j.toNatClampNeg (vp_nar .byte x)) := leD_dy h0.1
        refine ⟨by rw [← hpt]; exact h.1, fun H locs ad lsA ha hP hD hS hl hp hz hw => ?_⟩
        refine va_bast hx hb hK hP hD hS (ps o) 2 (by rw [ws_get hoc, cell_dbyte h0]) rfl h1 (ins_d hk hi rfl) (fun H1 locs1 hP1 hD1 hS1 => ?_)
        rw [ws_mup (D := D) (j := j.toNatClampNeg) (x := (vp_nar .byte x)) hoc (by rw [cell_dbyte (show dyn (mup D o j.toNatClampNeg (vp_nar .byte x)) o 22 from ⟨⟨h0.1.1, by rw [nxt_mup (okc_ne hoc).1]; exact h0.1.2⟩, by unfold kd; rw [mup_same]; unfold upd; rw [if_neg (by unfold KND; unfold LEN at h1b; omega)]; exact h0.2⟩), mup_same, cap_mup (Or.inr (by omega))])] at hP1 hD1
        have h9 := h.2 H1 locs1 ad lsA ha hP1 hD1 hS1 hl (leD.tr hp hle) (by rw [hpt]; exact hz) (hw.mup (okc_ne hoc).1 (by unfold KND; unfold LEN at h1b; omega) (fun _ hr _ => by rw [h0.2] at hr; cases hr))
        rw [hpt] at h9
        exact h9
    case arraylength =>
      obtain ⟨o, r, rfl, h⟩ := sA_spec h
      rcases h with ⟨h0, h⟩ | ⟨h0, h⟩ | ⟨h0, h⟩ | ⟨h0, h⟩
      · refine ⟨h.1, fun H locs ad lsA ha hP hD hS hl hp hz hw => ?_⟩
        exact va_alen (x := (cap D o, .inl (D o))) hx hb hK hP (ps o) 2 (by rw [ws_get (okSt h0), cell_byte h0]) rfl rfl (ins_d hk hi rfl) (h.2 H locs ad lsA ha hP hD hS hl hp hz hw)
      · refine ⟨h.1, fun H locs ad lsA ha hP hD hS hl hp hz hw => ?_⟩
        exact va_alen (x := ((sh o).2.1, .inl (D o))) hx hb hK hP (ps o) 0 (by rw [ws_get (okSt h0), cell_int h0]) rfl rfl (ins_d hk hi rfl) (h.2 H locs ad lsA ha hP hD hS hl hp hz hw)
      · refine ⟨h.1, fun H locs ad lsA ha hP hD hS hl hp hz hw => ?_⟩
        exact va_tlen hx hb (RO_arr (RO.agree ha hRO0) h0) hS rfl (ins_d hk hi rfl) (h.2 H locs ad lsA ha hP hD hS hl hp hz hw)
      · refine ⟨h.1, fun H locs ad lsA ha hP hD hS hl hp hz hw => ?_⟩
        rcases h0 with h0 | h0 | h0
        · exact va_alen (x := (cap D o, .inl (D o))) hx hb hK hP (ps o) 2 (by rw [ws_get (okD h0), cell_dbyte h0]) rfl rfl (ins_d hk hi rfl) (h.2 H locs ad lsA ha hP hD hS hl hp hz hw)
        · exact va_alen (x := (cap D o, .inl (D o))) hx hb hK hP (ps o) 0 (by rw [ws_get (okD h0), cell_dint h0]) rfl rfl (ins_d hk hi rfl) (h.2 H locs ad lsA ha hP hD hS hl hp hz hw)
        · subst h0
          have hX := SX.agree ha hSX0
          rw [← hp.2.2] at hX
          exact va_slen hx hb hX.1 hX.2.1 hX.2.2.1 hS (ins_d hk hi rfl) (h.2 H locs ad lsA ha hP hD hS hl hp hz hw)
    case getstatic idx =>
      obtain ⟨v, hv, h⟩ := h
      obtain ⟨f0, f1, f2, f3⟩ := stat_fact hk hi
      refine ⟨h.1, fun H locs ad lsA ha hP hD hS hl hp hz hw => ?_⟩
      have hR := RO.agree ha hRO0
      match b, hv, f0, f1, f2, f3 with
      | 0, hv, f0, _, _, _ => cases hv; exact va_gets hx hb hR.2.1 hS hown (htT _ (f0 rfl)) (fun _ z => z) (ins_d hk hi rfl) (h.2 H locs ad lsA ha hP hD hS hl hp hz hw)
      | 1, hv, _, f1, _, _ => cases hv; exact va_gets hx hb hR.2.2.1 hS hown (htT _ (f1 rfl)) (fun _ z => z) (ins_d hk hi rfl) (h.2 H locs ad lsA ha hP hD hS hl hp hz hw)
      | 2, hv, _, _, f2, _ => cases hv; exact va_gets hx hb hR.2.2.2.1 hS hown (htT _ (f2 rfl)) (fun _ z => z) (ins_d hk hi rfl) (h.2 H locs ad lsA ha hP hD hS hl hp hz hw)
      | 3, hv, _, _, _, f3 => cases hv; exact va_gets hx hb hR.2.2.2.2.2.1 hS hown (htT _ (f3 rfl)) (fun _ z => z) (ins_d hk hi rfl) (h.2 H locs ad lsA ha hP hD hS hl hp hz hw)
    case ldc idx =>
      rcases h with ⟨h0, h1, h⟩ | ⟨h0, f, h1, h⟩
      · obtain ⟨q, hq, e1, e2, e3⟩ := ldc_fact hk h0 hi
        refine ⟨h.1, fun H locs ad lsA ha hP hD hS hl hp hz hw => ?_⟩
        have hZ := (RO.agree ha hRO0).2.2.2.2.2.2.2.1 a (by have h9 := (List.getElem?_eq_some_iff.mp hq).1; simp [ltab] at h9; omega) q hq
        rw [e1, e2, ← e3] at hZ
        exact va_ldcS hx hb hown hZ (ins_d hk hi rfl) (h.2 H locs ad lsA ha hP hD hS hl hp hz hw)
      · refine ⟨h.1, fun H locs ad lsA ha hP hD hS hl hp hz hw => ?_⟩
        exact lv_ldc hx hb hown (htT _ (ldcI_fact hk h0 hi f h1)) (ins_d hk hi rfl) (h.2 H locs ad lsA ha hP hD hS hl hp hz hw)
    case ireturn => exact hret pc ls st D _ _ _ _ _ hi (Or.inl rfl) (by unfold Step; rw [hi]; exact h)
    case areturn => exact hret pc ls st D _ _ _ _ _ hi (Or.inr (Or.inl rfl)) (by unfold Step; rw [hi]; exact h)
    case return_ => exact hret pc ls st D _ _ _ _ _ hi (Or.inr (Or.inr (Or.inl rfl))) (by unfold Step; rw [hi]; exact h)
    case invokevirtual idx =>
      rcases h with h | ⟨h0, h⟩
      · exact snd_virt IH hd1 hR hA hk hx hb hml hown htT hK hRO0 hSX0 hi h
      · exact snd_cln hR hA hk hx hb hml hown htT hK hRO0 hSX0 hi h0 h
    case invokestatic idx =>
      rcases h with h | ⟨h0, h⟩
      · exact snd_stat IH hd1 hR hA hk hx hb hml hown htT hK hRO0 hSX0 hi h
      · exact snd_cpy hR hA hk hx hb hml hown htT hK hRO0 hSX0 hi h0 h
    case invokespecial idx =>
      rcases h with h | ⟨h0, h1, h2, h⟩
      · exact snd_spec IH hd1 hR hA hk hx hb hml hown htT hK hRO0 hSX0 hi h
      · obtain ⟨o, r, rfl, h⟩ := sA_spec h
        refine ⟨h.1, fun H locs ad lsA ha hP hD hS hl hp hz hw => ?_⟩
        have h3 := cat_le (ad := ad) hf (fun v hv => h1 v (List.mem_cons_of_mem _ hv)) (Nat.le_trans (Nat.le_succ _) h2)
        refine W.objInit hx hb hown (htT _ (oin_fact hk h0 hi)) (htT _ zw_oI) (htT _ zw_oC) rfl (by rw [hml]; exact hl.1) rfl (ins_d hk hi rfl) (by have := hR.1; omega) ?_ (h.2 H locs ad lsA ha hP hD hS hl hp hz hw)
        have h5 := lv_room (m := m) (pc := pc) (ls := lsA) (rest := Value.ref (ad o) :: r.map (cv ad G.2.2)) h3
        have h6 := hR.2.1
        exact Nat.le_trans (Nat.add_le_add_right h5 12) (by omega)
    case new idx =>
      obtain ⟨hb3, hls, hst, hfit, h⟩ := h
      obtain ⟨q0, hq0, w1, w2, w3⟩ := new_fact hk (by omega) hi
      obtain ⟨hq1, ty0, hty0, hnm⟩ := clsF b q0 hq0
      have hN : q0.2.2 = nF b := by
        rcases hb3 with rfl | rfl | rfl <;> (cases hq0; rfl)
      have hpd := h.1
      rw [al_pot hfit] at hpd
      refine ⟨by omega, fun H locs ad lsA ha hP hD hS hl hp hz hw => ?_⟩
      have q1' := hp.1
      obtain ⟨-, -, r3, r4⟩ := hR
      refine va_new (N := nF b) (fs := (List.range (nF b)).map (fun j => if rfB b j = true then Value.null else .int 0)) hx hb htT (by rw [← hN]; exact hq1) ty0 (by rw [← hN]; exact hty0) hown (htT _ w1) (by rw [← hN]; exact htT _ w2) (htT _ w3) hK hP hD hS hA (T := q0.2.1) (by rw [← hN]; exact hq0) (fun j hj => ?_) (by omega) (by omega) (ins_d hk hi rfl) (fun q H1 hP1 hD1 hS1 => ?_)
      · have e8 : vp_V ((List.range (nF b)).map (fun j => if rfB b j = true then Value.null else .int 0)) j = if rfB b j = true then Value.null else .int 0 := by
          unfold vp_V
          rw [List.getD_eq_getElem?_getD, List.getElem?_map, List.getElem?_range hj]
          rfl
        rw [e8]
        have e7 := hty0 j (by rw [hN]; exact hj)
        rcases hb3 with rfl | rfl | rfl
        · cases hq0
          match j, hj, e7 with
          | 0, _, e7 => rw [show ty0 0 = .array .byte from Option.some.inj (e7.symm.trans rfl)]; rfl
          | 1, _, e7 => rw [show ty0 1 = .byte from Option.some.inj (e7.symm.trans rfl)]; rfl
          | 2, _, e7 => rw [show ty0 2 = .boolean from Option.some.inj (e7.symm.trans rfl)]; rfl
          | 3, _, e7 => rw [show ty0 3 = .int from Option.some.inj (e7.symm.trans rfl)]; rfl
        · cases hq0
          match j, hj, e7 with
          | 0, _, e7 => rw [show ty0 0 = .int from Option.some.inj (e7.symm.trans rfl)]; rfl
        · cases hq0
          match j, hj, e7 with
          | 0, _, e7 => rw [show ty0 0 = .array .byte from Option.some.inj (e7.symm.trans rfl)]; rfl
          | 1, _, e7 => rw [show ty0 1 = .byte from Option.some.inj (e7.symm.trans rfl)]; rfl
          | 2, _, e7 => rw [show ty0 2 = .int from Option.some.inj (e7.symm.trans rfl)]; rfl
          | 3, _, e7 => rw [show ty0 3 = .boolean from Option.some.inj (e7.symm.trans rfl)]; rfl
      · have hkd : (rwO b KND).toNatClampNeg = b := by
          unfold rwO; rw [if_pos rfl]; exact nI_clamp (by omega)
        have hdy : dyn (alD D (rwO b) (nF b)) (DB + nxt D) b := ⟨⟨by omega, by rw [al_nxt hfit]; omega⟩, by unfold kd; rw [al_new]; exact hkd⟩
        have hadA : agreeA (nxt D) ad (fun z => if z = DB + nxt D then q else ad z) := fun z hz9 => if_neg (by omega)
        have hws : wsOf G.2.1 (fun z => if z = DB + nxt D then q else ad z) (alD D (rwO b) (nF b)) = wsOf G.2.1 ad D ++ [(q, .inr (b, (List.range (nF b)).map (fun j => if rfB b j = true then Value.null else .int 0)))] := ws_al hw hfit hadA (if_pos rfl) (by
          rw [cell_dobj hdy (by omega) (by omega)]
          congr 2
          apply List.map_congr_left
          intro j hj
          have hj := List.mem_range.mp hj
          have := nF_le b
          have e6 : rwO b j = if rfB b j = true then -1 else 0 := if_neg (by unfold KND; omega)
          unfold dfl
          rw [al_new, e6]
          by_cases hr : rfB b j = true
          · rw [if_pos hr, if_pos hr, if_pos hr, if_neg (by decide)]
          · rw [if_neg hr, if_neg hr, if_neg hr])
        rw [← hws] at hP1 hD1
        have hle := leD_al (f := (rwO b)) hfit
        have hpa := al_pot (f := (rwO b)) hfit
        have q1 := hp.1
        have h9 := h.2 H1 locs (fun z => if z = DB + nxt D then q else ad z) lsA (agree.tr ha hadA.a hp.2.1) hP1 hD1 hS1 (hl.agreeA hadA hls) (leD.tr hp hle) (fun e9 => by omega) (hw.al hfit (by rw [hkd]; omega) (fun _ => by
          have e9 : rwO b 0 = -1 ∨ rwO b 0 = 0 := by
            unfold rwO
            rw [if_neg (by decide)]
            by_cases hr : rfB b 0 = true
            · rw [if_pos hr]; exact Or.inl rfl
            · rw [if_neg hr]; exact Or.inr rfl
          rcases e9 with e9 | e9 <;> (rw [e9]; decide)))
        have e1 : (Value.ref (DB + nxt D) :: st : List Value).map (cv (fun z => if z = DB + nxt D then q else ad z) G.2.2) = Value.ref q :: (st : List Value).map (cv ad G.2.2) := by
          rw [List.map_cons, show cv (fun z => if z = DB + nxt D then q else ad z) G.2.2 (.ref (DB + nxt D)) = Value.ref q from congrArg Value.ref (if_pos rfl)]
          exact congrArg _ (List.map_congr_left (fun v hv => cv_agreeA hadA (hst v hv)))
        rw [e1] at h9
        exact W.widen (by omega) (by omega) h9
    case newarray ty =>
      obtain ⟨x, r, rfl, hq9, hx0, hx1, hls, hst, hfit⟩ := sI_spec h
      rcases hq9 with ⟨hty, hq9⟩ | ⟨hty, hq9⟩
      · subst hty
        have h := hq9
        have hpd := h.1
        rw [al_pot hfit] at hpd
        refine ⟨by omega, fun H locs ad lsA ha hP hD hS hl hp hz hw => ?_⟩
        have q1' := hp.1
        obtain ⟨-, -, r3, r4⟩ := hR
        have hz0 : ∀ cA : ClassId, vp_cell cA (x.toNatClampNeg, .inl (rwA 20 x.toNatClampNeg)) = arrV cA x.toNatClampNeg (fun _ => defaultValue .int) := by
          intro cA
          show arrV cA x.toNatClampNeg (fun j => .int (rwA 20 x.toNatClampNeg j)) = arrV cA x.toNatClampNeg (fun _ => .int 0)
          unfold arrV
          congr 2
          funext j
          have h7 : rwA 20 x.toNatClampNeg j.val = 0 := by
            have := j.isLt
            unfold rwA
            rw [if_neg (by unfold KND; omega), if_neg (by unfold LEN; omega)]
          show Value.int (rwA 20 x.toNatClampNeg j.val) = .int 0
          rw [h7]
        refine va_newa (atype := .int) (ty := .int) (N' := x.toNatClampNeg) (a0 := (x.toNatClampNeg, .inl (rwA 20 x.toNatClampNeg))) hx hb (htT _ zw_a_int) rfl hK hP hD hS hA hz0 (by rw [Int32.not_lt, Int32.le_iff_toInt_le]; exact hx0) rfl (by show x.toNatClampNeg * 4 ≤ _; omega) (by omega) (by omega) (ins_d hk hi rfl) (fun q cA H1 hK1 hP1 hD1 hS1 => ?_)
        have k1 : s.vm.findClass ("[" ++ FieldType.toString .int) = some cA := (hK1.2 4 (cA, .int) rfl).2
        have k2 : s.vm.findClass ("[" ++ FieldType.toString .int) = some (G.2.1 0) := (hK.2 0 (G.2.1 0, .int) rfl).2
        have e9 : cA = G.2.1 0 := Option.some.inj (k1.symm.trans k2)
        subst e9
        have hkd : (rwA 20 x.toNatClampNeg KND).toNatClampNeg = 20 := rfl
        have hdy : dyn (alD D (rwA 20 x.toNatClampNeg) x.toNatClampNeg) (DB + nxt D) 20 := ⟨⟨by omega, by rw [al_nxt hfit]; omega⟩, by unfold kd; rw [al_new]; exact hkd⟩
        have hcp : cap (alD D (rwA 20 x.toNatClampNeg) x.toNatClampNeg) (DB + nxt D) = x.toNatClampNeg := by
          unfold cap
          rw [al_new]
          unfold rwA
          rw [if_neg (by decide), if_pos rfl]
          exact nI_clamp (by omega)
        have hadA : agreeA (nxt D) ad (fun z => if z = DB + nxt D then q else ad z) := fun z hz9 => if_neg (by omega)
        have hws : wsOf G.2.1 (fun z => if z = DB + nxt D then q else ad z) (alD D (rwA 20 x.toNatClampNeg) x.toNatClampNeg) = wsOf G.2.1 ad D ++ [(q, .inl (G.2.1 0, x.toNatClampNeg, .inl (rwA 20 x.toNatClampNeg)))] := ws_al hw hfit hadA (if_pos rfl) (by rw [cell_dint hdy, hcp, al_new])
        rw [← hws] at hP1 hD1
        have hle := leD_al (f := (rwA 20 x.toNatClampNeg)) hfit
        have hpa := al_pot (f := (rwA 20 x.toNatClampNeg)) hfit
        have q1 := hp.1
        have h9 := h.2 H1 locs (fun z => if z = DB + nxt D then q else ad z) lsA (agree.tr ha hadA.a hp.2.1) hP1 hD1 hS1 (hl.agreeA hadA hls) (leD.tr hp hle) (fun e9 => by omega) (hw.al hfit (by rw [hkd]; decide) (fun z => by cases z))
        have e1 : (Value.ref (DB + nxt D) :: r : List Value).map (cv (fun z => if z = DB + nxt D then q else ad z) G.2.2) = Value.ref q :: (r : List Value).map (cv ad G.2.2) := by
          rw [List.map_cons, show cv (fun z => if z = DB + nxt D then q else ad z) G.2.2 (.ref (DB + nxt D)) = Value.ref q from congrArg Value.ref (if_pos rfl)]
          exact congrArg _ (List.map_congr_left (fun v hv => cv_agreeA hadA (hst v hv)))
        rw [e1] at h9
        exact W.widen (by omega) (by omega) h9
      · subst hty
        have h := hq9
        have hpd := h.1
        rw [al_pot hfit] at hpd
        refine ⟨by omega, fun H locs ad lsA ha hP hD hS hl hp hz hw => ?_⟩
        have q1' := hp.1
        obtain ⟨-, -, r3, r4⟩ := hR
        have hz0 : ∀ cA : ClassId, vp_cell cA (x.toNatClampNeg, .inl (rwA 22 x.toNatClampNeg)) = arrV cA x.toNatClampNeg (fun _ => defaultValue .byte) := by
          intro cA
          show arrV cA x.toNatClampNeg (fun j => .int (rwA 22 x.toNatClampNeg j)) = arrV cA x.toNatClampNeg (fun _ => .int 0)
          unfold arrV
          congr 2
          funext j
          have h7 : rwA 22 x.toNatClampNeg j.val = 0 := by
            have := j.isLt
            unfold rwA
            rw [if_neg (by unfold KND; omega), if_neg (by unfold LEN; omega)]
          show Value.int (rwA 22 x.toNatClampNeg j.val) = .int 0
          rw [h7]
        refine va_newa (atype := .byte) (ty := .byte) (N' := x.toNatClampNeg) (a0 := (x.toNatClampNeg, .inl (rwA 22 x.toNatClampNeg))) hx hb (htT _ zw_a_byte) rfl hK hP hD hS hA hz0 (by rw [Int32.not_lt, Int32.le_iff_toInt_le]; exact hx0) rfl (by show x.toNatClampNeg * 1 ≤ _; omega) (by omega) (by omega) (ins_d hk hi rfl) (fun q cA H1 hK1 hP1 hD1 hS1 => ?_)
        have k1 : s.vm.findClass ("[" ++ FieldType.toString .byte) = some cA := (hK1.2 4 (cA, .byte) rfl).2
        have k2 : s.vm.findClass ("[" ++ FieldType.toString .byte) = some (G.2.1 2) := (hK.2 2 (G.2.1 2, .byte) rfl).2
        have e9 : cA = G.2.1 2 := Option.some.inj (k1.symm.trans k2)
        subst e9
        have hkd : (rwA 22 x.toNatClampNeg KND).toNatClampNeg = 22 := rfl
        have hdy : dyn (alD D (rwA 22 x.toNatClampNeg) x.toNatClampNeg) (DB + nxt D) 22 := ⟨⟨by omega, by rw [al_nxt hfit]; omega⟩, by unfold kd; rw [al_new]; exact hkd⟩
        have hcp : cap (alD D (rwA 22 x.toNatClampNeg) x.toNatClampNeg) (DB + nxt D) = x.toNatClampNeg := by
          unfold cap
          rw [al_new]
          unfold rwA
          rw [if_neg (by decide), if_pos rfl]
          exact nI_clamp (by omega)
        have hadA : agreeA (nxt D) ad (fun z => if z = DB + nxt D then q else ad z) := fun z hz9 => if_neg (by omega)
        have hws : wsOf G.2.1 (fun z => if z = DB + nxt D then q else ad z) (alD D (rwA 22 x.toNatClampNeg) x.toNatClampNeg) = wsOf G.2.1 ad D ++ [(q, .inl (G.2.1 2, x.toNatClampNeg, .inl (rwA 22 x.toNatClampNeg)))] := ws_al hw hfit hadA (if_pos rfl) (by rw [cell_dbyte hdy, hcp, al_new])
        rw [← hws] at hP1 hD1
        have hle := leD_al (f := (rwA 22 x.toNatClampNeg)) hfit
        have hpa := al_pot (f := (rwA 22 x.toNatClampNeg)) hfit
        have q1 := hp.1
        have h9 := h.2 H1 locs (fun z => if z = DB + nxt D then q else ad z) lsA (agree.tr ha hadA.a hp.2.1) hP1 hD1 hS1 (hl.agreeA hadA hls) (leD.tr hp hle) (fun e9 => by omega) (hw.al hfit (by rw [hkd]; decide) (fun z => by cases z))
        have e1 : (Value.ref (DB + nxt D) :: r : List Value).map (cv (fun z => if z = DB + nxt D then q else ad z) G.2.2) = Value.ref q :: (r : List Value).map (cv ad G.2.2) := by
          rw [List.map_cons, show cv (fun z => if z = DB + nxt D then q else ad z) G.2.2 (.ref (DB + nxt D)) = Value.ref q from congrArg Value.ref (if_pos rfl)]
          exact congrArg _ (List.map_congr_left (fun v hv => cv_agreeA hadA (hst v hv)))
        rw [e1] at h9
        exact W.widen (by omega) (by omega) h9
    case aconst_null =>
      refine ⟨h.1, fun H locs ad lsA ha hP hD hS hl hp hz hw => ?_⟩
      exact lv_null hx hb (ins_d hk hi rfl) (h.2 H locs ad lsA ha hP hD hS hl hp hz hw)
    case if_acmp cd off =>
      match st, h with
      | .ref (y : Nat) :: .ref (x : Nat) :: r, ⟨hcd, hvx, hvy, ht, hf2⟩ =>
        subst hcd
        have hj := tg_eq (of_decide_eq_true (jmp_ok hk hi))
        refine ⟨(Classical.em (x = y)).elim (fun q => (hf2 q).1) (fun q => (ht q).1), fun H locs ad lsA ha hP hD hS hl hp hz hw => ?_⟩
        refine lv_acmp_ne (rx := some (ad x)) (ry := some (ad y)) hx hb (ins_d hk hi rfl) hj (fun q => (ht (fun e9 => q (by rw [e9]))).2 H locs ad lsA ha hP hD hS hl hp hz hw) (fun q => (hf2 ?_).2 H locs ad lsA ha hP hD hS hl hp hz hw)
        have e9 : ad x = ad y := Option.some.inj q
        have e8 := hD.1 (ps x) (ps y) _ _ (ws_get (Or.inr hvx)) (ws_get (Or.inr hvy)) e9
        rw [← nm_ps (D := D) (o := x) (Or.inr hvx), e8, nm_ps (Or.inr hvy)]
    case ifnonnull off =>
      obtain ⟨o, r, rfl, h⟩ := sA_spec h
      have hj := tg_eq (of_decide_eq_true (jmp_ok hk hi))
      refine ⟨h.1, fun H locs ad lsA ha hP hD hS hl hp hz hw => ?_⟩
      exact lv_ifnonnull hx hb (ins_d hk hi rfl) hj (h.2 H locs ad lsA ha hP hD hS hl hp hz hw)
    case instanceof idx =>
      obtain ⟨o, r, rfl, h0, h1, h⟩ := sA_spec h
      refine ⟨h.1, fun H locs ad lsA ha hP hD hS hl hp hz hw => ?_⟩
      have w1 := cls_fact hk (Or.inl rfl) (by omega) hi
      rw [if_pos h0] at w1
      exact va_instS hx hb hown (htT _ w1) (hK.1 9 _ rfl).2 (va_recv hK hP (ci := 9) (q0 := ps o) (q := (RJ0, TJ0, 4)) rfl (by rw [ws_get (okD h1), cell_dobj h1 (by decide) (by decide)])) (ins_d hk hi rfl) (h.2 H locs ad lsA ha hP hD hS hl hp hz hw)
    case checkcast idx =>
      obtain ⟨o, r, rfl, h0, h⟩ := sA_spec h
      refine ⟨h.1, fun H locs ad lsA ha hP hD hS hl hp hz hw => ?_⟩
      have w1 := cls_fact hk (Or.inr rfl) (by omega) hi
      rcases h0 with ⟨h0, h1⟩ | ⟨h0, h1⟩
      · rw [if_pos h0] at w1
        exact va_castS hx hb hown (htT _ w1) (hK.1 9 _ rfl).2 (va_recv hK hP (ci := 9) (q0 := ps o) (q := (RJ0, TJ0, 4)) rfl (by rw [ws_get (okD h1), cell_dobj h1 (by decide) (by decide)])) (ins_d hk hi rfl) (h.2 H locs ad lsA ha hP hD hS hl hp hz hw)
      · rw [if_neg (by omega)] at w1
        exact va_castA hx hb hown (htT _ w1) hP (ps o) (by rw [ws_get (okD h1), cell_dbyte h1]) (hK.2 2 (G.2.1 2, .byte) rfl).2 (ins_d hk hi rfl) (h.2 H locs ad lsA ha hP hD hS hl hp hz hw)
    case iushr =>
      obtain ⟨x, y, r, rfl, h⟩ := sII_spec h
      refine ⟨h.1, fun H locs ad lsA ha hP hD hS hl hp hz hw => ?_⟩
      exact lv_iushr hx hb (ins_d hk hi rfl) rfl (h.2 H locs ad lsA ha hP hD hS hl hp hz hw)
    case ishl =>
      obtain ⟨x, y, r, rfl, h⟩ := sII_spec h
      refine ⟨h.1, fun H locs ad lsA ha hP hD hS hl hp hz hw => ?_⟩
      exact lv_ishl hx hb (ins_d hk hi rfl) (h.2 H locs ad lsA ha hP hD hS hl hp hz hw)
    case i2d =>
      obtain ⟨x, r, rfl, h⟩ := sI_spec h
      refine ⟨h.1, fun H locs ad lsA ha hP hD hS hl hp hz hw => ?_⟩
      exact lv_i2d hx hb (ins_d hk hi rfl) (h.2 H locs ad lsA ha hP hD hS hl hp hz hw)
    case i2f =>
      obtain ⟨x, r, rfl, h⟩ := sI_spec h
      refine ⟨h.1, fun H locs ad lsA ha hP hD hS hl hp hz hw => ?_⟩
      exact lv_i2f hx hb (ins_d hk hi rfl) (h.2 H locs ad lsA ha hP hD hS hl hp hz hw)
    case ddiv =>
      match st, h with
      | .double y :: .double x :: r, ⟨h0, h⟩ =>
        refine ⟨h.1, fun H locs ad lsA ha hP hD hS hl hp hz hw => ?_⟩
        exact lv_ddiv hx hb (ins_d hk hi rfl) h0 (h.2 H locs ad lsA ha hP hD hS hl hp hz hw)
    case fdiv =>
      match st, h with
      | .float y :: .float x :: r, ⟨h0, h⟩ =>
        refine ⟨h.1, fun H locs ad lsA ha hP hD hS hl hp hz hw => ?_⟩
        exact lv_fdiv hx hb (ins_d hk hi rfl) h0 (h.2 H locs ad lsA ha hP hD hS hl hp hz hw)
    case dcmp op =>
      match st, h with
      | .double y :: .double x :: r, h =>
        refine ⟨h.1, fun H locs ad lsA ha hP hD hS hl hp hz hw => ?_⟩
        exact lv_dcmp hx hb (ins_d hk hi rfl) (h.2 H locs ad lsA ha hP hD hS hl hp hz hw)
    case fcmp op =>
      match st, h with
      | .float y :: .float x :: r, h =>
        refine ⟨h.1, fun H locs ad lsA ha hP hD hS hl hp hz hw => ?_⟩
        exact lv_fcmp hx hb (ins_d hk hi rfl) (h.2 H locs ad lsA ha hP hD hS hl hp hz hw)
    case dconst n =>
      obtain ⟨rfl, h⟩ := h
      refine ⟨h.1, fun H locs ad lsA ha hP hD hS hl hp hz hw => ?_⟩
      exact lv_dconst0 hx hb (ins_d hk hi rfl) (h.2 H locs ad lsA ha hP hD hS hl hp hz hw)
    case fconst n =>
      obtain ⟨rfl, h⟩ := h
      refine ⟨h.1, fun H locs ad lsA ha hP hD hS hl hp hz hw => ?_⟩
      exact lv_fconst0 hx hb (ins_d hk hi rfl) (h.2 H locs ad lsA ha hP hD hS hl hp hz hw)
    case dload x =>
      dsimp only at h
      split at h
      next v hv =>
        obtain ⟨h0, h⟩ := h
        refine ⟨h.1, fun H locs ad lsA ha hP hD hS hl hp hz hw => ?_⟩
        exact lv_dload hx hb (ins_d hk hi rfl) (hl.2.2.2 x (.double v) hv (by simp) (by simp) (fun _ => h0)).2 (h.2 H locs ad lsA ha hP hD hS hl hp hz hw)
      next => exact h.elim
    case fload x =>
      dsimp only at h
      split at h
      next v hv =>
        refine ⟨h.1, fun H locs ad lsA ha hP hD hS hl hp hz hw => ?_⟩
        exact lv_fload hx hb (ins_d hk hi rfl) (hl.get hv rfl) (h.2 H locs ad lsA ha hP hD hS hl hp hz hw)
      next => exact h.elim
    case dstore x =>
      match st, h with
      | .double v :: r, ⟨h0, h⟩ =>
        refine ⟨h.1, fun H locs ad lsA ha hP hD hS hl hp hz hw => ?_⟩
        exact lv_dstore hx hb (ins_d hk hi rfl) hl.has (by rw [← hl.2.2.1]; exact h0) rfl (fun lsB hB => h.2 H locs ad lsB ha hP hD hS (hl.setD hf h0 hB) hp hz hw)
    case fstore x =>
      match st, h with
      | .float v :: r, ⟨h0, h⟩ =>
        refine ⟨h.1, fun H locs ad lsA ha hP hD hS hl hp hz hw => ?_⟩
        exact lv_fstore hx hb (ins_d hk hi rfl) hl.has (by rw [← hl.2.2.1]; exact h0) rfl (fun lsB hB => h.2 H locs ad lsB ha hP hD hS (hl.set hf h0 rfl (by simp) hB) hp hz hw)
    case dreturn => exact hret pc ls st D _ _ _ _ _ hi (Or.inr (Or.inr (Or.inr (Or.inl rfl)))) (by unfold Step; rw [hi]; exact h)
    case freturn => exact hret pc ls st D _ _ _ _ _ hi (Or.inr (Or.inr (Or.inr (Or.inr rfl)))) (by unfold Step; rw [hi]; exact h)
    all_goals exact h.elim
theorem Ct_pos : ∀ d b a D Q, Ct d b a D Q → 1 ≤ d
  | 0, _, _, _, _, h => h.elim
  | d + 1, _, _, _, _, _ => by omega
