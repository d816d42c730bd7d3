/-! the abstract machine's steps are the machine's -/
theorem fld_fact {k pc : Nat} {i : Instr} {idx a b c d : Nat} (hk : k < mnames) (hi : i = .getfield idx ∨ i = .putfield idx) (hb : b ≠ 25) (h : ins k pc = some (i, a, b, c, d)) : ∃ q : vw_C, vwCl[b]? = some q ∧ c < q.2.2 ∧ Cond.fieldLink (cN (nO k)) idx (q.2.1 c).1 (q.2.1 c).2.1 (q.2.1 c).2.2.1 ∈ Tall ∧ (d = 0 → (q.2.1 c).2.2.1 = "I" ∧ (q.2.1 c).2.2.2 = false) ∧ (d = 1 → (q.2.1 c).2.2.1 = "Z" ∧ (q.2.1 c).2.2.2 = false) := by
  have h1 := ins_ok hk h
  unfold eOK at h1
  rw [Bool.and_eq_true] at h1
  have h2 : (match ftab[a]? with
        | some f => decide (f.1 = nO k) && decide (f.2.1 = idx) && decide (f.2.2.1 = b) && decide (f.2.2.2.1 = c) && decide (f.2.2.2.2.1 = d)
        | none => false) = true := by
    rcases hi with rfl | rfl
    · have h3 := h1.2
      dsimp only at h3
      rw [if_neg hb] at h3
      exact h3
    · have h3 := h1.2
      dsimp only at h3
      rw [if_neg hb] at h3
      exact h3
  split at h2
  · next f hf =>
    simp only [Bool.and_eq_true, decide_eq_true_eq] at h2
    obtain ⟨⟨⟨⟨e1, e2⟩, e3⟩, e4⟩, e5⟩ := h2
    have h4 := List.all_eq_true.mp fAll _ (List.mem_of_getElem? hf)
    unfold fOK at h4
    rw [e1, e2, e3, e4, e5] at h4
    split at h4
    · next C T N hq =>
      simp only [Bool.and_eq_true, decide_eq_true_eq] at h4
      exact ⟨(C, T, N), hq, h4.1.1.1, atT_in h4.1.1.2, h4.1.2, h4.2⟩
    · cases h4
  · cases h2
theorem str_fact {k pc : Nat} {idx a b c d : Nat} (hk : k < mnames) (hb : b = 25) (h : ins k pc = some (.getfield idx, a, b, c, d)) : (c = 0 → Cond.fieldLink (cN (nO k)) idx "java/lang/String" "value" "[B" ∈ Tall) ∧ (c = 1 → Cond.fieldLink (cN (nO k)) idx "java/lang/String" "coder" "B" ∈ Tall) := by
  have h1 := ins_ok hk h
  unfold eOK at h1
  rw [Bool.and_eq_true] at h1
  have h3 := h1.2
  dsimp only at h3
  rw [if_pos hb] at h3
  split at h3
  · next f hf =>
    simp only [Bool.and_eq_true, decide_eq_true_eq] at h3
    obtain ⟨⟨e1, e2⟩, e3⟩ := h3
    have h4 := List.all_eq_true.mp rAll _ (List.mem_of_getElem? hf)
    unfold rOK at h4
    rw [e1, e2, e3] at h4
    refine ⟨fun q => ?_, fun q => ?_⟩
    · subst q; exact atT_in h4
    · subst q; exact atT_in h4
  · cases h3
theorem stat_fact {k pc : Nat} {idx a b c d : Nat} (hk : k < mnames) (h : ins k pc = some (.getstatic idx, a, b, c, d)) : (b = 0 → Cond.fieldLink (cN (nO k)) idx "java/lang/String" "COMPACT_STRINGS" "Z" ∈ Tall) ∧ (b = 1 → Cond.fieldLink (cN (nO k)) idx "jdk/internal/util/Preconditions" "SIOOBE_FORMATTER" "Ljava/util/function/BiFunction;" ∈ Tall) ∧
    (b = 2 → Cond.fieldLink (cN (nO k)) idx "java/lang/Integer" "DigitOnes" "[B" ∈ Tall) ∧ (b = 3 → Cond.fieldLink (cN (nO k)) idx "java/lang/Integer" "DigitTens" "[B" ∈ Tall) := by
  have h1 := ins_ok hk h
  unfold eOK at h1
  rw [Bool.and_eq_true] at h1
  have h3 := h1.2
  dsimp only at h3
  split at h3
  · next f hf =>
    simp only [Bool.and_eq_true, decide_eq_true_eq] at h3
    obtain ⟨⟨e1, e2⟩, e3⟩ := h3
    have h4 := List.all_eq_true.mp sAll _ (List.mem_of_getElem? hf)
    unfold sOK at h4
    rw [e1, e2, e3] at h4
    refine ⟨fun q => ?_, fun q => ?_, fun q => ?_, fun q => ?_⟩ <;> (subst q; exact atT_in h4)
  · cases h3
theorem ldc_fact {k pc : Nat} {idx a b c d : Nat} (hk : k < mnames) (h : ins k pc = some (.ldc idx, a, b, c, d)) : ∃ q, ltab[c]? = some q ∧ q.1 = nO k ∧ q.2.1 = idx := by
  have h1 := ins_ok hk h
  unfold eOK at h1
  rw [Bool.and_eq_true] at h1
  have h3 := h1.2
  dsimp only at h3
  split at h3
  · next f hf =>
    simp only [Bool.and_eq_true, decide_eq_true_eq] at h3
    obtain ⟨⟨e1, e2⟩, e3⟩ := h3
    exact ⟨f, by rw [e3]; exact hf, e1, e2⟩
  · cases h3
theorem call_fact {k pc : Nat} {i : Instr} {idx a b c d : Nat} (hk : k < mnames) (hb : b < mnames) (hi : i = .invokevirtual idx ∨ i = .invokestatic idx ∨ i = .invokespecial idx) (h : ins k pc = some (i, a, b, c, d)) :
    Cond.methodLink (cN (nO k)) idx (nY b) ∈ Tall ∧
    (c = 0 → nS b = 0 ∧ rcN (nC b) = (nY b).cls ∧ Cond.selects (nY b).cls (nY b) (nY b) ∈ Tall) ∧ (c = 1 → nS b = 1) ∧
    (c = 2 → nS b = 0 ∧ rcN (nC b) = "java/lang/StringBuilder" ∧ Cond.selects "java/lang/StringBuilder" (nY b) (nY b) ∈ Tall ∧ Cond.sameMethod (nY b).cls (nY b).cls (nY b).name (nY b).desc ∈ Tall) ∧
    (c = 3 → nS b = 0 ∧ rcN (nC b) = "java/lang/StringBuilder" ∧ Cond.sameMethod (nY b).cls (nY b).cls (nY b).name (nY b).desc ∈ Tall ∧ Cond.superclass (cN (nO k)) (nY b).cls ∈ Tall) := by
  have h1 := ins_ok hk h
  unfold eOK at h1
  rw [Bool.and_eq_true] at h1
  have h2 : ∃ ks, callOK k idx a b c ks = true := by
    rcases hi with rfl | rfl | rfl
    · exact ⟨_, h1.2⟩
    · exact ⟨_, h1.2⟩
    · exact ⟨_, h1.2⟩
  obtain ⟨ks, h2⟩ := h2
  obtain ⟨f, hf, e1, e2, e3, e4⟩ := ins_call hb h2
  have h4 := List.all_eq_true.mp iAll f hf
  unfold iOK at h4
  rw [e1, e2, e3, e4] at h4
  simp only [Bool.and_eq_true, decide_eq_true_eq] at h4
  obtain ⟨⟨-, h5⟩, h6⟩ := h4
  refine ⟨atT_in h5, ?_, ?_, ?_, ?_⟩
  · rintro rfl
    rw [if_pos rfl] at h6
    simp only [Bool.and_eq_true, decide_eq_true_eq] at h6
    exact ⟨h6.1.1, h6.1.2, atT_in h6.2⟩
  · rintro rfl
    rw [if_neg (by decide), if_pos rfl] at h6
    exact of_decide_eq_true h6
  · rintro rfl
    rw [if_neg (by decide), if_neg (by decide), if_pos rfl] at h6
    simp only [Bool.and_eq_true, decide_eq_true_eq] at h6
    exact ⟨h6.1.1.1, h6.1.1.2, atT_in h6.1.2, atT_in h6.2⟩
  · rintro rfl
    rw [if_neg (by decide), if_neg (by decide), if_neg (by decide)] at h6
    simp only [Bool.and_eq_true, decide_eq_true_eq] at h6
    exact ⟨h6.1.1.1, h6.1.1.2, atT_in h6.1.2, atT_in h6.2⟩
def PS (p : Program) (l : Launch) (e : Env) (s : State) (m : MethodId) (args : Array Value) (below : List Frame) (meth : Method) (c : Code) (G : Gp) (d k : Nat) (ad0 : Nat → Nat) (D0 : Mm) (rr : Option Value) (D1 : Mm) : Pst := fun pc ls st D =>
  pot D ≤ pot D1 ∧ ∀ (H : Heap) (locs : List Loc) (ad : Nat → Nat) (lsA : Array Slot), agree ad0 ad → va_P G.1 vwCl (wsOf G.2.1 ad D) H → va_D (va_A (wsOf G.2.1 ad0 D0) s.heap.size) (wsOf G.2.1 ad D) → va_S (va_A (wsOf G.2.1 ad0 D0) s.heap.size) s.heap H locs → LOK ad G.2.2 (nL k) lsA ls → pot D0 ≤ pot D → (pot D = pot D0 → ad = ad0) →
    W p l e (rmD d (pot D1 - pot D0)) s m args below meth c H locs (pot D - pot D0) (2 * (pot D - pot D0)) (MQ below (MC G ad0 D0 s.heap.size rr D1) args s (pot D1 - pot D0) (2 * (pot D1 - pot D0)) (va_A (wsOf G.2.1 ad0 D0) s.heap.size)) (F0 m pc lsA (st.map (cv ad G.2.2)))
/-- behind a call -/
theorem call_arm {p : Program} {l : Launch} {e : Env} {s : State} {m : MethodId} {args : Array Value} {below : List Frame} {meth : Method} {c : Code} {G : Gp} {d k : Nat} {ad0 : Nat → Nat} {D0 : Mm} {rr : Option Value} {D1 : Mm}
    {pc : Nat} {ls rest : List Value} {st0 : List Value} {D D2 : Mm} {r : Option Value} {H : Heap} {locs : List Loc} {ad : Nat → Nat} {lsA : Array Slot} {As : Array Value}
    (ha : agree ad0 ad) (hP : va_P G.1 vwCl (wsOf G.2.1 ad D) H) (hD : va_D (va_A (wsOf G.2.1 ad0 D0) s.heap.size) (wsOf G.2.1 ad D)) (hS : va_S (va_A (wsOf G.2.1 ad0 D0) s.heap.size) s.heap H locs) (hl : LOK ad G.2.2 (nL k) lsA ls) (hp : pot D0 ≤ pot D) (hzd : pot D = pot D0 → ad = ad0) (hp2 : pot D ≤ pot D2)
    (hnl : ls.all nvB = true ∨ pot D2 = pot D) (hnr : rest.all nvB = true)
    (hrun : va_Run p l e (rmD d (pot D1 - pot D0)) s m args below meth c H locs (pot D - pot D0) (2 * (pot D - pot D0)) (pot D2 - pot D) (2 * (pot D2 - pot D)) (F0 m pc lsA st0) (rest.map (cv ad G.2.2)) (MC G ad D H.size r D2 As) (va_A (wsOf G.2.1 ad D) H.size))
    (next : PS p l e s m args below meth c G d k ad0 D0 rr D1 (pc + 3) ls (r.toList ++ rest) D2) :
    W p l e (rmD d (pot D1 - pot D0)) s m args below meth c H locs (pot D - pot D0) (2 * (pot D - pot D0)) (MQ below (MC G ad0 D0 s.heap.size rr D1) args s (pot D1 - pot D0) (2 * (pot D1 - pot D0)) (va_A (wsOf G.2.1 ad0 D0) s.heap.size)) (F0 m pc lsA st0) := by
  have hF : ∀ q, va_A (wsOf G.2.1 ad D) H.size q → va_A (wsOf G.2.1 ad0 D0) s.heap.size q := by
    intro q hq
    rcases hq with ⟨j, e, hj⟩ | hq
    · exact hD.2 j _ hj
    · exact Or.inr (Nat.le_trans hS.1 hq)
  refine va_callg (A1 := va_A (wsOf G.2.1 ad D) H.size) (Qx := MX G ad D H.size r D2) hrun hS (fun q _ h => hF q h) hF (fun v t H1 locs1 ht hvm hX hz hkeep hS1 => ?_)
  obtain ⟨ad2, ha2, hv, hP1, hK1, hD1, hz2⟩ := hX
  have hl2 : LOK ad2 G.2.2 (nL k) lsA ls := by
    rcases hnl with hnl | hnl
    · exact hl.agree ha2 hnl
    · rw [hz2 hnl]; exact hl
  have e1 : v.toList ++ rest.map (cv ad G.2.2) = (r.toList ++ rest).map (cv ad2 G.2.2) := by
    rw [hv, List.map_append, cv_agrees ha2 hnr]
    cases r <;> rfl
  rw [e1]
  refine W.cs (cells' := pot D2 - pot D0) (slots' := 2 * (pot D2 - pot D0)) (by omega) (by omega) ?_
  exact next.2 H1 locs1 ad2 lsA (agree.tr ha ha2) (by rw [← ht]; exact hP1) (hD1.weaken (fun _ _ _ h => hF _ h)) hS1 hl2 (Nat.le_trans hp hp2) (fun e => (hz2 (by omega)).trans (hzd (by omega)))
theorem jmp_ok {k pc : Nat} {i : Instr} {a b c d : Nat} (hk : k < mnames) (h : ins k pc = some (i, a, b, c, d)) : jOK pc i = true := by
  obtain ⟨_, _, _, h3⟩ := ins_dec hk h
  exact h3
theorem roc_str {o : Nat} (h1 : 2000 ≤ o) (h2 : o < 2010) : roc o = strB.getD (o - 2000) [] := by
  unfold roc; rw [if_neg (by omega), if_neg (by omega)]
theorem lenB_get {i : Nat} : lenB.getD i 0 = (strB.getD i []).length := by
  unfold lenB
  rw [List.getD_eq_getElem?_getD, List.getD_eq_getElem?_getD, List.getElem?_map]
  cases strB[i]? <;> rfl
theorem RO_arr {ad : Nat → Nat} {fv : Value} {A : Nat → Prop} {U : State} {H : Heap} {o : Nat} (h : RO ad fv A U H) (ho : roK o) : va_T .byte (ad o) (roc o).length (fun j => .int ((roc o).getD j 0)) A U H := by
  rcases ho with ⟨h1, h2⟩ | rfl | rfl
  · have h3 := (h.1.1 (o - 2000) (by omega)).2.2.2
    rw [roc_str h1 h2]
    rw [lenB_get] at h3
    have e : 2000 + (o - 2000) = o := by omega
    dsimp only at h3
    rw [e] at h3
    exact h3
  · exact h.2.2.2.2.1
  · exact h.2.2.2.2.2.2.1
theorem clsneAll : (List.range mnames).all (fun k => decide ((nY k).cls ≠ "")) = true := by decide +kernel
theorem clsne {k : Nat} (hk : k < mnames) : (nY k).cls ≠ "" := of_decide_eq_true (List.all_eq_true.mp clsneAll k (List.mem_range.mpr hk))
theorem good_of {k : Nat} {X : List Cond} (h : ∀ w ∈ X, w ∈ Tall) : GoodIn (wsm k) X := fun w hw => ⟨List.mem_cons_of_mem _ (h w hw), (goodTall w (h w hw)).2⟩
theorem wsm_in {k : Nat} (hk : k < mnames) : ∀ w ∈ wsm k, w ∈ Tall := fun w hw => (goodW k hk w hw).1
theorem rm_ok {d b x y : Nat} (h1 : 1 ≤ d) (h2 : nL b ≤ 19) : (rmD (d - 1) x).frames + 1 ≤ (rmD d y).frames ∧ 8 + (nL b + 11) + (rmD (d - 1) x).locals ≤ (rmD d y).locals := by
  constructor
  · show d - 1 + 1 ≤ d
    omega
  · show 8 + (nL b + 11) + 38 * (d - 1) ≤ 38 * d
    omega
theorem cat_le {ad : Nat → Nat} {fv : Value} (hf : fv.category = 1) {st : List Value} (h : st.all nvB = true) (hl : st.length ≤ 8) : ((st.map (cv ad fv)).map fun v => v.category).sum ≤ 8 := by
  have e : ((st.map (cv ad fv)).map fun v => v.category) = List.replicate st.length 1 := by
    apply List.eq_replicate_iff.mpr
    refine ⟨by simp, fun b hb => ?_⟩
    rw [List.map_map, List.mem_map] at hb
    obtain ⟨v, hv, rfl⟩ := hb
    refine c1_cat hf ?_
    have h1 := List.all_eq_true.mp h v hv
    cases v <;> first | rfl | cases h1
  rw [e]
  simp
  exact hl
theorem st_split {b : Nat} {st : List Value} {o : Nat} (hn : nA b ≤ st.length) (h1 : 1 ≤ nA b) (h0 : ((st.take (nA b)).reverse)[0]? = some (.ref o)) : ∃ As : List Value, (st.take (nA b)).reverse = .ref o :: As ∧ As.length = nA b - 1 ∧ st = As.reverse ++ .ref o :: st.drop (nA b) := by
  cases hr : (st.take (nA b)).reverse with
  | nil => rw [hr] at h0; simp at h0
  | cons x As =>
    rw [hr] at h0
    simp at h0
    subst h0
    have hlen : ((st.take (nA b)).reverse).length = nA b := by simp; omega
    rw [hr] at hlen
    refine ⟨As, rfl, by simp at hlen; omega, ?_⟩
    have h2 : st.take (nA b) = As.reverse ++ [.ref o] := by
      rw [← List.reverse_reverse (st.take (nA b)), hr]
      simp
    have h3 := List.take_append_drop (nA b) st
    rw [h2, List.append_assoc] at h3
    exact h3.symm
/-- the receiver of a call stands in the heap -/
theorem recv_ok {s : State} {G : Gp} {ad0 ad : Nat → Nat} {D D0 : Mm} {H : Heap} {locs : List Loc} {o : Nat} (ha : agree ad0 ad) (hK : va_K G.1 vwCl (tysA G.2.1) s) (hRO0 : RO ad0 G.2.2 (va_A (wsOf G.2.1 ad0 D0) s.heap.size) s s.heap) (hP : va_P G.1 vwCl (wsOf G.2.1 ad D) H) (hS : va_S (va_A (wsOf G.2.1 ad0 D0) s.heap.size) s.heap H locs) (ho : o < 1010) (hr : rcN (rk o) ≠ "") :
    ∃ cell : Cell, H[ad o]? = some cell ∧ cell.vm.isStatics = false ∧ s.vm.findClass (rcN (rk o)) = some cell.cls := by
  unfold rk at hr ⊢
  by_cases h : 1000 ≤ o ∧ o < 1010
  · rw [if_pos h] at hr ⊢
    have hE := (RO.agree ha hRO0).1
    have h2 := vk_recv hE (i := o - 1000) (by omega) hS
    have eo : 1000 + (o - 1000) = o := by omega
    rw [eo] at h2
    exact h2
  · rw [if_neg h] at hr ⊢
    have hlt : (sh o).1 < 20 := by
      rcases Nat.lt_or_ge (sh o).1 20 with q | q
      · exact q
      · refine absurd ?_ hr
        unfold rcN
        rw [if_neg ?_]
        · rw [List.getElem?_eq_none (by simp [vwCl]; omega)]
          rfl
        · intro e
          have ho2 : o < NC := sh_lt (by omega)
          have hm : sh o ∈ shL := by
            unfold sh
            rw [List.getD_eq_getElem?_getD, List.getElem?_eq_getElem (by rw [shAll.1]; exact ho2)]
            exact List.getElem_mem _
          have h9 : shL.all (fun s => !decide (s.1 = 25)) = true := by decide +kernel
          have := List.all_eq_true.mp h9 _ hm
          rw [e] at this
          cases this
    obtain ⟨-, q, hq, -⟩ := sh_cls hlt
    have ho2 : o < NC := sh_lt (by omega)
    obtain ⟨cell, h1, h2, h3⟩ := va_recv hK hP (ci := (sh o).1) (q0 := o) (fs := (List.range (sh o).2.1).map (fld ad D o (sh o).2.2)) hq (by rw [ws_get ho2, cell_obj hlt])
    refine ⟨cell, h1, h2, ?_⟩
    unfold rcN
    rw [if_neg (by omega), hq]
    exact h3
set_option maxHeartbeats 4000000 in
theorem snd_stat {p : Program} {l : Launch} {e : Env} {s : State} {m : MethodId} {args : Array Value} {below : List Frame} {meth : Method} {c : Code} {G : Gp} {d k : Nat} {ad0 : Nat → Nat} {D0 : Mm} {rr : Option Value} {D1 : Mm} (IH : Snd l G d) (hd1 : ∀ b a D Q, Ct d b a D Q → 1 ≤ d) (hk : k < mnames)
    (hx : p.tables.exec = Jvm.exec) (hb : c.code = nB k) (hml : c.maxLocals = nL k) (hown : s.vm.findClass (cN (nO k)) = some m.cls) (hts : ∀ w ∈ wsm k, w.before args s = true)
    (hK : va_K G.1 vwCl (tysA G.2.1) s) (hRO0 : RO ad0 G.2.2 (va_A (wsOf G.2.1 ad0 D0) s.heap.size) s s.heap)
    {pc : Nat} {ls st : List Value} {D : Mm} {idx a b cc dd : Nat}
    (hi : ins k pc = some (.invokestatic idx, a, b, cc, dd)) (h : b < mnames ∧ cc = 1 ∧ callA (Ct d) b ls st D (fun st2 D1x => PS p l e s m args below meth c G d k ad0 D0 rr D1 (pc + 3) ls st2 D1x)) : PS p l e s m args below meth c G d k ad0 D0 rr D1 pc ls st D := by
  obtain ⟨hbm, hcc, hn, hnr, h8, -, h⟩ := h
  have hf : G.2.2.category = 1 := hRO0.2.2.2.2.2.2.2.2
  obtain ⟨r, D2, ⟨hnl, hnext⟩, hp2, hC⟩ := Ct_exact d _ _ _ _ h
  have hd := hd1 _ _ _ _ hC
  obtain ⟨hlink, -, g1, -, -⟩ := call_fact hk hbm (Or.inr (Or.inl rfl)) hi
  have hst := g1 hcc
  obtain ⟨m1, m2, m3, m4, m5, m6, m7, m8, m9, m10⟩ := mfact hbm
  rw [if_pos hst] at m2 m6
  refine ⟨Nat.le_trans hp2 hnext.1, fun H locs ad lsA ha hP hD hS hl hp hz => ?_⟩
  have hM := IH b ((st.take (nA b)).reverse) D r D2 ad H.size hC
  have hA : ∀ q : Nat, s.heap.size ≤ q → va_A (wsOf G.2.1 ad0 D0) s.heap.size q := fun q h => Or.inr h
  have hpre := MP_pre (as := ((st.take (nA b)).reverse).map (cv ad G.2.2)) hP hK hD hS hA (RO.agree ha hRO0)
  have hpd : pot D2 ≤ pot D1 := hnext.1
  refine call_arm (As := (((st.take (nA b)).reverse).map (cv ad G.2.2)).toArray) ha hP hD hS hl hp hz hp2 hnl hnr ?_ hnext
  refine va_runS (As := ((st.take (nA b)).reverse).map (cv ad G.2.2)) (n := nA b) (y := nY b) (bytes := nB b) (maxL := nL b) (ret := nR b) ⟨hx, hb, hml, hown, hts⟩ hM ?_ ⟨MP_blind, hpre⟩ rfl (by simp; omega) hl.1 ?_ (lv_room (cat_le hf hnr h8)) (ins_d hk hi rfl) ⟨by show _ ≤ pot D1 - pot D0; omega, by show _ ≤ 2 * (pot D1 - pot D0); omega⟩
  · refine ⟨callB_of (nA b) hts (good_of (wsm_in hbm)) rfl rfl rfl (hts _ (List.mem_cons_of_mem _ m1)) (hts _ (List.mem_cons_of_mem _ hlink)) ⟨m4.1, m4.2, m6⟩ (rm_ok hd m9), hts _ (List.mem_cons_of_mem _ m2)⟩
  · show st.map (cv ad G.2.2) = _
    rw [← List.map_reverse, List.reverse_reverse, ← List.map_append, List.take_append_drop]
set_option maxHeartbeats 4000000 in
theorem snd_virt {p : Program} {l : Launch} {e : Env} {s : State} {m : MethodId} {args : Array Value} {below : List Frame} {meth : Method} {c : Code} {G : Gp} {d k : Nat} {ad0 : Nat → Nat} {D0 : Mm} {rr : Option Value} {D1 : Mm} (IH : Snd l G d) (hd1 : ∀ b a D Q, Ct d b a D Q → 1 ≤ d) (hk : k < mnames)
    (hx : p.tables.exec = Jvm.exec) (hb : c.code = nB k) (hml : c.maxLocals = nL k) (hown : s.vm.findClass (cN (nO k)) = some m.cls) (hts : ∀ w ∈ wsm k, w.before args s = true)
    (hK : va_K G.1 vwCl (tysA G.2.1) s) (hRO0 : RO ad0 G.2.2 (va_A (wsOf G.2.1 ad0 D0) s.heap.size) s s.heap)
    {pc : Nat} {ls st : List Value} {D : Mm} {idx a b cc dd : Nat}
    (hi : ins k pc = some (.invokevirtual idx, a, b, cc, dd)) (h : b < mnames ∧ (cc = 0 ∨ cc = 2) ∧ callA (Ct d) b ls st D (fun st2 D1x => PS p l e s m args below meth c G d k ad0 D0 rr D1 (pc + 3) ls st2 D1x)) : PS p l e s m args below meth c G d k ad0 D0 rr D1 pc ls st D := by
  obtain ⟨hbm, hcc, hn, hnr, h8, hrecv, h⟩ := h
  have hf : G.2.2.category = 1 := hRO0.2.2.2.2.2.2.2.2
  obtain ⟨r, D2, ⟨hnl, hnext⟩, hp2, hC⟩ := Ct_exact d _ _ _ _ h
  have hd := hd1 _ _ _ _ hC
  obtain ⟨hlink, g0, -, g2, -⟩ := call_fact hk hbm (Or.inl rfl) hi
  have hst : nS b = 0 := hcc.elim (fun q => (g0 q).1) (fun q => (g2 q).1)
  obtain ⟨m1, m2, m3, m4, m5, m6, m7, m8, m9, m10⟩ := mfact hbm
  rw [if_neg (by omega)] at m2 m6
  obtain ⟨o, ho, hrk, ho2⟩ := hrecv hst
  obtain ⟨As, hAs, hAl, hspl⟩ := st_split hn (by omega) ho
  refine ⟨Nat.le_trans hp2 hnext.1, fun H locs ad lsA ha hP hD hS hl hp hz => ?_⟩
  have hM := IH b ((st.take (nA b)).reverse) D r D2 ad H.size hC
  have hA : ∀ q : Nat, s.heap.size ≤ q → va_A (wsOf G.2.1 ad0 D0) s.heap.size q := fun q h => Or.inr h
  have hpre := MP_pre (as := ((st.take (nA b)).reverse).map (cv ad G.2.2)) hP hK hD hS hA (RO.agree ha hRO0)
  have hpd : pot D2 ≤ pot D1 := hnext.1
  rw [hAs] at hM hpre
  refine call_arm (As := (Value.ref (ad o) :: As.map (cv ad G.2.2)).toArray) ha hP hD hS hl hp hz hp2 hnl hnr ?_ hnext
  have hstk : (F0 m pc lsA (st.map (cv ad G.2.2))).stack = (As.map (cv ad G.2.2)).reverse ++ .ref (ad o) :: (st.drop (nA b)).map (cv ad G.2.2) := by
    show st.map (cv ad G.2.2) = _
    conv => lhs; rw [hspl]
    rw [List.map_append, List.map_reverse]
    rfl
  rcases hcc with hcc | hcc
  · obtain ⟨-, g5, g6⟩ := g0 hcc
    have hrc : rcN (rk o) = (nY b).cls := by rw [hrk]; exact g5
    have hcell := recv_ok ha hK hRO0 hP hS ho2 (o := o) (by rw [hrc]; exact clsne hbm)
    rw [hrc] at hcell
    refine va_runV (As := As.map (cv ad G.2.2)) (n := nA b - 1) (y := nY b) (bytes := nB b) (maxL := nL b) (ret := nR b) (C := (nY b).cls) ⟨hx, hb, hml, hown, hts⟩ hM ?_ ⟨MP_blind, hcell, hpre⟩ rfl (by simp; omega) hl.1 hstk (lv_room (cat_le hf hnr h8)) (ins_d hk hi rfl) ⟨by show _ ≤ pot D1 - pot D0; omega, by show _ ≤ 2 * (pot D1 - pot D0); omega⟩
    refine cwV (nA b - 1) hts (good_of ?_) rfl rfl rfl ⟨rfl, m4.1, m4.2, m6⟩ (rm_ok hd m9)
    intro w hw
    unfold wsV at hw
    simp only [List.cons_append, List.nil_append, List.mem_cons] at hw
    rcases hw with rfl | rfl | rfl | rfl | hw
    · exact hlink
    · exact m2
    · exact g6
    · exact m1
    · exact wsm_in hbm w (by simpa using hw)
  · obtain ⟨-, g5, g6, g7⟩ := g2 hcc
    have hrc : rcN (rk o) = "java/lang/StringBuilder" := by rw [hrk]; exact g5
    have hcell := recv_ok ha hK hRO0 hP hS ho2 (o := o) (by rw [hrc]; decide)
    rw [hrc] at hcell
    refine va_runU (As := As.map (cv ad G.2.2)) (n := nA b - 1) (x := nY b) (y := nY b) (owner := (nY b).cls) (bytes := nB b) (maxL := nL b) (ret := nR b) (C := "java/lang/StringBuilder") ⟨hx, hb, hml, hown, hts⟩ hM ?_ ⟨MP_blind, hcell, hpre⟩ rfl (by simp; omega) hl.1 hstk (lv_room (cat_le hf hnr h8)) (ins_d hk hi rfl) ⟨by show _ ≤ pot D1 - pot D0; omega, by show _ ≤ 2 * (pot D1 - pot D0); omega⟩
    refine va_cwU (nA b - 1) hts (good_of ?_) rfl rfl rfl rfl ⟨m4.1, m4.2, m6⟩ (rm_ok hd m9)
    intro w hw
    unfold va_wsU at hw
    simp only [List.cons_append, List.nil_append, List.mem_cons] at hw
    rcases hw with rfl | rfl | rfl | rfl | rfl | hw
    · exact hlink
    · exact g7
    · exact g6
    · exact m2
    · exact m1
    · exact wsm_in hbm w (by simpa using hw)
set_option maxHeartbeats 4000000 in
theorem snd_spec {p : Program} {l : Launch} {e : Env} {s : State} {m : MethodId} {args : Array Value} {below : List Frame} {meth : Method} {c : Code} {G : Gp} {d k : Nat} {ad0 : Nat → Nat} {D0 : Mm} {rr : Option Value} {D1 : Mm} (IH : Snd l G d) (hd1 : ∀ b a D Q, Ct d b a D Q → 1 ≤ d) (hk : k < mnames)
    (hx : p.tables.exec = Jvm.exec) (hb : c.code = nB k) (hml : c.maxLocals = nL k) (hown : s.vm.findClass (cN (nO k)) = some m.cls) (hts : ∀ w ∈ wsm k, w.before args s = true)
    (hK : va_K G.1 vwCl (tysA G.2.1) s) (hRO0 : RO ad0 G.2.2 (va_A (wsOf G.2.1 ad0 D0) s.heap.size) s s.heap)
    {pc : Nat} {ls st : List Value} {D : Mm} {idx a b cc dd : Nat}
    (hi : ins k pc = some (.invokespecial idx, a, b, cc, dd)) (h : b < mnames ∧ cc = 3 ∧ callA (Ct d) b ls st D (fun st2 D1x => PS p l e s m args below meth c G d k ad0 D0 rr D1 (pc + 3) ls st2 D1x)) : PS p l e s m args below meth c G d k ad0 D0 rr D1 pc ls st D := by
  obtain ⟨hbm, hcc, hn, hnr, h8, hrecv, h⟩ := h
  have hf : G.2.2.category = 1 := hRO0.2.2.2.2.2.2.2.2
  obtain ⟨r, D2, ⟨hnl, hnext⟩, hp2, hC⟩ := Ct_exact d _ _ _ _ h
  have hd := hd1 _ _ _ _ hC
  obtain ⟨hlink, -, -, -, g3⟩ := call_fact hk hbm (Or.inr (Or.inr rfl)) hi
  obtain ⟨hst, g5, g6, g7⟩ := g3 hcc
  obtain ⟨m1, m2, m3, m4, m5, m6, m7, m8, m9, m10⟩ := mfact hbm
  rw [if_neg (by omega)] at m2 m6
  obtain ⟨o, ho, hrk, ho2⟩ := hrecv hst
  obtain ⟨As, hAs, hAl, hspl⟩ := st_split hn (by omega) ho
  refine ⟨Nat.le_trans hp2 hnext.1, fun H locs ad lsA ha hP hD hS hl hp hz => ?_⟩
  have hM := IH b ((st.take (nA b)).reverse) D r D2 ad H.size hC
  have hA : ∀ q : Nat, s.heap.size ≤ q → va_A (wsOf G.2.1 ad0 D0) s.heap.size q := fun q h => Or.inr h
  have hpre := MP_pre (as := ((st.take (nA b)).reverse).map (cv ad G.2.2)) hP hK hD hS hA (RO.agree ha hRO0)
  have hpd : pot D2 ≤ pot D1 := hnext.1
  rw [hAs] at hM hpre
  refine call_arm (As := (Value.ref (ad o) :: As.map (cv ad G.2.2)).toArray) ha hP hD hS hl hp hz hp2 hnl hnr ?_ hnext
  have hstk : (F0 m pc lsA (st.map (cv ad G.2.2))).stack = (As.map (cv ad G.2.2)).reverse ++ .ref (ad o) :: (st.drop (nA b)).map (cv ad G.2.2) := by
    show st.map (cv ad G.2.2) = _
    conv => lhs; rw [hspl]
    rw [List.map_append, List.map_reverse]
    rfl
  have hrc : rcN (rk o) = "java/lang/StringBuilder" := by rw [hrk]; exact g5
  have hcell := recv_ok ha hK hRO0 hP hS ho2 (o := o) (by rw [hrc]; decide)
  rw [hrc] at hcell
  refine va_runSU (As := As.map (cv ad G.2.2)) (n := nA b - 1) (y := nY b) (bytes := nB b) (maxL := nL b) (ret := nR b) (C := "java/lang/StringBuilder") (hK.1 0 _ rfl).2 ⟨hx, hb, hml, hown, hts⟩ hM ?_ ⟨MP_blind, hcell, hpre⟩ rfl (by simp; omega) hl.1 hstk (lv_room (cat_le hf hnr h8)) (ins_d hk hi rfl) ⟨by show _ ≤ pot D1 - pot D0; omega, by show _ ≤ 2 * (pot D1 - pot D0); omega⟩
  refine va_cwSU (nA b - 1) hts (good_of ?_) rfl rfl rfl ⟨m5, m6⟩ (rm_ok hd m9)
  intro w hw
  unfold va_wsSU at hw
  simp only [List.cons_append, List.nil_append, List.mem_cons] at hw
  rcases hw with rfl | rfl | rfl | rfl | rfl | hw
  · exact hlink
  · exact g6
  · exact g7
  · exact m2
  · exact m1
  · exact wsm_in hbm w (by simpa using hw)
set_option maxHeartbeats 8000000 in
theorem snd_step {p : Program} {l : Launch} {e : Env} {s : State} {m : MethodId} {args : Array Value} {below : List Frame} {meth : Method} {c : Code} {G : Gp} {d k : Nat} {ad0 : Nat → Nat} {D0 : Mm} {rr : Option Value} {D1 : Mm} (IH : Snd l G d) (hd1 : ∀ b a D Q, Ct d b a D Q → 1 ≤ d) (hk : k < mnames)
    (hx : p.tables.exec = Jvm.exec) (hb : c.code = nB k) (hml : c.maxLocals = nL k) (hr : meth.sig.returnType = nR k) (hown : s.vm.findClass (cN (nO k)) = some m.cls) (hts : ∀ w ∈ wsm k, w.before args s = true) (hlocks : meth.locks = false)
    (hK : va_K G.1 vwCl (tysA G.2.1) s) (hRO0 : RO ad0 G.2.2 (va_A (wsOf G.2.1 ad0 D0) s.heap.size) s s.heap)
    (pc : Nat) (ls st : List Value) (D : Mm) (h : Step (Ct d) k (fun r2 D2 => r2 = rr ∧ D2 = D1) (PS p l e s m args below meth c G d k ad0 D0 rr D1) pc ls st D) : PS p l e s m args below meth c G d k ad0 D0 rr D1 pc ls st D := by
  have hf : G.2.2.category = 1 := hRO0.2.2.2.2.2.2.2.2
  have htT : ∀ w ∈ Tall, w.before args s = true := fun w hw => hts w (List.mem_cons_of_mem _ hw)
  cases hi : ins k pc with
  | none => unfold Step at h; rw [hi] at h; exact h.elim
  | some e0 =>
    obtain ⟨i, a, b, cc, dd⟩ := e0
    unfold Step at h
    rw [hi] at h
    cases i
    case iconst =>
      refine ⟨h.1, fun H locs ad lsA ha hP hD hS hl hp hz => ?_⟩
      exact lv_iconst hx hb (ins_d hk hi rfl) rfl (h.2 H locs ad lsA ha hP hD hS hl hp hz)
    case bipush =>
      refine ⟨h.1, fun H locs ad lsA ha hP hD hS hl hp hz => ?_⟩
      exact lv_bipush hx hb (ins_d hk hi rfl) rfl (h.2 H locs ad lsA ha hP hD hS hl hp hz)
    case sipush =>
      refine ⟨h.1, fun H locs ad lsA ha hP hD hS hl hp hz => ?_⟩
      exact lv_sipush hx hb (ins_d hk hi rfl) rfl (h.2 H locs ad lsA ha hP hD hS hl hp hz)
    case goto =>
      refine ⟨h.1, fun H locs ad lsA ha hP hD hS hl hp hz => ?_⟩
      exact lv_goto hx hb (ins_d hk hi rfl) (tg_eq (of_decide_eq_true (jmp_ok hk hi))) (h.2 H locs ad lsA ha hP hD hS hl hp hz)
    case iload_n =>
      obtain ⟨v, e1, h⟩ := lI_spec h
      refine ⟨h.1, fun H locs ad lsA ha hP hD hS hl hp hz => ?_⟩
      exact lv_iload_n hx hb (ins_d hk hi rfl) rfl (hl.get e1 (by simp)) (h.2 H locs ad lsA ha hP hD hS hl hp hz)
    case iload =>
      obtain ⟨v, e1, h⟩ := lI_spec h
      refine ⟨h.1, fun H locs ad lsA ha hP hD hS hl hp hz => ?_⟩
      exact lv_iload hx hb (ins_d hk hi rfl) (hl.get e1 (by simp)) (h.2 H locs ad lsA ha hP hD hS hl hp hz)
    case aload_n =>
      obtain ⟨v, e1, h⟩ := lA_spec h
      refine ⟨h.1, fun H locs ad lsA ha hP hD hS hl hp hz => ?_⟩
      exact lv_aload_n hx hb (ins_d hk hi rfl) rfl (hl.get e1 (by simp)) (h.2 H locs ad lsA ha hP hD hS hl hp hz)
    case aload =>
      obtain ⟨v, e1, h⟩ := lA_spec h
      refine ⟨h.1, fun H locs ad lsA ha hP hD hS hl hp hz => ?_⟩
      exact lv_aload hx hb (ins_d hk hi rfl) (hl.get e1 (by simp)) (h.2 H locs ad lsA ha hP hD hS hl hp hz)
    case istore_n =>
      obtain ⟨v, r, rfl, h0, h⟩ := sI_spec h
      refine ⟨h.1, fun H locs ad lsA ha hP hD hS hl hp hz => ?_⟩
      exact lv_istore_n hx hb (ins_d hk hi rfl) rfl hl.has (by rw [← hl.2.2.1]; exact h0) rfl (fun lsB hB => h.2 H locs ad lsB ha hP hD hS (hl.set hf h0 rfl hB) hp hz)
    case istore =>
      obtain ⟨v, r, rfl, h0, h⟩ := sI_spec h
      refine ⟨h.1, fun H locs ad lsA ha hP hD hS hl hp hz => ?_⟩
      exact lv_istore hx hb (ins_d hk hi rfl) hl.has (by rw [← hl.2.2.1]; exact h0) rfl (fun lsB hB => h.2 H locs ad lsB ha hP hD hS (hl.set hf h0 rfl hB) hp hz)
    case astore_n =>
      obtain ⟨v, r, rfl, h0, h⟩ := sA_spec h
      refine ⟨h.1, fun H locs ad lsA ha hP hD hS hl hp hz => ?_⟩
      exact lv_astore_n hx hb (ins_d hk hi rfl) rfl hl.has (by rw [← hl.2.2.1]; exact h0) rfl (fun lsB hB => h.2 H locs ad lsB ha hP hD hS (hl.set hf h0 rfl hB) hp hz)
    case astore =>
      obtain ⟨v, r, rfl, h0, h⟩ := sA_spec h
      refine ⟨h.1, fun H locs ad lsA ha hP hD hS hl hp hz => ?_⟩
      exact lv_astore hx hb (ins_d hk hi rfl) hl.has (by rw [← hl.2.2.1]; exact h0) rfl (fun lsB hB => h.2 H locs ad lsB ha hP hD hS (hl.set hf h0 rfl hB) hp hz)
    case iinc x n =>
      obtain ⟨v, e1, h⟩ := lI_spec h
      have h0 : x < ls.length := (List.getElem?_eq_some_iff.mp e1).1
      refine ⟨h.1, fun H locs ad lsA ha hP hD hS hl hp hz => ?_⟩
      obtain ⟨kk, hkk⟩ := List.getElem?_of_mem (lpair_in (ad := ad) (fv := G.2.2) (q := (x, .int v)) |>.mpr ⟨_, e1, by simp, rfl⟩)
      exact lv_iinc hx hb (ins_d hk hi rfl) hl.has hkk rfl (by rw [← hl.2.2.1]; exact h0) rfl (fun lsB hB => h.2 H locs ad lsB ha hP hD hS (hl.set hf h0 rfl hB) hp hz)
    case iadd =>
      obtain ⟨x, y, r, rfl, h⟩ := sII_spec h
      refine ⟨h.1, fun H locs ad lsA ha hP hD hS hl hp hz => ?_⟩
      exact lv_iadd hx hb (ins_d hk hi rfl) (h.2 H locs ad lsA ha hP hD hS hl hp hz)
    case isub =>
      obtain ⟨x, y, r, rfl, h⟩ := sII_spec h
      refine ⟨h.1, fun H locs ad lsA ha hP hD hS hl hp hz => ?_⟩
      exact lv_isub hx hb (ins_d hk hi rfl) (h.2 H locs ad lsA ha hP hD hS hl hp hz)
    case imul =>
      obtain ⟨x, y, r, rfl, h⟩ := sII_spec h
      refine ⟨h.1, fun H locs ad lsA ha hP hD hS hl hp hz => ?_⟩
      exact lv_imul hx hb (ins_d hk hi rfl) (h.2 H locs ad lsA ha hP hD hS hl hp hz)
    case iand =>
      obtain ⟨x, y, r, rfl, h⟩ := sII_spec h
      refine ⟨h.1, fun H locs ad lsA ha hP hD hS hl hp hz => ?_⟩
      exact lv_iand hx hb (ins_d hk hi rfl) (h.2 H locs ad lsA ha hP hD hS hl hp hz)
    case ior =>
      obtain ⟨x, y, r, rfl, h⟩ := sII_spec h
      refine ⟨h.1, fun H locs ad lsA ha hP hD hS hl hp hz => ?_⟩
      exact lv_ior hx hb (ins_d hk hi rfl) (h.2 H locs ad lsA ha hP hD hS hl hp hz)
    case ishr =>
      obtain ⟨x, y, r, rfl, h⟩ := sII_spec h
      refine ⟨h.1, fun H locs ad lsA ha hP hD hS hl hp hz => ?_⟩
      exact lv_ishr hx hb (ins_d hk hi rfl) (h.2 H locs ad lsA ha hP hD hS hl hp hz)
    case idiv =>
      obtain ⟨x, y, r, rfl, h0, h⟩ := sII_spec h
      refine ⟨h.1, fun H locs ad lsA ha hP hD hS hl hp hz => ?_⟩
      exact lv_idiv hx hb (ins_d hk hi rfl) h0 (h.2 H locs ad lsA ha hP hD hS hl hp hz)
    case irem =>
      obtain ⟨x, y, r, rfl, h0, h⟩ := sII_spec h
      refine ⟨h.1, fun H locs ad lsA ha hP hD hS hl hp hz => ?_⟩
      exact lv_irem hx hb (ins_d hk hi rfl) h0 (h.2 H locs ad lsA ha hP hD hS hl hp hz)
    case ineg =>
      obtain ⟨x, r, rfl, h⟩ := sI_spec h
      refine ⟨h.1, fun H locs ad lsA ha hP hD hS hl hp hz => ?_⟩
      exact lv_ineg hx hb (ins_d hk hi rfl) (h.2 H locs ad lsA ha hP hD hS hl hp hz)
    case i2b =>
      obtain ⟨x, r, rfl, h⟩ := sI_spec h
      refine ⟨h.1, fun H locs ad lsA ha hP hD hS hl hp hz => ?_⟩
      exact lv_i2b hx hb (ins_d hk hi rfl) rfl (h.2 H locs ad lsA ha hP hD hS hl hp hz)
    case i2c =>
      obtain ⟨x, r, rfl, h⟩ := sI_spec h
      refine ⟨h.1, fun H locs ad lsA ha hP hD hS hl hp hz => ?_⟩
      exact lv_i2c hx hb (ins_d hk hi rfl) rfl (h.2 H locs ad lsA ha hP hD hS hl hp hz)
    case dup =>
      match st, h with
      | v :: r, ⟨h0, h⟩ =>
        refine ⟨h.1, fun H locs ad lsA ha hP hD hS hl hp hz => ?_⟩
        exact lv_dup hx hb (ins_d hk hi rfl) (c1_cat hf h0) (h.2 H locs ad lsA ha hP hD hS hl hp hz)
    case pop =>
      match st, h with
      | v :: r, ⟨h0, h⟩ =>
        refine ⟨h.1, fun H locs ad lsA ha hP hD hS hl hp hz => ?_⟩
        exact lv_pop hx hb (ins_d hk hi rfl) (c1_cat hf h0) (h.2 H locs ad lsA ha hP hD hS hl hp hz)
    case dup_x1 =>
      match st, h with
      | v :: w :: r, ⟨h0, h1, h⟩ =>
        refine ⟨h.1, fun H locs ad lsA ha hP hD hS hl hp hz => ?_⟩
        exact lv_dup_x1 hx hb (ins_d hk hi rfl) (c1_cat hf h0) (c1_cat hf h1) (h.2 H locs ad lsA ha hP hD hS hl hp hz)
    case dup2 =>
      match st, h with
      | v :: w :: r, ⟨h0, h1, h⟩ =>
        refine ⟨h.1, fun H locs ad lsA ha hP hD hS hl hp hz => ?_⟩
        exact lv_dup2_11 hx hb (ins_d hk hi rfl) (c1_cat hf h0) (c1_cat hf h1) (h.2 H locs ad lsA ha hP hD hS hl hp hz)
    case ifCond cd off =>
      obtain ⟨x, r, rfl, hht, hhf⟩ := sI_spec h
      have hj := tg_eq (of_decide_eq_true (jmp_ok hk hi))
      refine ⟨(Classical.em (icmp cd x 0)).elim (fun q => (hht q).1) (fun q => (hhf q).1), fun H locs ad lsA ha hP hD hS hl hp hz => ?_⟩
      have k1 := fun q => (hht q).2 H locs ad lsA ha hP hD hS hl hp hz
      have k2 := fun q => (hhf q).2 H locs ad lsA ha hP hD hS hl hp hz
      cases cd
      case eq => exact lv_if_eq hx hb (ins_d hk hi rfl) hj k1 k2
      case ne => exact lv_if_ne hx hb (ins_d hk hi rfl) hj k1 (fun q => k2 (fun z => z q))
      case lt => exact lv_if_lt hx hb (ins_d hk hi rfl) hj k1 k2
      case ge => exact lv_if_ge hx hb (ins_d hk hi rfl) hj k1 k2
      case gt => exact lv_if_gt hx hb (ins_d hk hi rfl) hj k1 k2
      case le => exact lv_if_le hx hb (ins_d hk hi rfl) hj k1 k2
    case if_icmp cd off =>
      obtain ⟨x, y, r, rfl, hht, hhf⟩ := sII_spec h
      have hj := tg_eq (of_decide_eq_true (jmp_ok hk hi))
      refine ⟨(Classical.em (icmp cd x y)).elim (fun q => (hht q).1) (fun q => (hhf q).1), fun H locs ad lsA ha hP hD hS hl hp hz => ?_⟩
      have k1 := fun q => (hht q).2 H locs ad lsA ha hP hD hS hl hp hz
      have k2 := fun q => (hhf q).2 H locs ad lsA ha hP hD hS hl hp hz
      cases cd
      case eq => exact lv_icmp_eq hx hb (ins_d hk hi rfl) hj k1 k2
      case ne => exact lv_icmp_ne hx hb (ins_d hk hi rfl) hj k1 (fun q => k2 (fun z => z q))
      case lt => exact lv_icmp_lt hx hb (ins_d hk hi rfl) hj k1 k2
      case ge => exact lv_icmp_ge hx hb (ins_d hk hi rfl) hj k1 k2
      case gt => exact lv_icmp_gt hx hb (ins_d hk hi rfl) hj k1 k2
      case le => exact lv_icmp_le hx hb (ins_d hk hi rfl) hj k1 k2
    case tableswitch dv lo hv os =>
      obtain ⟨x, r, rfl, t, ht, h⟩ := sI_spec h
      refine ⟨h.1, fun H locs ad lsA ha hP hD hS hl hp hz => ?_⟩
      obtain ⟨L, hdec, -, hj⟩ := ins_dec hk hi
      simp only [jOK, Bool.and_eq_true, decide_eq_true_eq, List.all_eq_true] at hj
      unfold tsel at ht
      by_cases hq : x.toInt < lo ∨ hv < x.toInt
      · rw [if_pos hq] at ht
        cases ht
        exact lv_tableOut hx hb hdec hq (tg_eq hj.1) (h.2 H locs ad lsA ha hP hD hS hl hp hz)
      · rw [if_neg hq] at ht
        cases hof : os[(x.toInt - lo).toNat]? with
        | none => rw [hof] at ht; cases ht
        | some off =>
          rw [hof] at ht
          cases ht
          exact lv_tableIn hx hb hdec (fun z => hq (Or.inl z)) (fun z => hq (Or.inr z)) hof (tg_eq (hj.2 off (by
            have := Array.mem_of_getElem? hof
            exact this.val))) (h.2 H locs ad lsA ha hP hD hS hl hp hz)
    case getfield idx =>
      obtain ⟨o, r, rfl, h⟩ := sA_spec h
      have h : gfA _ b cc pc ls D o r := h
      unfold gfA at h
      by_cases hb25 : b = 25
      · rw [if_pos hb25] at h
        obtain ⟨h0, h1, h⟩ := h
        obtain ⟨s1, s2⟩ := str_fact hk hb25 hi
        have eo : 1000 + (o - 1000) = o := by omega
        have eo2 : 2000 + (o - 1000) = o + 1000 := by omega
        by_cases hc : cc = 0
        · rw [if_pos hc] at h
          refine ⟨h.1, fun H locs ad lsA ha hP hD hS hl hp hz => ?_⟩
          have hE := ((RO.agree ha hRO0).1.1 (o - 1000) (by omega)).2.2.1
          dsimp only at hE
          rw [eo, eo2] at hE
          exact vk_getf hx hb hE hS hown (htT _ (s1 hc)) (fun _ z => z) (ins_d hk hi rfl) (h.2 H locs ad lsA ha hP hD hS hl hp hz)
        · rw [if_neg hc] at h
          obtain ⟨hc1, h⟩ := h
          refine ⟨h.1, fun H locs ad lsA ha hP hD hS hl hp hz => ?_⟩
          have hE := ((RO.agree ha hRO0).1.1 (o - 1000) (by omega)).2.1
          dsimp only at hE
          rw [eo] at hE
          exact vk_getf hx hb hE hS hown (htT _ (s2 hc1)) (fun _ z => z) (ins_d hk hi rfl) (h.2 H locs ad lsA ha hP hD hS hl hp hz)
      · rw [if_neg hb25] at h
        obtain ⟨h0, h⟩ := h
        obtain ⟨q, hq, hcN, hlink, -, -⟩ := fld_fact hk (Or.inl rfl) hb25 hi
        have hlt : b < 20 := by have h9 := (List.getElem?_eq_some_iff.mp hq).1; simp [vwCl] at h9; omega
        have hsh : (sh o).1 < 20 := by omega
        have ho : o < NC := sh_lt (by omega)
        obtain ⟨hq1, -⟩ := clsF b q hq
        obtain ⟨hlen, q2, hq2, hN⟩ := sh_cls hsh
        rw [h0, hq] at hq2
        cases hq2
        have hget : ∀ (ad : Nat → Nat), (wsOf G.2.1 ad D)[o]? = some (ad o, .inr (b, (List.range (sh o).2.1).map (fld ad D o (sh o).2.2))) := fun ad => by rw [ws_get ho, cell_obj hsh, h0]
        have hfl : ∀ (ad : Nat → Nat), ((List.range (sh o).2.1).map (fld ad D o (sh o).2.2))[cc]? = some (fld ad D o (sh o).2.2 cc) := fun ad => fs_get (by rw [← hN]; exact hcN)
        cases hrf : (sh o).2.2[cc]? with
        | none => rw [hrf] at h; exact h.elim
        | some z =>
          rw [hrf] at h
          cases z with
          | none =>
            refine ⟨h.1, fun H locs ad lsA ha hP hD hS hl hp hz => ?_⟩
            exact va_get hx hb htT hq1 hown hK hP o (hget ad) hq cc hcN (htT _ hlink) (fun _ z => z) (v := .int (D o cc)) (by rw [hfl]; unfold fld; rw [hrf]) (ins_d hk hi rfl) (h.2 H locs ad lsA ha hP hD hS hl hp hz)
          | some z =>
            refine ⟨h.1, fun H locs ad lsA ha hP hD hS hl hp hz => ?_⟩
            exact va_get hx hb htT hq1 hown hK hP o (hget ad) hq cc hcN (htT _ hlink) (fun _ z => z) (v := .ref (ad z)) (by rw [hfl]; unfold fld; rw [hrf]) (ins_d hk hi rfl) (h.2 H locs ad lsA ha hP hD hS hl hp hz)
    case putfield idx =>
      have h : pfA _ b cc dd pc ls D st := h
      unfold pfA at h
      match st, h with
      | .int v :: .ref (o : Nat) :: r, ⟨hb20, h0, hrf, hdd, h⟩ =>
        obtain ⟨q, hq, hcN, hlink, t0, t1⟩ := fld_fact hk (Or.inr rfl) (by omega) hi
        have hsh : (sh o).1 < 20 := by omega
        have ho : o < NC := sh_lt (by omega)
        obtain ⟨hq1, ty0, hty, hnm⟩ := clsF b q hq
        have hpt : pot (mup D o cc v) = pot D := pot_mup (Or.inl (by omega))
        refine ⟨by rw [← hpt]; exact h.1, fun H locs ad lsA ha hP hD hS hl hp hz => ?_⟩
        have hget : (wsOf G.2.1 ad D)[o]? = some (ad o, .inr (b, (List.range (sh o).2.1).map (fld ad D o (sh o).2.2))) := by rw [ws_get ho, cell_obj hsh, h0]
        have hset : (wsOf G.2.1 ad D).set o (ad o, .inr (b, ((List.range (sh o).2.1).map (fld ad D o (sh o).2.2)).set cc (.int v))) = wsOf G.2.1 ad (mup D o cc v) := ws_mup ho (by rw [cell_obj hsh, h0, fs_set hsh hrf])
        have hlen : cc < ((List.range (sh o).2.1).map (fld ad D o (sh o).2.2)).length := by
          have := (sh_cls hsh).1
          have h9 := (List.getElem?_eq_some_iff.mp hrf).1
          simp
          omega
        have hnext : ∀ (H1 : Heap) (locs1 : List Loc), va_P G.1 vwCl ((wsOf G.2.1 ad D).set o (ad o, .inr (b, ((List.range (sh o).2.1).map (fld ad D o (sh o).2.2)).set cc (.int v)))) H1 → va_D (va_A (wsOf G.2.1 ad0 D0) s.heap.size) ((wsOf G.2.1 ad D).set o (ad o, .inr (b, ((List.range (sh o).2.1).map (fld ad D o (sh o).2.2)).set cc (.int v)))) → va_S (va_A (wsOf G.2.1 ad0 D0) s.heap.size) s.heap H1 locs1 →
            W p l e (rmD d (pot D1 - pot D0)) s m args below meth c H1 locs1 (pot D - pot D0) (2 * (pot D - pot D0)) (MQ below (MC G ad0 D0 s.heap.size rr D1) args s (pot D1 - pot D0) (2 * (pot D1 - pot D0)) (va_A (wsOf G.2.1 ad0 D0) s.heap.size)) (F0 m (pc + 3) lsA (r.map (cv ad G.2.2))) := by
          intro H1 locs1 hP1 hD1 hS1
          rw [hset] at hP1 hD1
          have h9 := h.2 H1 locs1 ad lsA ha hP1 hD1 hS1 hl (by rw [hpt]; exact hp) (by rw [hpt]; exact hz)
          rw [hpt] at h9
          exact h9
        rcases hdd with hdd | ⟨hdd, hv⟩
        · obtain ⟨e1, e2⟩ := t0 hdd
          exact va_put hx hb htT hq1 ty0 hty hnm hown hK hP hD hS o hget hq cc hcN (htT _ hlink) (fun _ z => z) e2 (ty := .int) (by rw [e1]; rfl) rfl rfl hlen (ins_d hk hi rfl) hnext
        · obtain ⟨e1, e2⟩ := t1 hdd
          exact va_put hx hb htT hq1 ty0 hty hnm hown hK hP hD hS o hget hq cc hcN (htT _ hlink) (fun _ z => z) e2 (ty := .boolean) (by rw [e1]; rfl) (by rcases hv with rfl | rfl <;> rfl) (by rcases hv with rfl | rfl <;> rfl) hlen (ins_d hk hi rfl) hnext
    case iaload =>
      obtain ⟨o, j, r, rfl, h0, h1, h⟩ := sIA_spec h
      have ho : o < NC := sh_lt (by omega)
      refine ⟨h.1, fun H locs ad lsA ha hP hD hS hl hp hz => ?_⟩
      exact va_iald hx hb hK hP o 0 (by rw [ws_get ho, cell_int h0]) rfl h1 (ins_d hk hi rfl) (h.2 H locs ad lsA ha hP hD hS hl hp hz)
    case aaload =>
      obtain ⟨o, j, r, rfl, h0, h1, q, hq, h⟩ := sIA_spec h
      have ho : o < NC := sh_lt (by omega)
      refine ⟨h.1, fun H locs ad lsA ha hP hD hS hl hp hz => ?_⟩
      refine va_aldq hx hb hK hP o 3 (by rw [ws_get ho, cell_refs h0]) rfl h1 (ins_d hk hi rfl) ?_
      have h9 := (h.2 H locs ad lsA ha hP hD hS hl hp hz)
      rw [hq]
      exact h9
    case iastore =>
      obtain ⟨o, j, x, r, rfl, h0, h1, h⟩ := sIIA_spec h
      have ho : o < NC := sh_lt (by omega)
      have hpt : pot (mup D o j.toNatClampNeg x) = pot D := pot_mup (Or.inl (by omega))
      refine ⟨by rw [← hpt]; exact h.1, fun H locs ad lsA ha hP hD hS hl hp hz => ?_⟩
      refine va_iast hx hb hK hP hD hS o 0 (by rw [ws_get ho, cell_int h0]) rfl h1 (ins_d hk hi rfl) (fun H1 locs1 hP1 hD1 hS1 => ?_)
      rw [ws_mup (D := D) (j := j.toNatClampNeg) (x := x) ho (by rw [cell_int h0, mup_same])] at hP1 hD1
      have h9 := h.2 H1 locs1 ad lsA ha hP1 hD1 hS1 hl (by rw [hpt]; exact hp) (by rw [hpt]; exact hz)
      rw [hpt] at h9
      exact h9
    case baload =>
      obtain ⟨o, j, r, rfl, h⟩ := sIA_spec h
      rcases h with ⟨h0, h1, h⟩ | ⟨h0, h1, h1b, h⟩ | ⟨h0, h1, h⟩
      · have ho : o < NC := sh_lt (by omega)
        refine ⟨h.1, fun H locs ad lsA ha hP hD hS hl hp hz => ?_⟩
        exact va_zald hx hb hK hP o 1 (by rw [ws_get ho, cell_bool h0]) rfl h1 (ins_d hk hi rfl) (h.2 H locs ad lsA ha hP hD hS hl hp hz)
      · have ho : o < NC := sh_lt (by omega)
        refine ⟨h.1, fun H locs ad lsA ha hP hD hS hl hp hz => ?_⟩
        exact va_bald hx hb hK hP o 2 (by rw [ws_get ho, cell_byte h0]) rfl h1 (ins_d hk hi rfl) (h.2 H locs ad lsA ha hP hD hS hl hp hz)
      · refine ⟨h.1, fun H locs ad lsA ha hP hD hS hl hp hz => ?_⟩
        exact va_tb hx hb (RO_arr (RO.agree ha hRO0) h0) hS h1 rfl (ins_d hk hi rfl) (h.2 H locs ad lsA ha hP hD hS hl hp hz)
    case bastore =>
      obtain ⟨o, j, x, r, rfl, h⟩ := sIIA_spec h
      rcases h with ⟨h0, h1, h⟩ | ⟨h0, h1, h1b, h⟩
      · have ho : o < NC := sh_lt (by omega)
        have hpt : pot (mup D o j.toNatClampNeg (vp_nar .boolean x)) = pot D := pot_mup (Or.inl (by omega))
        refine ⟨by rw [← hpt]; exact h.1, fun H locs ad lsA ha hP hD hS hl hp hz => ?_⟩
        refine va_zast hx hb hK hP hD hS o 1 (by rw [ws_get ho, cell_bool h0]) rfl h1 (ins_d hk hi rfl) (fun H1 locs1 hP1 hD1 hS1 => ?_)
        rw [ws_mup (D := D) (j := j.toNatClampNeg) (x := vp_nar .boolean x) ho (by rw [cell_bool h0, mup_same])] at hP1 hD1
        have h9 := h.2 H1 locs1 ad lsA ha hP1 hD1 hS1 hl (by rw [hpt]; exact hp) (by rw [hpt]; exact hz)
        rw [hpt] at h9
        exact h9
      · have ho : o < NC := sh_lt (by omega)
        have hpt : pot (mup D o j.toNatClampNeg (vp_nar .byte x)) = pot D := pot_mup (Or.inr (by omega))
        refine ⟨by rw [← hpt]; exact h.1, fun H locs ad lsA ha hP hD hS hl hp hz => ?_⟩
        refine va_bast hx hb hK hP hD hS o 2 (by rw [ws_get ho, cell_byte h0]) rfl h1 (ins_d hk hi rfl) (fun H1 locs1 hP1 hD1 hS1 => ?_)
        rw [ws_mup (D := D) (j := j.toNatClampNeg) (x := vp_nar .byte x) ho (by rw [cell_byte h0, mup_same, cap_mup (Or.inr (by omega))])] at hP1 hD1
        have h9 := h.2 H1 locs1 ad lsA ha hP1 hD1 hS1 hl (by rw [hpt]; exact hp) (by rw [hpt]; exact hz)
        rw [hpt] at h9
        exact h9
    case arraylength =>
      obtain ⟨o, r, rfl, h⟩ := sA_spec h
      rcases h with ⟨h0, h⟩ | ⟨h0, h⟩ | ⟨h0, h⟩
      · have ho : o < NC := sh_lt (by omega)
        refine ⟨h.1, fun H locs ad lsA ha hP hD hS hl hp hz => ?_⟩
        exact va_alen (x := (cap D o, .inl (D o))) hx hb hK hP o 2 (by rw [ws_get ho, cell_byte h0]) rfl rfl (ins_d hk hi rfl) (h.2 H locs ad lsA ha hP hD hS hl hp hz)
      · have ho : o < NC := sh_lt (by omega)
        refine ⟨h.1, fun H locs ad lsA ha hP hD hS hl hp hz => ?_⟩
        exact va_alen (x := ((sh o).2.1, .inl (D o))) hx hb hK hP o 0 (by rw [ws_get ho, cell_int h0]) rfl rfl (ins_d hk hi rfl) (h.2 H locs ad lsA ha hP hD hS hl hp hz)
      · refine ⟨h.1, fun H locs ad lsA ha hP hD hS hl hp hz => ?_⟩
        exact va_tlen hx hb (RO_arr (RO.agree ha hRO0) h0) hS rfl (ins_d hk hi rfl) (h.2 H locs ad lsA ha hP hD hS hl hp hz)
    case getstatic idx =>
      obtain ⟨v, hv, h⟩ := h
      obtain ⟨f0, f1, f2, f3⟩ := stat_fact hk hi
      refine ⟨h.1, fun H locs ad lsA ha hP hD hS hl hp hz => ?_⟩
      have hR := RO.agree ha hRO0
      match b, hv, f0, f1, f2, f3 with
      | 0, hv, f0, _, _, _ => cases hv; exact va_gets hx hb hR.2.1 hS hown (htT _ (f0 rfl)) (fun _ z => z) (ins_d hk hi rfl) (h.2 H locs ad lsA ha hP hD hS hl hp hz)
      | 1, hv, _, f1, _, _ => cases hv; exact va_gets hx hb hR.2.2.1 hS hown (htT _ (f1 rfl)) (fun _ z => z) (ins_d hk hi rfl) (h.2 H locs ad lsA ha hP hD hS hl hp hz)
      | 2, hv, _, _, f2, _ => cases hv; exact va_gets hx hb hR.2.2.2.1 hS hown (htT _ (f2 rfl)) (fun _ z => z) (ins_d hk hi rfl) (h.2 H locs ad lsA ha hP hD hS hl hp hz)
      | 3, hv, _, _, _, f3 => cases hv; exact va_gets hx hb hR.2.2.2.2.2.1 hS hown (htT _ (f3 rfl)) (fun _ z => z) (ins_d hk hi rfl) (h.2 H locs ad lsA ha hP hD hS hl hp hz)
    case ldc idx =>
      obtain ⟨h0, h1, h⟩ := h
      obtain ⟨q, hq, e1, e2⟩ := ldc_fact hk hi
      refine ⟨h.1, fun H locs ad lsA ha hP hD hS hl hp hz => ?_⟩
      have hZ := (RO.agree ha hRO0).2.2.2.2.2.2.2.1 cc h1 q hq
      rw [e1, e2] at hZ
      exact va_ldcS hx hb hown hZ (ins_d hk hi rfl) (h.2 H locs ad lsA ha hP hD hS hl hp hz)
    case ireturn =>
      match st, h with
      | [.int v], ⟨h0, h⟩ =>
        obtain ⟨rfl, rfl⟩ := h
        refine ⟨Nat.le_refl _, fun H locs ad lsA ha hP hD hS hl hp hz => ?_⟩
        have hq : ∀ t : State, t.heap = H → s.WarmedH t.vm → MC G ad0 D0 s.heap.size (some (.int v)) D args s (.returned (some (.int v))) t := fun t ht hW => ⟨⟨_, rfl, ad, ha, rfl, by rw [ht]; exact hP, va_K.moved hW.alike hK, hD, hz⟩, hS.F ht⟩
        unfold retK at h0
        split at h0
        next e1 => exact W.iret hx hb (by rw [hr]; exact e1) hq hS.2.2 (ins_d hk hi rfl) hlocks
        next ty hty e1 => exact W.zret hx hb (by rw [hr]; exact e1) h0.2 hq hS.2.2 (ins_d hk hi rfl) hlocks
        next => exact h0.elim
    case areturn =>
      match st, h with
      | [.ref v], ⟨h0, h1, h⟩ =>
        obtain ⟨rfl, rfl⟩ := h
        refine ⟨Nat.le_refl _, fun H locs ad lsA ha hP hD hS hl hp hz => ?_⟩
        have hq : ∀ t : State, t.heap = H → s.WarmedH t.vm → MC G ad0 D0 s.heap.size (some (.ref v)) D args s (.returned (some (.ref (ad v)))) t := fun t ht hW => ⟨⟨_, rfl, ad, ha, rfl, by rw [ht]; exact hP, va_K.moved hW.alike hK, hD, hz⟩, hS.F ht⟩
        unfold retA at h1
        split at h1
        next n e1 => exact W.aret hx hb (by rw [hr]; exact e1) (Or.inl ⟨_, rfl⟩) (Or.inr ⟨_, rfl⟩) hq hS.2.2 (ins_d hk hi rfl) hlocks
        next => exact h1.elim
    case return_ =>
      obtain ⟨h1, rfl, h⟩ := h
      obtain ⟨rfl, rfl⟩ := h
      refine ⟨Nat.le_refl _, fun H locs ad lsA ha hP hD hS hl hp hz => ?_⟩
      exact W.vret hx hb (by rw [hr]; exact h1) (fun t ht hW => ⟨⟨_, rfl, ad, ha, rfl, by rw [ht]; exact hP, va_K.moved hW.alike hK, hD, hz⟩, hS.F ht⟩) hS.2.2 (ins_d hk hi rfl) hlocks
    case invokevirtual idx =>
      exact snd_virt IH hd1 hk hx hb hml hown hts hK hRO0 hi h
    case invokestatic idx =>
      exact snd_stat IH hd1 hk hx hb hml hown hts hK hRO0 hi h
    case invokespecial idx =>
      exact snd_spec IH hd1 hk hx hb hml hown hts hK hRO0 hi h
    all_goals exact h.elim
theorem Ct_pos : ∀ d b a D Q, Ct d b a D Q → 1 ≤ d
  | 0, _, _, _, _, h => h.elim
  | d + 1, _, _, _, _, _ => by omega
/-- every contract of the abstract machine is one of the machine's; the capacity of a text is a contract of its own -/
theorem snd_all {l : Launch} {G : Gp} (hE : ∀ d, 4 ≤ d → ∀ (args : List Value) (D : Mm) (r : Option Value) (D1 : Mm) (ad : Nat → Nat) (sz : Nat), ensS args D (fun r2 D2 => r2 = r ∧ D2 = D1) →
    Met l (nY ensK) (wsm ensK) (rmD d (pot D1 - pot D)) (va_Pc (args.map (cv ad G.2.2)) (MP G ad D sz)) (MC G ad D sz r D1) (pot D1 - pot D) (2 * (pot D1 - pot D)) (va_A (wsOf G.2.1 ad D) sz)) : ∀ d, Snd l G d
  | 0 => fun _ _ _ _ _ _ _ h => h.elim
  | d + 1 => by
    have IH := snd_all hE d
    intro k args D r D1 ad sz h
    unfold Ct at h
    by_cases hk : k = ensK
    · rw [if_pos hk] at h
      subst hk
      exact hE d h.1 args D r D1 ad sz h.2
    · rw [if_neg hk] at h
      obtain ⟨hkm, hal, hac, hW⟩ := h
      obtain ⟨m1, m2, m3, m4, m5, m6, m7, m8, m9, m10⟩ := mfact hkm
      refine va_MetF (cc := nB k) (maxL := nL k) (ret := nR k) m10 rfl ?_
      intro p e s m args0 below meth c s₁ B hml hv
      obtain ⟨rfl, hsz, hP, hK, hD0, hRO⟩ := hv
      have hts := atoms_spec (ws := wsm k) B.pre
      have hown : s.vm.findClass (cN (nO k)) = some m.cls := by rw [← m3]; exact findClass_of_methodNamed B.named
      subst hsz
      have hf : G.2.2.category = 1 := hRO.2.2.2.2.2.2.2.2
      have hps := hW (PS p l e s m ((args.map (cv ad G.2.2)).toArray) below meth c G d k ad D r D1) (fun pc ls st D2 hst => snd_step IH (Ct_pos d) hkm B.exec B.bytes hml B.returns hown hts B.notSynchronized hK hRO pc ls st D2 hst)
      have hl := LOK.entry (ad := ad) hf hac (n := nL k) (by rw [hal]; exact m8)
      rw [lg_entry_eq]
      have h9 := hps.2 s.heap [] ad _ agree.rf hP hD0.self va_S.rf (by rw [hal] at hl; exact hl) (Nat.le_refl _) (fun _ => rfl)
      rw [Nat.sub_self] at h9
      exact h9

