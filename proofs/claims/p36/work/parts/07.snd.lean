/-! the tables' facts at an instruction -/
theorem lk_in {pc : Nat} {x : Instr × Nat × Nat × Nat × Nat} : ∀ {es : List Ent}, lk pc es = some x → (pc, x) ∈ es
  | [], h => by cases h
  | e :: r, h => by
    unfold lk at h
    by_cases he : e.1 = pc
    · rw [if_pos he] at h
      cases h
      subst he
      exact List.mem_cons_self
    · rw [if_neg he] at h
      exact List.mem_cons_of_mem _ (lk_in h)
theorem ins_ok {k pc : Nat} {i : Instr} {a b c d : Nat} (hk : k < mnames + 1) (h : ins k pc = some (i, a, b, c, d)) : eOK k (pc, i, a, b, c, d) = true := by
  unfold ins at h
  cases hm : mE[k]? with
  | none => rw [hm] at h; cases h
  | some es =>
    rw [hm] at h
    have h1 := eAll k hk
    unfold eAllK at h1
    rw [List.getD_eq_getElem?_getD, hm] at h1
    exact List.all_eq_true.mp h1 _ (lk_in h)
theorem ins_dec {k pc : Nat} {i : Instr} {a b c d : Nat} (hk : k < mnames + 1) (h : ins k pc = some (i, a, b, c, d)) : ∃ L, decode (nB k) pc = .ok (i, L) ∧ (L = ilen i ∨ isTS i = true) ∧ jOK pc i = true := by
  have h1 := ins_ok hk h
  unfold eOK at h1
  rw [Bool.and_eq_true, Bool.and_eq_true] at h1
  obtain ⟨⟨h2, h3⟩, -⟩ := h1
  dsimp only at h2 h3
  split at h2
  · next i2 L he =>
    rw [Bool.and_eq_true, Bool.or_eq_true] at h2
    have e := of_decide_eq_true h2.1
    subst e
    exact ⟨L, he, h2.2.elim (fun q => Or.inl (of_decide_eq_true q)) Or.inr, h3⟩
  · cases h2
/-- the decode row of an instruction of a known length -/
theorem ins_d {k pc : Nat} {i : Instr} {a b c d : Nat} (hk : k < mnames + 1) (h : ins k pc = some (i, a, b, c, d)) (hn : isTS i = false) : decode (nB k) pc = .ok (i, ilen i) := by
  obtain ⟨L, h1, h2, -⟩ := ins_dec hk h
  rcases h2 with h2 | h2
  · rw [h1, h2]
  · rw [hn] at h2; cases h2
theorem ins_call {k idx a b c : Nat} {kinds : List Nat} (hb : b < mnames) (h : callOK k idx a b c kinds = true) : ∃ f, f ∈ itab ∧ f.1 = nO k ∧ f.2.1 = idx ∧ f.2.2.1 = b ∧ f.2.2.2.1 = c := by
  unfold callOK at h
  rw [Bool.or_eq_true] at h
  rcases h with h | h
  · have := of_decide_eq_true h
    have e : mnames = 218 := rfl
    omega
  · split at h
    · next f hf =>
      simp only [Bool.and_eq_true, decide_eq_true_eq] at h
      exact ⟨f, List.mem_of_getElem? hf, h.1.1.1.1, h.1.1.1.2, h.1.1.2, h.1.2⟩
    · cases h
/-- what the tables say of a method -/
theorem mfact {k : Nat} (hk : k < mnames) : Cond.initialized (nY k).cls ∈ Tall ∧ (if nS k = 1 then Cond.static (nY k) ∈ Tall else Cond.instanceMethod (nY k) ∈ Tall) ∧ (nY k).cls = cN (nO k) ∧
    ((nY k).cls ≠ "java/lang/invoke/MethodHandle" ∧ (nY k).cls ≠ "java/lang/invoke/VarHandle") ∧
    (parseMethodDescriptor (nY k).desc).map (fun d => d.parameters.length) = some (if nS k = 1 then nA k else nA k - 1) ∧ (nS k = 1 ∨ 1 ≤ nA k) ∧ nA k ≤ nL k ∧ nL k ≤ 21 ∧ plainFor (nY k) = true := by
  have h := List.all_eq_true.mp mAll k (List.mem_range.mpr hk)
  unfold mOK at h
  simp only [Bool.and_eq_true, decide_eq_true_eq] at h
  obtain ⟨⟨⟨⟨⟨⟨⟨⟨h1, h2⟩, h3⟩, h4⟩, h6⟩, h7⟩, h8⟩, h9⟩, h10⟩ := h
  refine ⟨atT_in h1, ?_, h3, h4, h6, h7, h8, h9, h10⟩
  by_cases q : nS k = 1
  · rw [if_pos q] at h2 ⊢; exact atT_in h2
  · rw [if_neg q] at h2 ⊢; exact atT_in h2
/-- a call, whatever it answers -/
theorem va_callg {p : Program} {l : Launch} {e : Env} {R : Room} {s : State} {m : MethodId} {args : Array Value} {below : List Frame} {meth : Method} {c : Code} {H : Heap} {locs : List Loc} {cells slots : Nat} {Q : State → Prop}
    {pc : Nat} {ls : Array Slot} {rest st0 : List Value} {A0 A1 : Nat → Prop} {H0 : Heap} {mc ms : Nat} {free : Addr → Prop} {Qx : Option Value → State → Prop}
    (hr : va_Run p l e R s m args below meth c H locs cells slots mc ms (F0 m pc ls st0) rest (fun st oc t => (∃ v, oc = .returned v ∧ Qx v t) ∧ va_F A1 st t) free) (hS : va_S A0 H0 H locs) (hA : ∀ q, q < H.size → A1 q → A0 q) (hf : ∀ q, free q → A0 q)
    (kk : ∀ (v : Option Value) (t : State) (H1 : Heap) (locs1 : List Loc), t.heap = H1 → s.vm.Alike t.vm → Qx v t → H.size ≤ H1.size → (∀ q : Nat, q < H.size → ¬ A1 q → H1[q]? = H[q]?) → va_S A0 H0 H1 locs1 → W p l e R s m args below meth c H1 locs1 (cells + mc) (slots + ms) Q (F0 m (pc + 3) ls (v.toList ++ rest))) : W p l e R s m args below meth c H locs cells slots Q (F0 m pc ls st0) := by
  intro T hT X
  obtain ⟨v, st₀, t, T', L, h0, X', hL, e1, e2, ⟨⟨v2, hv, hp⟩, hz, hk⟩, st⟩ := hr T hT X
  cases hv
  rw [h0] at hz hk
  obtain ⟨t2, a1, b1⟩ := kk v t T'.heap (locs ++ L) e1.symm (by rw [← e2]; exact X'.warmed.alike) hp (by rw [e1]; exact hz) (fun q h1 h2 => by rw [e1]; exact hk q h1 h2)
    ⟨Nat.le_trans hS.1 (by rw [e1]; exact hz), fun q h1 h2 => by rw [e1, hk q (Nat.lt_of_lt_of_le h1 hS.1) (fun z => h2 (hA q (Nat.lt_of_lt_of_le h1 hS.1) z))]; exact hS.2.1 q h1 h2, fun q hq => by
      rcases List.mem_append.mp hq with h | h
      · exact hS.2.2 q h
      · exact hf _ (hL q h)⟩ T' rfl X'
  exact ⟨t2, st t2 a1, b1⟩
def tysA (cA : Nat → ClassId) : List (ClassId × FieldType) := [(cA 0, .int), (cA 1, .boolean), (cA 2, .byte), (cA 3, .object "CandleStatute$State")]
abbrev wsm (k : Nat) : List Cond := Cond.code (nY k) (nB k) (nL k) (nR k) :: Tall
def rmD (d mc : Nat) : Room := { frames := d + 1, cells := mc, slots := 2 * mc, locals := 40 * d + 40 }
abbrev Gp : Type := va_G × (Nat → ClassId) × Value
def MP (G : Gp) (ad : Nat → Nat) (D : Mm) (sz : Nat) : State → Prop := fun U =>
  U.heap.size = sz ∧ va_P G.1 vwCl (wsOf G.2.1 ad D) U.heap ∧ va_K G.1 vwCl (tysA G.2.1) U ∧ va_D (fun _ => True) (wsOf G.2.1 ad D) ∧ RO ad G.2.2 (va_A (wsOf G.2.1 ad D) sz) U U.heap ∧ WFD D ∧ SX ad (D 4000) (va_A (wsOf G.2.1 ad D) sz) U U.heap
def MX (G : Gp) (ad : Nat → Nat) (D : Mm) (sz : Nat) (r : Option Value) (D1 : Mm) : Option Value → State → Prop := fun v t =>
  ∃ ad2, agree (nxt D) ad ad2 ∧ v = r.map (cv ad2 G.2.2) ∧ va_P G.1 vwCl (wsOf G.2.1 ad2 D1) t.heap ∧ va_K G.1 vwCl (tysA G.2.1) t ∧ va_D (va_A (wsOf G.2.1 ad D) sz) (wsOf G.2.1 ad2 D1) ∧ (pot D1 = pot D → ad2 = ad) ∧ WFD D1
def MC (G : Gp) (ad : Nat → Nat) (D : Mm) (sz : Nat) (r : Option Value) (D1 : Mm) : Array Value → State → Outcome → State → Prop := fun _ st oc t =>
  (∃ v, oc = .returned v ∧ MX G ad D sz r D1 v t) ∧ va_F (va_A (wsOf G.2.1 ad D) sz) st t
def Snd (l : Launch) (G : Gp) (d : Nat) : Prop := ∀ (k : Nat) (args : List Value) (D : Mm) (r : Option Value) (D1 : Mm) (ad : Nat → Nat) (sz : Nat), Ct d k args D (fun r2 D2 => r2 = r ∧ D2 = D1) →
  Met l (nY k) (wsm k) (rmD (d - 1) (pot D1 - pot D)) (va_Pc (args.map (cv ad G.2.2)) (MP G ad D sz)) (MC G ad D sz r D1) (pot D1 - pot D) (2 * (pot D1 - pot D)) (va_A (wsOf G.2.1 ad D) sz)
theorem MP_blind {G : Gp} {ad : Nat → Nat} {D : Mm} {sz : Nat} {as : List Value} : FrameBlind (va_Pc as (MP G ad D sz)) := by
  intro a U g mk h
  obtain ⟨h0, h1, h2, h3, h4, h5, h6, h7⟩ := h
  exact ⟨h0, h1, h2, va_K.moved (u := U) (U := U.calling g mk a) (Vm.Alike.refl U.vm) h3, h4, RO.moved (u := U) (U := U.calling g mk a) (Vm.Alike.refl U.vm) (fun _ _ _ _ q => vk_R.same (u := U) (U := U.calling g mk a) rfl q) h5, h6, SX.same (u := U) (U := U.calling g mk a) rfl h7⟩
theorem MP_pre {G : Gp} {ad : Nat → Nat} {D : Mm} {A : Nat → Prop} {s : State} {H : Heap} {locs : List Loc} {as : List Value} (hP : va_P G.1 vwCl (wsOf G.2.1 ad D) H) (hK : va_K G.1 vwCl (tysA G.2.1) s) (hD : va_D A (wsOf G.2.1 ad D)) (hS : va_S A s.heap H locs) (hA : ∀ q : Nat, s.heap.size ≤ q → A q) (hR : RO ad G.2.2 A s s.heap) (hW0 : WFD D) (hX : SX ad (D 4000) A s s.heap) :
    ∀ U : State, U.heap = H → s.WarmedH U.vm → va_Pc as (MP G ad D H.size) as.toArray U := by
  intro U hU hW
  have hq : ∀ q, va_A (wsOf G.2.1 ad D) H.size q → A q := by
    intro q hq
    rcases hq with ⟨j, e, hj⟩ | hq
    · exact hD.2 j _ hj
    · exact hA q (Nat.le_trans hS.1 hq)
  refine ⟨rfl, by rw [hU], by rw [hU]; exact hP, va_K.moved hW.alike hK, hD.weaken (fun _ _ _ _ => trivial), ?_, hW0, ?_⟩
  · rw [hU]
    refine RO.moved hW.alike (fun _ _ _ _ q => vk_R.warm hW q) ?_
    exact RO.narrow (A := A) hq (RO.kept hS.2.1 hR)
  · rw [hU]
    exact SX.warm hW (SX.narrow (A := A) hq (SX.kept hS.1 hS.2.1 hX))
theorem tg_eq {pc : Nat} {off : Int} (h : 0 ≤ (pc : Int) + off) : (pc : Int) + off = (tg pc off : Int) := by
  unfold tg; omega
theorem goodT {X : List Cond} (h : ∀ w ∈ X, w ∈ Tall) : GoodIn Tall X := fun w hw => goodTall w (h w hw)
theorem goodW (k : Nat) (hk : k < mnames) : GoodIn Tall (wsm k) := fun w hw => by
  rcases List.mem_cons.mp hw with h | h
  · rw [h]; exact goodTall _ (codeIn k hk)
  · exact goodTall w h
theorem goodWm {k k2 : Nat} (hk : k2 < mnames) : GoodIn (wsm k) (wsm k2) := fun w hw => ⟨List.mem_cons_of_mem _ (goodW k2 hk w hw).1, (goodW k2 hk w hw).2⟩
