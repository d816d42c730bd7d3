/-! the classes of the cells -/
theorem lays_J4 : (List.range 4).all (fun j => atT (([7002, 7004, 7006, 7008] : List Nat).getD j 0) (u_lay RJ4 TJ4 j)) = true := by decide +kernel
theorem uin_J4 : ∀ w ∈ u_ws RJ4 TJ4 4, w ∈ Tall := by
  intro w hw
  obtain ⟨j, hj, rfl⟩ := List.mem_map.mp hw
  exact atT_in (List.all_eq_true.mp lays_J4 j hj)
theorem lays_X0 : (List.range 3).all (fun j => atT (([6146, 6148, 6150] : List Nat).getD j 0) (u_lay RX0 TX0 j)) = true := by decide +kernel
theorem uin_X0 : ∀ w ∈ u_ws RX0 TX0 3, w ∈ Tall := by
  intro w hw
  obtain ⟨j, hj, rfl⟩ := List.mem_map.mp hw
  exact atT_in (List.all_eq_true.mp lays_X0 j hj)
theorem lays_X1 : (List.range 6).all (fun j => atT (([6189, 6191, 6193, 6195, 6197, 6199] : List Nat).getD j 0) (u_lay RX1 TX1 j)) = true := by decide +kernel
theorem uin_X1 : ∀ w ∈ u_ws RX1 TX1 6, w ∈ Tall := by
  intro w hw
  obtain ⟨j, hj, rfl⟩ := List.mem_map.mp hw
  exact atT_in (List.all_eq_true.mp lays_X1 j hj)
theorem lays_X2 : (List.range 3).all (fun j => atT (([6165, 6167, 6169] : List Nat).getD j 0) (u_lay RX2 TX2 j)) = true := by decide +kernel
theorem uin_X2 : ∀ w ∈ u_ws RX2 TX2 3, w ∈ Tall := by
  intro w hw
  obtain ⟨j, hj, rfl⟩ := List.mem_map.mp hw
  exact atT_in (List.all_eq_true.mp lays_X2 j hj)
theorem lays_X3 : (List.range 3).all (fun j => atT (([6213, 6215, 6217] : List Nat).getD j 0) (u_lay RX3 TX3 j)) = true := by decide +kernel
theorem uin_X3 : ∀ w ∈ u_ws RX3 TX3 3, w ∈ Tall := by
  intro w hw
  obtain ⟨j, hj, rfl⟩ := List.mem_map.mp hw
  exact atT_in (List.all_eq_true.mp lays_X3 j hj)
theorem lays_X4 : (List.range 11).all (fun j => atT (([6109, 6111, 6113, 6115, 6117, 6119, 6121, 6123, 6125, 6127, 6129] : List Nat).getD j 0) (u_lay RX4 TX4 j)) = true := by decide +kernel
theorem uin_X4 : ∀ w ∈ u_ws RX4 TX4 11, w ∈ Tall := by
  intro w hw
  obtain ⟨j, hj, rfl⟩ := List.mem_map.mp hw
  exact atT_in (List.all_eq_true.mp lays_X4 j hj)
theorem lays_X5 : (List.range 9).all (fun j => atT (([6066, 6068, 6070, 6072, 6074, 6076, 6078, 6080, 6082] : List Nat).getD j 0) (u_lay RX5 TX5 j)) = true := by decide +kernel
theorem uin_X5 : ∀ w ∈ u_ws RX5 TX5 9, w ∈ Tall := by
  intro w hw
  obtain ⟨j, hj, rfl⟩ := List.mem_map.mp hw
  exact atT_in (List.all_eq_true.mp lays_X5 j hj)
theorem lays_X6 : (List.range 9).all (fun j => atT (([7021, 7023, 7025, 7027, 7029, 7031, 7033, 7035, 7037] : List Nat).getD j 0) (u_lay RX6 TX6 j)) = true := by decide +kernel
theorem uin_X6 : ∀ w ∈ u_ws RX6 TX6 9, w ∈ Tall := by
  intro w hw
  obtain ⟨j, hj, rfl⟩ := List.mem_map.mp hw
  exact atT_in (List.all_eq_true.mp lays_X6 j hj)
theorem lays_X7 : (List.range 25).all (fun j => atT (([10056, 10058, 10060, 10062, 10064, 10066, 10068, 10070, 10072, 10074, 10076, 10078, 10080, 10082, 10084, 10086, 10088, 10090, 10092, 10094, 10096, 10098, 10100, 10102, 10104] : List Nat).getD j 0) (u_lay RX7 TX7 j)) = true := by decide +kernel
theorem uin_X7 : ∀ w ∈ u_ws RX7 TX7 25, w ∈ Tall := by
  intro w hw
  obtain ⟨j, hj, rfl⟩ := List.mem_map.mp hw
  exact atT_in (List.all_eq_true.mp lays_X7 j hj)
def ClsF (ci : Nat) : Prop := ∀ q : vw_C, vwCl[ci]? = some q → (∀ w ∈ u_ws q.1 q.2.1 q.2.2, w ∈ Tall) ∧ ∃ ty0 : Nat → FieldType, (∀ k, k < q.2.2 → parseFieldDescriptor (q.2.1 k).2.2.1 = some (ty0 k)) ∧ (∀ a, a < q.2.2 → ∀ b, b < q.2.2 → a ≠ b → (q.2.1 a).2.1 ≠ (q.2.1 b).2.1)
theorem clsF (ci : Nat) : ClsF ci := by
  intro q hq
  match ci, hq with
  | 0, hq => cases hq; exact ⟨uin_J4, tyJ4, tyJ4_ok, nmJ4⟩
  | 1, hq => cases hq; exact ⟨uin_X0, tyX0, tyX0_ok, nmX0⟩
  | 2, hq => cases hq; exact ⟨uin_X1, tyX1, tyX1_ok, nmX1⟩
  | 3, hq => cases hq; exact ⟨uin_X2, tyX2, tyX2_ok, nmX2⟩
  | 4, hq => cases hq; exact ⟨uin_X3, tyX3, tyX3_ok, nmX3⟩
  | 5, hq => cases hq; exact ⟨uin_X4, tyX4, tyX4_ok, nmX4⟩
  | 6, hq => cases hq; exact ⟨uin_X5, tyX5, tyX5_ok, nmX5⟩
  | 7, hq => cases hq; exact ⟨uin_X6, tyX6, tyX6_ok, nmX6⟩
  | 8, hq => cases hq; exact ⟨uin_X7, tyX7, tyX7_ok, nmX7⟩
  | n + 9, hq => simp [vwCl] at hq
/-! from the abstract cells to the machine's -/
def cv (ad : Nat → Nat) (fv : Value) : Value → Value
  | .ref a => .ref (ad a)
  | .retAddr _ => fv
  | v => v
def fld (ad : Nat → Nat) (D : Mm) (k : Nat) (rs : List (Option Nat)) (j : Nat) : Value := match rs[j]? with
  | some (some q) => .ref (ad q)
  | _ => .int (D k j)
def cellOf (cA : Nat → ClassId) (ad : Nat → Nat) (D : Mm) (k : Nat) : va_E :=
  if (sh k).1 < 20 then .inr ((sh k).1, (List.range (sh k).2.1).map (fld ad D k (sh k).2.2))
  else if (sh k).1 = 20 then .inl (cA 0, (sh k).2.1, .inl (D k))
  else if (sh k).1 = 21 then .inl (cA 1, (sh k).2.1, .inl (D k))
  else if (sh k).1 = 22 then .inl (cA 2, cap D k, .inl (D k))
  else .inl (cA 3, (sh k).2.1, .inr (.inr (.inr (.inr (fun j => match (sh k).2.2[j]? with
    | some (some q) => some (ad q)
    | _ => none)))))
def wsOf (cA : Nat → ClassId) (ad : Nat → Nat) (D : Mm) : va_W := (List.range NC).map (fun k => (ad k, cellOf cA ad D k))
def shQ (s : Shp) : Bool := !decide (s.1 < 20) || (decide (s.2.2.length = s.2.1) && match vwCl[s.1]? with
  | some q => decide (q.2.2 = s.2.1)
  | none => false)
theorem shAll : shL.length = NC ∧ shL.all shQ = true := by decide +kernel
theorem sh_lt {o : Nat} (h : (sh o).1 ≠ 99) : o < NC := by
  rcases Nat.lt_or_ge o NC with q | q
  · exact q
  · refine absurd ?_ h
    unfold sh
    rw [List.getD_eq_getElem?_getD, List.getElem?_eq_none (by rw [shAll.1]; exact q)]
    rfl
theorem sh_cls {o : Nat} (h : (sh o).1 < 20) : (sh o).2.2.length = (sh o).2.1 ∧ ∃ q, vwCl[(sh o).1]? = some q ∧ q.2.2 = (sh o).2.1 := by
  have ho : o < NC := sh_lt (by omega)
  have hm : sh o ∈ shL := by
    unfold sh
    rw [List.getD_eq_getElem?_getD, List.getElem?_eq_getElem (by rw [shAll.1]; exact ho)]
    exact List.getElem_mem _
  have h2 := List.all_eq_true.mp shAll.2 _ hm
  unfold shQ at h2
  rw [decide_eq_true h, Bool.not_true, Bool.false_or, Bool.and_eq_true] at h2
  refine ⟨of_decide_eq_true h2.1, ?_⟩
  have h3 := h2.2
  split at h3
  · exact ⟨_, by assumption, of_decide_eq_true h3⟩
  · cases h3
theorem ws_get {cA : Nat → ClassId} {ad : Nat → Nat} {D : Mm} {o : Nat} (h : o < NC) : (wsOf cA ad D)[o]? = some (ad o, cellOf cA ad D o) := by
  unfold wsOf
  rw [List.getElem?_map, List.getElem?_range h]
  rfl
theorem ws_at {cA : Nat → ClassId} {ad : Nat → Nat} {D : Mm} {k : Nat} {q : Nat × va_E} (h : (wsOf cA ad D)[k]? = some q) : k < NC ∧ q = (ad k, cellOf cA ad D k) := by
  have hk : k < NC := by
    have := (List.getElem?_eq_some_iff.mp h).1
    unfold wsOf at this
    simpa using this
  rw [ws_get hk] at h
  exact ⟨hk, (Option.some.inj h).symm⟩
theorem cell_obj {cA : Nat → ClassId} {ad : Nat → Nat} {D : Mm} {o : Nat} (h : (sh o).1 < 20) : cellOf cA ad D o = .inr ((sh o).1, (List.range (sh o).2.1).map (fld ad D o (sh o).2.2)) := by
  unfold cellOf; rw [if_pos h]
theorem cell_int {cA : Nat → ClassId} {ad : Nat → Nat} {D : Mm} {o : Nat} (h : (sh o).1 = 20) : cellOf cA ad D o = .inl (cA 0, (sh o).2.1, .inl (D o)) := by
  unfold cellOf; rw [if_neg (by omega), if_pos h]
theorem cell_bool {cA : Nat → ClassId} {ad : Nat → Nat} {D : Mm} {o : Nat} (h : (sh o).1 = 21) : cellOf cA ad D o = .inl (cA 1, (sh o).2.1, .inl (D o)) := by
  unfold cellOf; rw [if_neg (by omega), if_neg (by omega), if_pos h]
theorem cell_byte {cA : Nat → ClassId} {ad : Nat → Nat} {D : Mm} {o : Nat} (h : (sh o).1 = 22) : cellOf cA ad D o = .inl (cA 2, cap D o, .inl (D o)) := by
  unfold cellOf; rw [if_neg (by omega), if_neg (by omega), if_neg (by omega), if_pos h]
theorem cell_refs {cA : Nat → ClassId} {ad : Nat → Nat} {D : Mm} {o : Nat} (h : (sh o).1 = 23) : cellOf cA ad D o = .inl (cA 3, (sh o).2.1, .inr (.inr (.inr (.inr (fun j => match (sh o).2.2[j]? with
    | some (some q) => some (ad q)
    | _ => none))))) := by
  unfold cellOf; rw [if_neg (by omega), if_neg (by omega), if_neg (by omega), if_neg (by omega)]
theorem mup_same {D : Mm} {c j : Nat} {x : Int32} : mup D c j x c = upd (D c) j x := by
  funext i; unfold mup upd; rw [if_pos rfl]
theorem mup_ne {D : Mm} {c j k : Nat} {x : Int32} (h : k ≠ c) : mup D c j x k = D k := by
  funext i; unfold mup; rw [if_neg h]
theorem cell_ne {cA : Nat → ClassId} {ad : Nat → Nat} {D : Mm} {c j k : Nat} {x : Int32} (h : k ≠ c) : cellOf cA ad (mup D c j x) k = cellOf cA ad D k := by
  have e1 : fld ad (mup D c j x) k (sh k).2.2 = fld ad D k (sh k).2.2 := by
    funext i; unfold fld; rw [mup_ne h]
  unfold cellOf cap
  rw [mup_ne h, e1]
theorem ws_mup {cA : Nat → ClassId} {ad : Nat → Nat} {D : Mm} {o j : Nat} {x : Int32} {e : va_E} (ho : o < NC) (he : cellOf cA ad (mup D o j x) o = e) : (wsOf cA ad D).set o (ad o, e) = wsOf cA ad (mup D o j x) := by
  apply List.ext_getElem?
  intro i
  rcases Nat.lt_or_ge i NC with hi | hi
  · rw [ws_get hi]
    by_cases h : o = i
    · subst h
      rw [List.getElem?_set_self (by unfold wsOf; simpa using ho), he]
    · rw [List.getElem?_set_ne h, ws_get hi, cell_ne (fun q => h q.symm)]
  · rw [List.getElem?_eq_none (by simp [wsOf]; exact hi), List.getElem?_eq_none (by simp [wsOf]; exact hi)]
theorem fs_get {ad : Nat → Nat} {D : Mm} {o c n : Nat} {rs : List (Option Nat)} (hc : c < n) : ((List.range n).map (fld ad D o rs))[c]? = some (fld ad D o rs c) := by
  rw [List.getElem?_map, List.getElem?_range hc]; rfl
theorem fs_set {ad : Nat → Nat} {D : Mm} {o c : Nat} {x : Int32} (h : (sh o).1 < 20) (hc : (sh o).2.2[c]? = some none) : ((List.range (sh o).2.1).map (fld ad D o (sh o).2.2)).set c (.int x) = (List.range (sh o).2.1).map (fld ad (mup D o c x) o (sh o).2.2) := by
  have hl : c < (sh o).2.1 := by
    rw [← (sh_cls h).1]; exact (List.getElem?_eq_some_iff.mp hc).1
  apply List.ext_getElem?
  intro i
  rcases Nat.lt_or_ge i (sh o).2.1 with hi | hi
  · rw [fs_get hi]
    by_cases e : c = i
    · subst e
      rw [List.getElem?_set_self (by simpa using hl)]
      unfold fld
      rw [hc, mup_same]
      unfold upd
      rw [if_pos rfl]
    · rw [List.getElem?_set_ne e, fs_get hi]
      unfold fld
      rw [mup_same]
      unfold upd
      rw [if_neg (fun q => e q.symm)]
  · rw [List.getElem?_eq_none (by simpa using hi), List.getElem?_eq_none (by simpa using hi)]
/-- agreeing but for the rows of the text builders -/
def agree (ad ad2 : Nat → Nat) : Prop := ∀ k, k ≠ 181 → k ≠ 182 → ad2 k = ad k
theorem agree.rf {ad : Nat → Nat} : agree ad ad := fun _ _ _ => rfl
theorem agree.tr {a b c : Nat → Nat} (h : agree a b) (h2 : agree b c) : agree a c := fun k x y => (h2 k x y).trans (h k x y)
theorem cv_agree {ad ad2 : Nat → Nat} {fv : Value} (h : agree ad ad2) {v : Value} (hv : nvB v = true) : cv ad2 fv v = cv ad fv v := by
  cases v with
  | ref a =>
    simp only [nvB, Bool.and_eq_true, Bool.not_eq_true', beq_eq_false_iff_ne, ne_eq] at hv
    show Value.ref (ad2 a) = Value.ref (ad a)
    rw [h a hv.1 hv.2]
  | _ => rfl
theorem cv_agrees {ad ad2 : Nat → Nat} {fv : Value} (h : agree ad ad2) {st : List Value} (hv : st.all nvB = true) : st.map (cv ad2 fv) = st.map (cv ad fv) := by
  apply List.map_congr_left
  intro v hm
  exact cv_agree h (List.all_eq_true.mp hv v hm)
/-- the locals -/
def LOK (ad : Nat → Nat) (fv : Value) (nL : Nat) (lsA : Array Slot) (ls : List Value) : Prop := lsA.size = nL ∧ lv_wf lsA ∧ ls.length = nL ∧ ∀ (i : Nat) (v : Value), ls[i]? = some v → v ≠ .retAddr 0 → c1B v = true ∧ lsA[i]? = some (.val (cv ad fv v))
theorem LOK.agree {ad ad2 : Nat → Nat} {fv : Value} {n : Nat} {lsA : Array Slot} {ls : List Value} (h : agree ad ad2) (hv : ls.all nvB = true) (hl : LOK ad fv n lsA ls) : LOK ad2 fv n lsA ls := by
  refine ⟨hl.1, hl.2.1, hl.2.2.1, fun i v hi hne => ?_⟩
  obtain ⟨h1, h2⟩ := hl.2.2.2 i v hi hne
  refine ⟨h1, ?_⟩
  rw [cv_agree h (List.all_eq_true.mp hv v (List.mem_of_getElem? hi))]
  exact h2
theorem c1_cat {ad : Nat → Nat} {fv v : Value} (hf : fv.category = 1) (h : c1B v = true) : (cv ad fv v).category = 1 := by
  cases v <;> first | rfl | exact hf | cases h
def lpair (ad : Nat → Nat) (fv : Value) (ls : List Value) : List (Nat × Value) := (List.range ls.length).filterMap (fun i => match ls[i]? with
  | some v => if v = .retAddr 0 then none else some (i, cv ad fv v)
  | none => none)
theorem lpair_in {ad : Nat → Nat} {fv : Value} {ls : List Value} {q : Nat × Value} : q ∈ lpair ad fv ls ↔ ∃ v, ls[q.1]? = some v ∧ v ≠ .retAddr 0 ∧ q.2 = cv ad fv v := by
  unfold lpair
  rw [List.mem_filterMap]
  constructor
  · rintro ⟨i, hi, h⟩
    split at h
    · next v hv =>
      split at h
      · cases h
      · next hn => cases h; exact ⟨v, hv, hn, rfl⟩
    · cases h
  · rintro ⟨v, hv, hn, e⟩
    refine ⟨q.1, List.mem_range.mpr (List.getElem?_eq_some_iff.mp hv).1, ?_⟩
    rw [hv]
    show (if v = .retAddr 0 then none else some (q.1, cv ad fv v)) = some q
    rw [if_neg hn, ← e]
theorem LOK.has {ad : Nat → Nat} {fv : Value} {n : Nat} {lsA : Array Slot} {ls : List Value} (h : LOK ad fv n lsA ls) : lv_has lsA n (lpair ad fv ls) := by
  refine ⟨h.1, h.2.1, fun q hq => ?_⟩
  obtain ⟨v, h1, h2, h3⟩ := lpair_in.mp hq
  rw [h3]
  exact (h.2.2.2 q.1 v h1 h2).2
theorem LOK.get {ad : Nat → Nat} {fv : Value} {n : Nat} {lsA : Array Slot} {ls : List Value} (h : LOK ad fv n lsA ls) {i : Nat} {v : Value} (hi : ls[i]? = some v) (hv : v ≠ .retAddr 0) : lsA[i]? = some (.val (cv ad fv v)) := (h.2.2.2 i v hi hv).2
/-- behind a store -/
theorem LOK.set {ad : Nat → Nat} {fv : Value} {n : Nat} {lsA : Array Slot} {ls : List Value} (hf : fv.category = 1) (h : LOK ad fv n lsA ls) {i : Nat} {v : Value} (hi : i < ls.length) (hc : c1B v = true) {ls2 : Array Slot}
    (h2 : lv_has ls2 n ((i, cv ad fv v) :: (lpair ad fv ls).filter (fun q => !(q.1 == i) && !(q.1 + 1 == i && q.2.category == 2)))) : LOK ad fv n ls2 (ls.set i v) := by
  refine ⟨h2.1, h2.2.1, by rw [List.length_set]; exact h.2.2.1, fun j w hj hw => ?_⟩
  by_cases e : i = j
  · subst e
    rw [List.getElem?_set_self hi] at hj
    cases hj
    exact ⟨hc, h2.2.2 (i, cv ad fv v) List.mem_cons_self⟩
  · rw [List.getElem?_set_ne e] at hj
    obtain ⟨g1, g2⟩ := h.2.2.2 j w hj hw
    refine ⟨g1, h2.2.2 (j, cv ad fv w) (List.mem_cons_of_mem _ (List.mem_filter.mpr ⟨lpair_in.mpr ⟨w, hj, hw, rfl⟩, ?_⟩))⟩
    have hcat := c1_cat (ad := ad) hf g1
    simp only [hcat, Bool.and_eq_true, Bool.not_eq_true', beq_eq_false_iff_ne, ne_eq]
    refine ⟨fun q => e q.symm, ?_⟩
    simp
theorem lvargs_in {ad : Nat → Nat} {fv : Value} (hf : fv.category = 1) : ∀ (args : List Value) (n : Nat), args.all c1B = true → ∀ (i : Nat) (v : Value), args[i]? = some v → (n + i, cv ad fv v) ∈ lv_args n (args.map (cv ad fv))
  | [], _, _, i, v, h => by simp at h
  | a :: r, n, hc, i, v, h => by
    rw [List.all_cons, Bool.and_eq_true] at hc
    have hcat := c1_cat (ad := ad) hf hc.1
    show (n + i, cv ad fv v) ∈ (n, cv ad fv a) :: lv_args (if (cv ad fv a).category = 2 then n + 2 else n + 1) (r.map (cv ad fv))
    rw [if_neg (by omega)]
    cases i with
    | zero =>
      cases h
      exact List.mem_cons_self
    | succ i =>
      have h2 := lvargs_in (ad := ad) hf r (n + 1) hc.2 i v h
      rw [show n + (i + 1) = n + 1 + i by omega]
      exact List.mem_cons_of_mem _ h2
theorem lgsl_len {ad : Nat → Nat} {fv : Value} (hf : fv.category = 1) : ∀ (args : List Value), args.all c1B = true → (lg_sl (args.map (cv ad fv))).length = args.length
  | [], _ => rfl
  | a :: r, hc => by
    rw [List.all_cons, Bool.and_eq_true] at hc
    have hcat := c1_cat (ad := ad) hf hc.1
    have ih := lgsl_len (ad := ad) hf r hc.2
    unfold lg_sl at ih ⊢
    rw [List.map_cons, List.flatMap_cons, if_neg (by omega), List.length_append, ih]
    simp
    omega
theorem LOK.entry {ad : Nat → Nat} {fv : Value} (hf : fv.category = 1) {args : List Value} {n : Nat} (hc : args.all c1B = true) (hn : args.length ≤ n) : LOK ad fv n ((lg_sl (args.map (cv ad fv)) ++ List.replicate (n - (lg_sl (args.map (cv ad fv))).length) Slot.unset).toArray) (args ++ List.replicate (n - args.length) (.retAddr 0)) := by
  have hl := lgsl_len (ad := ad) hf args hc
  have h := lv_entry (args.map (cv ad fv)) (n := n) (by rw [hl]; exact hn)
  refine ⟨h.1, h.2.1, by simp; omega, fun i v hi hv => ?_⟩
  rcases Nat.lt_or_ge i args.length with q | q
  · rw [List.getElem?_append_left q] at hi
    have h2 := h.2.2 _ (lvargs_in hf args 0 hc i v hi)
    rw [Nat.zero_add] at h2
    exact ⟨List.all_eq_true.mp hc v (List.mem_of_getElem? hi), h2⟩
  · rw [List.getElem?_append_right q, List.getElem?_replicate] at hi
    split at hi
    · cases hi; exact absurd rfl hv
    · cases hi
/-- what is never written: constants' texts, the JDK's statics -/
def lenB : List Nat := strB.map List.length
def RO (ad : Nat → Nat) (fv : Value) (A : Nat → Prop) (U : State) (H : Heap) : Prop :=
  vk_S 10 lenB strB (fun i => ad (1000 + i)) (fun i => ad (2000 + i)) A U H ∧
  va_Z "java/lang/String" "COMPACT_STRINGS" "Z" (.int 1) A U H ∧
  va_Z "jdk/internal/util/Preconditions" "SIOOBE_FORMATTER" "Ljava/util/function/BiFunction;" fv A U H ∧
  va_Z "java/lang/Integer" "DigitOnes" "[B" (.ref (ad 3000)) A U H ∧ va_T .byte (ad 3000) 100 (fun j => .int (dgO.getD j 0)) A U H ∧
  va_Z "java/lang/Integer" "DigitTens" "[B" (.ref (ad 3001)) A U H ∧ va_T .byte (ad 3001) 100 (fun j => .int (dgT.getD j 0)) A U H ∧
  (∀ c, c < 10 → ∀ q, ltab[c]? = some q → vk_R (cN q.1) q.2.1 q.2.2.2 (ad (1000 + c)) U) ∧ fv.category = 1
theorem RO.moved {ad : Nat → Nat} {fv : Value} {A : Nat → Prop} {u U : State} {H : Heap} (hvm : u.vm.Alike U.vm) (hR : ∀ own k tx a, vk_R own k tx a u → vk_R own k tx a U) (h : RO ad fv A u H) : RO ad fv A U H :=
  ⟨h.1.moved hvm, h.2.1.moved hvm, h.2.2.1.moved hvm, h.2.2.2.1.moved hvm, h.2.2.2.2.1.moved hvm, h.2.2.2.2.2.1.moved hvm, h.2.2.2.2.2.2.1.moved hvm, fun c hc q hq => hR _ _ _ _ (h.2.2.2.2.2.2.2.1 c hc q hq), h.2.2.2.2.2.2.2.2⟩
theorem RO.kept {ad : Nat → Nat} {fv : Value} {A : Nat → Prop} {U : State} {H H1 : Heap} (hq : ∀ a : Nat, a < H.size → ¬ A a → H1[a]? = H[a]?) (h : RO ad fv A U H) : RO ad fv A U H1 :=
  ⟨h.1.kept hq, h.2.1.kept hq, h.2.2.1.kept hq, h.2.2.2.1.kept hq, h.2.2.2.2.1.kept hq, h.2.2.2.2.2.1.kept hq, h.2.2.2.2.2.2.1.kept hq, h.2.2.2.2.2.2.2.1, h.2.2.2.2.2.2.2.2⟩
theorem RO.narrow {ad : Nat → Nat} {fv : Value} {A B : Nat → Prop} {U : State} {H : Heap} (hAB : ∀ q, B q → A q) (h : RO ad fv A U H) : RO ad fv B U H :=
  ⟨h.1.narrow hAB, h.2.1.narrow hAB, h.2.2.1.narrow hAB, h.2.2.2.1.narrow hAB, h.2.2.2.2.1.narrow hAB, h.2.2.2.2.2.1.narrow hAB, h.2.2.2.2.2.2.1.narrow hAB, h.2.2.2.2.2.2.2.1, h.2.2.2.2.2.2.2.2⟩
theorem RO.agree {ad ad2 : Nat → Nat} {fv : Value} {A : Nat → Prop} {U : State} {H : Heap} (ha : agree ad ad2) (h : RO ad fv A U H) : RO ad2 fv A U H := by
  have e1 : (fun i => ad2 (1000 + i)) = (fun i => ad (1000 + i)) := by funext i; exact ha _ (by omega) (by omega)
  have e2 : (fun i => ad2 (2000 + i)) = (fun i => ad (2000 + i)) := by funext i; exact ha _ (by omega) (by omega)
  have e3 := ha 3000 (by decide) (by decide)
  have e4 := ha 3001 (by decide) (by decide)
  have e5 : ∀ c, ad2 (1000 + c) = ad (1000 + c) := fun c => ha _ (by omega) (by omega)
  unfold RO at h ⊢
  rw [e1, e2, e3, e4]
  refine ⟨h.1, h.2.1, h.2.2.1, h.2.2.2.1, h.2.2.2.2.1, h.2.2.2.2.2.1, h.2.2.2.2.2.2.1, fun c hc q hq => ?_, h.2.2.2.2.2.2.2.2⟩
  rw [e5]
  exact h.2.2.2.2.2.2.2.1 c hc q hq

