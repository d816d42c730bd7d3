/-! the classes of the cells -/
theorem lays_J4 : (List.range 4).all (fun j => atT (([4003, 4005, 4007, 4009] : List Nat).getD j 0) (u_lay RJ4 TJ4 j)) = true := by decide +kernel
theorem uin_J4 : ∀ w ∈ u_ws RJ4 TJ4 4, w ∈ Tall := by
  intro w hw
  obtain ⟨j, hj, rfl⟩ := List.mem_map.mp hw
  exact atT_in (List.all_eq_true.mp lays_J4 j hj)
theorem lays_X0 : (List.range 3).all (fun j => atT (([3146, 3148, 3150] : List Nat).getD j 0) (u_lay RX0 TX0 j)) = true := by decide +kernel
theorem uin_X0 : ∀ w ∈ u_ws RX0 TX0 3, w ∈ Tall := by
  intro w hw
  obtain ⟨j, hj, rfl⟩ := List.mem_map.mp hw
  exact atT_in (List.all_eq_true.mp lays_X0 j hj)
theorem lays_X1 : (List.range 6).all (fun j => atT (([3189, 3191, 3193, 3195, 3197, 3199] : List Nat).getD j 0) (u_lay RX1 TX1 j)) = true := by decide +kernel
theorem uin_X1 : ∀ w ∈ u_ws RX1 TX1 6, w ∈ Tall := by
  intro w hw
  obtain ⟨j, hj, rfl⟩ := List.mem_map.mp hw
  exact atT_in (List.all_eq_true.mp lays_X1 j hj)
theorem lays_X2 : (List.range 3).all (fun j => atT (([3165, 3167, 3169] : List Nat).getD j 0) (u_lay RX2 TX2 j)) = true := by decide +kernel
theorem uin_X2 : ∀ w ∈ u_ws RX2 TX2 3, w ∈ Tall := by
  intro w hw
  obtain ⟨j, hj, rfl⟩ := List.mem_map.mp hw
  exact atT_in (List.all_eq_true.mp lays_X2 j hj)
theorem lays_X3 : (List.range 3).all (fun j => atT (([3213, 3215, 3217] : List Nat).getD j 0) (u_lay RX3 TX3 j)) = true := by decide +kernel
theorem uin_X3 : ∀ w ∈ u_ws RX3 TX3 3, w ∈ Tall := by
  intro w hw
  obtain ⟨j, hj, rfl⟩ := List.mem_map.mp hw
  exact atT_in (List.all_eq_true.mp lays_X3 j hj)
theorem lays_X4 : (List.range 11).all (fun j => atT (([3109, 3111, 3113, 3115, 3117, 3119, 3121, 3123, 3125, 3127, 3129] : List Nat).getD j 0) (u_lay RX4 TX4 j)) = true := by decide +kernel
theorem uin_X4 : ∀ w ∈ u_ws RX4 TX4 11, w ∈ Tall := by
  intro w hw
  obtain ⟨j, hj, rfl⟩ := List.mem_map.mp hw
  exact atT_in (List.all_eq_true.mp lays_X4 j hj)
theorem lays_X5 : (List.range 9).all (fun j => atT (([3066, 3068, 3070, 3072, 3074, 3076, 3078, 3080, 3082] : List Nat).getD j 0) (u_lay RX5 TX5 j)) = true := by decide +kernel
theorem uin_X5 : ∀ w ∈ u_ws RX5 TX5 9, w ∈ Tall := by
  intro w hw
  obtain ⟨j, hj, rfl⟩ := List.mem_map.mp hw
  exact atT_in (List.all_eq_true.mp lays_X5 j hj)
theorem lays_X6 : (List.range 9).all (fun j => atT (([4022, 4024, 4026, 4028, 4030, 4032, 4034, 4036, 4038] : List Nat).getD j 0) (u_lay RX6 TX6 j)) = true := by decide +kernel
theorem uin_X6 : ∀ w ∈ u_ws RX6 TX6 9, w ∈ Tall := by
  intro w hw
  obtain ⟨j, hj, rfl⟩ := List.mem_map.mp hw
  exact atT_in (List.all_eq_true.mp lays_X6 j hj)
theorem lays_X7 : (List.range 1).all (fun j => atT (([6109] : List Nat).getD j 0) (u_lay RX7 TX7 j)) = true := by decide +kernel
theorem uin_X7 : ∀ w ∈ u_ws RX7 TX7 1, w ∈ Tall := by
  intro w hw
  obtain ⟨j, hj, rfl⟩ := List.mem_map.mp hw
  exact atT_in (List.all_eq_true.mp lays_X7 j hj)
theorem lays_J0 : (List.range 4).all (fun j => atT (([7021, 7023, 7025, 7027] : List Nat).getD j 0) (u_lay RJ0 TJ0 j)) = true := by decide +kernel
theorem uin_J0 : ∀ w ∈ u_ws RJ0 TJ0 4, w ∈ Tall := by
  intro w hw
  obtain ⟨j, hj, rfl⟩ := List.mem_map.mp hw
  exact atT_in (List.all_eq_true.mp lays_J0 j hj)
def ClsF (ci : Nat) : Prop := ∀ q : vw_C, vwCl[ci]? = some q → (∀ w ∈ u_ws q.1 q.2.1 q.2.2, w ∈ Tall) ∧ ∃ ty0 : Nat → FieldType, (∀ k, k < q.2.2 → parseFieldDescriptor (q.2.1 k).2.2.1 = some (ty0 k)) ∧ (∀ a, a < q.2.2 → ∀ b, b < q.2.2 → a ≠ b → (q.2.1 a).2.1 ≠ (q.2.1 b).2.1)
theorem clsF (ci : Nat) : ClsF ci := by
  intro q hq
  match ci, hq with
  | 0, hq => cases hq; exact ⟨uin_J4, tyJ4, tyJ4_ok, nmJ4⟩
  | 1, hq => cases hq; exact ⟨uin_X0, tyX0, tyX0_ok, nmX0⟩
  | 2, hq => cases hq; exact ⟨uin_X1, tyX1, tyX1_ok, nmX1⟩
  | 3, hq => cases hq; exact ⟨uin_X2, tyX2, tyX2_ok, nmX2⟩
  | 4, hq => cases hq; exact ⟨uin_X3, tyX3, tyX3_ok, nmX3⟩
  | 5, hq => cases hq; exact ⟨uin_X4, tyX4, tyX4_ok, nmX4⟩
  | 6, hq => cases hq; exact ⟨uin_X5, tyX5, tyX5_ok, nmX5⟩
  | 7, hq => cases hq; exact ⟨uin_X6, tyX6, tyX6_ok, nmX6⟩
  | 8, hq => cases hq; exact ⟨uin_X7, tyX7, tyX7_ok, nmX7⟩
  | 9, hq => cases hq; exact ⟨uin_J0, tyJ0, tyJ0_ok, nmJ0⟩
  | n + 10, hq => simp [vwCl] at hq
/-! from the abstract cells to the machine's -/
def NC : Nat := 183
def ps (o : Nat) : Nat := if o < 171 then o else if o < DB then o - 10 else o - DB + 173
def nm (i : Nat) : Nat := if i < 171 then i else if i < 173 then i + 10 else i - 173 + DB
def okc (D : Mm) (o : Nat) : Prop := (sh o).1 ≠ 99 ∨ dv D o
def cv (ad : Nat → Nat) (fv : Value) : Value → Value
  | .ref a => .ref (ad a)
  | .retAddr _ => fv
  | v => v
def fld (ad : Nat → Nat) (D : Mm) (k : Nat) (rs : List (Option Nat)) (j : Nat) : Value := match rs[j]? with
  | some (some q) => .ref (ad q)
  | _ => .int (D k j)
def dfl (ad : Nat → Nat) (D : Mm) (o k c : Nat) : Value := if rfB k c = true then (if DB ≤ (D o c).toNatClampNeg then .ref (ad (D o c).toNatClampNeg) else .null) else .int (D o c)
def cellOf (cA : Nat → ClassId) (ad : Nat → Nat) (D : Mm) (k : Nat) : va_E :=
  if DB ≤ k then
    (if kd D k = 20 then .inl (cA 0, cap D k, .inl (D k))
    else if kd D k = 22 then .inl (cA 2, cap D k, .inl (D k))
    else .inr (kd D k, (List.range (nF (kd D k))).map (dfl ad D k (kd D k))))
  else if (sh k).1 < 20 then .inr ((sh k).1, (List.range (sh k).2.1).map (fld ad D k (sh k).2.2))
  else if (sh k).1 = 20 then .inl (cA 0, (sh k).2.1, .inl (D k))
  else if (sh k).1 = 21 then .inl (cA 1, (sh k).2.1, .inl (D k))
  else if (sh k).1 = 22 then .inl (cA 2, cap D k, .inl (D k))
  else .inl (cA 3, (sh k).2.1, .inr (.inr (.inr (.inr (fun j => match (sh k).2.2[j]? with
    | some (some q) => some (ad q)
    | _ => none)))))
def wsOf (cA : Nat → ClassId) (ad : Nat → Nat) (D : Mm) : va_W := (List.range (173 + nxt D)).map (fun i => (ad (nm i), cellOf cA ad D (nm i)))
def rfS (s : Shp) : Bool := s.2.2.all (fun r => match r with
  | some q => decide (q < 183)
  | none => true)
def shQ (s : Shp) : Bool := rfS s && (!decide (s.1 < 20) || (decide (s.2.2.length = s.2.1) && match vwCl[s.1]? with
  | some q => decide (q.2.2 = s.2.1)
  | none => false))
theorem shAll : shL.length = NC ∧ shL.all shQ = true := by decide +kernel
theorem shHole : (List.range 183).all (fun o => decide ((sh o).1 ≠ 99 → o < 171 ∨ o = 181 ∨ o = 182)) = true ∧ (List.range 183).all (fun o => decide (o < 171 ∨ o = 181 ∨ o = 182 → (sh o).1 ≠ 99)) = true := by decide +kernel
theorem sh_lt {o : Nat} (h : (sh o).1 ≠ 99) : o < NC := sh_sm h
theorem sh_in {o : Nat} (h : (sh o).1 ≠ 99) : o < 171 ∨ o = 181 ∨ o = 182 := of_decide_eq_true (List.all_eq_true.mp shHole.1 o (List.mem_range.mpr (sh_sm h))) h
theorem sh_ok {o : Nat} (h : o < 171 ∨ o = 181 ∨ o = 182) : (sh o).1 ≠ 99 := of_decide_eq_true (List.all_eq_true.mp shHole.2 o (List.mem_range.mpr (by omega))) h
theorem okSt {D : Mm} {o k : Nat} (h : (sh o).1 = k) (hk : k ≠ 99 := by decide) : okc D o := Or.inl (by rw [h]; exact hk)
theorem okD {D : Mm} {o k : Nat} (h : dyn D o k) : okc D o := Or.inr h.1
theorem okc_or {D : Mm} {o : Nat} (h : okc D o) : o < 171 ∨ o = 181 ∨ o = 182 ∨ (5000 ≤ o ∧ o < 5000 + nxt D) := by
  rcases h with h | h
  · rcases sh_in h with h | h | h
    · exact Or.inl h
    · exact Or.inr (Or.inl h)
    · exact Or.inr (Or.inr (Or.inl h))
  · exact Or.inr (Or.inr (Or.inr h))
theorem nm_ps {D : Mm} {o : Nat} (h : okc D o) : nm (ps o) = o := by
  unfold nm ps DB
  rcases okc_or h with h | h | h | h
  · rw [if_pos h, if_pos h]
  · subst h; rfl
  · subst h; rfl
  · have e1 : (if o < 171 then o else if o < 5000 then o - 10 else o - 5000 + 173) = o - 5000 + 173 := by rw [if_neg (by omega), if_neg (by omega)]
    rw [e1, if_neg (by omega), if_neg (by omega)]; omega
theorem ps_lt {D : Mm} {o : Nat} (h : okc D o) : ps o < 173 + nxt D := by
  unfold ps DB
  rcases okc_or h with h | h | h | h
  · rw [if_pos h]; omega
  · subst h; rw [if_neg (by decide), if_pos (by decide)]; omega
  · subst h; rw [if_neg (by decide), if_pos (by decide)]; omega
  · rw [if_neg (by omega), if_neg (by omega)]; omega
theorem ps_nm {D : Mm} {i : Nat} : ps (nm i) = i := by
  unfold nm ps DB
  by_cases h : i < 171
  · rw [if_pos h, if_pos h]
  · rw [if_neg h]
    by_cases h2 : i < 173
    · rw [if_pos h2, if_neg (by omega), if_pos (by omega)]; omega
    · rw [if_neg h2, if_neg (by omega), if_neg (by omega)]; omega
theorem nm_ok {D : Mm} {i : Nat} (h : i < 173 + nxt D) : okc D (nm i) := by
  unfold nm
  by_cases h1 : i < 171
  · rw [if_pos h1]; exact Or.inl (sh_ok (Or.inl h1))
  · rw [if_neg h1]
    by_cases h2 : i < 173
    · rw [if_pos h2]; exact Or.inl (sh_ok (by omega))
    · rw [if_neg h2]; exact Or.inr ⟨by omega, by omega⟩
theorem okc_ne {D : Mm} {o : Nat} (h : okc D o) : o ≠ 4500 ∧ o ≠ 4000 := by
  rcases okc_or h with h | h | h | h <;> omega
theorem sh_ndb {o k : Nat} (h : (sh o).1 = k) (hk : k ≠ 99) : ¬ DB ≤ o := by
  have := sh_sm (o := o) (by rw [h]; exact hk)
  unfold DB; omega
theorem sh_cls {o : Nat} (h : (sh o).1 < 20) : (sh o).2.2.length = (sh o).2.1 ∧ ∃ q, vwCl[(sh o).1]? = some q ∧ q.2.2 = (sh o).2.1 := by
  have ho : o < NC := sh_lt (by omega)
  have hm : sh o ∈ shL := by
    unfold sh
    rw [List.getD_eq_getElem?_getD, List.getElem?_eq_getElem (by rw [shAll.1]; exact ho)]
    exact List.getElem_mem _
  have h2 := List.all_eq_true.mp shAll.2 _ hm
  unfold shQ at h2
  rw [Bool.and_eq_true, decide_eq_true h, Bool.not_true, Bool.false_or, Bool.and_eq_true] at h2
  refine ⟨of_decide_eq_true h2.2.1, ?_⟩
  have h3 := h2.2.2
  split at h3
  · exact ⟨_, by assumption, of_decide_eq_true h3⟩
  · cases h3
theorem sh_ref {o j q : Nat} (h : (sh o).2.2[j]? = some (some q)) : q < 183 := by
  rcases Nat.lt_or_ge o NC with ho | ho
  · have hm : sh o ∈ shL := by
      unfold sh
      rw [List.getD_eq_getElem?_getD, List.getElem?_eq_getElem (by rw [shAll.1]; exact ho)]
      exact List.getElem_mem _
    have h2 := List.all_eq_true.mp shAll.2 _ hm
    unfold shQ rfS at h2
    rw [Bool.and_eq_true] at h2
    have h3 := List.all_eq_true.mp h2.1 _ (List.mem_of_getElem? h)
    exact of_decide_eq_true h3
  · have e : (sh o).2.2 = [] := by
      unfold sh
      rw [List.getD_eq_getElem?_getD, List.getElem?_eq_none (by rw [shAll.1]; exact ho)]
      rfl
    rw [e] at h
    simp at h
theorem ws_get {cA : Nat → ClassId} {ad : Nat → Nat} {D : Mm} {o : Nat} (h : okc D o) : (wsOf cA ad D)[ps o]? = some (ad o, cellOf cA ad D o) := by
  unfold wsOf
  rw [List.getElem?_map, List.getElem?_range (ps_lt h)]
  show some (ad (nm (ps o)), cellOf cA ad D (nm (ps o))) = _
  rw [nm_ps h]
theorem ws_at {cA : Nat → ClassId} {ad : Nat → Nat} {D : Mm} {k : Nat} {q : Nat × va_E} (h : (wsOf cA ad D)[k]? = some q) : k < 173 + nxt D ∧ q = (ad (nm k), cellOf cA ad D (nm k)) := by
  have hk : k < 173 + nxt D := by
    have := (List.getElem?_eq_some_iff.mp h).1
    unfold wsOf at this
    simpa using this
  unfold wsOf at h
  rw [List.getElem?_map, List.getElem?_range hk] at h
  exact ⟨hk, (Option.some.inj h).symm⟩
theorem cell_obj {cA : Nat → ClassId} {ad : Nat → Nat} {D : Mm} {o : Nat} (h : (sh o).1 < 20) : cellOf cA ad D o = .inr ((sh o).1, (List.range (sh o).2.1).map (fld ad D o (sh o).2.2)) := by
  unfold cellOf; rw [if_neg (sh_ndb rfl (by omega)), if_pos h]
theorem cell_int {cA : Nat → ClassId} {ad : Nat → Nat} {D : Mm} {o : Nat} (h : (sh o).1 = 20) : cellOf cA ad D o = .inl (cA 0, (sh o).2.1, .inl (D o)) := by
  unfold cellOf; rw [if_neg (sh_ndb h (by decide)), if_neg (by omega), if_pos h]
theorem cell_bool {cA : Nat → ClassId} {ad : Nat → Nat} {D : Mm} {o : Nat} (h : (sh o).1 = 21) : cellOf cA ad D o = .inl (cA 1, (sh o).2.1, .inl (D o)) := by
  unfold cellOf; rw [if_neg (sh_ndb h (by decide)), if_neg (by omega), if_neg (by omega), if_pos h]
theorem cell_byte {cA : Nat → ClassId} {ad : Nat → Nat} {D : Mm} {o : Nat} (h : (sh o).1 = 22) : cellOf cA ad D o = .inl (cA 2, cap D o, .inl (D o)) := by
  unfold cellOf; rw [if_neg (sh_ndb h (by decide)), if_neg (by omega), if_neg (by omega), if_neg (by omega), if_pos h]
theorem cell_refs {cA : Nat → ClassId} {ad : Nat → Nat} {D : Mm} {o : Nat} (h : (sh o).1 = 23) : cellOf cA ad D o = .inl (cA 3, (sh o).2.1, .inr (.inr (.inr (.inr (fun j => match (sh o).2.2[j]? with
    | some (some q) => some (ad q)
    | _ => none))))) := by
  unfold cellOf; rw [if_neg (sh_ndb h (by decide)), if_neg (by omega), if_neg (by omega), if_neg (by omega), if_neg (by omega)]
theorem cell_dint {cA : Nat → ClassId} {ad : Nat → Nat} {D : Mm} {o : Nat} (h : dyn D o 20) : cellOf cA ad D o = .inl (cA 0, cap D o, .inl (D o)) := by
  unfold cellOf; rw [if_pos h.1.1, if_pos h.2]
theorem cell_dbyte {cA : Nat → ClassId} {ad : Nat → Nat} {D : Mm} {o : Nat} (h : dyn D o 22) : cellOf cA ad D o = .inl (cA 2, cap D o, .inl (D o)) := by
  unfold cellOf; rw [if_pos h.1.1, if_neg (by rw [h.2]; decide), if_pos h.2]
theorem cell_dobj {cA : Nat → ClassId} {ad : Nat → Nat} {D : Mm} {o k : Nat} (h : dyn D o k) (h1 : k ≠ 20) (h2 : k ≠ 22) : cellOf cA ad D o = .inr (k, (List.range (nF k)).map (dfl ad D o k)) := by
  unfold cellOf; rw [if_pos h.1.1, h.2, if_neg h1, if_neg h2]
theorem mup_same {D : Mm} {c j : Nat} {x : Int32} : mup D c j x c = upd (D c) j x := by
  funext i; unfold mup upd; rw [if_pos rfl]
theorem mup_ne {D : Mm} {c j k : Nat} {x : Int32} (h : k ≠ c) : mup D c j x k = D k := by
  funext i; unfold mup; rw [if_neg h]
/-- a cell's own row is all that counts -/
theorem cell_row {cA : Nat → ClassId} {ad : Nat → Nat} {D D2 : Mm} {k : Nat} (h : D2 k = D k) : cellOf cA ad D2 k = cellOf cA ad D k := by
  have e1 : fld ad D2 k (sh k).2.2 = fld ad D k (sh k).2.2 := by
    funext i; unfold fld; rw [h]
  have e2 : ∀ q, dfl ad D2 k q = dfl ad D k q := fun q => by
    funext i; unfold dfl; rw [h]
  unfold cellOf cap kd
  rw [h, e1, e2]
theorem cell_ne {cA : Nat → ClassId} {ad : Nat → Nat} {D : Mm} {c j k : Nat} {x : Int32} (h : k ≠ c) : cellOf cA ad (mup D c j x) k = cellOf cA ad D k := cell_row (mup_ne h)
theorem ws_set {cA : Nat → ClassId} {ad : Nat → Nat} {D D2 : Mm} {o : Nat} {e : va_E} (ho : okc D o) (hn : nxt D2 = nxt D) (hr : ∀ k, k ≠ o → D2 k = D k) (he : cellOf cA ad D2 o = e) : (wsOf cA ad D).set (ps o) (ad o, e) = wsOf cA ad D2 := by
  apply List.ext_getElem?
  intro i
  rcases Nat.lt_or_ge i (173 + nxt D) with hi | hi
  · have h2 : (wsOf cA ad D2)[i]? = some (ad (nm i), cellOf cA ad D2 (nm i)) := by
      unfold wsOf
      rw [List.getElem?_map, List.getElem?_range (by rw [hn]; exact hi)]
      rfl
    have h1 : (wsOf cA ad D)[i]? = some (ad (nm i), cellOf cA ad D (nm i)) := by
      unfold wsOf
      rw [List.getElem?_map, List.getElem?_range hi]
      rfl
    rw [h2]
    by_cases h : ps o = i
    · subst h
      rw [List.getElem?_set_self (by unfold wsOf; simpa using hi), nm_ps ho, he]
    · rw [List.getElem?_set_ne h, h1, cell_row (hr _ (fun q => h (by rw [← q, ps_nm (D := D)])))]
  · rw [List.getElem?_eq_none (by simp [wsOf]; exact hi), List.getElem?_eq_none (by simp [wsOf, hn]; exact hi)]
theorem ws_mup {cA : Nat → ClassId} {ad : Nat → Nat} {D : Mm} {o j : Nat} {x : Int32} {e : va_E} (ho : okc D o) (he : cellOf cA ad (mup D o j x) o = e) : (wsOf cA ad D).set (ps o) (ad o, e) = wsOf cA ad (mup D o j x) :=
  ws_set ho (nxt_mup (okc_ne ho).1) (fun k hk => mup_ne hk) he
theorem fs_get {ad : Nat → Nat} {D : Mm} {o c n : Nat} {rs : List (Option Nat)} (hc : c < n) : ((List.range n).map (fld ad D o rs))[c]? = some (fld ad D o rs c) := by
  rw [List.getElem?_map, List.getElem?_range hc]; rfl
theorem ds_get {ad : Nat → Nat} {D : Mm} {o c k n : Nat} (hc : c < n) : ((List.range n).map (dfl ad D o k))[c]? = some (dfl ad D o k c) := by
  rw [List.getElem?_map, List.getElem?_range hc]; rfl
theorem fs_set {ad : Nat → Nat} {D : Mm} {o c : Nat} {x : Int32} (h : (sh o).1 < 20) (hc : (sh o).2.2[c]? = some none) : ((List.range (sh o).2.1).map (fld ad D o (sh o).2.2)).set c (.int x) = (List.range (sh o).2.1).map (fld ad (mup D o c x) o (sh o).2.2) := by
  have hl : c < (sh o).2.1 := by
    rw [← (sh_cls h).1]; exact (List.getElem?_eq_some_iff.mp hc).1
  apply List.ext_getElem?
  intro i
  rcases Nat.lt_or_ge i (sh o).2.1 with hi | hi
  · rw [fs_get hi]
    by_cases e : c = i
    · subst e
      rw [List.getElem?_set_self (by simpa using hl)]
      unfold fld
      rw [hc, mup_same]
      unfold upd
      rw [if_pos rfl]
    · rw [List.getElem?_set_ne e, fs_get hi]
      unfold fld
      rw [mup_same]
      unfold upd
      rw [if_neg (fun q => e q.symm)]
  · rw [List.getElem?_eq_none (by simpa using hi), List.getElem?_eq_none (by simpa using hi)]
theorem ds_set {ad : Nat → Nat} {D : Mm} {o c k n : Nat} {x : Int32} {v : Value} (hc : c < n) (hv : dfl ad (mup D o c x) o k c = v) : ((List.range n).map (dfl ad D o k)).set c v = (List.range n).map (dfl ad (mup D o c x) o k) := by
  apply List.ext_getElem?
  intro i
  rcases Nat.lt_or_ge i n with hi | hi
  · rw [ds_get hi]
    by_cases e : c = i
    · subst e
      rw [List.getElem?_set_self (by simpa using hc), hv]
    · rw [List.getElem?_set_ne e, ds_get hi]
      have e2 : mup D o c x o i = D o i := by rw [mup_same]; exact pk_un (fun q => e q.symm)
      unfold dfl
      rw [e2]
  · rw [List.getElem?_eq_none (by simpa using hi), List.getElem?_eq_none (by simpa using hi)]
/-- what is made on the way stands well -/
def WFD (D : Mm) : Prop := nxt D ≤ 2000000 ∧ ∀ o, dv D o → (kd D o = 0 ∨ kd D o = 8 ∨ kd D o = 9 ∨ kd D o = 20 ∨ kd D o = 22) ∧ (rfB (kd D o) 0 = true → (D o 0).toNatClampNeg < DB + nxt D)
/-- agreeing but for the rows of the text builders and what isn't made yet -/
def agree (n : Nat) (ad ad2 : Nat → Nat) : Prop := ∀ k, k ≠ 181 → k ≠ 182 → k < DB + n → ad2 k = ad k
theorem agree.rf {n : Nat} {ad : Nat → Nat} : agree n ad ad := fun _ _ _ _ => rfl
theorem agree.tr {n m : Nat} {a b c : Nat → Nat} (h : agree n a b) (h2 : agree m b c) (hn : n ≤ m) : agree n a c := fun k x y z => (h2 k x y (by omega)).trans (h k x y z)
theorem cv_agree {D : Mm} {ad ad2 : Nat → Nat} {fv : Value} (h : agree (nxt D) ad ad2) {v : Value} (hv : nvV D v) : cv ad2 fv v = cv ad fv v := by
  cases v with
  | ref a =>
    obtain ⟨h1, h2, h3⟩ := hv
    show Value.ref (ad2 a) = Value.ref (ad a)
    rw [h a h1 h2]
    rcases h3 with h3 | h3
    · unfold DB at h3 ⊢; omega
    · exact h3.2
  | _ => rfl
theorem cv_agrees {D : Mm} {ad ad2 : Nat → Nat} {fv : Value} (h : agree (nxt D) ad ad2) {st : List Value} (hv : ∀ v, v ∈ st → nvV D v) : st.map (cv ad2 fv) = st.map (cv ad fv) := by
  apply List.map_congr_left
  intro v hm
  exact cv_agree h (hv v hm)
/-- agreeing on all that is made -/
def agreeA (n : Nat) (ad ad2 : Nat → Nat) : Prop := ∀ k, k < DB + n → ad2 k = ad k
theorem agreeA.a {n : Nat} {a b : Nat → Nat} (h : agreeA n a b) : agree n a b := fun k _ _ z => h k z
theorem cv_agreeA {D : Mm} {ad ad2 : Nat → Nat} {fv : Value} (h : agreeA (nxt D) ad ad2) {v : Value} (hv : okV D v) : cv ad2 fv v = cv ad fv v := by
  cases v with
  | ref a =>
    show Value.ref (ad2 a) = Value.ref (ad a)
    rw [h a]
    rcases hv with h3 | h3
    · unfold DB at h3 ⊢; omega
    · exact h3.2
  | _ => rfl
theorem cell_agA {cA : Nat → ClassId} {D : Mm} {ad ad2 : Nat → Nat} {k : Nat} (hW : WFD D) (h : agreeA (nxt D) ad ad2) (hk : okc D k) : cellOf cA ad2 D k = cellOf cA ad D k := by
  have e1 : fld ad2 D k (sh k).2.2 = fld ad D k (sh k).2.2 := by
    funext i
    unfold fld
    split
    · next q hq => rw [h q (by have := sh_ref hq; unfold DB; omega)]
    · rfl
  have e3 : (fun j : Nat => match (sh k).2.2[j]? with
    | some (some q) => some (ad2 q)
    | _ => none) = (fun j : Nat => match (sh k).2.2[j]? with
    | some (some q) => some (ad q)
    | _ => none) := by
    funext j
    cases hq : (sh k).2.2[j]? with
    | none => rfl
    | some z =>
      cases z with
      | none => rfl
      | some q => show some (ad2 q) = some (ad q); rw [h q (by have := sh_ref hq; unfold DB; omega)]
  have e2 : DB ≤ k → (List.range (nF (kd D k))).map (dfl ad2 D k (kd D k)) = (List.range (nF (kd D k))).map (dfl ad D k (kd D k)) := by
    intro hd
    have hdv : dv D k := by
      rcases hk with hk | hk
      · exact absurd hd (sh_ndb rfl hk)
      · exact hk
    apply List.map_congr_left
    intro c hc
    unfold dfl
    by_cases hr : rfB (kd D k) c = true
    · rw [if_pos hr, if_pos hr]
      have hc0 : c = 0 := by
        unfold rfB at hr
        rw [Bool.and_eq_true] at hr
        exact beq_iff_eq.mp hr.2
      subst hc0
      rw [h _ ((hW.2 k hdv).2 hr)]
    · rw [if_neg hr, if_neg hr]
  unfold cellOf
  by_cases hd : DB ≤ k
  · rw [if_pos hd, if_pos hd, e2 hd]
  · rw [if_neg hd, if_neg hd, e1, e3]
/-- a cell is made -/
theorem ws_al {cA : Nat → ClassId} {D : Mm} {ad ad2 : Nat → Nat} {f : Nat → Int32} {n q : Nat} {e : va_E} (hW : WFD D) (hf : fitU D n) (h : agreeA (nxt D) ad ad2) (hq : ad2 (DB + nxt D) = q) (he : cellOf cA ad2 (alD D f n) (DB + nxt D) = e) : wsOf cA ad2 (alD D f n) = wsOf cA ad D ++ [(q, e)] := by
  have hx := al_nxt (f := f) hf
  apply List.ext_getElem?
  intro i
  have hl : (wsOf cA ad D).length = 173 + nxt D := by unfold wsOf; simp
  rcases Nat.lt_or_ge i (173 + nxt D) with hi | hi
  · rw [List.getElem?_append_left (by rw [hl]; exact hi)]
    unfold wsOf
    rw [List.getElem?_map, List.getElem?_map, List.getElem?_range (by rw [hx]; omega), List.getElem?_range hi]
    show some (ad2 (nm i), cellOf cA ad2 (alD D f n) (nm i)) = some (ad (nm i), cellOf cA ad D (nm i))
    have hk := nm_ok hi
    have h1 : nm i < DB + nxt D := by
      rcases okc_or hk with g | g | g | g
      · unfold DB; omega
      · unfold DB; omega
      · unfold DB; omega
      · exact g.2
    rw [cell_row (al_old (by omega) (okc_ne hk).1), cell_agA hW h hk, h _ h1]
  · rcases Nat.eq_or_lt_of_le hi with h2 | h2
    · subst h2
      rw [List.getElem?_append_right (by rw [hl]; exact Nat.le_refl _), hl, Nat.sub_self]
      unfold wsOf
      rw [List.getElem?_map, List.getElem?_range (by rw [hx]; omega)]
      have e1 : nm (173 + nxt D) = DB + nxt D := by
        unfold nm
        rw [if_neg (by omega), if_neg (by omega)]
        omega
      show some (ad2 (nm (173 + nxt D)), cellOf cA ad2 (alD D f n) (nm (173 + nxt D))) = some (q, e)
      rw [e1, hq, he]
    · rw [List.getElem?_eq_none (by simp [wsOf, hx]; omega), List.getElem?_eq_none (by simp [hl]; omega)]
theorem WFD.al {D : Mm} {f : Nat → Int32} {n : Nat} (hW : WFD D) (hf : fitU D n) (hk : (f KND).toNatClampNeg = 0 ∨ (f KND).toNatClampNeg = 8 ∨ (f KND).toNatClampNeg = 9 ∨ (f KND).toNatClampNeg = 20 ∨ (f KND).toNatClampNeg = 22) (hr : rfB (f KND).toNatClampNeg 0 = true → (f 0).toNatClampNeg < DB) : WFD (alD D f n) := by
  have hx := al_nxt (f := f) hf
  refine ⟨by rw [hx]; unfold fitU at hf; omega, fun o ho => ?_⟩
  unfold dv at ho
  rw [hx] at ho ⊢
  by_cases e : o = DB + nxt D
  · subst e
    unfold kd
    rw [al_new]
    exact ⟨hk, fun h => by have := hr h; omega⟩
  · have hd : dv D o := ⟨ho.1, by omega⟩
    have e2 : alD D f n o = D o := al_old e (by have := ho.1; unfold DB at this; omega)
    unfold kd
    rw [e2]
    obtain ⟨h1, h2⟩ := hW.2 o hd
    exact ⟨h1, fun h => by have := h2 h; omega⟩
theorem WFD.row {D D2 : Mm} (hW : WFD D) (hn : nxt D2 = nxt D) (h : ∀ o, dv D o → kd D2 o = kd D o ∧ (rfB (kd D o) 0 = true → D2 o 0 = D o 0 ∨ (D2 o 0).toNatClampNeg < DB + nxt D)) : WFD D2 := by
  refine ⟨by rw [hn]; exact hW.1, fun o ho => ?_⟩
  unfold dv at ho
  rw [hn] at ho ⊢
  obtain ⟨h1, h2⟩ := h o ho
  obtain ⟨h3, h4⟩ := hW.2 o ho
  rw [h1]
  refine ⟨h3, fun hr => ?_⟩
  rcases h2 hr with h5 | h5
  · rw [h5]; exact h4 hr
  · exact h5
theorem WFD.lo {D D2 : Mm} (hW : WFD D) (h : ∀ o, (DB ≤ o ∨ o = 4500) → D2 o = D o) : WFD D2 := hW.row (by unfold nxt; rw [h _ (Or.inr rfl)]) (fun o ho => by
  have e := h o (Or.inl ho.1)
  unfold kd
  rw [e]
  exact ⟨rfl, fun _ => Or.inl rfl⟩)
theorem WFD.mup {D : Mm} {o c : Nat} {x : Int32} (hW : WFD D) (ho : o ≠ 4500) (hc : c ≠ KND) (h : dv D o → rfB (kd D o) 0 = true → c = 0 → x.toNatClampNeg < DB + nxt D) : WFD (mup D o c x) := by
  refine hW.row (nxt_mup ho) (fun q hq => ?_)
  by_cases e : q = o
  · subst e
    unfold kd
    rw [mup_same]
    unfold upd
    rw [if_neg (fun z => hc z.symm)]
    refine ⟨rfl, fun hr => ?_⟩
    by_cases e2 : 0 = c
    · rw [if_pos e2]; exact Or.inr (h hq hr e2.symm)
    · rw [if_neg e2]; exact Or.inl rfl
  · unfold kd
    rw [mup_ne e]
    exact ⟨rfl, fun _ => Or.inl rfl⟩
/-- the locals -/
def dB : Value → Bool
  | .double _ => true
  | _ => false
def gvB : Value → Bool
  | .int _ => true
  | .ref _ => true
  | .float _ => true
  | .null => true
  | .retAddr 1 => true
  | _ => false
def LOK (ad : Nat → Nat) (fv : Value) (nL : Nat) (lsA : Array Slot) (ls : List Value) : Prop := lsA.size = nL ∧ lv_wf lsA ∧ ls.length = nL ∧ ∀ (i : Nat) (v : Value), ls[i]? = some v → v ≠ .retAddr 0 → v ≠ .retAddr 2 → (dB v = true → ls[i + 1]? = some (.retAddr 2)) → (c1B v = true ∨ dB v = true) ∧ lsA[i]? = some (.val (cv ad fv v))
theorem LOK.agree {D : Mm} {ad ad2 : Nat → Nat} {fv : Value} {n : Nat} {lsA : Array Slot} {ls : List Value} (h : agree (nxt D) ad ad2) (hv : ∀ v, v ∈ ls → nvV D v) (hl : LOK ad fv n lsA ls) : LOK ad2 fv n lsA ls := by
  refine ⟨hl.1, hl.2.1, hl.2.2.1, fun i v hi hne hn2 hd => ?_⟩
  obtain ⟨h1, h2⟩ := hl.2.2.2 i v hi hne hn2 hd
  refine ⟨h1, ?_⟩
  rw [cv_agree h (hv v (List.mem_of_getElem? hi))]
  exact h2
theorem LOK.agreeA {D : Mm} {ad ad2 : Nat → Nat} {fv : Value} {n : Nat} {lsA : Array Slot} {ls : List Value} (h : agreeA (nxt D) ad ad2) (hv : lsok D ls) (hl : LOK ad fv n lsA ls) : LOK ad2 fv n lsA ls := by
  refine ⟨hl.1, hl.2.1, hl.2.2.1, fun i v hi hne hn2 hd => ?_⟩
  obtain ⟨h1, h2⟩ := hl.2.2.2 i v hi hne hn2 hd
  refine ⟨h1, ?_⟩
  rw [cv_agreeA h (hv v (List.mem_of_getElem? hi))]
  exact h2
theorem c1_cat {ad : Nat → Nat} {fv v : Value} (hf : fv.category = 1) (h : c1B v = true) : (cv ad fv v).category = 1 := by
  cases v <;> first | rfl | exact hf | cases h
def lpair (ad : Nat → Nat) (fv : Value) (ls : List Value) : List (Nat × Value) := (List.range ls.length).filterMap (fun i => match ls[i]? with
  | some v => if v = .retAddr 0 ∨ v = .retAddr 2 ∨ (dB v = true ∧ ls[i + 1]? ≠ some (.retAddr 2)) then none else some (i, cv ad fv v)
  | none => none)
theorem lpair_in {ad : Nat → Nat} {fv : Value} {ls : List Value} {q : Nat × Value} : q ∈ lpair ad fv ls ↔ ∃ v, ls[q.1]? = some v ∧ v ≠ .retAddr 0 ∧ v ≠ .retAddr 2 ∧ (dB v = true → ls[q.1 + 1]? = some (.retAddr 2)) ∧ q.2 = cv ad fv v := by
  unfold lpair
  rw [List.mem_filterMap]
  constructor
  · rintro ⟨i, hi, h⟩
    split at h
    · next v hv =>
      split at h
      · cases h
      · next hn =>
        cases h
        exact ⟨v, hv, fun z => hn (Or.inl z), fun z => hn (Or.inr (Or.inl z)), fun z => Classical.byContradiction (fun y => hn (Or.inr (Or.inr ⟨z, y⟩))), rfl⟩
    · cases h
  · rintro ⟨v, hv, hn, hn2, hd, e⟩
    refine ⟨q.1, List.mem_range.mpr (List.getElem?_eq_some_iff.mp hv).1, ?_⟩
    rw [hv]
    show (if v = .retAddr 0 ∨ v = .retAddr 2 ∨ (dB v = true ∧ ls[q.1 + 1]? ≠ some (.retAddr 2)) then none else some (q.1, cv ad fv v)) = some q
    rw [if_neg (fun z => by
      rcases z with z | z | ⟨z, y⟩
      · exact hn z
      · exact hn2 z
      · exact y (hd z)), ← e]
theorem LOK.has {ad : Nat → Nat} {fv : Value} {n : Nat} {lsA : Array Slot} {ls : List Value} (h : LOK ad fv n lsA ls) : lv_has lsA n (lpair ad fv ls) := by
  refine ⟨h.1, h.2.1, fun q hq => ?_⟩
  obtain ⟨v, h1, h2, h4, h5, h3⟩ := lpair_in.mp hq
  rw [h3]
  exact (h.2.2.2 q.1 v h1 h2 h4 h5).2
theorem LOK.get {ad : Nat → Nat} {fv : Value} {n : Nat} {lsA : Array Slot} {ls : List Value} (h : LOK ad fv n lsA ls) {i : Nat} {v : Value} (hi : ls[i]? = some v) (hv : gvB v = true) : lsA[i]? = some (.val (cv ad fv v)) :=
  (h.2.2.2 i v hi (fun e => by rw [e] at hv; cases hv) (fun e => by rw [e] at hv; cases hv) (fun e => by cases v <;> first | (cases e; done) | (cases hv; done))).2
/-- behind a store -/
theorem LOK.set {ad : Nat → Nat} {fv : Value} {n : Nat} {lsA : Array Slot} {ls : List Value} (hf : fv.category = 1) (h : LOK ad fv n lsA ls) {i : Nat} {v : Value} (hi : i < ls.length) (hc : c1B v = true) (hv2 : v ≠ .retAddr 2) {ls2 : Array Slot}
    (h2 : lv_has ls2 n ((i, cv ad fv v) :: (lpair ad fv ls).filter (fun q => !(q.1 == i) && !(q.1 + 1 == i && q.2.category == 2)))) : LOK ad fv n ls2 (ls.set i v) := by
  refine ⟨h2.1, h2.2.1, by rw [List.length_set]; exact h.2.2.1, fun j w hj hw hw2 hd => ?_⟩
  by_cases e : i = j
  · subst e
    rw [List.getElem?_set_self hi] at hj
    cases hj
    exact ⟨Or.inl hc, h2.2.2 (i, cv ad fv v) List.mem_cons_self⟩
  · rw [List.getElem?_set_ne e] at hj
    have hd' : dB w = true → j + 1 ≠ i ∧ ls[j + 1]? = some (.retAddr 2) := fun z => by
      have h9 := hd z
      by_cases e2 : i = j + 1
      · subst e2
        rw [List.getElem?_set_self hi] at h9
        cases h9
        exact absurd rfl hv2
      · rw [List.getElem?_set_ne e2] at h9
        exact ⟨fun y => e2 y.symm, h9⟩
    obtain ⟨g1, g2⟩ := h.2.2.2 j w hj hw hw2 (fun z => (hd' z).2)
    refine ⟨g1, h2.2.2 (j, cv ad fv w) (List.mem_cons_of_mem _ (List.mem_filter.mpr ⟨lpair_in.mpr ⟨w, hj, hw, hw2, fun z => (hd' z).2, rfl⟩, ?_⟩))⟩
    have e3 : (j == i) = false := beq_eq_false_iff_ne.mpr (fun q => e q.symm)
    rcases g1 with g1 | g1
    · have hcat := c1_cat (ad := ad) hf g1
      simp [hcat, e3]
    · have e4 : (j + 1 == i) = false := beq_eq_false_iff_ne.mpr (hd' g1).1
      simp [e3, e4]
theorem LOK.setD {ad : Nat → Nat} {fv : Value} {n : Nat} {lsA : Array Slot} {ls : List Value} (hf : fv.category = 1) (h : LOK ad fv n lsA ls) {i : Nat} {x : UInt64} (hi : i + 1 < ls.length) {ls2 : Array Slot}
    (h2 : lv_has ls2 n ((i, Value.double x) :: (lpair ad fv ls).filter (fun q => !(q.1 == i) && (!(q.1 == i + 1) && !(q.1 + 1 == i && q.2.category == 2))))) : LOK ad fv n ls2 ((ls.set i (.double x)).set (i + 1) (.retAddr 2)) := by
  refine ⟨h2.1, h2.2.1, by rw [List.length_set, List.length_set]; exact h.2.2.1, fun j w hj hw hw2 hd => ?_⟩
  by_cases e1 : i + 1 = j
  · subst e1
    rw [List.getElem?_set_self (by rw [List.length_set]; exact hi)] at hj
    cases hj
    exact absurd rfl hw2
  · rw [List.getElem?_set_ne e1] at hj
    by_cases e : i = j
    · subst e
      rw [List.getElem?_set_self (by omega)] at hj
      cases hj
      exact ⟨Or.inr rfl, h2.2.2 (i, .double x) List.mem_cons_self⟩
    · rw [List.getElem?_set_ne e] at hj
      have hd' : dB w = true → j + 1 ≠ i ∧ ls[j + 1]? = some (.retAddr 2) := fun z => by
        have h9 := hd z
        rw [List.getElem?_set_ne (by omega)] at h9
        by_cases e2 : i = j + 1
        · subst e2
          rw [List.getElem?_set_self (by omega)] at h9
          cases h9
        · rw [List.getElem?_set_ne e2] at h9
          exact ⟨fun y => e2 y.symm, h9⟩
      obtain ⟨g1, g2⟩ := h.2.2.2 j w hj hw hw2 (fun z => (hd' z).2)
      refine ⟨g1, h2.2.2 (j, cv ad fv w) (List.mem_cons_of_mem _ (List.mem_filter.mpr ⟨lpair_in.mpr ⟨w, hj, hw, hw2, fun z => (hd' z).2, rfl⟩, ?_⟩))⟩
      have e3 : (j == i) = false := beq_eq_false_iff_ne.mpr (fun q => e q.symm)
      have e5 : (j == i + 1) = false := beq_eq_false_iff_ne.mpr (fun q => e1 q.symm)
      rcases g1 with g1 | g1
      · have hcat := c1_cat (ad := ad) hf g1
        simp [hcat, e3, e5]
      · have e4 : (j + 1 == i) = false := beq_eq_false_iff_ne.mpr (hd' g1).1
        simp [e3, e4, e5]
theorem lvargs_in {ad : Nat → Nat} {fv : Value} (hf : fv.category = 1) : ∀ (args : List Value) (n : Nat), args.all c1B = true → ∀ (i : Nat) (v : Value), args[i]? = some v → (n + i, cv ad fv v) ∈ lv_args n (args.map (cv ad fv))
  | [], _, _, i, v, h => by simp at h
  | a :: r, n, hc, i, v, h => by
    rw [List.all_cons, Bool.and_eq_true] at hc
    have hcat := c1_cat (ad := ad) hf hc.1
    show (n + i, cv ad fv v) ∈ (n, cv ad fv a) :: lv_args (if (cv ad fv a).category = 2 then n + 2 else n + 1) (r.map (cv ad fv))
    rw [if_neg (by omega)]
    cases i with
    | zero =>
      cases h
      exact List.mem_cons_self
    | succ i =>
      have h2 := lvargs_in (ad := ad) hf r (n + 1) hc.2 i v h
      rw [show n + (i + 1) = n + 1 + i by omega]
      exact List.mem_cons_of_mem _ h2
theorem lgsl_len {ad : Nat → Nat} {fv : Value} (hf : fv.category = 1) : ∀ (args : List Value), args.all c1B = true → (lg_sl (args.map (cv ad fv))).length = args.length
  | [], _ => rfl
  | a :: r, hc => by
    rw [List.all_cons, Bool.and_eq_true] at hc
    have hcat := c1_cat (ad := ad) hf hc.1
    have ih := lgsl_len (ad := ad) hf r hc.2
    unfold lg_sl at ih ⊢
    rw [List.map_cons, List.flatMap_cons, if_neg (by omega), List.length_append, ih]
    simp
    omega
theorem LOK.entry {ad : Nat → Nat} {fv : Value} (hf : fv.category = 1) {args : List Value} {n : Nat} (hc : args.all c1B = true) (hn : args.length ≤ n) : LOK ad fv n ((lg_sl (args.map (cv ad fv)) ++ List.replicate (n - (lg_sl (args.map (cv ad fv))).length) Slot.unset).toArray) (args ++ List.replicate (n - args.length) (.retAddr 0)) := by
  have hl := lgsl_len (ad := ad) hf args hc
  have h := lv_entry (args.map (cv ad fv)) (n := n) (by rw [hl]; exact hn)
  refine ⟨h.1, h.2.1, by simp; omega, fun i v hi hv _ _ => ?_⟩
  rcases Nat.lt_or_ge i args.length with q | q
  · rw [List.getElem?_append_left q] at hi
    have h2 := h.2.2 _ (lvargs_in hf args 0 hc i v hi)
    rw [Nat.zero_add] at h2
    exact ⟨Or.inl (List.all_eq_true.mp hc v (List.mem_of_getElem? hi)), h2⟩
  · rw [List.getElem?_append_right q, List.getElem?_replicate] at hi
    split at hi
    · cases hi; exact absurd rfl hv
    · cases hi
/-- what is never written: constants' texts, the JDK's statics -/
def lenB : List Nat := strB.map List.length
theorem lmp_lt {c : Nat} (hc : c < 20) : lmp.getD c 0 < 19 := of_decide_eq_true (List.all_eq_true.mp (by decide : (List.range 20).all (fun c => decide (lmp.getD c 0 < 19)) = true) c (List.mem_range.mpr hc))
def RO (ad : Nat → Nat) (fv : Value) (A : Nat → Prop) (U : State) (H : Heap) : Prop :=
  vk_S 19 lenB strB (fun i => ad (1000 + i)) (fun i => ad (2000 + i)) A U H ∧
  va_Z "java/lang/String" "COMPACT_STRINGS" "Z" (.int 1) A U H ∧
  va_Z "jdk/internal/util/Preconditions" "SIOOBE_FORMATTER" "Ljava/util/function/BiFunction;" fv A U H ∧
  va_Z "java/lang/Integer" "DigitOnes" "[B" (.ref (ad 3000)) A U H ∧ va_T .byte (ad 3000) 100 (fun j => .int (dgO.getD j 0)) A U H ∧
  va_Z "java/lang/Integer" "DigitTens" "[B" (.ref (ad 3001)) A U H ∧ va_T .byte (ad 3001) 100 (fun j => .int (dgT.getD j 0)) A U H ∧
  (∀ c, c < 20 → ∀ q, ltab[c]? = some q → vk_R (cN q.1) q.2.1 q.2.2.2 (ad (1000 + lmp.getD c 0)) U) ∧ fv.category = 1
theorem RO.moved {ad : Nat → Nat} {fv : Value} {A : Nat → Prop} {u U : State} {H : Heap} (hvm : u.vm.Alike U.vm) (hR : ∀ own k tx a, vk_R own k tx a u → vk_R own k tx a U) (h : RO ad fv A u H) : RO ad fv A U H :=
  ⟨h.1.moved hvm, h.2.1.moved hvm, h.2.2.1.moved hvm, h.2.2.2.1.moved hvm, h.2.2.2.2.1.moved hvm, h.2.2.2.2.2.1.moved hvm, h.2.2.2.2.2.2.1.moved hvm, fun c hc q hq => hR _ _ _ _ (h.2.2.2.2.2.2.2.1 c hc q hq), h.2.2.2.2.2.2.2.2⟩
theorem RO.kept {ad : Nat → Nat} {fv : Value} {A : Nat → Prop} {U : State} {H H1 : Heap} (hq : ∀ a : Nat, a < H.size → ¬ A a → H1[a]? = H[a]?) (h : RO ad fv A U H) : RO ad fv A U H1 :=
  ⟨h.1.kept hq, h.2.1.kept hq, h.2.2.1.kept hq, h.2.2.2.1.kept hq, h.2.2.2.2.1.kept hq, h.2.2.2.2.2.1.kept hq, h.2.2.2.2.2.2.1.kept hq, h.2.2.2.2.2.2.2.1, h.2.2.2.2.2.2.2.2⟩
theorem RO.narrow {ad : Nat → Nat} {fv : Value} {A B : Nat → Prop} {U : State} {H : Heap} (hAB : ∀ q, B q → A q) (h : RO ad fv A U H) : RO ad fv B U H :=
  ⟨h.1.narrow hAB, h.2.1.narrow hAB, h.2.2.1.narrow hAB, h.2.2.2.1.narrow hAB, h.2.2.2.2.1.narrow hAB, h.2.2.2.2.2.1.narrow hAB, h.2.2.2.2.2.2.1.narrow hAB, h.2.2.2.2.2.2.2.1, h.2.2.2.2.2.2.2.2⟩
theorem RO.agree {n : Nat} {ad ad2 : Nat → Nat} {fv : Value} {A : Nat → Prop} {U : State} {H : Heap} (ha : agree n ad ad2) (h : RO ad fv A U H) : RO ad2 fv A U H := by
  have ha : ∀ k, 182 < k → k < 5000 → ad2 k = ad k := fun k a b => ha k (by omega) (by omega) (by unfold DB; omega)
  have e3 := ha 3000 (by decide) (by decide)
  have e4 := ha 3001 (by decide) (by decide)
  have e5 : ∀ c, c < 19 → ad2 (1000 + c) = ad (1000 + c) := fun c hc => ha _ (by omega) (by omega)
  have e6 : ∀ c, c < 19 → ad2 (2000 + c) = ad (2000 + c) := fun c hc => ha _ (by omega) (by omega)
  unfold RO at h ⊢
  rw [e3, e4]
  refine ⟨?_, h.2.1, h.2.2.1, h.2.2.2.1, h.2.2.2.2.1, h.2.2.2.2.2.1, h.2.2.2.2.2.2.1, fun c hc q hq => ?_, h.2.2.2.2.2.2.2.2⟩
  · refine ⟨fun i hi => ?_, fun i j hi hj e => h.1.2 i j hi hj (by dsimp only at e ⊢; rw [e5 i hi, e5 j hj] at e; exact e)⟩
    have h9 := h.1.1 i hi
    dsimp only at h9 ⊢
    rw [e5 i hi, e6 i hi]
    exact h9
  · rw [e5 _ (lmp_lt hc)]
    exact h.2.2.2.2.2.2.2.1 c hc q hq
/-- the law's script, where there is one; byte rows can be cloned -/
def SX (ad : Nat → Nat) (S : Nat → Int32) (A : Nat → Prop) (U : State) (H : Heap) : Prop := va_X (ad 4000) (S LEN).toNatClampNeg S U H ∧ ad 4000 < H.size ∧ ¬ A (ad 4000) ∧ va_Nw (.castable "[B" "java/lang/Cloneable") U
theorem SX.same {ad : Nat → Nat} {S : Nat → Int32} {A : Nat → Prop} {u U : State} {H : Heap} (e : U.vm = u.vm) (h : SX ad S A u H) : SX ad S A U H := ⟨h.1.moved (by rw [← e]; exact Vm.Alike.refl _), h.2.1, h.2.2.1, va_Nw.same rfl e.symm h.2.2.2⟩
theorem SX.warm {ad : Nat → Nat} {S : Nat → Int32} {A : Nat → Prop} {s U : State} {H : Heap} (hW : s.WarmedH U.vm) (h : SX ad S A s H) : SX ad S A U H := ⟨h.1.moved hW.alike, h.2.1, h.2.2.1, va_Nw.warmC hW h.2.2.2⟩
theorem SX.kept {ad : Nat → Nat} {S : Nat → Int32} {A : Nat → Prop} {U : State} {H H1 : Heap} (hz : H.size ≤ H1.size) (hq : ∀ a : Nat, a < H.size → ¬ A a → H1[a]? = H[a]?) (h : SX ad S A U H) : SX ad S A U H1 := ⟨h.1.kept (hq _ h.2.1 h.2.2.1), by have := h.2.1; omega, h.2.2⟩
theorem SX.narrow {ad : Nat → Nat} {S : Nat → Int32} {A B : Nat → Prop} {U : State} {H : Heap} (hAB : ∀ q, B q → A q) (h : SX ad S A U H) : SX ad S B U H := ⟨h.1, h.2.1, fun z => h.2.2.1 (hAB _ z), h.2.2.2⟩
theorem SX.agree {n : Nat} {ad ad2 : Nat → Nat} {S : Nat → Int32} {A : Nat → Prop} {U : State} {H : Heap} (ha : agree n ad ad2) (h : SX ad S A U H) : SX ad2 S A U H := by
  have e := ha 4000 (by decide) (by decide) (by unfold DB; omega)
  unfold SX
  rw [e]
  exact h

