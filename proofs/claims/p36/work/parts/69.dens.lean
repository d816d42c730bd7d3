/-! room in a builder -/
theorem sub_toInt {a b : Nat} (ha : a < 1000000000) (hb : b < 1000000000) : (nI a - nI b).toInt = (a : Int) - b := by
  rw [Int32.toInt_sub, nI_toInt (by omega), nI_toInt (by omega)]
  exact Int.bmod_eq_of_le (by omega) (by omega)
theorem sub_le0 {a b : Nat} (ha : a < 1000000000) (hb : b < 1000000000) (h : a ≤ b) : nI a - nI b ≤ 0 := by
  rw [Int32.le_iff_toInt_le, sub_toInt ha hb, show (0 : Int32).toInt = 0 from rfl]; omega
theorem sub_gt0 {a b : Nat} (ha : a < 1000000000) (hb : b < 1000000000) (h : b < a) : 0 < nI a - nI b := by
  rw [Int32.lt_iff_toInt_lt, sub_toInt ha hb, show (0 : Int32).toInt = 0 from rfl]; omega
/-- all but a builder's own rows is as it was -/
def FrD (D D2 : Mm) (o b : Nat) : Prop := (∀ q, q < DB + nxt D → q ≠ 4500 → q ≠ o → q ≠ b → D2 q = D q) ∧ nxt D ≤ nxt D2
theorem FrD.rf {D : Mm} {o b : Nat} : FrD D D o b := ⟨fun _ _ _ _ _ => rfl, Nat.le_refl _⟩
theorem FrD.tr {D D2 D3 : Mm} {o b b2 : Nat} (h : FrD D D2 o b) (g : FrD D2 D3 o b2) (e : b2 = b ∨ DB + nxt D ≤ b2) : FrD D D3 o b := by
  refine ⟨fun q x1 x2 x3 x4 => ?_, Nat.le_trans h.2 g.2⟩
  have h2 := h.2
  refine (g.1 q (by omega) x2 x3 ?_).trans (h.1 q x1 x2 x3 x4)
  rcases e with e | e
  · rw [e]; exact x4
  · omega
/-- a builder went on -/
def StX (D D2 : Mm) (lo T u o b b2 : Nat) (t : List Nat) : Prop := SbX D2 lo T u o b2 t ∧ FrD D D2 o b ∧ (b2 = b ∨ DB + nxt D ≤ b2)
theorem StX.tr {D D2 D3 : Mm} {lo T u o b b2 b3 : Nat} {t t2 : List Nat} (h : StX D D2 lo T u o b b2 t) (g : StX D2 D3 lo T u o b2 b3 t2) : StX D D3 lo T u o b b3 t2 := by
  refine ⟨g.1, h.2.1.tr g.2.1 h.2.2, ?_⟩
  have h2 := h.2.1.2
  rcases g.2.2 with e | e
  · rw [e]; exact h.2.2
  · exact Or.inr (by omega)
theorem StX.rf {D : Mm} {lo T u o b : Nat} {t : List Nat} (h : SbX D lo T u o b t) : StX D D lo T u o b b t := ⟨h, FrD.rf, Or.inl rfl⟩
theorem grow_st {D : Mm} {lo T u o b n : Nat} {t : List Nat} (h : SbX D lo T u o b t) (h1 : cap D b < n) (h2 : n ≤ T) : StX D (grX D o b (max n (2 * cap D b + 2))) lo T u o b (DB + nxt D) t ∧ n ≤ cap (grX D o b (max n (2 * cap D b + 2))) (DB + nxt D) ∧ fitU D (max n (2 * cap D b + 2)) := by
  have hlo : lo ≤ nxt D := by
    have := dyn_ge h.ob; have := h.low; have := DBv; omega
  obtain ⟨g1, g2, g3, g4⟩ := grow_x h hlo h1 h2
  refine ⟨⟨g1, ⟨fun q x1 x2 x3 x4 => ?_, g3.2⟩, Or.inr (Nat.le_refl _)⟩, g2, g4⟩
  unfold grX
  rw [mupF x3, cp_ne (by omega), al_old (by omega) x2]
theorem SbX.put {D D3 : Mm} {lo T u o b : Nat} {t k : List Nat} (h : SbX D lo T u o b t) (h1 : ∀ j, j ≠ 3 → D3 o j = D o j) (h2 : D3 o 3 = nI (t.length + k.length)) (h3 : ∀ q, q ≠ o → q ≠ b → D3 q = D q) (h4 : ∀ i, i < k.length → D3 b (t.length + i) = nI (k.getD i 0)) (h5 : ∀ j, j < t.length ∨ t.length + k.length ≤ j → D3 b j = D b j) (h6 : t.length + k.length ≤ cap D b) (h7 : ∀ c, c ∈ k → c < 128) : StX D D3 lo T u o b b (t ++ k) := by
  have go := dyn_ge h.ob; have gb := dyn_ge h.rb
  have a1 := h.cpm; have a2 := h.tT
  have hL := LENv; have hK := KNDv
  have e4 : D3 4500 = D 4500 := h3 _ (by omega) (by omega)
  have en : nxt D3 = nxt D := by unfold nxt; rw [e4]
  have eu : usd D3 = usd D := by unfold usd; rw [e4]
  have ec : cap D3 b = cap D b := by unfold cap; rw [h5 LEN (by omega)]
  have eo : dyn D3 o 0 := ⟨⟨h.ob.1.1, by rw [en]; exact h.ob.1.2⟩, by unfold kd; rw [h1 KND (by omega)]; exact h.ob.2⟩
  have eb : dyn D3 b 22 := ⟨⟨h.rb.1.1, by rw [en]; exact h.rb.1.2⟩, by unfold kd; rw [h5 KND (by omega)]; exact h.rb.2⟩
  have hby : ∀ i, i < (t ++ k).length → D3 b i = nI ((t ++ k).getD i 0) := fun i hi => by
    rw [List.length_append] at hi
    rcases Nat.lt_or_ge i t.length with q | q
    · rw [h5 i (Or.inl q), h.byr.1 i q, List.getD_eq_getElem?_getD, List.getD_eq_getElem?_getD, List.getElem?_append_left q]
    · have h9 := h4 (i - t.length) (by omega)
      rw [show t.length + (i - t.length) = i by omega] at h9
      rw [h9, List.getD_eq_getElem?_getD, List.getD_eq_getElem?_getD, List.getElem?_append_right q]
  have hlt : ∀ c, c ∈ t ++ k → c < 128 := fun c hc => (List.mem_append.mp hc).elim (h.byr.2 c) (h7 c)
  refine ⟨⟨eo, eb, (h1 0 (by decide)).trans h.val, (h1 1 (by decide)).trans h.cod, by rw [h2, List.length_append], by rw [ec, List.length_append]; exact h6, by rw [ec]; exact a1, a2, ⟨hby, hlt⟩, fun j hj => ?_, h.low, by rw [en, eu]; exact h.nu, by rw [eu, ec]; exact h.us, h.uu⟩, ⟨fun q x1 x2 x3 x4 => h3 q x3 x4, by rw [en]; exact Nat.le_refl _⟩, Or.inl rfl⟩
  rw [ec] at hj
  rcases Nat.lt_or_ge j (t ++ k).length with q | q
  · rw [hby j q]
    have hm : (t ++ k).getD j 0 ∈ t ++ k := by
      rw [List.getD_eq_getElem?_getD, List.getElem?_eq_getElem q]; exact List.getElem_mem q
    exact fitb_t _ (hlt _ hm)
  · rw [List.length_append] at q
    rw [h5 j (Or.inr q)]; exact h.fb j hj
set_option maxHeartbeats 100000 in
theorem K_ensD1 {d : Nat} {D : Mm} {Q : Option Value → Mm → Prop} {lo T u o b : Nat} {t : List Nat} (h : SbX D lo T u o b t) {n : Nat} (hn : n ≤ T) (hc : n ≤ cap D b) (hq : Q none D) : Ct (d + 4) 217 [.ref o, .int (nI n)] D Q := by
  have hdo := h.ob.1
  have hdb := h.rb.1
  have hcp := h.cpm
  have hT := h.tT
  have hdy : dyB [Value.ref o, .int (nI n)] = true := decide_eq_true h.ob.1.1
  refine entE hdy rfl rfl (ls := [.ref o, .int (nI n), .retAddr 0]) rfl ?_
  refine w_ald0 i217_0 ?_
  refine w_gfD i217_1 (Or.inl rfl) h.ob (by decide) h.rvl ?_
  refine w_alnD i217_4 (Or.inl h.rb) rfl ?_
  refine w_ald0 i217_5 ?_
  refine w_gfD i217_6 (Or.inl rfl) h.ob (by decide) (dvl_i (by decide) h.cod) ?_
  refine w_ishr i217_9 (shrX _) ?_
  refine w_ist2 i217_10 ?_
  refine w_ild1 i217_11 ?_
  refine w_ild2 i217_12 ?_
  refine w_isub i217_13 rfl ?_
  refine w_ileT i217_14 g217_14  (sub_le0 (by omega) (by omega) hc) ?_
  refine w_rv i217_38 r217 ?_
  exact hq
set_option maxHeartbeats 100000 in
theorem K_ensD2 {d : Nat} {D : Mm} {Q : Option Value → Mm → Prop} {lo T u o b : Nat} {t : List Nat} (h : SbX D lo T u o b t) {n : Nat} (hn : n ≤ T) (hc : cap D b < n) (hq : Q none (grX D o b (max n (2 * cap D b + 2)))) : Ct (d + 4) 217 [.ref o, .int (nI n)] D Q := by
  have hdo := h.ob.1
  have hdb := h.rb.1
  have hcp := h.cpm
  have hT := h.tT
  have hdy : dyB [Value.ref o, .int (nI n)] = true := decide_eq_true h.ob.1.1
  have hf := (grow_st h hc hn).2.2
  have go := dyn_ge h.ob
  have gb := dyn_ge h.rb
  refine entE hdy rfl rfl (ls := [.ref o, .int (nI n), .retAddr 0]) rfl ?_
  refine w_ald0 i217_0 ?_
  refine w_gfD i217_1 (Or.inl rfl) h.ob (by decide) h.rvl ?_
  refine w_alnD i217_4 (Or.inl h.rb) rfl ?_
  refine w_ald0 i217_5 ?_
  refine w_gfD i217_6 (Or.inl rfl) h.ob (by decide) (dvl_i (by decide) h.cod) ?_
  refine w_ishr i217_9 (shrX _) ?_
  refine w_ist2 i217_10 ?_
  refine w_ild1 i217_11 ?_
  refine w_ild2 i217_12 ?_
  refine w_isub i217_13 rfl ?_
  refine w_ileF i217_14  (sub_gt0 (by omega) (by omega) hc) ?_
  refine w_ald0 i217_17 ?_
  refine w_ald0 i217_18 ?_
  refine w_gfD i217_19 (Or.inl rfl) h.ob (by decide) h.rvl ?_
  refine w_ald0 i217_22 ?_
  refine w_ild1 i217_23 ?_
  refine w_VD2 i217_24 c131 (Or.inr (Or.inl rfl)) (h.rec (by decide +kernel)) (by repeat (first | exact nvL_nil | refine nvL_cons (by first | trivial | exact nvSt (by decide) | exact nvD (by assumption) | exact nvK (by omega) (by omega)) ?_)) ⟨(by repeat (first | exact nvL_nil | refine nvL_cons (by first | trivial | exact nvSt (by decide) | exact nvD (by assumption) | exact nvK (by omega) (by omega)) ?_)), rfl, Nat.le_of_ble_eq_true rfl⟩ (Ex_go (K_nC h hc hn) ?_)
  refine w_ald0 i217_27 ?_
  refine w_gfD i217_28 (Or.inl rfl) h.ob (by decide) (dvl_i (by decide) h.cod) ?_
  refine w_ishl i217_31 (shl0 _) ?_
  refine w_SD2 i217_32 c133 rfl (by repeat (first | exact nvL_nil | refine nvL_cons (by first | trivial | exact nvSt (by decide) | exact nvD (by assumption) | exact nvK (by omega) (by omega)) ?_)) ⟨(by repeat (first | exact nvL_nil | refine nvL_cons (by first | trivial | exact nvSt (by decide) | exact nvD (by assumption) | exact nvK (by omega) (by omega)) ?_)), rfl, Nat.le_of_ble_eq_true rfl⟩ ?_
  refine K_cO h.rb (by omega) (by omega) hf h.fb ?_
  refine w_pfDR i217_35 (dyn_cp (dyn_al h.ob hf) (by unfold DB; omega) (by omega)) (dyn_cp (k := 22) (dyn_new hf (by rw [rwA_k]; exact nI_clamp (by omega))) (by unfold DB; omega) (by omega)).1 ?_
  refine w_rv i217_38 r217 ?_
  exact hq
theorem K_ensD {d : Nat} {D : Mm} {Q : Option Value → Mm → Prop} {lo T u o b : Nat} {t : List Nat} (h : SbX D lo T u o b t) {n : Nat} (hn : n ≤ T) (hq : ∀ D2 b2, StX D D2 lo T u o b b2 t → n ≤ cap D2 b2 → Q none D2) : Ct (d + 4) 217 [.ref o, .int (nI n)] D Q := by
  by_cases hc : n ≤ cap D b
  · exact K_ensD1 h hn hc (hq _ _ (StX.rf h) hc)
  · have hc := Nat.lt_of_not_le hc
    obtain ⟨g1, g2, g3⟩ := grow_st h hc hn
    exact K_ensD2 h hn hc (hq _ _ g1 g2)
