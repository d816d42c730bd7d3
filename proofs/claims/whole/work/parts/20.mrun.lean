/-! the reference, texts carried out -/
theorem kn_lt {c : Nat} (h : kn c = true) : c < 2147483648 := by
  have h := of_decide_eq_true h
  omega
theorem nI_inj {a b : Nat} (ha : a < 2147483648) (hb : b < 2147483648) (h : nI a = nI b) : b = a := by
  have := congrArg Int32.toInt h
  rw [nI_toInt ha, nI_toInt hb] at this
  omega
theorem kn_all {c : Nat} (h : kn c = true) : c = 115 ∨ c = 98 ∨ c = 111 ∨ c = 119 ∨ c = 112 ∨ c = 100 ∨ c = 109 ∨ c = 104 ∨ c = 101 ∨ c = 116 := of_decide_eq_true h
set_option maxHeartbeats 100000 in
theorem T_order_out {d : Nat} {D : Mm} {Q : Option Value → Mm → Prop} {U : Nat → Nat} {e p w : Nat} (h : PSt D U e p w) (hp : ¬ p < e) (hq : ∀ D2, PSt D2 U e p 1 → FrP D D2 → Q none D2) : Ct (d + 8) 174 [.ref 171] D Q := by
  refine ent m174 rfl rfl (ls := [.ref 171, .retAddr 0, .retAddr 0, .retAddr 0, .retAddr 0, .retAddr 0, .retAddr 0]) rfl ?_
  refine w_ald0 i174_0 ?_
  refine w_vI1 i174_1 c168 (Or.inl rfl) ⟨by decide +kernel, by decide⟩ rfl ⟨rfl, Nat.le_of_ble_eq_true rfl⟩ (T_sign_out h hp) ?_
  refine w_ist1 i174_4 ?_
  refine w_const i174_5 kc_0 ?_
  refine w_ist2 i174_6 ?_
  refine w_const i174_7 kc_0 ?_
  refine w_ist3 i174_8 ?_
  refine w_const i174_9 kc_0 ?_
  refine w_ist4 i174_10 ?_
  refine w_ald0 i174_12 ?_
  refine w_ild1 i174_13 ?_
  refine w_sI1 i174_14 c173 rfl  rfl ⟨rfl, Nat.le_of_ble_eq_true rfl⟩ (T_isKnown_no (fun c hk => ne1 (kn_lt hk))) ?_
  refine w_ineNF i174_17 (by omega) (by omega) ?_
  refine w_const i174_20 kc_1 ?_
  refine w_goto i174_21 g174_21 ?_
  refine w_pf1 i174_25 (by decide) s_171 rfl (Or.inr rfl) ?_
  refine w_ald0 i174_28 ?_
  refine w_gfI i174_29 (by decide) s_171 rfl mupE ?_
  refine w_ieqNF i174_32 (by omega) (by omega) ?_
  refine w_rv i174_35 r174 ?_
  exact hq _ (h.of (FrP.u23 FrP.rf) ((mupJ (by decide)).trans h.1) mupE h.2.2.1) (FrP.u23 FrP.rf)
set_option maxHeartbeats 100000 in
theorem T_order_un {d : Nat} {D : Mm} {Q : Option Value → Mm → Prop} {U : Nat → Nat} {e p w : Nat} (h : PSt D U e p w) (hp : p < e) (hk : ¬ kn (U p) = true) (hq : ∀ D2, PSt D2 U e p 1 → FrP D D2 → Q none D2) : Ct (d + 8) 174 [.ref 171] D Q := by
  have a6 := h.2.2.2.2.2.1 p hp
  refine ent m174 rfl rfl (ls := [.ref 171, .retAddr 0, .retAddr 0, .retAddr 0, .retAddr 0, .retAddr 0, .retAddr 0]) rfl ?_
  refine w_ald0 i174_0 ?_
  refine w_vI1 i174_1 c168 (Or.inl rfl) ⟨by decide +kernel, by decide⟩ rfl ⟨rfl, Nat.le_of_ble_eq_true rfl⟩ (T_sign_in h hp) ?_
  refine w_ist1 i174_4 ?_
  refine w_const i174_5 kc_0 ?_
  refine w_ist2 i174_6 ?_
  refine w_const i174_7 kc_0 ?_
  refine w_ist3 i174_8 ?_
  refine w_const i174_9 kc_0 ?_
  refine w_ist4 i174_10 ?_
  refine w_ald0 i174_12 ?_
  refine w_ild1 i174_13 ?_
  refine w_sI1 i174_14 c173 rfl  rfl ⟨rfl, Nat.le_of_ble_eq_true rfl⟩ (T_isKnown_no (fun c hc e2 => hk (nI_inj (by omega) (kn_lt hc) e2 ▸ hc))) ?_
  refine w_ineNF i174_17 (by omega) (by omega) ?_
  refine w_const i174_20 kc_1 ?_
  refine w_goto i174_21 g174_21 ?_
  refine w_pf1 i174_25 (by decide) s_171 rfl (Or.inr rfl) ?_
  refine w_ald0 i174_28 ?_
  refine w_gfI i174_29 (by decide) s_171 rfl mupE ?_
  refine w_ieqNF i174_32 (by omega) (by omega) ?_
  refine w_rv i174_35 r174 ?_
  exact hq _ (h.of (FrP.u23 FrP.rf) ((mupJ (by decide)).trans h.1) mupE h.2.2.1) (FrP.u23 FrP.rf)
def pOrd (U : Nat → Nat) (e p : Nat) : Nat × Nat × Nat × Nat × Nat := if p < e ∧ kn (U p) = true then ordS U e (U p) (p + 1) else (p, 1, 0, 0, 0)
theorem T_order {d : Nat} {D : Mm} {Q : Option Value → Mm → Prop} {U : Nat → Nat} {e p w n : Nat} (h : PSt D U e p w) (hq0 : ∀ D2, PSt D2 U e (pOrd U e p).1 (pOrd U e p).2.1 → FrP D D2 → ((pOrd U e p).2.1 ≠ 0 ∨ D 171 24 = 0) → Q none D2) (hq1 : ∀ D2, PSt D2 U e (pOrd U e p).1 0 → FrP D D2 → (pOrd U e p).2.1 = 0 → ¬ D 171 24 = 0 → HV n (D 172) ∧ OutM (oDo n (D 172) (U p) (nI (pOrd U e p).2.2.1) (nI (pOrd U e p).2.2.2.1) (nI (pOrd U e p).2.2.2.2)) D2 (fun _ D4 => Q none D4)) : Ct (d + 8) 174 [.ref 171] D Q := by
  by_cases hp : p < e
  · by_cases hk : kn (U p) = true
    · have hE : pOrd U e p = ordS U e (U p) (p + 1) := by unfold pOrd; rw [if_pos ⟨hp, hk⟩]
      rw [hE] at hq0 hq1
      rcases kn_all hk with z | z | z | z | z | z | z | z | z | z
      · rw [z] at hq0 hq1; exact T_order115 h hp z hq0 hq1
      · rw [z] at hq0 hq1; exact T_order98 h hp z hq0 hq1
      · rw [z] at hq0 hq1; exact T_order111 h hp z hq0 hq1
      · rw [z] at hq0 hq1; exact T_order119 h hp z hq0 hq1
      · rw [z] at hq0 hq1; exact T_order112 h hp z hq0 hq1
      · rw [z] at hq0 hq1; exact T_order100 h hp z hq0 hq1
      · rw [z] at hq0 hq1; exact T_order109 h hp z hq0 hq1
      · rw [z] at hq0 hq1; exact T_order104 h hp z hq0 hq1
      · rw [z] at hq0 hq1; exact T_order101 h hp z hq0 hq1
      · rw [z] at hq0 hq1; exact T_order116 h hp z hq0 hq1
    · have hE : pOrd U e p = (p, 1, 0, 0, 0) := by unfold pOrd; rw [if_neg (fun z => hk z.2)]
      rw [hE] at hq0
      exact T_order_un h hp hk (fun D2 a b => hq0 D2 a b (Or.inl Nat.one_ne_zero))
  · have hE : pOrd U e p = (p, 1, 0, 0, 0) := by unfold pOrd; rw [if_neg (fun z => hp z.1)]
    rw [hE] at hq0
    exact T_order_out h hp (fun D2 a b => hq0 D2 a b (Or.inl Nat.one_ne_zero))
theorem bhP_le {U : Nat → Nat} {e c m p w : Nat} (h : p ≤ e) : p ≤ (bhP U e c m p w).1 ∧ (bhP U e c m p w).1 ≤ e := by
  unfold bhP
  split
  · exact ⟨Nat.le_refl _, h⟩
  · split
    · next z =>
      have := dgs_le (U := U) (e := e) m 0 (p + 1) z.1
      exact ⟨by omega, this.2⟩
    · exact ⟨Nat.le_refl _, h⟩
theorem nxP_le {U : Nat → Nat} {e c m : Nat} {s : Nat × Nat × Nat} (h : s.1 ≤ e) : s.1 ≤ (nxP U e c m s).1 ∧ (nxP U e c m s).1 ≤ e := by
  unfold nxP
  split
  · exact ⟨Nat.le_refl _, h⟩
  · exact bhP_le h
theorem o1P_le {U : Nat → Nat} {e m p : Nat} (h : p ≤ e) : p ≤ (o1P U e m p).1 ∧ (o1P U e m p).1 ≤ e := by
  unfold o1P
  split
  · exact ⟨Nat.le_refl _, h⟩
  · exact dgs_le m 0 p h
theorem pOrd_le {U : Nat → Nat} {e p : Nat} (h : p ≤ e) : p ≤ (pOrd U e p).1 ∧ (pOrd U e p).1 ≤ e ∧ (pOrd U e p).2.1 < 2 ∧ ((pOrd U e p).2.1 = 0 → p < (pOrd U e p).1) := by
  unfold pOrd
  split
  · next z =>
    unfold ordS
    have h1 := o1P_le (U := U) (e := e) (m := (pt (U p)).1) (p := p + 1) z.1
    have h2 := nxP_le (U := U) (e := e) (c := (pt (U p)).2.1.1) (m := (pt (U p)).2.1.2) h1.2
    have h3 := nxP_le (U := U) (e := e) (c := (pt (U p)).2.2.1) (m := (pt (U p)).2.2.2) h2.2
    exact ⟨by dsimp only; omega, h3.2, nxP_w (nxP_w o1P_w), fun _ => by dsimp only; omega⟩
  · exact ⟨Nat.le_refl _, h, (by decide : 1 < 2), fun z => absurd z Nat.one_ne_zero⟩
def pRun (U : Nat → Nat) (e : Nat) : Nat → Nat → Nat × Nat × List (Nat × Nat × Nat × Nat)
  | 0, p => (p, 1, [])
  | k + 1, p => if (pOrd U e p).2.1 ≠ 0 then ((pOrd U e p).1, 1, []) else
      let t := if e ≤ (pOrd U e p).1 then ((pOrd U e p).1, 0, []) else if U (pOrd U e p).1 = 59 then pRun U e k ((pOrd U e p).1 + 1) else ((pOrd U e p).1, 1, [])
      (t.1, t.2.1, (U p, (pOrd U e p).2.2) :: t.2.2)
def pRest (U : Nat → Nat) (e k q : Nat) : Nat × Nat × List (Nat × Nat × Nat × Nat) := if e ≤ q then (q, 0, []) else if U q = 59 then pRun U e k (q + 1) else (q, 1, [])
theorem pRun_w {U : Nat → Nat} {e k p : Nat} (h : (pOrd U e p).2.1 ≠ 0) : pRun U e (k + 1) p = ((pOrd U e p).1, 1, []) := by rw [pRun]; rw [if_pos h]
theorem pRun_o {U : Nat → Nat} {e k p : Nat} (h : (pOrd U e p).2.1 = 0) : pRun U e (k + 1) p = ((pRest U e k (pOrd U e p).1).1, (pRest U e k (pOrd U e p).1).2.1, (U p, (pOrd U e p).2.2) :: (pRest U e k (pOrd U e p).1).2.2) := by rw [pRun]; rw [if_neg (fun z => z h)]; rfl
theorem pRest_e {U : Nat → Nat} {e k q : Nat} (h : e ≤ q) : pRest U e k q = (q, 0, []) := by unfold pRest; rw [if_pos h]
theorem pRest_s {U : Nat → Nat} {e k q : Nat} (h : q < e) (h2 : U q = 59) : pRest U e k q = pRun U e k (q + 1) := by unfold pRest; rw [if_neg (Nat.not_le.mpr h), if_pos h2]
theorem pRest_n {U : Nat → Nat} {e k q : Nat} (h : q < e) (h2 : ¬ U q = 59) : pRest U e k q = (q, 1, []) := by unfold pRest; rw [if_neg (Nat.not_le.mpr h), if_neg h2]
def pS (U : Nat → Nat) (e k q w : Nat) : Nat × Nat := if w ≠ 0 then (q, 1) else ((pRest U e k q).1, (pRest U e k q).2.1)
theorem pS_w {U : Nat → Nat} {e k q w : Nat} (h : w ≠ 0) : pS U e k q w = (q, 1) := by unfold pS; rw [if_pos h]
theorem pS_0 {U : Nat → Nat} {e k q : Nat} : pS U e k q 0 = ((pRest U e k q).1, (pRest U e k q).2.1) := rfl
theorem pS_run {U : Nat → Nat} {e k p : Nat} : pS U e k (pOrd U e p).1 (pOrd U e p).2.1 = ((pRun U e (k + 1) p).1, (pRun U e (k + 1) p).2.1) := by
  by_cases h : (pOrd U e p).2.1 = 0
  · rw [pRun_o h, h, pS_0]
  · rw [pRun_w h, pS_w h]
theorem PSt.w1 {D : Mm} {U : Nat → Nat} {e p w : Nat} (h : PSt D U e p w) (g : w = 1) : PSt D U e p 1 := g ▸ h
def TXt (D : Mm) (U : Nat → Nat) (e : Nat) : Prop := D 171 21 = nI e ∧ e ≤ 60 ∧ (∀ i, i < e → D 179 i = nI (U i)) ∧ (∀ i, i < e → 32 ≤ U i ∧ U i ≤ 126)
theorem TXt.st {D D2 : Mm} {U : Nat → Nat} {e p w : Nat} (h : TXt D U e) (f : FrP D D2) (h2 : D2 171 20 = nI p) (h3 : D2 171 23 = nI w) (hp : p ≤ e) : PSt D2 U e p w := by
  obtain ⟨a1, a2, a3, a4⟩ := h
  refine ⟨h2, (f.1 21 (by decide) (by decide)).trans a1, hp, a2, ?_, a4, h3⟩
  intro i hi; rw [f.2 179 (by decide)]; exact a3 i hi
theorem ord_head {d : Nat} {D : Mm} {Q : Option Value → Mm → Prop} {U : Nat → Nat} {e q w : Nat} {n : Int32} (hP : PSt D U e q w) (hw2 : w < 2) (hx : (w ≠ 0 ∨ e ≤ q) → Q (some (.int n)) D) (h0 : w = 0 → D 171 0 = nI 0) (hm : w = 0 → q < e → Wp (d + 8) 175 Q 44 [.ref 171, .int n] [.int (nI 59), .ref 171] D) : Wp (d + 8) 175 Q 16 [.ref 171, .int n] [] D := by
  refine w_ald0 i175_16 ?_
  refine w_gfI i175_17 (by decide) s_171 rfl hP.2.2.2.2.2.2 ?_
  refine w_ineN i175_20 g175_20 (by omega) (fun h20 => ?_) (fun h20 => ?_)
  · refine w_ild1 i175_64 ?_
    exact w_ri i175_65 r175 (hx (Or.inl h20))
  · refine w_ald0 i175_23 ?_
    refine w_gfI i175_24 (by decide) s_171 rfl (h0 h20) ?_
    refine w_ineNF i175_27 (by omega) (by omega) ?_
    refine w_ald0 i175_30 ?_
    refine w_gfI i175_31 (by decide) s_171 rfl hP.1 ?_
    refine w_ald0 i175_34 ?_
    refine w_gfI i175_35 (by decide) s_171 rfl hP.2.1 ?_
    have a3 := hP.2.2.1
    have a4 := hP.2.2.2.1
    refine w_cgeN i175_38 g175_38 (by omega) (by omega) (fun h38 => ?_) (fun h38 => ?_)
    · refine w_ild1 i175_64 ?_
      exact w_ri i175_65 r175 (hx (Or.inr h38))
    · refine w_ald0 i175_41 ?_
      refine w_bip i175_42 kb_59 ?_
      exact hm h20 h38
theorem ord_loop1 {d : Nat} {D : Mm} {Q : Option Value → Mm → Prop} {U : Nat → Nat} {e : Nat} (h0 : D 171 0 = nI 0) (h24 : D 171 24 = nI 0) : ∀ k (q w : Nat) (n : Int32) (D1 : Mm), PSt D1 U e q w → FrP D D1 → w < 2 → (w = 0 → e ≤ q + k) → (∀ D2, PSt D2 U e (pS U e k q w).1 (pS U e k q w).2 → FrP D D2 → ∀ m, Q (some (.int m)) D2) → Wp (d + 8) 175 Q 16 [.ref 171, .int n] [] D1 := by
  intro k
  induction k with
  | zero =>
    intro q w n D1 hP hf hw2 hk hqq
    refine ord_head hP hw2 (fun hx => ?_) (fun _ => (hf.1 0 (by decide) (by decide)).trans h0) (fun w0 h38 => absurd (hk w0) (by omega))
    by_cases w0 : w = 0
    · subst w0
      rw [pS_0, pRest_e (by omega)] at hqq
      exact hqq _ hP hf _
    · rw [pS_w w0] at hqq
      exact hqq _ (PSt.w1 hP (by omega)) hf _
  | succ k ih =>
    intro q w n D1 hP hf hw2 hk hqq
    refine ord_head hP hw2 (fun hx => ?_) (fun _ => (hf.1 0 (by decide) (by decide)).trans h0) (fun w0 h38 => ?_)
    · by_cases w0 : w = 0
      · subst w0
        rw [pS_0, pRest_e (by omega)] at hqq
        exact hqq _ hP hf _
      · rw [pS_w w0] at hqq
        exact hqq _ (PSt.w1 hP (by omega)) hf _
    · by_cases hc : U q = 59
      · refine w_vG2 i175_44 c169 (Or.inl rfl) ⟨by decide +kernel, by decide⟩ rfl ⟨rfl, Nat.le_of_ble_eq_true rfl⟩ ?_
        refine T_mark_ok (PSt.w0 hP w0) h38 hc (fun D2 g f => ?_)
        refine w_ald0 i175_47 ?_
        refine w_gfI i175_48 (by decide) s_171 rfl g.2.2.2.2.2.2 ?_
        refine w_ineNF i175_51 (by omega) (by omega) ?_
        refine w_ald0 i175_54 ?_
        refine w_vG1 i175_55 c174 (Or.inl rfl) ⟨by decide +kernel, by decide⟩ rfl ⟨rfl, Nat.le_of_ble_eq_true rfl⟩ ?_
        have hl := pOrd_le (U := U) (e := e) (p := q + 1) h38
        refine T_order (n := 0) g (fun D3 g3 f3 _ => ?_) (fun D3 g3 f3 _ z => absurd ((f.1 24 (by decide) (by decide)).trans ((hf.1 24 (by decide) (by decide)).trans h24)) z)
        refine w_inc1 i175_58 rfl ?_
        refine w_goto i175_61 g175_61 ?_
        refine ih _ _ _ _ g3 (hf.tr (f.tr f3)) hl.2.2.1 (fun z => by have := hk w0; omega) ?_
        rw [w0, pS_0, pRest_s h38 hc] at hqq
        rw [pS_run]
        exact hqq
      · refine w_vG2 i175_44 c169 (Or.inl rfl) ⟨by decide +kernel, by decide⟩ rfl ⟨rfl, Nat.le_of_ble_eq_true rfl⟩ ?_
        refine T_mark_no (PSt.w0 hP w0) (by decide) (fun z => hc z.2) (fun D2 g f => ?_)
        refine w_ald0 i175_47 ?_
        refine w_gfI i175_48 (by decide) s_171 rfl g.2.2.2.2.2.2 ?_
        refine w_ineNT i175_51 g175_51 (by omega) (by omega) ?_
        refine w_inc1 i175_58 rfl ?_
        refine w_goto i175_61 g175_61 ?_
        refine ih _ _ _ _ g (hf.tr f) (by omega) (fun z => absurd z (by omega)) ?_
        rw [w0, pS_0, pRest_n h38 hc] at hqq
        rw [pS_w (by omega)]
        exact hqq
theorem T_orders1 {d : Nat} {D : Mm} {Q : Option Value → Mm → Prop} {U : Nat → Nat} {e : Nat} (h : TXt D U e) (h0 : D 171 0 = nI 0) (h24 : D 171 24 = nI 0) (hq : ∀ D2, PSt D2 U e (pRun U e 61 0).1 (pRun U e 61 0).2.1 → FrP D D2 → ∀ m, Q (some (.int m)) D2) : Ct (d + 9) 175 [.ref 171] D Q := by
  have f0 : FrP D (mup (mup D 171 20 (nI 0)) 171 23 (nI 0)) := FrP.u23 (FrP.u20 FrP.rf)
  have g0 : PSt (mup (mup D 171 20 (nI 0)) 171 23 (nI 0)) U e 0 0 := h.st f0 ((mupJ (by decide)).trans mupE) mupE (Nat.zero_le _)
  refine ent m175 rfl rfl (ls := [.ref 171, .retAddr 0]) rfl ?_
  refine w_ald0 i175_0 ?_
  refine w_const i175_1 kc_0 ?_
  refine w_pf0 i175_2 (by decide) s_171 rfl ?_
  refine w_ald0 i175_5 ?_
  refine w_const i175_6 kc_0 ?_
  refine w_pf1 i175_7 (by decide) s_171 rfl (Or.inl nI_0) ?_
  refine w_const i175_10 kc_1 ?_
  refine w_ist1 i175_11 ?_
  refine w_ald0 i175_12 ?_
  refine w_vG1 i175_13 c174 (Or.inl rfl) ⟨by decide +kernel, by decide⟩ rfl ⟨rfl, Nat.le_of_ble_eq_true rfl⟩ ?_
  have hl := pOrd_le (U := U) (e := e) (p := 0) (Nat.zero_le _)
  have h60 := h.2.1
  refine T_order (n := 0) g0 (fun D3 g3 f3 _ => ?_) (fun D3 g3 f3 _ z => absurd ((f0.1 24 (by decide) (by decide)).trans h24) z)
  exact ord_loop1 h0 h24 60 _ _ _ _ g3 (f0.tr f3) hl.2.2.1 (fun z => by omega) (by rw [pS_run]; exact hq)
noncomputable def oOp (V : Nat → Int32) (o : Nat × Nat × Nat × Nat) : Out := oDo (cl (V 0)) V o.1 (nI o.2.1) (nI o.2.2.1) (nI o.2.2.2)
noncomputable def runO : List (Nat × Nat × Nat × Nat) → Nat → (Nat → Int32) → (Nat × Int32 × List (Int32 × Int32)) ⊕ (Nat × (Nat → Int32))
  | [], i, V => .inr (i, V)
  | o :: os, i, V => match oOp V o with
    | .inl (x, rs) => .inl (i, x, rs)
    | .inr (_, V2) => runO os (i + 1) V2
def hAll : List (Nat × Nat × Nat × Nat) → (Nat → Int32) → Prop
  | [], _ => True
  | o :: os, V => HV (cl (V 0)) V ∧ ∀ a V2, oOp V o = .inr (a, V2) → hAll os V2
theorem runO_l {o : Nat × Nat × Nat × Nat} {os : List (Nat × Nat × Nat × Nat)} {i : Nat} {V : Nat → Int32} {x : Int32} {rs : List (Int32 × Int32)} (h : oOp V o = .inl (x, rs)) : runO (o :: os) i V = .inl (i, x, rs) := by rw [runO]; rw [h]
theorem runO_r {o : Nat × Nat × Nat × Nat} {os : List (Nat × Nat × Nat × Nat)} {i : Nat} {V V2 : Nat → Int32} {a : Int32} (h : oOp V o = .inr (a, V2)) : runO (o :: os) i V = runO os (i + 1) V2 := by rw [runO]; rw [h]
def GS (D D1 : Mm) : Prop := (∀ j, j ≠ 16 → j ≠ 20 → j ≠ 23 → D1 171 j = D 171 j) ∧ (∀ q, q ≠ 171 → q ≠ 172 → q ≠ 177 → q ≠ 178 → D1 q = D q)
theorem GS.fr {D D1 D2 : Mm} (h : GS D D1) (f : FrP D1 D2) : GS D D2 := ⟨fun j a b c => (f.1 j b c).trans (h.1 j a b c), fun q a b c e => (f.2 q a).trans (h.2 q a b c e)⟩
theorem PSt.same {D D4 : Mm} {U : Nat → Nat} {e p w : Nat} (h : PSt D U e p w) (h1 : ∀ j, 20 ≤ j → D4 171 j = D 171 j) (h2 : D4 179 = D 179) : PSt D4 U e p w := by
  obtain ⟨a1, a2, a3, a4, a5, a6, a7⟩ := h
  refine ⟨(h1 _ (by decide)).trans a1, (h1 _ (by decide)).trans a2, a3, a4, ?_, a6, (h1 _ (by decide)).trans a7⟩
  rw [h2]; exact a5
theorem fF_ag {F F2 : Nat → Int32} {x : Int32} {rs : List (Int32 × Int32)} {j : Nat} (h : F j = F2 j) : fF F x rs j = fF F2 x rs j := by
  rcases rs with _ | ⟨⟨a, b⟩, _ | ⟨⟨u, v⟩, t⟩⟩ <;> simp only [fF, vup, h]
theorem fF_hi {F : Nat → Int32} {x : Int32} {rs : List (Int32 × Int32)} {j : Nat} (h : 6 < j) : fF F x rs j = F j := by
  have g0 : j ≠ 0 := by omega
  have g2 : j ≠ 2 := by omega
  have g3 : j ≠ 3 := by omega
  have g4 : j ≠ 4 := by omega
  have g5 : j ≠ 5 := by omega
  have g6 : j ≠ 6 := by omega
  rcases rs with _ | ⟨⟨a, b⟩, _ | ⟨⟨u, v⟩, t⟩⟩ <;> simp only [fF, vup, if_neg g0, if_neg g2, if_neg g3, if_neg g4, if_neg g5, if_neg g6]
theorem ord_step {d : Nat} {D D2 : Mm} {Q : Option Value → Mm → Prop} {U : Nat → Nat} {e p k pe : Nat} {os : List (Nat × Nat × Nat × Nat)} {V : Nat → Int32} (g : PSt D2 U e p 0) (hG : GS D D2) (hV : D2 172 = V) (h24 : D 171 24 = nI 1) (hr : pRun U e (k + 1) p = (pe, 0, os)) (hA : hAll os V)
    (hN : ∀ o os2 V2 a D4, os = o :: os2 → oOp V o = .inr (a, V2) → pRest U e k (pOrd U e p).1 = (pe, 0, os2) → hAll os2 V2 → PSt D4 U e (pOrd U e p).1 0 → GS D D4 → D4 172 = V2 → Q none D4)
    (hX : ∀ o os2 x rs D4, os = o :: os2 → oOp V o = .inl (x, rs) → PSt D4 U e (pOrd U e p).1 0 → (∀ j, j ≠ 16 → j ≠ 20 → j ≠ 23 → D4 171 j = fF (D 171) x rs j) → (∀ q, q ≠ 171 → q ≠ 172 → q ≠ 177 → q ≠ 178 → D4 q = D q) → D4 171 0 = x → Q none D4) : Ct (d + 8) 174 [.ref 171] D2 Q := by
  have e24 : D2 171 24 = nI 1 := (hG.1 24 (by decide) (by decide) (by decide)).trans h24
  by_cases hw : (pOrd U e p).2.1 = 0
  · rw [pRun_o hw] at hr
    have r1 : (pRest U e k (pOrd U e p).1).1 = pe := congrArg (fun z => z.1) hr
    have r2 : (pRest U e k (pOrd U e p).1).2.1 = 0 := congrArg (fun z => z.2.1) hr
    have r3 : (U p, (pOrd U e p).2.2) :: (pRest U e k (pOrd U e p).1).2.2 = os := congrArg (fun z => z.2.2) hr
    have rr : pRest U e k (pOrd U e p).1 = (pe, 0, (pRest U e k (pOrd U e p).1).2.2) := by rw [← r1, ← r2]
    rw [← r3] at hA
    refine T_order (n := cl (V 0)) g (fun D3 g3 f3 z => ?_) (fun D3 g3 f3 _ _ => ?_)
    · rcases z with z | z
      · exact absurd hw z
      · rw [e24] at z; exact absurd z (by decide)
    · rw [hV]
      refine ⟨hA.1, ?_⟩
      show OutM (oOp V (U p, (pOrd U e p).2.2)) D3 _
      have hG3 := hG.fr f3
      cases hO : oOp V (U p, (pOrd U e p).2.2) with
      | inl w =>
        obtain ⟨x, rs⟩ := w
        intro D4 h1 h2
        refine hX _ _ x rs D4 r3.symm hO (g3.same (fun j hj => by rw [h1, fF_hi (by omega)]) (h2 179 (by decide) (by decide))) (fun j a b c => ?_) (fun q a b c f => (h2 q a b).trans (hG3.2 q a b c f)) ?_
        · rw [h1]; exact fF_ag (hG3.1 j a b c)
        · rw [h1, fF_0]
      | inr w =>
        obtain ⟨a, V2⟩ := w
        intro D4 h1 h2 h3
        exact hN _ _ V2 a D4 r3.symm hO rr (hA.2 _ _ hO) (g3.same (fun j hj => h2 j (by omega)) (h3 179 (by decide) (by decide) (by decide) (by decide))) ⟨fun j z1 z2 z3 => (h2 j z1).trans (hG3.1 j z1 z2 z3), fun q z1 z2 z3 z4 => (h3 q z1 z2 z3 z4).trans (hG3.2 q z1 z2 z3 z4)⟩ h1
  · rw [pRun_w hw] at hr
    exact absurd (congrArg (fun z => z.2.1) hr) Nat.one_ne_zero
def RPost (D : Mm) (Q : Option Value → Mm → Prop) (o : (Nat × Int32 × List (Int32 × Int32)) ⊕ (Nat × (Nat → Int32))) : Prop := match o with
  | .inl (i, x, rs) => ∀ D2 : Mm, (∀ j, j ≠ 16 → j ≠ 20 → j ≠ 23 → D2 171 j = fF (D 171) x rs j) → (∀ q, q ≠ 171 → q ≠ 172 → q ≠ 177 → q ≠ 178 → D2 q = D q) → D2 171 0 = x → Q (some (.int (nI (i + 1)))) D2
  | .inr (i, V2) => ∀ D2 : Mm, GS D D2 → D2 172 = V2 → Q (some (.int (nI i))) D2
theorem ord_headF {d : Nat} {D : Mm} {Q : Option Value → Mm → Prop} {U : Nat → Nat} {e q : Nat} {n : Int32} (hP : PSt D U e q 0) (h0 : ¬ D 171 0 = 0) (hx : Q (some (.int n)) D) : Wp (d + 8) 175 Q 16 [.ref 171, .int n] [] D := by
  refine w_ald0 i175_16 ?_
  refine w_gfI i175_17 (by decide) s_171 rfl hP.2.2.2.2.2.2 ?_
  refine w_ineNF i175_20 (by omega) (by omega) ?_
  refine w_ald0 i175_23 ?_
  refine w_gfI i175_24 (by decide) s_171 rfl rfl ?_
  refine w_ineT i175_27 g175_27 h0 ?_
  refine w_ild1 i175_64 ?_
  exact w_ri i175_65 r175 hx
theorem ord_loop2 {d : Nat} {D : Mm} {Q : Option Value → Mm → Prop} {U : Nat → Nat} {e pe : Nat} (h0 : D 171 0 = nI 0) (h24 : D 171 24 = nI 1) : ∀ k (q n : Nat) os V (D1 : Mm), PSt D1 U e q 0 → GS D D1 → D1 172 = V → pRest U e k q = (pe, 0, os) → hAll os V → RPost D Q (runO os n V) → Wp (d + 8) 175 Q 16 [.ref 171, .int (nI n)] [] D1 := by
  intro k
  induction k with
  | zero =>
    intro q n os V D1 hP hG hV hr hA hq
    refine ord_head hP (by decide) (fun hx => ?_) (fun _ => (hG.1 0 (by decide) (by decide) (by decide)).trans h0) (fun _ h38 => ?_)
    · rw [pRest_e (by omega)] at hr
      have e1 : [] = os := congrArg (fun z => z.2.2) hr
      subst e1
      exact hq _ hG hV
    · exfalso
      by_cases hc : U q = 59
      · rw [pRest_s h38 hc] at hr
        exact absurd (congrArg (fun z => z.2.1) hr) Nat.one_ne_zero
      · rw [pRest_n h38 hc] at hr
        exact absurd (congrArg (fun z => z.2.1) hr) Nat.one_ne_zero
  | succ k ih =>
    intro q n os V D1 hP hG hV hr hA hq
    refine ord_head hP (by decide) (fun hx => ?_) (fun _ => (hG.1 0 (by decide) (by decide) (by decide)).trans h0) (fun _ h38 => ?_)
    · rw [pRest_e (by omega)] at hr
      have e1 : [] = os := congrArg (fun z => z.2.2) hr
      subst e1
      exact hq _ hG hV
    · by_cases hc : U q = 59
      · rw [pRest_s h38 hc] at hr
        refine w_vG2 i175_44 c169 (Or.inl rfl) ⟨by decide +kernel, by decide⟩ rfl ⟨rfl, Nat.le_of_ble_eq_true rfl⟩ ?_
        refine T_mark_ok hP h38 hc (fun D2 g f => ?_)
        refine w_ald0 i175_47 ?_
        refine w_gfI i175_48 (by decide) s_171 rfl g.2.2.2.2.2.2 ?_
        refine w_ineNF i175_51 (by omega) (by omega) ?_
        refine w_ald0 i175_54 ?_
        refine w_vG1 i175_55 c174 (Or.inl rfl) ⟨by decide +kernel, by decide⟩ rfl ⟨rfl, Nat.le_of_ble_eq_true rfl⟩ ?_
        refine ord_step g (hG.fr f) ((f.2 172 (by decide)).trans hV) h24 hr hA ?_ ?_
        · intro o os2 V2 a D4 e1 e2 e3 e4 e5 e6 e7
          subst e1
          rw [runO_r e2] at hq
          refine w_inc1 i175_58 (inc1 _) ?_
          refine w_goto i175_61 g175_61 ?_
          exact ih _ _ _ _ _ e5 e6 e7 e3 e4 hq
        · intro o os2 x rs D4 e1 e2 e5 e6 e7 e8
          subst e1
          rw [runO_l e2] at hq
          refine w_inc1 i175_58 (inc1 _) ?_
          refine w_goto i175_61 g175_61 ?_
          exact ord_headF e5 (by rw [e8]; exact okF_ne okF_Do _ _ e2) (hq _ e6 e7 e8)
      · rw [pRest_n h38 hc] at hr
        exact absurd (congrArg (fun z => z.2.1) hr) Nat.one_ne_zero
theorem T_orders2 {d : Nat} {D : Mm} {Q : Option Value → Mm → Prop} {U : Nat → Nat} {e pe : Nat} {os : List (Nat × Nat × Nat × Nat)} (h : TXt D U e) (h0 : D 171 0 = nI 0) (h24 : D 171 24 = nI 1) (hr : pRun U e 61 0 = (pe, 0, os)) (hA : hAll os (D 172)) (hq : RPost D Q (runO os 0 (D 172))) : Ct (d + 9) 175 [.ref 171] D Q := by
  have f0 : FrP D (mup (mup D 171 20 (nI 0)) 171 23 (nI 0)) := FrP.u23 (FrP.u20 FrP.rf)
  have g0 : PSt (mup (mup D 171 20 (nI 0)) 171 23 (nI 0)) U e 0 0 := h.st f0 ((mupJ (by decide)).trans mupE) mupE (Nat.zero_le _)
  have hG0 : GS D (mup (mup D 171 20 (nI 0)) 171 23 (nI 0)) := GS.fr ⟨fun _ _ _ _ => rfl, fun _ _ _ _ _ => rfl⟩ f0
  refine ent m175 rfl rfl (ls := [.ref 171, .retAddr 0]) rfl ?_
  refine w_ald0 i175_0 ?_
  refine w_const i175_1 kc_0 ?_
  refine w_pf0 i175_2 (by decide) s_171 rfl ?_
  refine w_ald0 i175_5 ?_
  refine w_const i175_6 kc_0 ?_
  refine w_pf1 i175_7 (by decide) s_171 rfl (Or.inl nI_0) ?_
  refine w_const i175_10 kc_1 ?_
  refine w_ist1 i175_11 ?_
  refine w_ald0 i175_12 ?_
  refine w_vG1 i175_13 c174 (Or.inl rfl) ⟨by decide +kernel, by decide⟩ rfl ⟨rfl, Nat.le_of_ble_eq_true rfl⟩ ?_
  refine ord_step g0 hG0 (f0.2 172 (by decide)) h24 hr hA ?_ ?_
  · intro o os2 V2 a D4 e1 e2 e3 e4 e5 e6 e7
    subst e1
    rw [runO_r e2] at hq
    exact ord_loop2 h0 h24 _ _ _ _ _ _ e5 e6 e7 e3 e4 hq
  · intro o os2 x rs D4 e1 e2 e5 e6 e7 e8
    subst e1
    rw [runO_l e2] at hq
    exact ord_headF e5 (by rw [e8]; exact okF_ne okF_Do _ _ e2) (hq _ e6 e7 e8)
