/-! the reference, endings -/
theorem nv_nil : ([] : List Value).all nvB = true := rfl
theorem nv_cons {v : Value} {l : List Value} (h : nvB v = true) (t : l.all nvB = true) : (v :: l).all nvB = true := by rw [List.all_cons, h, t]; rfl
def hrV (V : Nat → Int32) (j : Nat) : Nat := (V (6 + 4 * j + 1)).toNatClampNeg
def okHr (V : Nat → Int32) : Prop := ∀ j, j < 6 → ∃ i, i < 6 ∧ V (6 + 4 * j + 1) = nI i
theorem okHr_eq {V : Nat → Int32} (h : okHr V) {j : Nat} (hj : j < 6) : V (6 + 4 * j + 1) = nI (hrV V j) ∧ hrV V j < 6 := by
  obtain ⟨i, hi, e⟩ := h j hj
  have e2 : hrV V j = i := by unfold hrV; rw [e, nI_clamp (by omega)]
  rw [e2]
  exact ⟨e, hi⟩
noncomputable def chase (V : Nat → Int32) (h : Nat) : Nat → Nat → Option Nat
  | 0, _ => none
  | k + 1, is => ifp (is = h) (chase V h k (hrV V is)) (ifp (vOpen V is) (some is) (chase V h k (hrV V is)))
noncomputable def firstO (V : Nat → Int32) (h : Nat) : Nat → Nat → Option Nat
  | 0, _ => none
  | k + 1, is => ifp (is = h) (firstO V h k (is + 1)) (ifp (vOpen V is) (some is) (firstO V h k (is + 1)))
noncomputable def orE (a b : Option Nat) : Option Nat := match a with
  | some x => some x
  | none => b
noncomputable def vSucc (V : Nat → Int32) (h : Nat) : Option Nat := orE (chase V h 6 (hrV V h)) (firstO V h 6 0)
theorem firstO_lt {V : Nat → Int32} {h r : Nat} : ∀ k is, firstO V h k is = some r → r < is + k ∧ r ≠ h ∧ vOpen V r := by
  intro k
  induction k with
  | zero => intro is e; cases e
  | succ k ih =>
    intro is e
    unfold firstO at e
    by_cases g : is = h
    · rw [ifp_t g] at e
      have := ih _ e
      exact ⟨by omega, this.2⟩
    · rw [ifp_f g] at e
      by_cases o : vOpen V is
      · rw [ifp_t o] at e
        cases e
        exact ⟨by omega, g, o⟩
      · rw [ifp_f o] at e
        have := ih _ e
        exact ⟨by omega, this.2⟩
theorem chase_lt {V : Nat → Int32} {h r : Nat} (hh : okHr V) : ∀ k is, is < 6 → chase V h k is = some r → r < 6 ∧ r ≠ h ∧ vOpen V r := by
  intro k
  induction k with
  | zero => intro is _ e; cases e
  | succ k ih =>
    intro is hi e
    unfold chase at e
    by_cases g : is = h
    · rw [ifp_t g] at e
      exact ih _ (okHr_eq hh hi).2 e
    · rw [ifp_f g] at e
      by_cases o : vOpen V is
      · rw [ifp_t o] at e
        cases e
        exact ⟨hi, g, o⟩
      · rw [ifp_f o] at e
        exact ih _ (okHr_eq hh hi).2 e
theorem vSucc_lt {V : Nat → Int32} {h r : Nat} (hh : okHr V) (h6 : h < 6) (e : vSucc V h = some r) : r < 6 ∧ r ≠ h ∧ vOpen V r := by
  unfold vSucc orE at e
  split at e
  · next x hx => cases e; exact chase_lt hh _ _ (okHr_eq hh h6).2 hx
  · exact firstO_lt _ _ e
theorem inc6 (a k : Nat) (h : k + 1 ≤ 6) : nI (6 - (k + 1)) + Int32.ofInt 1 = nI (6 - k) := by rw [inc1]; congr 1; omega
theorem T_inForce {d : Nat} {D : Mm} {Q : Option Value → Mm → Prop} {V : Nat → Int32} (hV : D 172 = V) {j : Nat} (hj : j < 6) {r : Nat} (hh : okHr V) (he : vSucc V j = some r) (hq : Q (some (.int (nI r))) D) : Ct (d + 3) 150 [.ref 171, .int (nI j)] D Q := by
  subst hV
  refine ent m150 rfl rfl (ls := [.ref 171, .int (nI j), .retAddr 0, .retAddr 0]) rfl ?_
  refine w_ald0 i150_0 ?_
  refine w_gfR i150_1 (by decide) s_171 rfl ?_
  refine w_ild1 i150_4 ?_
  refine w_const i150_5 kc_1 ?_
  refine w_sI2 i150_6 c114 rfl  rfl ⟨rfl, Nat.le_of_ble_eq_true rfl⟩ T_at ?_
  refine w_ial i150_9 s_172 (by decide) (by omega) (okHr_eq hh hj).1 ?_
  refine w_ist2 i150_10 ?_
  refine w_const i150_11 kc_0 ?_
  refine w_ist3 i150_12 ?_
  have L13 : ∀ k is, k ≤ 6 → is < 6 → orE (chase (D 172) j k is) (firstO (D 172) j 6 0) = some r → Wp (d + 2) 150 Q 13 [.ref 171, .int (nI j), .int (nI is), .int (nI (6 - k))] [] D := by
    intro k
    induction k with
    | zero =>
      intro is h6 h1 h2
      refine w_ild3 i150_13 ?_
      refine w_bip i150_14 kb_6 ?_
      refine w_cgeNT i150_16 g150_16 (by omega) (by omega) (by omega) ?_
      refine w_const i150_51 kc_0 ?_
      refine w_ist2 i150_52 ?_
      have L53 : ∀ k is, is + k = 6 → firstO (D 172) j k is = some r → Wp (d + 2) 150 Q 53 [.ref 171, .int (nI j), .int (nI is), .int (nI 6)] [] D := by
        intro k
        induction k with
        | zero =>
          intro is _ h2; cases h2
        | succ k ih =>
          intro is h6 h2
          unfold firstO at h2
          refine w_ild2 i150_53 ?_
          refine w_ild1 i150_54 ?_
          refine w_ceqN i150_55 g150_55 (by omega) (by omega) (fun h55 => ?_) (fun h55 => ?_)
          · skip
            refine w_inc2 i150_66 (inc1 _) ?_
            refine w_goto i150_69 g150_69 ?_
            first
              | (rw [ifp_t h55] at h2; exact ih _ (by omega) h2)
              | (rw [ifp_f h55, ifp_f hO] at h2; exact ih _ (by omega) h2)
          · skip
            refine w_ald0 i150_58 ?_
            refine w_ild2 i150_59 ?_
            by_cases hO : vOpen (D 172) is
            · skip
              refine w_vI2 i150_60 c118 (Or.inl rfl) ⟨by decide +kernel, by decide⟩ rfl ⟨rfl, Nat.le_of_ble_eq_true rfl⟩ (T_isOpen_t (by omega) hO) ?_
              refine w_ineNT i150_63 g150_63 (by omega) (by omega) ?_
              refine w_ild2 i150_72 ?_
              refine w_ri i150_73 r150 ?_
              rw [ifp_f h55, ifp_t hO] at h2
              cases h2
              exact hq
            · skip
              refine w_vI2 i150_60 c118 (Or.inl rfl) ⟨by decide +kernel, by decide⟩ rfl ⟨rfl, Nat.le_of_ble_eq_true rfl⟩ (T_isOpen_f (by omega) hO) ?_
              refine w_ineNF i150_63 (by omega) (by omega) ?_
              refine w_inc2 i150_66 (inc1 _) ?_
              refine w_goto i150_69 g150_69 ?_
              first
                | (rw [ifp_t h55] at h2; exact ih _ (by omega) h2)
                | (rw [ifp_f h55, ifp_f hO] at h2; exact ih _ (by omega) h2)
      exact L53 6 0 (by omega) (by exact h2)
    | succ k ih =>
      intro is h6 h1 h2
      unfold chase at h2
      have hL := okHr_eq hh h1
      refine w_ild3 i150_13 ?_
      refine w_bip i150_14 kb_6 ?_
      refine w_cgeNF i150_16 (by omega) (by omega) (by omega) ?_
      refine w_ild2 i150_19 ?_
      refine w_ild1 i150_20 ?_
      refine w_ceqN i150_21 g150_21 (by omega) (by omega) (fun h21 => ?_) (fun h21 => ?_)
      · skip
        refine w_ald0 i150_34 ?_
        refine w_gfR i150_35 (by decide) s_171 rfl ?_
        refine w_ild2 i150_38 ?_
        refine w_const i150_39 kc_1 ?_
        refine w_sI2 i150_40 c114 rfl  rfl ⟨rfl, Nat.le_of_ble_eq_true rfl⟩ T_at ?_
        refine w_ial i150_43 s_172 (by decide) (by omega) (okHr_eq hh (by omega)).1 ?_
        refine w_ist2 i150_44 ?_
        refine w_inc3 i150_45 (inc6 0 _ (by omega)) ?_
        refine w_goto i150_48 g150_48 ?_
        first
          | (rw [ifp_t h21] at h2; exact ih _ (by omega) hL.2 (by exact h2))
          | (rw [ifp_f h21, ifp_f hO] at h2; exact ih _ (by omega) hL.2 (by exact h2))
      · skip
        refine w_ald0 i150_24 ?_
        refine w_ild2 i150_25 ?_
        by_cases hO : vOpen (D 172) is
        · skip
          refine w_vI2 i150_26 c118 (Or.inl rfl) ⟨by decide +kernel, by decide⟩ rfl ⟨rfl, Nat.le_of_ble_eq_true rfl⟩ (T_isOpen_t (by omega) hO) ?_
          refine w_ieqNF i150_29 (by omega) (by omega) ?_
          refine w_ild2 i150_32 ?_
          refine w_ri i150_33 r150 ?_
          rw [ifp_f h21, ifp_t hO] at h2
          cases h2
          exact hq
        · skip
          refine w_vI2 i150_26 c118 (Or.inl rfl) ⟨by decide +kernel, by decide⟩ rfl ⟨rfl, Nat.le_of_ble_eq_true rfl⟩ (T_isOpen_f (by omega) hO) ?_
          refine w_ieqNT i150_29 g150_29 (by omega) (by omega) ?_
          refine w_ald0 i150_34 ?_
          refine w_gfR i150_35 (by decide) s_171 rfl ?_
          refine w_ild2 i150_38 ?_
          refine w_const i150_39 kc_1 ?_
          refine w_sI2 i150_40 c114 rfl  rfl ⟨rfl, Nat.le_of_ble_eq_true rfl⟩ T_at ?_
          refine w_ial i150_43 s_172 (by decide) (by omega) (okHr_eq hh (by omega)).1 ?_
          refine w_ist2 i150_44 ?_
          refine w_inc3 i150_45 (inc6 0 _ (by omega)) ?_
          refine w_goto i150_48 g150_48 ?_
          first
            | (rw [ifp_t h21] at h2; exact ih _ (by omega) hL.2 (by exact h2))
            | (rw [ifp_f h21, ifp_f hO] at h2; exact ih _ (by omega) hL.2 (by exact h2))
  exact L13 6 _ (by omega) (okHr_eq hh hj).2 he
def itr {α : Type} (f : Nat → α → α) : Nat → α → α
  | 0, a => a
  | n + 1, a => f n (itr f n a)
noncomputable def vInh (h r : Nat) : Nat → Nat → Nat → Nat → (Nat → Int32) → Nat × (Nat → Int32)
  | 0, _, _, m, V => (m, V)
  | k + 1, s, n, m, V => ifp (V (30 + 8 * s + 0) = nI h)
      (ifp (mTray n V (nI r) + V (30 + 8 * s + 1) + nI 1 ≤ nI 60) (vInh h r k (s + 1) n m (vup V (30 + 8 * s + 0) (nI r)))
        (vInh h r k s (n - 1) (m + 1) (vGoes (vup V (6 + 4 * r + 2) (V (6 + 4 * r + 2) + V (30 + 8 * s + 1))) s)))
      (vInh h r k (s + 1) n m V)
theorem vGoes_0 {V : Nat → Int32} {s : Nat} : vGoes V s 0 = V 0 - nI 1 := by unfold vGoes; rw [updE]
theorem vGoes_lo {V : Nat → Int32} {s j : Nat} (h : j < 30 + 8 * s) (h0 : j ≠ 0) : vGoes V s j = V j := by unfold vGoes shf; rw [updJ h0, if_neg (by omega)]
theorem vGoes_hi {V : Nat → Int32} {s j : Nat} (h : 30 + 8 * s ≤ j) (hj : j + 8 < 126) (hs : s < 12) : vGoes V s j = V (j + 8) := by
  unfold vGoes shf
  rw [updJ (by omega), if_pos (by omega), if_pos hj]

theorem T_inh {d : Nat} {D : Mm} {Q : Option Value → Mm → Prop} {V : Nat → Int32} {n h r : Nat} (hV : D 172 = V) (hn : V 0 = nI n) (h12 : n ≤ 12) (hr : r < 6) (hq : ∀ D2 : Mm, D2 172 = (vInh h r n 0 n 0 V).2 → (∀ q, q ≠ 172 → D2 q = D q) → Q (some (.int (nI (vInh h r n 0 n 0 V).1))) D2) : Ct (d + 3) 151 [.ref 171, .int (nI h), .int (nI r)] D Q := by
  subst hV
  refine ent m151 rfl rfl (ls := [.ref 171, .int (nI h), .int (nI r), .retAddr 0, .retAddr 0, .retAddr 0]) rfl ?_
  refine w_const i151_0 kc_0 ?_
  refine w_ist3 i151_1 ?_
  refine w_const i151_2 kc_0 ?_
  refine w_ist4 i151_3 ?_
  have L5 : ∀ k s n m (D : Mm) (w : Value), nvB w = true → s + k = n → n ≤ 12 → D 172 0 = nI n → (∀ D2 : Mm, D2 172 = (vInh h r k s n m (D 172)).2 → (∀ q, q ≠ 172 → D2 q = D q) → Q (some (.int (nI (vInh h r k s n m (D 172)).1))) D2) → Wp (d + 2) 151 Q 5 [.ref 171, .int (nI h), .int (nI r), .int (nI m), .int (nI s), w] [] D := by
    intro k
    induction k with
    | zero =>
      intro s n m D w hw hk h12 hn hq
      refine w_ild4 i151_5 ?_
      refine w_ald0 i151_7 ?_
      refine w_gfR i151_8 (by decide) s_171 rfl ?_
      refine w_const i151_11 kc_0 ?_
      refine w_ial i151_12 s_172 (by decide) (by omega) hn ?_
      refine w_cgeNT i151_13 g151_13 (by omega) (by omega) (by omega) ?_
      refine w_ild3 i151_110 ?_
      refine w_ri i151_111 r151 ?_
      exact hq _ rfl (fun q _ => rfl)
    | succ k ih =>
      intro s n m D w hw hk h12 hn hq
      unfold vInh at hq
      refine w_ild4 i151_5 ?_
      refine w_ald0 i151_7 ?_
      refine w_gfR i151_8 (by decide) s_171 rfl ?_
      refine w_const i151_11 kc_0 ?_
      refine w_ial i151_12 s_172 (by decide) (by omega) hn ?_
      refine w_cgeNF i151_13 (by omega) (by omega) (by omega) ?_
      refine w_ald0 i151_16 ?_
      refine w_gfR i151_17 (by decide) s_171 rfl ?_
      refine w_ild4 i151_20 ?_
      refine w_const i151_22 kc_1 ?_
      refine w_sI2 i151_23 c115 rfl  (by repeat (first | exact nv_nil | refine nv_cons (by first | rfl | assumption) ?_)) ⟨rfl, Nat.le_of_ble_eq_true rfl⟩ T_in ?_
      refine w_ial i151_26 s_172 (by decide) (by omega) rfl ?_
      refine w_ist5 i151_27 ?_
      refine w_ald0 i151_29 ?_
      refine w_gfR i151_30 (by decide) s_171 rfl ?_
      refine w_ild4 i151_33 ?_
      refine w_const i151_35 kc_0 ?_
      refine w_sI2 i151_36 c115 rfl  (by repeat (first | exact nv_nil | refine nv_cons (by first | rfl | assumption) ?_)) ⟨rfl, Nat.le_of_ble_eq_true rfl⟩ T_in ?_
      refine w_ial i151_39 s_172 (by decide) (by omega) rfl ?_
      refine w_ild1 i151_40 ?_
      refine w_ceq i151_41 g151_41  (fun h41 => ?_) (fun h41 => ?_)
      · skip
        refine w_ald0 i151_50 ?_
        refine w_ild2 i151_51 ?_
        refine w_vI2 i151_52 c120 (Or.inl rfl) ⟨by decide +kernel, by decide⟩ (by repeat (first | exact nv_nil | refine nv_cons (by first | rfl | assumption) ?_)) ⟨rfl, Nat.le_of_ble_eq_true rfl⟩ (T_tray hn h12) ?_
        refine w_ild5 i151_55 ?_
        refine w_iadd i151_57 rfl ?_
        refine w_const i151_58 kc_1 ?_
        refine w_iadd i151_59 rfl ?_
        refine w_bip i151_60 kb_60 ?_
        refine w_cgt i151_62 g151_62  (fun h62 => ?_) (fun h62 => ?_)
        · skip
          refine w_ald0 i151_83 ?_
          refine w_gfR i151_84 (by decide) s_171 rfl ?_
          refine w_ild2 i151_87 ?_
          refine w_const i151_88 kc_2 ?_
          refine w_sI2 i151_89 c114 rfl  (by repeat (first | exact nv_nil | refine nv_cons (by first | rfl | assumption) ?_)) ⟨rfl, Nat.le_of_ble_eq_true rfl⟩ T_at ?_
          refine w_dup2 i151_92 rfl rfl ?_
          refine w_ial i151_93 s_172 (by decide) (by omega) rfl ?_
          refine w_ild5 i151_94 ?_
          refine w_iadd i151_96 rfl ?_
          refine w_ias i151_97 s_172 (by decide) (by omega) ?_
          refine w_ald0 i151_98 ?_
          refine w_ild4 i151_99 ?_
          refine w_vV2 i151_101 c121 (Or.inl rfl) ⟨by decide +kernel, by decide⟩ (by repeat (first | exact nv_nil | refine nv_cons (by first | rfl | assumption) ?_)) ⟨rfl, Nat.le_of_ble_eq_true rfl⟩ (T_goes (by omega)) ?_
          refine w_inc3 i151_104 (inc1 _) ?_
          refine w_goto i151_107 g151_107 ?_
          first
            | (rw [ifp_f h41] at hq; exact ih (s + 1) n m D _ rfl (by omega) h12 hn hq)
            | (rw [ifp_t h41, ifp_t h62] at hq
               refine ih (s + 1) n m _ _ rfl (by omega) h12 ((mupJ (by omega)).trans hn) (fun D2 g1 g2 => hq D2 ?_ (fun q g => (g2 q g).trans (mupF g)))
               rw [g1]; rfl)
            | (rw [ifp_t h41, ifp_f (Int32.not_le.mpr h62)] at hq
               refine ih s (n - 1) (m + 1) _ _ rfl (by omega) (by omega) ?_ (fun D2 g1 g2 => ?_)
               · rw [setcE, vGoes_0, mupJ (by omega), hn, nI_sub (by omega)]
               · refine hq D2 ?_ (fun q g => (g2 q g).trans ((setcF g).trans (mupF g)))
                 rw [g1]; rfl)
        · skip
          refine w_ald0 i151_65 ?_
          refine w_gfR i151_66 (by decide) s_171 rfl ?_
          refine w_ild4 i151_69 ?_
          refine w_const i151_71 kc_0 ?_
          refine w_sI2 i151_72 c115 rfl  (by repeat (first | exact nv_nil | refine nv_cons (by first | rfl | assumption) ?_)) ⟨rfl, Nat.le_of_ble_eq_true rfl⟩ T_in ?_
          refine w_ild2 i151_75 ?_
          refine w_ias i151_76 s_172 (by decide) (by omega) ?_
          refine w_inc4 i151_77 (inc1 _) ?_
          refine w_goto i151_80 g151_80 ?_
          refine w_goto i151_107 g151_107 ?_
          first
            | (rw [ifp_f h41] at hq; exact ih (s + 1) n m D _ rfl (by omega) h12 hn hq)
            | (rw [ifp_t h41, ifp_t h62] at hq
               refine ih (s + 1) n m _ _ rfl (by omega) h12 ((mupJ (by omega)).trans hn) (fun D2 g1 g2 => hq D2 ?_ (fun q g => (g2 q g).trans (mupF g)))
               rw [g1]; rfl)
            | (rw [ifp_t h41, ifp_f (Int32.not_le.mpr h62)] at hq
               refine ih s (n - 1) (m + 1) _ _ rfl (by omega) (by omega) ?_ (fun D2 g1 g2 => ?_)
               · rw [setcE, vGoes_0, mupJ (by omega), hn, nI_sub (by omega)]
               · refine hq D2 ?_ (fun q g => (g2 q g).trans ((setcF g).trans (mupF g)))
                 rw [g1]; rfl)
      · skip
        refine w_inc4 i151_44 (inc1 _) ?_
        refine w_goto i151_47 g151_47 ?_
        refine w_goto i151_107 g151_107 ?_
        first
          | (rw [ifp_f h41] at hq; exact ih (s + 1) n m D _ rfl (by omega) h12 hn hq)
          | (rw [ifp_t h41, ifp_t h62] at hq
             refine ih (s + 1) n m _ _ rfl (by omega) h12 ((mupJ (by omega)).trans hn) (fun D2 g1 g2 => hq D2 ?_ (fun q g => (g2 q g).trans (mupF g)))
             rw [g1]; rfl)
          | (rw [ifp_t h41, ifp_f (Int32.not_le.mpr h62)] at hq
             refine ih s (n - 1) (m + 1) _ _ rfl (by omega) (by omega) ?_ (fun D2 g1 g2 => ?_)
             · rw [setcE, vGoes_0, mupJ (by omega), hn, nI_sub (by omega)]
             · refine hq D2 ?_ (fun q g => (g2 q g).trans ((setcF g).trans (mupF g)))
               rw [g1]; rfl)
  exact L5 n 0 n 0 D _ rfl (by omega) h12 hn hq
theorem vInh_n {h r : Nat} : ∀ k s n m V, V 0 = nI n → s + k = n → (vInh h r k s n m V).2 0 = nI (n + m - (vInh h r k s n m V).1) ∧ m ≤ (vInh h r k s n m V).1 ∧ (vInh h r k s n m V).1 ≤ m + k ∧ (vInh h r k s n m V).1 ≤ n + m := by
  intro k
  induction k with
  | zero => intro s n m V hn hk; exact ⟨by show V 0 = nI (n + m - m); rw [Nat.add_sub_cancel]; exact hn, Nat.le_refl _, Nat.le_refl _, by show m ≤ n + m; omega⟩
  | succ k ih =>
    intro s n m V hn hk
    unfold vInh
    by_cases h1 : V (30 + 8 * s + 0) = nI h
    · rw [ifp_t h1]
      by_cases h2 : mTray n V (nI r) + V (30 + 8 * s + 1) + nI 1 ≤ nI 60
      · rw [ifp_t h2]
        have := ih (s + 1) n m (vup V (30 + 8 * s + 0) (nI r)) ((updJ (by omega)).trans hn) (by omega)
        exact ⟨this.1, this.2.1, by omega, this.2.2.2⟩
      · rw [ifp_f h2]
        have := ih s (n - 1) (m + 1) (vGoes (vup V (6 + 4 * r + 2) (V (6 + 4 * r + 2) + V (30 + 8 * s + 1))) s) (by rw [vGoes_0, updJ (by omega), hn, nI_sub (by omega)]) (by omega)
        refine ⟨this.1.trans ?_, by omega, by omega, by omega⟩
        rw [show n - 1 + (m + 1) = n + m by omega]
    · rw [ifp_f h1]
      have := ih (s + 1) n m V hn (by omega)
      exact ⟨this.1, this.2.1, by omega, this.2.2.2⟩
noncomputable def vFr1 (h s : Nat) (V : Nat → Int32) : Nat → Int32 := ifp (V (30 + 8 * s + 0) = nI h)
  (ifp (V (30 + 8 * s + 3) = nI (h + 1))
    (ifp (V (30 + 8 * s + 6) = nI (h + 1)) (vup (vup (vup (vup V (30 + 8 * s + 3) (nI 0)) (30 + 8 * s + 4) (nI 0)) (30 + 8 * s + 6) (nI 0)) (30 + 8 * s + 5) (nI 0)) (vup (vup V (30 + 8 * s + 3) (nI 0)) (30 + 8 * s + 4) (nI 0)))
    (ifp (V (30 + 8 * s + 6) = nI (h + 1)) (vup (vup V (30 + 8 * s + 6) (nI 0)) (30 + 8 * s + 5) (nI 0)) V)) V
noncomputable def vRt (h r s : Nat) (V : Nat → Int32) : Nat → Int32 :=
  ifp (V (30 + 8 * s + 3) = nI (h + 1))
    (ifp (vup V (30 + 8 * s + 3) (nI (r + 1)) (30 + 8 * s + 6) = nI (h + 1)) (vup (vup (vup V (30 + 8 * s + 3) (nI (r + 1))) (30 + 8 * s + 6) (nI 0)) (30 + 8 * s + 5) (nI 0)) (vup V (30 + 8 * s + 3) (nI (r + 1))))
    (ifp (V (30 + 8 * s + 6) = nI (h + 1)) (vup (vup V (30 + 8 * s + 6) (nI 0)) (30 + 8 * s + 5) (nI 0)) V)
noncomputable def vPa (x : Int32) (s : Nat) (V : Nat → Int32) : Nat → Int32 :=
  ifp (V (30 + 8 * s + 6) = 0) V (ifp (V (30 + 8 * s + 5) ≤ x) (vup (vup V (30 + 8 * s + 5) (nI 0)) (30 + 8 * s + 6) (nI 0))
    (vup (vup V (30 + 8 * s + 5) (V (30 + 8 * s + 5) - x)) (30 + 8 * s + 6) (V (30 + 8 * s + 6))))
theorem vFr1_eq {h s : Nat} {V : Nat → Int32} : vFr1 h s V = ifp (V (30 + 8 * s + 0) = nI h)
  (ifp (V (30 + 8 * s + 3) = nI (h + 1))
    (ifp (V (30 + 8 * s + 6) = nI (h + 1)) (vup (vup (vup (vup V (30 + 8 * s + 3) (nI 0)) (30 + 8 * s + 4) (nI 0)) (30 + 8 * s + 6) (nI 0)) (30 + 8 * s + 5) (nI 0)) (vup (vup V (30 + 8 * s + 3) (nI 0)) (30 + 8 * s + 4) (nI 0)))
    (ifp (V (30 + 8 * s + 6) = nI (h + 1)) (vup (vup V (30 + 8 * s + 6) (nI 0)) (30 + 8 * s + 5) (nI 0)) V)) V := rfl
theorem vRt_eq {h r s : Nat} {V : Nat → Int32} : vRt h r s V =
  ifp (V (30 + 8 * s + 3) = nI (h + 1))
    (ifp (vup V (30 + 8 * s + 3) (nI (r + 1)) (30 + 8 * s + 6) = nI (h + 1)) (vup (vup (vup V (30 + 8 * s + 3) (nI (r + 1))) (30 + 8 * s + 6) (nI 0)) (30 + 8 * s + 5) (nI 0)) (vup V (30 + 8 * s + 3) (nI (r + 1))))
    (ifp (V (30 + 8 * s + 6) = nI (h + 1)) (vup (vup V (30 + 8 * s + 6) (nI 0)) (30 + 8 * s + 5) (nI 0)) V) := rfl
theorem vPa_eq {x : Int32} {s : Nat} {V : Nat → Int32} : vPa x s V =
  ifp (V (30 + 8 * s + 6) = 0) V (ifp (V (30 + 8 * s + 5) ≤ x) (vup (vup V (30 + 8 * s + 5) (nI 0)) (30 + 8 * s + 6) (nI 0))
    (vup (vup V (30 + 8 * s + 5) (V (30 + 8 * s + 5) - x)) (30 + 8 * s + 6) (V (30 + 8 * s + 6)))) := rfl
/-- a step that touches its own stub alone -/
def own (f : Nat → (Nat → Int32) → (Nat → Int32)) : Prop := ∀ s V j, ¬ (30 + 8 * s ≤ j ∧ j < 38 + 8 * s) → f s V j = V j
theorem own_vup {V W : Nat → Int32} {s j i : Nat} {x : Int32} (h : W j = V j) (hj : ¬ (30 + 8 * s ≤ j ∧ j < 38 + 8 * s)) (hi : 30 + 8 * s ≤ i ∧ i < 38 + 8 * s) : vup W i x j = V j := (updJ (by omega)).trans h
theorem own_ifp {V : Nat → Int32} {p : Prop} {a b : Nat → Int32} {j : Nat} (h1 : a j = V j) (h2 : b j = V j) : ifp p a b j = V j := by
  by_cases h : p
  · rw [ifp_t h]; exact h1
  · rw [ifp_f h]; exact h2
theorem own_Fr1 {h : Nat} : own (vFr1 h) := by
  intro s V j hj
  unfold vFr1
  refine own_ifp (own_ifp (own_ifp ?_ ?_) (own_ifp ?_ rfl)) rfl
  · exact own_vup (own_vup (own_vup (own_vup rfl hj (by omega)) hj (by omega)) hj (by omega)) hj (by omega)
  · exact own_vup (own_vup rfl hj (by omega)) hj (by omega)
  · exact own_vup (own_vup rfl hj (by omega)) hj (by omega)
theorem own_Rt {h r : Nat} : own (vRt h r) := by
  intro s V j hj
  unfold vRt
  refine own_ifp (own_ifp ?_ ?_) (own_ifp ?_ rfl)
  · exact own_vup (own_vup (own_vup rfl hj (by omega)) hj (by omega)) hj (by omega)
  · exact own_vup rfl hj (by omega)
  · exact own_vup (own_vup rfl hj (by omega)) hj (by omega)
theorem own_Pa {x : Int32} : own (vPa x) := by
  intro s V j hj
  unfold vPa
  refine own_ifp rfl (own_ifp ?_ ?_)
  · exact own_vup (own_vup rfl hj (by omega)) hj (by omega)
  · exact own_vup (own_vup rfl hj (by omega)) hj (by omega)
theorem itr_hi {f : Nat → (Nat → Int32) → (Nat → Int32)} (hf : own f) {n j : Nat} {V : Nat → Int32} (h : 30 + 8 * n ≤ j ∨ j < 30) : itr f n V j = V j := by
  induction n with
  | zero => rfl
  | succ n ih =>
    show f n (itr f n V) j = V j
    rw [hf n _ j (by omega)]
    exact ih (by omega)
theorem w_setR {d k : Nat} {Q : Option Value → Mm → Prop} {pc : Nat} {ls st : List Value} {D : Mm} (c : Nat) (h : Wp d k Q pc ls st (setc D c (D c))) : Wp d k Q pc ls st D := wpD setc_self.symm h
theorem T_frees {d : Nat} {D : Mm} {n h : Nat} (hn : D 172 0 = nI n) (h12 : n ≤ 12) : Ct (d + 2) 152 [.ref 171, .int (nI h)] D (Ex none (setc D 172 (itr (vFr1 h) n (D 172)))) := by
  refine ent m152 rfl rfl (ls := [.ref 171, .int (nI h), .retAddr 0, .retAddr 0, .retAddr 0]) rfl ?_
  refine w_const i152_0 kc_0 ?_
  refine w_ist2 i152_1 ?_
  refine w_setR 172 ?_
  refine down0 (n := n) (P := fun i => ∀ (w : Value) (u : Value), nvB w = true → nvB u = true → Wp _ _ _ 2 [.ref 171, .int (nI h), .int (nI i), w, u] [] (setc D 172 (itr (vFr1 h) i (D 172)))) ?_ ?_ _ _ rfl rfl
  · intro w u hw hu
    refine w_ild2 i152_2 ?_
    refine w_ald0 i152_3 ?_
    refine w_gfR i152_4 (by decide) s_171 rfl ?_
    refine w_const i152_7 kc_0 ?_
    refine w_ial i152_8 s_172 (by decide) (by omega) (setcR.trans ((itr_hi own_Fr1 (Or.inr (by omega))).trans hn)) ?_
    refine w_cgeNT i152_9 g152_9 (by omega) (by omega) (by omega) ?_
    refine w_rv i152_135 r152 ?_
    exact ⟨rfl, rfl⟩
  · intro i hi ih w u hw hu
    refine w_ild2 i152_2 ?_
    refine w_ald0 i152_3 ?_
    refine w_gfR i152_4 (by decide) s_171 rfl ?_
    refine w_const i152_7 kc_0 ?_
    refine w_ial i152_8 s_172 (by decide) (by omega) (setcR.trans ((itr_hi own_Fr1 (Or.inr (by omega))).trans hn)) ?_
    refine w_cgeNF i152_9 (by omega) (by omega) (by omega) ?_
    refine w_ald0 i152_12 ?_
    refine w_gfR i152_13 (by decide) s_171 rfl ?_
    refine w_ild2 i152_16 ?_
    refine w_const i152_17 kc_0 ?_
    refine w_sI2 i152_18 c115 rfl  (by repeat (first | exact nv_nil | refine nv_cons (by first | rfl | assumption) ?_)) ⟨rfl, Nat.le_of_ble_eq_true rfl⟩ T_in ?_
    refine w_ial i152_21 s_172 (by decide) (by omega) setcR ?_
    refine w_ild1 i152_22 ?_
    refine w_ceq i152_23 g152_23  (fun h23 => ?_) (fun h23 => ?_)
    · skip
      refine w_ald0 i152_29 ?_
      refine w_gfR i152_30 (by decide) s_171 rfl ?_
      refine w_ild2 i152_33 ?_
      refine w_const i152_34 kc_3 ?_
      refine w_sI2 i152_35 c115 rfl  (by repeat (first | exact nv_nil | refine nv_cons (by first | rfl | assumption) ?_)) ⟨rfl, Nat.le_of_ble_eq_true rfl⟩ T_in ?_
      refine w_ial i152_38 s_172 (by decide) (by omega) setcR ?_
      refine w_ild1 i152_39 ?_
      refine w_const i152_40 kc_1 ?_
      refine w_iadd i152_41 (nI_add _ _) ?_
      refine w_cne i152_42 g152_42  (fun h42 => ?_) (fun h42 => ?_)
      · skip
        refine w_const i152_49 kc_0 ?_
        refine w_ist3 i152_50 ?_
        refine w_ald0 i152_51 ?_
        refine w_gfR i152_52 (by decide) s_171 rfl ?_
        refine w_ild2 i152_55 ?_
        refine w_bip i152_56 kb_6 ?_
        refine w_sI2 i152_58 c115 rfl  (by repeat (first | exact nv_nil | refine nv_cons (by first | rfl | assumption) ?_)) ⟨rfl, Nat.le_of_ble_eq_true rfl⟩ T_in ?_
        refine w_ial i152_61 s_172 (by decide) (by omega) setcR ?_
        refine w_ild1 i152_62 ?_
        refine w_const i152_63 kc_1 ?_
        refine w_iadd i152_64 (nI_add _ _) ?_
        refine w_cne i152_65 g152_65  (fun h65 => ?_) (fun h65 => ?_)
        · skip
          refine w_const i152_72 kc_0 ?_
          refine w_ist4 i152_73 ?_
          refine w_ild3 i152_75 ?_
          refine w_ieqNT i152_76 g152_76 (by omega) (by omega) ?_
          refine w_ild4 i152_101 ?_
          refine w_ieqNT i152_103 g152_103 (by omega) (by omega) ?_
          refine w_inc2 i152_129 (inc1 _) ?_
          refine w_goto i152_132 g152_132 ?_
          refine wpD ?_ (ih _ _ (by first | rfl | assumption) (by first | rfl | assumption))
          show _ = setc D 172 (vFr1 h i (itr (vFr1 h) i (D 172)))
          rw [vFr1_eq]
          first | rw [ifp_t h23, ifp_t h42, ifp_t h65] | rw [ifp_t h23, ifp_t h42, ifp_f h65] | rw [ifp_t h23, ifp_f h42, ifp_t h65] | rw [ifp_t h23, ifp_f h42, ifp_f h65] | rw [ifp_f h23]
        · skip
          refine w_const i152_68 kc_1 ?_
          refine w_goto i152_69 g152_69 ?_
          refine w_ist4 i152_73 ?_
          refine w_ild3 i152_75 ?_
          refine w_ieqNT i152_76 g152_76 (by omega) (by omega) ?_
          refine w_ild4 i152_101 ?_
          refine w_ieqNF i152_103 (by omega) (by omega) ?_
          refine w_ald0 i152_106 ?_
          refine w_gfR i152_107 (by decide) s_171 rfl ?_
          refine w_ild2 i152_110 ?_
          refine w_bip i152_111 kb_6 ?_
          refine w_sI2 i152_113 c115 rfl  (by repeat (first | exact nv_nil | refine nv_cons (by first | rfl | assumption) ?_)) ⟨rfl, Nat.le_of_ble_eq_true rfl⟩ T_in ?_
          refine w_const i152_116 kc_0 ?_
          refine w_iasS i152_117 s_172 (by decide) (by omega) ?_
          refine w_ald0 i152_118 ?_
          refine w_gfR i152_119 (by decide) s_171 rfl ?_
          refine w_ild2 i152_122 ?_
          refine w_const i152_123 kc_5 ?_
          refine w_sI2 i152_124 c115 rfl  (by repeat (first | exact nv_nil | refine nv_cons (by first | rfl | assumption) ?_)) ⟨rfl, Nat.le_of_ble_eq_true rfl⟩ T_in ?_
          refine w_const i152_127 kc_0 ?_
          refine w_iasS i152_128 s_172 (by decide) (by omega) ?_
          refine w_inc2 i152_129 (inc1 _) ?_
          refine w_goto i152_132 g152_132 ?_
          refine wpD ?_ (ih _ _ (by first | rfl | assumption) (by first | rfl | assumption))
          show _ = setc D 172 (vFr1 h i (itr (vFr1 h) i (D 172)))
          rw [vFr1_eq]
          first | rw [ifp_t h23, ifp_t h42, ifp_t h65] | rw [ifp_t h23, ifp_t h42, ifp_f h65] | rw [ifp_t h23, ifp_f h42, ifp_t h65] | rw [ifp_t h23, ifp_f h42, ifp_f h65] | rw [ifp_f h23]
      · skip
        refine w_const i152_45 kc_1 ?_
        refine w_goto i152_46 g152_46 ?_
        refine w_ist3 i152_50 ?_
        refine w_ald0 i152_51 ?_
        refine w_gfR i152_52 (by decide) s_171 rfl ?_
        refine w_ild2 i152_55 ?_
        refine w_bip i152_56 kb_6 ?_
        refine w_sI2 i152_58 c115 rfl  (by repeat (first | exact nv_nil | refine nv_cons (by first | rfl | assumption) ?_)) ⟨rfl, Nat.le_of_ble_eq_true rfl⟩ T_in ?_
        refine w_ial i152_61 s_172 (by decide) (by omega) setcR ?_
        refine w_ild1 i152_62 ?_
        refine w_const i152_63 kc_1 ?_
        refine w_iadd i152_64 (nI_add _ _) ?_
        refine w_cne i152_65 g152_65  (fun h65 => ?_) (fun h65 => ?_)
        · skip
          refine w_const i152_72 kc_0 ?_
          refine w_ist4 i152_73 ?_
          refine w_ild3 i152_75 ?_
          refine w_ieqNF i152_76 (by omega) (by omega) ?_
          refine w_ald0 i152_79 ?_
          refine w_gfR i152_80 (by decide) s_171 rfl ?_
          refine w_ild2 i152_83 ?_
          refine w_const i152_84 kc_3 ?_
          refine w_sI2 i152_85 c115 rfl  (by repeat (first | exact nv_nil | refine nv_cons (by first | rfl | assumption) ?_)) ⟨rfl, Nat.le_of_ble_eq_true rfl⟩ T_in ?_
          refine w_const i152_88 kc_0 ?_
          refine w_iasS i152_89 s_172 (by decide) (by omega) ?_
          refine w_ald0 i152_90 ?_
          refine w_gfR i152_91 (by decide) s_171 rfl ?_
          refine w_ild2 i152_94 ?_
          refine w_const i152_95 kc_4 ?_
          refine w_sI2 i152_96 c115 rfl  (by repeat (first | exact nv_nil | refine nv_cons (by first | rfl | assumption) ?_)) ⟨rfl, Nat.le_of_ble_eq_true rfl⟩ T_in ?_
          refine w_const i152_99 kc_0 ?_
          refine w_iasS i152_100 s_172 (by decide) (by omega) ?_
          refine w_ild4 i152_101 ?_
          refine w_ieqNT i152_103 g152_103 (by omega) (by omega) ?_
          refine w_inc2 i152_129 (inc1 _) ?_
          refine w_goto i152_132 g152_132 ?_
          refine wpD ?_ (ih _ _ (by first | rfl | assumption) (by first | rfl | assumption))
          show _ = setc D 172 (vFr1 h i (itr (vFr1 h) i (D 172)))
          rw [vFr1_eq]
          first | rw [ifp_t h23, ifp_t h42, ifp_t h65] | rw [ifp_t h23, ifp_t h42, ifp_f h65] | rw [ifp_t h23, ifp_f h42, ifp_t h65] | rw [ifp_t h23, ifp_f h42, ifp_f h65] | rw [ifp_f h23]
        · skip
          refine w_const i152_68 kc_1 ?_
          refine w_goto i152_69 g152_69 ?_
          refine w_ist4 i152_73 ?_
          refine w_ild3 i152_75 ?_
          refine w_ieqNF i152_76 (by omega) (by omega) ?_
          refine w_ald0 i152_79 ?_
          refine w_gfR i152_80 (by decide) s_171 rfl ?_
          refine w_ild2 i152_83 ?_
          refine w_const i152_84 kc_3 ?_
          refine w_sI2 i152_85 c115 rfl  (by repeat (first | exact nv_nil | refine nv_cons (by first | rfl | assumption) ?_)) ⟨rfl, Nat.le_of_ble_eq_true rfl⟩ T_in ?_
          refine w_const i152_88 kc_0 ?_
          refine w_iasS i152_89 s_172 (by decide) (by omega) ?_
          refine w_ald0 i152_90 ?_
          refine w_gfR i152_91 (by decide) s_171 rfl ?_
          refine w_ild2 i152_94 ?_
          refine w_const i152_95 kc_4 ?_
          refine w_sI2 i152_96 c115 rfl  (by repeat (first | exact nv_nil | refine nv_cons (by first | rfl | assumption) ?_)) ⟨rfl, Nat.le_of_ble_eq_true rfl⟩ T_in ?_
          refine w_const i152_99 kc_0 ?_
          refine w_iasS i152_100 s_172 (by decide) (by omega) ?_
          refine w_ild4 i152_101 ?_
          refine w_ieqNF i152_103 (by omega) (by omega) ?_
          refine w_ald0 i152_106 ?_
          refine w_gfR i152_107 (by decide) s_171 rfl ?_
          refine w_ild2 i152_110 ?_
          refine w_bip i152_111 kb_6 ?_
          refine w_sI2 i152_113 c115 rfl  (by repeat (first | exact nv_nil | refine nv_cons (by first | rfl | assumption) ?_)) ⟨rfl, Nat.le_of_ble_eq_true rfl⟩ T_in ?_
          refine w_const i152_116 kc_0 ?_
          refine w_iasS i152_117 s_172 (by decide) (by omega) ?_
          refine w_ald0 i152_118 ?_
          refine w_gfR i152_119 (by decide) s_171 rfl ?_
          refine w_ild2 i152_122 ?_
          refine w_const i152_123 kc_5 ?_
          refine w_sI2 i152_124 c115 rfl  (by repeat (first | exact nv_nil | refine nv_cons (by first | rfl | assumption) ?_)) ⟨rfl, Nat.le_of_ble_eq_true rfl⟩ T_in ?_
          refine w_const i152_127 kc_0 ?_
          refine w_iasS i152_128 s_172 (by decide) (by omega) ?_
          refine w_inc2 i152_129 (inc1 _) ?_
          refine w_goto i152_132 g152_132 ?_
          refine wpD ?_ (ih _ _ (by first | rfl | assumption) (by first | rfl | assumption))
          show _ = setc D 172 (vFr1 h i (itr (vFr1 h) i (D 172)))
          rw [vFr1_eq]
          first | rw [ifp_t h23, ifp_t h42, ifp_t h65] | rw [ifp_t h23, ifp_t h42, ifp_f h65] | rw [ifp_t h23, ifp_f h42, ifp_t h65] | rw [ifp_t h23, ifp_f h42, ifp_f h65] | rw [ifp_f h23]
    · skip
      refine w_goto i152_26 g152_26 ?_
      refine w_inc2 i152_129 (inc1 _) ?_
      refine w_goto i152_132 g152_132 ?_
      refine wpD ?_ (ih _ _ (by first | rfl | assumption) (by first | rfl | assumption))
      show _ = setc D 172 (vFr1 h i (itr (vFr1 h) i (D 172)))
      rw [vFr1_eq]
      first | rw [ifp_t h23, ifp_t h42, ifp_t h65] | rw [ifp_t h23, ifp_t h42, ifp_f h65] | rw [ifp_t h23, ifp_f h42, ifp_t h65] | rw [ifp_t h23, ifp_f h42, ifp_f h65] | rw [ifp_f h23]
def vCl0 (V : Nat → Int32) (h r : Nat) : Nat → Int32 :=
  let V1 := vup V (6 + 4 * h + 0) (nI 0)
  let V2 := vup V1 (6 + 4 * r + 2) (V1 (6 + 4 * r + 2) + V1 (6 + 4 * h + 2))
  let V3 := vup V2 (6 + 4 * r + 3) (V2 (6 + 4 * r + 3) + V2 (6 + 4 * h + 3))
  vup (vup V3 (6 + 4 * h + 2) (nI 0)) (6 + 4 * h + 3) (nI 0)
theorem vCl0_0 {V : Nat → Int32} {h r : Nat} : vCl0 V h r 0 = V 0 := by unfold vCl0; exact (updJ (by omega)).trans ((updJ (by omega)).trans ((updJ (by omega)).trans ((updJ (by omega)).trans (updJ (by omega)))))
noncomputable def vClosed (n : Nat) (V : Nat → Int32) (h r : Nat) : Nat × (Nat → Int32) :=
  ((vInh h r n 0 n 0 (itr (vRt h r) n (vCl0 V h r))).1, itr (vFr1 r) (n - (vInh h r n 0 n 0 (itr (vRt h r) n (vCl0 V h r))).1) (vInh h r n 0 n 0 (itr (vRt h r) n (vCl0 V h r))).2)
noncomputable def vCloses (n : Nat) (V : Nat → Int32) (h : Nat) : Out := ifp (vOpen V h) (match vSucc V h with
    | none => .inl (-1014, [(nI 15, nI h)])
    | some r => .inr (nI r, (vClosed n V h r).2)) (.inl (-1014, [(nI 2, nI h)]))
theorem Rt_n {n h r i : Nat} {V : Nat → Int32} (hn : V 0 = nI n) : itr (vRt h r) i (vCl0 V h r) 0 = nI n := (itr_hi own_Rt (Or.inr (by omega))).trans (vCl0_0.trans hn)
theorem T_closes_ok {d : Nat} {D : Mm} {Q : Option Value → Mm → Prop} {V : Nat → Int32} {n : Nat} (hV : D 172 = V) (hn : V 0 = nI n) (h12 : n ≤ 12) {j : Nat} (hj : j < 6) {r : Nat} (hh : okHr V) (hO : vOpen V j) (h1 : mOpens V ≠ nI 1) (he : vSucc V j = some r) (hq : ∀ D4 : Mm, D4 172 = (vClosed n V j r).2 → D4 171 16 = nI (vClosed n V j r).1 → (∀ i, i ≠ 16 → D4 171 i = D 171 i) → (∀ q, q ≠ 171 → q ≠ 172 → D4 q = D q) → Q (some (.int (nI r))) D4) : Ct (d + 4) 153 [.ref 171, .int (nI j)] D Q := by
  subst hV
  have hr := vSucc_lt hh hj he
  refine ent m153 rfl rfl (ls := [.ref 171, .int (nI j), .retAddr 0, .retAddr 0]) rfl ?_
  refine w_ild1 i153_0 ?_
  refine w_sI1 i153_1 c116 rfl  rfl ⟨rfl, Nat.le_of_ble_eq_true rfl⟩ (T_isHouse_t hj) ?_
  refine w_ineNT i153_4 g153_4 (by omega) (by omega) ?_
  refine w_ald0 i153_15 ?_
  refine w_ild1 i153_16 ?_
  refine w_vI2 i153_17 c118 (Or.inl rfl) ⟨by decide +kernel, by decide⟩ rfl ⟨rfl, Nat.le_of_ble_eq_true rfl⟩ (T_isOpen_t hj hO) ?_
  refine w_ineNT i153_20 g153_20 (by omega) (by omega) ?_
  refine w_ald0 i153_30 ?_
  refine w_vI1 i153_31 c119 (Or.inl rfl) ⟨by decide +kernel, by decide⟩ rfl ⟨rfl, Nat.le_of_ble_eq_true rfl⟩ T_opens ?_
  refine w_const i153_34 kc_1 ?_
  refine w_cneT i153_35 g153_35  h1 ?_
  refine w_ald0 i153_46 ?_
  refine w_ild1 i153_47 ?_
  refine w_vG2 i153_48 c150 (Or.inl rfl) ⟨by decide +kernel, by decide⟩ rfl ⟨rfl, Nat.le_of_ble_eq_true rfl⟩ ?_
  refine T_inForce rfl hj hh he ?_
  refine w_ist2 i153_51 ?_
  refine w_setR 172 ?_
  refine w_ald0 i153_52 ?_
  refine w_gfR i153_53 (by decide) s_171 rfl ?_
  refine w_ild1 i153_56 ?_
  refine w_const i153_57 kc_0 ?_
  refine w_sI2 i153_58 c114 rfl  rfl ⟨rfl, Nat.le_of_ble_eq_true rfl⟩ T_at ?_
  refine w_const i153_61 kc_0 ?_
  refine w_iasS i153_62 s_172 (by decide) (by omega) ?_
  refine w_ald0 i153_63 ?_
  refine w_gfR i153_64 (by decide) s_171 rfl ?_
  refine w_ild2 i153_67 ?_
  refine w_const i153_68 kc_2 ?_
  refine w_sI2 i153_69 c114 rfl  rfl ⟨rfl, Nat.le_of_ble_eq_true rfl⟩ T_at ?_
  refine w_dup2 i153_72 rfl rfl ?_
  refine w_ial i153_73 s_172 (by decide) (by omega) setcR ?_
  refine w_ald0 i153_74 ?_
  refine w_gfR i153_75 (by decide) s_171 rfl ?_
  refine w_ild1 i153_78 ?_
  refine w_const i153_79 kc_2 ?_
  refine w_sI2 i153_80 c114 rfl  rfl ⟨rfl, Nat.le_of_ble_eq_true rfl⟩ T_at ?_
  refine w_ial i153_83 s_172 (by decide) (by omega) setcR ?_
  refine w_iadd i153_84 rfl ?_
  refine w_iasS i153_85 s_172 (by decide) (by omega) ?_
  refine w_ald0 i153_86 ?_
  refine w_gfR i153_87 (by decide) s_171 rfl ?_
  refine w_ild2 i153_90 ?_
  refine w_const i153_91 kc_3 ?_
  refine w_sI2 i153_92 c114 rfl  rfl ⟨rfl, Nat.le_of_ble_eq_true rfl⟩ T_at ?_
  refine w_dup2 i153_95 rfl rfl ?_
  refine w_ial i153_96 s_172 (by decide) (by omega) setcR ?_
  refine w_ald0 i153_97 ?_
  refine w_gfR i153_98 (by decide) s_171 rfl ?_
  refine w_ild1 i153_101 ?_
  refine w_const i153_102 kc_3 ?_
  refine w_sI2 i153_103 c114 rfl  rfl ⟨rfl, Nat.le_of_ble_eq_true rfl⟩ T_at ?_
  refine w_ial i153_106 s_172 (by decide) (by omega) setcR ?_
  refine w_iadd i153_107 rfl ?_
  refine w_iasS i153_108 s_172 (by decide) (by omega) ?_
  refine w_ald0 i153_109 ?_
  refine w_gfR i153_110 (by decide) s_171 rfl ?_
  refine w_ild1 i153_113 ?_
  refine w_const i153_114 kc_2 ?_
  refine w_sI2 i153_115 c114 rfl  rfl ⟨rfl, Nat.le_of_ble_eq_true rfl⟩ T_at ?_
  refine w_const i153_118 kc_0 ?_
  refine w_iasS i153_119 s_172 (by decide) (by omega) ?_
  refine w_ald0 i153_120 ?_
  refine w_gfR i153_121 (by decide) s_171 rfl ?_
  refine w_ild1 i153_124 ?_
  refine w_const i153_125 kc_3 ?_
  refine w_sI2 i153_126 c114 rfl  rfl ⟨rfl, Nat.le_of_ble_eq_true rfl⟩ T_at ?_
  refine w_const i153_129 kc_0 ?_
  refine w_iasS i153_130 s_172 (by decide) (by omega) ?_
  refine w_const i153_131 kc_0 ?_
  refine w_ist3 i153_132 ?_
  refine down0 (n := n) (P := fun i => Wp _ _ _ 133 [.ref 171, .int (nI j), .int (nI r), .int (nI i)] [] (setc D 172 (itr (vRt j r) i (vCl0 (D 172) j r)))) ?_ ?_
  · skip
    refine w_ild3 i153_133 ?_
    refine w_ald0 i153_134 ?_
    refine w_gfR i153_135 (by decide) s_171 rfl ?_
    refine w_const i153_138 kc_0 ?_
    refine w_ial i153_139 s_172 (by decide) (by omega) (setcR.trans (Rt_n hn)) ?_
    refine w_cgeNT i153_140 g153_140 (by omega) (by omega) (by omega) ?_
    refine w_ald0 i153_218 ?_
    refine w_ald0 i153_219 ?_
    refine w_ild1 i153_220 ?_
    refine w_ild2 i153_221 ?_
    refine w_vG3 i153_222 c151 (Or.inl rfl) ⟨by decide +kernel, by decide⟩ rfl ⟨rfl, Nat.le_of_ble_eq_true rfl⟩ ?_
    refine T_inh setcE (Rt_n hn) h12 hr.1 (fun D2 g1 g2 => ?_)
    have hI := vInh_n (h := j) (r := r) n 0 n 0 (itr (vRt j r) n (vCl0 (D 172) j r)) (Rt_n hn) (by omega)
    rw [Nat.add_zero, ← g1] at hI
    refine w_pf0 i153_225 (by decide) s_171 rfl ?_
    refine w_ald0 i153_228 ?_
    refine w_ild2 i153_229 ?_
    refine w_vV2 i153_230 c152 (Or.inl rfl) ⟨by decide +kernel, by decide⟩ rfl ⟨rfl, Nat.le_of_ble_eq_true rfl⟩ (T_frees hI.1 (by omega)) ?_
    refine w_ild2 i153_233 ?_
    refine w_ri i153_234 r153 ?_
    refine hq _ ?_ ?_ (fun i hi => ?_) (fun q a b => ?_)
    · rw [setcE, mupF (by decide), g1]; rfl
    · rw [setcF (by decide), mupE]; rfl
    · rw [setcF (by decide), mupJ hi, g2 171 (by decide), setcF (by decide)]
    · rw [setcF b, mupF a, g2 q b, setcF b]
  · intro i hi ih
    refine w_ild3 i153_133 ?_
    refine w_ald0 i153_134 ?_
    refine w_gfR i153_135 (by decide) s_171 rfl ?_
    refine w_const i153_138 kc_0 ?_
    refine w_ial i153_139 s_172 (by decide) (by omega) (setcR.trans (Rt_n hn)) ?_
    refine w_cgeNF i153_140 (by omega) (by omega) (by omega) ?_
    refine w_ald0 i153_143 ?_
    refine w_gfR i153_144 (by decide) s_171 rfl ?_
    refine w_ild3 i153_147 ?_
    refine w_const i153_148 kc_3 ?_
    refine w_sI2 i153_149 c115 rfl  rfl ⟨rfl, Nat.le_of_ble_eq_true rfl⟩ T_in ?_
    refine w_ial i153_152 s_172 (by decide) (by omega) setcR ?_
    refine w_ild1 i153_153 ?_
    refine w_const i153_154 kc_1 ?_
    refine w_iadd i153_155 (nI_add _ _) ?_
    refine w_cne i153_156 g153_156  (fun h156 => ?_) (fun h156 => ?_)
    · skip
      refine w_ald0 i153_172 ?_
      refine w_gfR i153_173 (by decide) s_171 rfl ?_
      refine w_ild3 i153_176 ?_
      refine w_bip i153_177 kb_6 ?_
      refine w_sI2 i153_179 c115 rfl  rfl ⟨rfl, Nat.le_of_ble_eq_true rfl⟩ T_in ?_
      refine w_ial i153_182 s_172 (by decide) (by omega) setcR ?_
      refine w_ild1 i153_183 ?_
      refine w_const i153_184 kc_1 ?_
      refine w_iadd i153_185 (nI_add _ _) ?_
      refine w_cne i153_186 g153_186  (fun h186 => ?_) (fun h186 => ?_)
      · skip
        refine w_inc3 i153_212 (inc1 _) ?_
        refine w_goto i153_215 g153_215 ?_
        refine wpD ?_ ih
        show _ = setc D 172 (vRt j r i (itr (vRt j r) i (vCl0 (D 172) j r)))
        rw [vRt_eq]
        first | rw [ifp_t h156, ifp_t h186] | rw [ifp_t h156, ifp_f h186] | rw [ifp_f h156, ifp_t h186] | rw [ifp_f h156, ifp_f h186]
      · skip
        refine w_ald0 i153_189 ?_
        refine w_gfR i153_190 (by decide) s_171 rfl ?_
        refine w_ild3 i153_193 ?_
        refine w_bip i153_194 kb_6 ?_
        refine w_sI2 i153_196 c115 rfl  rfl ⟨rfl, Nat.le_of_ble_eq_true rfl⟩ T_in ?_
        refine w_const i153_199 kc_0 ?_
        refine w_iasS i153_200 s_172 (by decide) (by omega) ?_
        refine w_ald0 i153_201 ?_
        refine w_gfR i153_202 (by decide) s_171 rfl ?_
        refine w_ild3 i153_205 ?_
        refine w_const i153_206 kc_5 ?_
        refine w_sI2 i153_207 c115 rfl  rfl ⟨rfl, Nat.le_of_ble_eq_true rfl⟩ T_in ?_
        refine w_const i153_210 kc_0 ?_
        refine w_iasS i153_211 s_172 (by decide) (by omega) ?_
        refine w_inc3 i153_212 (inc1 _) ?_
        refine w_goto i153_215 g153_215 ?_
        refine wpD ?_ ih
        show _ = setc D 172 (vRt j r i (itr (vRt j r) i (vCl0 (D 172) j r)))
        rw [vRt_eq]
        first | rw [ifp_t h156, ifp_t h186] | rw [ifp_t h156, ifp_f h186] | rw [ifp_f h156, ifp_t h186] | rw [ifp_f h156, ifp_f h186]
    · skip
      refine w_ald0 i153_159 ?_
      refine w_gfR i153_160 (by decide) s_171 rfl ?_
      refine w_ild3 i153_163 ?_
      refine w_const i153_164 kc_3 ?_
      refine w_sI2 i153_165 c115 rfl  rfl ⟨rfl, Nat.le_of_ble_eq_true rfl⟩ T_in ?_
      refine w_ild2 i153_168 ?_
      refine w_const i153_169 kc_1 ?_
      refine w_iadd i153_170 (nI_add _ _) ?_
      refine w_iasS i153_171 s_172 (by decide) (by omega) ?_
      refine w_ald0 i153_172 ?_
      refine w_gfR i153_173 (by decide) s_171 rfl ?_
      refine w_ild3 i153_176 ?_
      refine w_bip i153_177 kb_6 ?_
      refine w_sI2 i153_179 c115 rfl  rfl ⟨rfl, Nat.le_of_ble_eq_true rfl⟩ T_in ?_
      refine w_ial i153_182 s_172 (by decide) (by omega) setcR ?_
      refine w_ild1 i153_183 ?_
      refine w_const i153_184 kc_1 ?_
      refine w_iadd i153_185 (nI_add _ _) ?_
      refine w_cne i153_186 g153_186  (fun h186 => ?_) (fun h186 => ?_)
      · skip
        refine w_inc3 i153_212 (inc1 _) ?_
        refine w_goto i153_215 g153_215 ?_
        refine wpD ?_ ih
        show _ = setc D 172 (vRt j r i (itr (vRt j r) i (vCl0 (D 172) j r)))
        rw [vRt_eq]
        first | rw [ifp_t h156, ifp_t h186] | rw [ifp_t h156, ifp_f h186] | rw [ifp_f h156, ifp_t h186] | rw [ifp_f h156, ifp_f h186]
      · skip
        refine w_ald0 i153_189 ?_
        refine w_gfR i153_190 (by decide) s_171 rfl ?_
        refine w_ild3 i153_193 ?_
        refine w_bip i153_194 kb_6 ?_
        refine w_sI2 i153_196 c115 rfl  rfl ⟨rfl, Nat.le_of_ble_eq_true rfl⟩ T_in ?_
        refine w_const i153_199 kc_0 ?_
        refine w_iasS i153_200 s_172 (by decide) (by omega) ?_
        refine w_ald0 i153_201 ?_
        refine w_gfR i153_202 (by decide) s_171 rfl ?_
        refine w_ild3 i153_205 ?_
        refine w_const i153_206 kc_5 ?_
        refine w_sI2 i153_207 c115 rfl  rfl ⟨rfl, Nat.le_of_ble_eq_true rfl⟩ T_in ?_
        refine w_const i153_210 kc_0 ?_
        refine w_iasS i153_211 s_172 (by decide) (by omega) ?_
        refine w_inc3 i153_212 (inc1 _) ?_
        refine w_goto i153_215 g153_215 ?_
        refine wpD ?_ ih
        show _ = setc D 172 (vRt j r i (itr (vRt j r) i (vCl0 (D 172) j r)))
        rw [vRt_eq]
        first | rw [ifp_t h156, ifp_t h186] | rw [ifp_t h156, ifp_f h186] | rw [ifp_f h156, ifp_t h186] | rw [ifp_f h156, ifp_f h186]
theorem T_closes_bad {d : Nat} {D : Mm} {Q : Option Value → Mm → Prop} {a : Int32} (hb : badH a) (h : OutM (.inl (-1011, [])) D Q) : Ct (d + 4) 153 [.ref 171, .int a] D Q := by
  refine ent m153 rfl rfl (ls := [.ref 171, .int a, .retAddr 0, .retAddr 0]) rfl ?_
  refine w_ild1 i153_0 ?_
  refine w_sI1 i153_1 c116 rfl  rfl ⟨rfl, Nat.le_of_ble_eq_true rfl⟩ (T_isHouse_f hb) ?_
  refine w_ineNF i153_4 (by omega) (by omega) ?_
  refine w_ald0 i153_7 ?_
  refine w_sip i153_8 ks_m1011 ?_
  refine w_vI2 i153_11 c108 (Or.inl rfl) ⟨by decide +kernel, by decide⟩ rfl ⟨rfl, Nat.le_of_ble_eq_true rfl⟩ T_fail ?_
  refine w_ri i153_14 r153 ?_
  exact h _ rfl (by intro q hq hq2; simp only [mRB, mRef, mupF hq, mupF hq2, setcF hq2])
theorem T_closes_shut {d : Nat} {D : Mm} {Q : Option Value → Mm → Prop} {j : Nat} (hj : j < 6) (hO : ¬ vOpen (D 172) j) (h : OutM (.inl (-1014, [(nI 2, nI j)])) D Q) : Ct (d + 4) 153 [.ref 171, .int (nI j)] D Q := by
  refine ent m153 rfl rfl (ls := [.ref 171, .int (nI j), .retAddr 0, .retAddr 0]) rfl ?_
  refine w_ild1 i153_0 ?_
  refine w_sI1 i153_1 c116 rfl  rfl ⟨rfl, Nat.le_of_ble_eq_true rfl⟩ (T_isHouse_t hj) ?_
  refine w_ineNT i153_4 g153_4 (by omega) (by omega) ?_
  refine w_ald0 i153_15 ?_
  refine w_ild1 i153_16 ?_
  refine w_vI2 i153_17 c118 (Or.inl rfl) ⟨by decide +kernel, by decide⟩ rfl ⟨rfl, Nat.le_of_ble_eq_true rfl⟩ (T_isOpen_f hj hO) ?_
  refine w_ineNF i153_20 (by omega) (by omega) ?_
  refine w_ald0 i153_23 ?_
  refine w_const i153_24 kc_2 ?_
  refine w_ild1 i153_25 ?_
  refine w_vI3 i153_26 c109 (Or.inl rfl) ⟨by decide +kernel, by decide⟩ rfl ⟨rfl, Nat.le_of_ble_eq_true rfl⟩ T_refuses ?_
  refine w_ri i153_29 r153 ?_
  exact h _ rfl (by intro q hq hq2; simp only [mRB, mRef, mupF hq, mupF hq2, setcF hq2])
theorem T_closes_last {d : Nat} {D : Mm} {Q : Option Value → Mm → Prop} {j : Nat} (hj : j < 6) (hO : vOpen (D 172) j) (h1 : mOpens (D 172) = nI 1) (h : OutM (.inl (-1014, [(nI 15, nI j)])) D Q) : Ct (d + 4) 153 [.ref 171, .int (nI j)] D Q := by
  refine ent m153 rfl rfl (ls := [.ref 171, .int (nI j), .retAddr 0, .retAddr 0]) rfl ?_
  refine w_ild1 i153_0 ?_
  refine w_sI1 i153_1 c116 rfl  rfl ⟨rfl, Nat.le_of_ble_eq_true rfl⟩ (T_isHouse_t hj) ?_
  refine w_ineNT i153_4 g153_4 (by omega) (by omega) ?_
  refine w_ald0 i153_15 ?_
  refine w_ild1 i153_16 ?_
  refine w_vI2 i153_17 c118 (Or.inl rfl) ⟨by decide +kernel, by decide⟩ rfl ⟨rfl, Nat.le_of_ble_eq_true rfl⟩ (T_isOpen_t hj hO) ?_
  refine w_ineNT i153_20 g153_20 (by omega) (by omega) ?_
  refine w_ald0 i153_30 ?_
  refine w_vI1 i153_31 c119 (Or.inl rfl) ⟨by decide +kernel, by decide⟩ rfl ⟨rfl, Nat.le_of_ble_eq_true rfl⟩ T_opens ?_
  refine w_const i153_34 kc_1 ?_
  refine w_cne i153_35 g153_35  (fun h35 => ?_) (fun h35 => ?_)
  · skip
    exact absurd h1 h35
  · skip
    refine w_ald0 i153_38 ?_
    refine w_bip i153_39 kb_15 ?_
    refine w_ild1 i153_41 ?_
    refine w_vI3 i153_42 c109 (Or.inl rfl) ⟨by decide +kernel, by decide⟩ rfl ⟨rfl, Nat.le_of_ble_eq_true rfl⟩ T_refuses ?_
    refine w_ri i153_45 r153 ?_
    first | exact absurd h1 h35 | exact h _ rfl (by intro q hq hq2; simp only [mRB, mRef, mupF hq, mupF hq2, setcF hq2])
theorem T_closes {d : Nat} {D : Mm} {Q : Option Value → Mm → Prop} {V : Nat → Int32} {n : Nat} (hV : D 172 = V) (hn : V 0 = nI n) (h12 : n ≤ 12) {j : Nat} (hj : j < 6) (hh : okHr V) (h1 : vOpen V j → (mOpens V = nI 1 ↔ vSucc V j = none)) (h : OutM (vCloses n V j) D Q) : Ct (d + 4) 153 [.ref 171, .int (nI j)] D Q := by
  by_cases hO : vOpen V j
  · have h := OutT h hO
    cases hs : vSucc V j with
    | none => rw [hs] at h; subst hV; exact T_closes_last hj hO ((h1 hO).mpr hs) h
    | some r =>
      rw [hs] at h
      refine T_closes_ok hV hn h12 hj hh hO (fun e => ?_) hs (fun D4 a b c e => h D4 a c (fun q x y _ _ => e q x y))
      have := (h1 hO).mp e
      rw [hs] at this
      cases this
  · subst hV; exact T_closes_shut hj hO (OutF h hO)
noncomputable def vPaC (n : Nat) (V : Nat → Int32) (x : Int32) : Int32 := sumN n (fun s => ifp (V (30 + 8 * s + 6) = 0) (nI 0) (ifp (V (30 + 8 * s + 5) ≤ x) (nI 1) (nI 0)))
noncomputable def vPasses (n : Nat) (V : Nat → Int32) (x : Int32) : Out := ifp (badR x (nI 1) (nI 24)) (.inl (-1012, [])) (.inr (vPaC n V x, vup (itr (vPa x) n V) 5 (itr (vPa x) n V 5 + x)))
theorem T_passes {d : Nat} {D : Mm} {Q : Option Value → Mm → Prop} {V : Nat → Int32} {n : Nat} (hV : D 172 = V) (hn : V 0 = nI n) (h12 : n ≤ 12) {x : Int32} (h : OutM (vPasses n V x) D Q) : Ct (d + 3) 155 [.ref 171, .int x] D Q := by
  subst hV
  refine ent m155 rfl rfl (ls := [.ref 171, .int x, .retAddr 0, .retAddr 0, .retAddr 0]) rfl ?_
  refine w_ild1 i155_0 ?_
  refine w_const i155_1 kc_1 ?_
  refine w_bip i155_2 kb_24 ?_
  by_cases hB : badR x (nI 1) (nI 24)
  · skip
    refine w_sI3 i155_4 c110 rfl  (by repeat (first | exact nv_nil | refine nv_cons (by first | rfl | assumption) ?_)) ⟨rfl, Nat.le_of_ble_eq_true rfl⟩ (T_isIn_f hB) ?_
    refine w_ineNF i155_7 (by omega) (by omega) ?_
    refine w_ald0 i155_10 ?_
    refine w_sip i155_11 ks_m1012 ?_
    refine w_vI2 i155_14 c108 (Or.inl rfl) ⟨by decide +kernel, by decide⟩ (by repeat (first | exact nv_nil | refine nv_cons (by first | rfl | assumption) ?_)) ⟨rfl, Nat.le_of_ble_eq_true rfl⟩ T_fail ?_
    refine w_ri i155_17 r155 ?_
    exact (OutT h hB) _ rfl (by intro q hq hq2; simp only [mRB, mRef, mupF hq, mupF hq2, setcF hq2])
  · skip
    refine w_sI3 i155_4 c110 rfl  (by repeat (first | exact nv_nil | refine nv_cons (by first | rfl | assumption) ?_)) ⟨rfl, Nat.le_of_ble_eq_true rfl⟩ (T_isIn_t hB) ?_
    refine w_ineNT i155_7 g155_7 (by omega) (by omega) ?_
    refine w_const i155_18 kc_0 ?_
    refine w_ist2 i155_19 ?_
    refine w_const i155_20 kc_0 ?_
    refine w_ist3 i155_21 ?_
    refine w_setR 172 ?_
    refine down0 (n := n) (P := fun i => ∀ (w : Value), nvB w = true → Wp _ _ _ 22 [.ref 171, .int x, .int (sumN i (fun s => ifp (D 172 (30 + 8 * s + 6) = 0) (nI 0) (ifp (D 172 (30 + 8 * s + 5) ≤ x) (nI 1) (nI 0)))), .int (nI i), w] [] (setc D 172 (itr (vPa x) i (D 172)))) ?_ ?_ _ rfl
    · intro w hw
      refine w_ild3 i155_22 ?_
      refine w_ald0 i155_23 ?_
      refine w_gfR i155_24 (by decide) s_171 rfl ?_
      refine w_const i155_27 kc_0 ?_
      refine w_ial i155_28 s_172 (by decide) (by omega) (setcR.trans ((itr_hi own_Pa (Or.inr (by omega))).trans hn)) ?_
      refine w_cgeNT i155_29 g155_29 (by omega) (by omega) (by omega) ?_
      refine w_ald0 i155_151 ?_
      refine w_gfR i155_152 (by decide) s_171 rfl ?_
      refine w_const i155_155 kc_5 ?_
      refine w_dup2 i155_156 rfl rfl ?_
      refine w_ial i155_157 s_172 (by decide) (by omega) setcR ?_
      refine w_ild1 i155_158 ?_
      refine w_iadd i155_159 rfl ?_
      refine w_iasS i155_160 s_172 (by decide) (by omega) ?_
      refine w_ild2 i155_161 ?_
      refine w_ri i155_162 r155 ?_
      exact OutS (OutF h hB) _ setcE (by intro q hq; simp only [mupF hq, setcF hq])
    · intro i hi ih w hw
      refine w_ild3 i155_22 ?_
      refine w_ald0 i155_23 ?_
      refine w_gfR i155_24 (by decide) s_171 rfl ?_
      refine w_const i155_27 kc_0 ?_
      refine w_ial i155_28 s_172 (by decide) (by omega) (setcR.trans ((itr_hi own_Pa (Or.inr (by omega))).trans hn)) ?_
      refine w_cgeNF i155_29 (by omega) (by omega) (by omega) ?_
      refine w_ald0 i155_32 ?_
      refine w_gfR i155_33 (by decide) s_171 rfl ?_
      refine w_ild3 i155_36 ?_
      refine w_bip i155_37 kb_6 ?_
      refine w_sI2 i155_39 c115 rfl  (by repeat (first | exact nv_nil | refine nv_cons (by first | rfl | assumption) ?_)) ⟨rfl, Nat.le_of_ble_eq_true rfl⟩ T_in ?_
      refine w_ial i155_42 s_172 (by decide) (by omega) (setcR.trans (itr_hi own_Pa (Or.inl (by omega)))) ?_
      refine w_ine i155_43 g155_43  (fun h43 => ?_) (fun h43 => ?_)
      · skip
        refine w_ald0 i155_49 ?_
        refine w_gfR i155_50 (by decide) s_171 rfl ?_
        refine w_ild3 i155_53 ?_
        refine w_const i155_54 kc_5 ?_
        refine w_sI2 i155_55 c115 rfl  (by repeat (first | exact nv_nil | refine nv_cons (by first | rfl | assumption) ?_)) ⟨rfl, Nat.le_of_ble_eq_true rfl⟩ T_in ?_
        refine w_ial i155_58 s_172 (by decide) (by omega) (setcR.trans (itr_hi own_Pa (Or.inl (by omega)))) ?_
        refine w_ild1 i155_59 ?_
        refine w_cgt i155_60 g155_60  (fun h60 => ?_) (fun h60 => ?_)
        · skip
          refine w_const i155_67 kc_0 ?_
          refine w_ist4 i155_68 ?_
          refine w_ild2 i155_70 ?_
          refine w_ild4 i155_71 ?_
          refine w_ieqNT i155_73 g155_73 (by omega) (by omega) ?_
          refine w_const i155_80 kc_0 ?_
          refine w_iadd i155_81 rfl ?_
          refine w_ist2 i155_82 ?_
          refine w_ald0 i155_83 ?_
          refine w_gfR i155_84 (by decide) s_171 rfl ?_
          refine w_ild3 i155_87 ?_
          refine w_const i155_88 kc_5 ?_
          refine w_sI2 i155_89 c115 rfl  (by repeat (first | exact nv_nil | refine nv_cons (by first | rfl | assumption) ?_)) ⟨rfl, Nat.le_of_ble_eq_true rfl⟩ T_in ?_
          refine w_ild4 i155_92 ?_
          refine w_ieqNT i155_94 g155_94 (by omega) (by omega) ?_
          refine w_ald0 i155_101 ?_
          refine w_gfR i155_102 (by decide) s_171 rfl ?_
          refine w_ild3 i155_105 ?_
          refine w_const i155_106 kc_5 ?_
          refine w_sI2 i155_107 c115 rfl  (by repeat (first | exact nv_nil | refine nv_cons (by first | rfl | assumption) ?_)) ⟨rfl, Nat.le_of_ble_eq_true rfl⟩ T_in ?_
          refine w_ial i155_110 s_172 (by decide) (by omega) setcR ?_
          refine w_ild1 i155_111 ?_
          refine w_isub i155_112 rfl ?_
          refine w_iasS i155_113 s_172 (by decide) (by omega) ?_
          refine w_ald0 i155_114 ?_
          refine w_gfR i155_115 (by decide) s_171 rfl ?_
          refine w_ild3 i155_118 ?_
          refine w_bip i155_119 kb_6 ?_
          refine w_sI2 i155_121 c115 rfl  (by repeat (first | exact nv_nil | refine nv_cons (by first | rfl | assumption) ?_)) ⟨rfl, Nat.le_of_ble_eq_true rfl⟩ T_in ?_
          refine w_ild4 i155_124 ?_
          refine w_ieqNT i155_126 g155_126 (by omega) (by omega) ?_
          refine w_ald0 i155_133 ?_
          refine w_gfR i155_134 (by decide) s_171 rfl ?_
          refine w_ild3 i155_137 ?_
          refine w_bip i155_138 kb_6 ?_
          refine w_sI2 i155_140 c115 rfl  (by repeat (first | exact nv_nil | refine nv_cons (by first | rfl | assumption) ?_)) ⟨rfl, Nat.le_of_ble_eq_true rfl⟩ T_in ?_
          refine w_ial i155_143 s_172 (by decide) (by omega) setcR ?_
          refine w_iasS i155_144 s_172 (by decide) (by omega) ?_
          refine w_inc3 i155_145 (inc1 _) ?_
          refine w_goto i155_148 g155_148 ?_
          have e6 : itr (vPa x) i (D 172) (30 + 8 * i + 6) = D 172 (30 + 8 * i + 6) := itr_hi own_Pa (Or.inl (by omega))
          have e5 : itr (vPa x) i (D 172) (30 + 8 * i + 5) = D 172 (30 + 8 * i + 5) := itr_hi own_Pa (Or.inl (by omega))
          first
            | (have ih := ih w hw
               rw [sumS, ifp_t h43, add0] at ih
               refine wpD ?_ ih
               show _ = setc D 172 (vPa x i (itr (vPa x) i (D 172)))
               rw [vPa_eq]; rw [ifp_t (e6.trans h43)])
            | (have ih := ih (.int (nI 1)) rfl
               rw [sumS, ifp_f h43, ifp_t h60] at ih
               refine wpD ?_ ih
               show _ = setc D 172 (vPa x i (itr (vPa x) i (D 172)))
               rw [vPa_eq]; rw [ifp_f (fun q => h43 (e6.symm.trans q)), ifp_t (by rw [e5]; exact h60)])
            | (have ih := ih (.int (nI 0)) rfl
               rw [sumS, ifp_f h43, ifp_f (Int32.not_le.mpr h60)] at ih
               refine wpD ?_ ih
               show _ = setc D 172 (vPa x i (itr (vPa x) i (D 172)))
               rw [vPa_eq]; rw [ifp_f (fun q => h43 (e6.symm.trans q)), ifp_f (by rw [e5]; exact Int32.not_le.mpr h60)]
               rw [show vup (itr (vPa x) i (D 172)) (30 + 8 * i + 5) (itr (vPa x) i (D 172) (30 + 8 * i + 5) - x) (30 + 8 * i + 6) = itr (vPa x) i (D 172) (30 + 8 * i + 6) from updJ (by omega)])
        · skip
          refine w_const i155_63 kc_1 ?_
          refine w_goto i155_64 g155_64 ?_
          refine w_ist4 i155_68 ?_
          refine w_ild2 i155_70 ?_
          refine w_ild4 i155_71 ?_
          refine w_ieqNF i155_73 (by omega) (by omega) ?_
          refine w_const i155_76 kc_1 ?_
          refine w_goto i155_77 g155_77 ?_
          refine w_iadd i155_81 rfl ?_
          refine w_ist2 i155_82 ?_
          refine w_ald0 i155_83 ?_
          refine w_gfR i155_84 (by decide) s_171 rfl ?_
          refine w_ild3 i155_87 ?_
          refine w_const i155_88 kc_5 ?_
          refine w_sI2 i155_89 c115 rfl  (by repeat (first | exact nv_nil | refine nv_cons (by first | rfl | assumption) ?_)) ⟨rfl, Nat.le_of_ble_eq_true rfl⟩ T_in ?_
          refine w_ild4 i155_92 ?_
          refine w_ieqNF i155_94 (by omega) (by omega) ?_
          refine w_const i155_97 kc_0 ?_
          refine w_goto i155_98 g155_98 ?_
          refine w_iasS i155_113 s_172 (by decide) (by omega) ?_
          refine w_ald0 i155_114 ?_
          refine w_gfR i155_115 (by decide) s_171 rfl ?_
          refine w_ild3 i155_118 ?_
          refine w_bip i155_119 kb_6 ?_
          refine w_sI2 i155_121 c115 rfl  (by repeat (first | exact nv_nil | refine nv_cons (by first | rfl | assumption) ?_)) ⟨rfl, Nat.le_of_ble_eq_true rfl⟩ T_in ?_
          refine w_ild4 i155_124 ?_
          refine w_ieqNF i155_126 (by omega) (by omega) ?_
          refine w_const i155_129 kc_0 ?_
          refine w_goto i155_130 g155_130 ?_
          refine w_iasS i155_144 s_172 (by decide) (by omega) ?_
          refine w_inc3 i155_145 (inc1 _) ?_
          refine w_goto i155_148 g155_148 ?_
          have e6 : itr (vPa x) i (D 172) (30 + 8 * i + 6) = D 172 (30 + 8 * i + 6) := itr_hi own_Pa (Or.inl (by omega))
          have e5 : itr (vPa x) i (D 172) (30 + 8 * i + 5) = D 172 (30 + 8 * i + 5) := itr_hi own_Pa (Or.inl (by omega))
          first
            | (have ih := ih w hw
               rw [sumS, ifp_t h43, add0] at ih
               refine wpD ?_ ih
               show _ = setc D 172 (vPa x i (itr (vPa x) i (D 172)))
               rw [vPa_eq]; rw [ifp_t (e6.trans h43)])
            | (have ih := ih (.int (nI 1)) rfl
               rw [sumS, ifp_f h43, ifp_t h60] at ih
               refine wpD ?_ ih
               show _ = setc D 172 (vPa x i (itr (vPa x) i (D 172)))
               rw [vPa_eq]; rw [ifp_f (fun q => h43 (e6.symm.trans q)), ifp_t (by rw [e5]; exact h60)])
            | (have ih := ih (.int (nI 0)) rfl
               rw [sumS, ifp_f h43, ifp_f (Int32.not_le.mpr h60)] at ih
               refine wpD ?_ ih
               show _ = setc D 172 (vPa x i (itr (vPa x) i (D 172)))
               rw [vPa_eq]; rw [ifp_f (fun q => h43 (e6.symm.trans q)), ifp_f (by rw [e5]; exact Int32.not_le.mpr h60)]
               rw [show vup (itr (vPa x) i (D 172)) (30 + 8 * i + 5) (itr (vPa x) i (D 172) (30 + 8 * i + 5) - x) (30 + 8 * i + 6) = itr (vPa x) i (D 172) (30 + 8 * i + 6) from updJ (by omega)])
      · skip
        refine w_goto i155_46 g155_46 ?_
        refine w_inc3 i155_145 (inc1 _) ?_
        refine w_goto i155_148 g155_148 ?_
        have e6 : itr (vPa x) i (D 172) (30 + 8 * i + 6) = D 172 (30 + 8 * i + 6) := itr_hi own_Pa (Or.inl (by omega))
        have e5 : itr (vPa x) i (D 172) (30 + 8 * i + 5) = D 172 (30 + 8 * i + 5) := itr_hi own_Pa (Or.inl (by omega))
        first
          | (have ih := ih w hw
             rw [sumS, ifp_t h43, add0] at ih
             refine wpD ?_ ih
             show _ = setc D 172 (vPa x i (itr (vPa x) i (D 172)))
             rw [vPa_eq]; rw [ifp_t (e6.trans h43)])
          | (have ih := ih (.int (nI 1)) rfl
             rw [sumS, ifp_f h43, ifp_t h60] at ih
             refine wpD ?_ ih
             show _ = setc D 172 (vPa x i (itr (vPa x) i (D 172)))
             rw [vPa_eq]; rw [ifp_f (fun q => h43 (e6.symm.trans q)), ifp_t (by rw [e5]; exact h60)])
          | (have ih := ih (.int (nI 0)) rfl
             rw [sumS, ifp_f h43, ifp_f (Int32.not_le.mpr h60)] at ih
             refine wpD ?_ ih
             show _ = setc D 172 (vPa x i (itr (vPa x) i (D 172)))
             rw [vPa_eq]; rw [ifp_f (fun q => h43 (e6.symm.trans q)), ifp_f (by rw [e5]; exact Int32.not_le.mpr h60)]
             rw [show vup (itr (vPa x) i (D 172)) (30 + 8 * i + 5) (itr (vPa x) i (D 172) (30 + 8 * i + 5) - x) (30 + 8 * i + 6) = itr (vPa x) i (D 172) (30 + 8 * i + 6) from updJ (by omega)])
