/-! the reference, endings -/
def hrV (V : Nat → Int32) (j : Nat) : Nat := (V (6 + 4 * j + 1)).toNatClampNeg
def okHr (V : Nat → Int32) : Prop := ∀ j, j < 6 → ∃ i, i < 6 ∧ V (6 + 4 * j + 1) = nI i
theorem okHr_eq {V : Nat → Int32} (h : okHr V) {j : Nat} (hj : j < 6) : V (6 + 4 * j + 1) = nI (hrV V j) ∧ hrV V j < 6 := by
  obtain ⟨i, hi, e⟩ := h j hj
  have e2 : hrV V j = i := by unfold hrV; rw [e, nI_clamp (by omega)]
  rw [e2]
  exact ⟨e, hi⟩
noncomputable def chase (V : Nat → Int32) (h : Nat) : Nat → Nat → Option Nat
  | 0, _ => none
  | k + 1, is => ifp (is = h) (chase V h k (hrV V is)) (ifp (vOpen V is) (some is) (chase V h k (hrV V is)))
noncomputable def firstO (V : Nat → Int32) (h : Nat) : Nat → Nat → Option Nat
  | 0, _ => none
  | k + 1, is => ifp (is = h) (firstO V h k (is + 1)) (ifp (vOpen V is) (some is) (firstO V h k (is + 1)))
noncomputable def orE (a b : Option Nat) : Option Nat := match a with
  | some x => some x
  | none => b
noncomputable def vSucc (V : Nat → Int32) (h : Nat) : Option Nat := orE (chase V h 6 (hrV V h)) (firstO V h 6 0)
theorem firstO_lt {V : Nat → Int32} {h r : Nat} : ∀ k is, firstO V h k is = some r → r < is + k ∧ r ≠ h ∧ vOpen V r := by
  intro k
  induction k with
  | zero => intro is e; cases e
  | succ k ih =>
    intro is e
    unfold firstO at e
    by_cases g : is = h
    · rw [ifp_t g] at e
      have := ih _ e
      exact ⟨by omega, this.2⟩
    · rw [ifp_f g] at e
      by_cases o : vOpen V is
      · rw [ifp_t o] at e
        cases e
        exact ⟨by omega, g, o⟩
      · rw [ifp_f o] at e
        have := ih _ e
        exact ⟨by omega, this.2⟩
theorem chase_lt {V : Nat → Int32} {h r : Nat} (hh : okHr V) : ∀ k is, is < 6 → chase V h k is = some r → r < 6 ∧ r ≠ h ∧ vOpen V r := by
  intro k
  induction k with
  | zero => intro is _ e; cases e
  | succ k ih =>
    intro is hi e
    unfold chase at e
    by_cases g : is = h
    · rw [ifp_t g] at e
      exact ih _ (okHr_eq hh hi).2 e
    · rw [ifp_f g] at e
      by_cases o : vOpen V is
      · rw [ifp_t o] at e
        cases e
        exact ⟨hi, g, o⟩
      · rw [ifp_f o] at e
        exact ih _ (okHr_eq hh hi).2 e
theorem vSucc_lt {V : Nat → Int32} {h r : Nat} (hh : okHr V) (h6 : h < 6) (e : vSucc V h = some r) : r < 6 ∧ r ≠ h ∧ vOpen V r := by
  unfold vSucc orE at e
  split at e
  · next x hx => cases e; exact chase_lt hh _ _ (okHr_eq hh h6).2 hx
  · exact firstO_lt _ _ e
theorem inc6 (a k : Nat) (h : k + 1 ≤ 6) : nI (6 - (k + 1)) + Int32.ofInt 1 = nI (6 - k) := by rw [inc1]; congr 1; omega
theorem T_inForce {d : Nat} {D : Mm} {Q : Option Value → Mm → Prop} {V : Nat → Int32} (hV : D 172 = V) {j : Nat} (hj : j < 6) {r : Nat} (hh : okHr V) (he : vSucc V j = some r) (hq : Q (some (.int (nI r))) D) : Ct (d + 3) 150 [.ref 171, .int (nI j)] D Q := by
  subst hV
  refine ent m150 rfl rfl (ls := [.ref 171, .int (nI j), .retAddr 0, .retAddr 0]) rfl ?_
  refine w_ald0 i150_0 ?_
  refine w_gfR i150_1 (by decide) s_171 rfl ?_
  refine w_ild1 i150_4 ?_
  refine w_const i150_5 kc_1 ?_
  refine w_sI2 i150_6 c114 rfl  rfl ⟨rfl, Nat.le_of_ble_eq_true rfl⟩ T_at ?_
  refine w_ial i150_9 s_172 (by decide) (by omega) (okHr_eq hh hj).1 ?_
  refine w_ist2 i150_10 ?_
  refine w_const i150_11 kc_0 ?_
  refine w_ist3 i150_12 ?_
  have L13 : ∀ k is, k ≤ 6 → is < 6 → orE (chase (D 172) j k is) (firstO (D 172) j 6 0) = some r → Wp (d + 2) 150 Q 13 [.ref 171, .int (nI j), .int (nI is), .int (nI (6 - k))] [] D := by
    intro k
    induction k with
    | zero =>
      intro is h6 h1 h2
      refine w_ild3 i150_13 ?_
      refine w_bip i150_14 kb_6 ?_
      refine w_cgeNT i150_16 g150_16 (by omega) (by omega) (by omega) ?_
      refine w_const i150_51 kc_0 ?_
      refine w_ist2 i150_52 ?_
      have L53 : ∀ k is, is + k = 6 → firstO (D 172) j k is = some r → Wp (d + 2) 150 Q 53 [.ref 171, .int (nI j), .int (nI is), .int (nI 6)] [] D := by
        intro k
        induction k with
        | zero =>
          intro is _ h2; cases h2
        | succ k ih =>
          intro is h6 h2
          unfold firstO at h2
          refine w_ild2 i150_53 ?_
          refine w_ild1 i150_54 ?_
          refine w_ceqN i150_55 g150_55 (by omega) (by omega) (fun h55 => ?_) (fun h55 => ?_)
          · skip
            refine w_inc2 i150_66 (inc1 _) ?_
            refine w_goto i150_69 g150_69 ?_
            first
              | (rw [ifp_t h55] at h2; exact ih _ (by omega) h2)
              | (rw [ifp_f h55, ifp_f hO] at h2; exact ih _ (by omega) h2)
          · skip
            refine w_ald0 i150_58 ?_
            refine w_ild2 i150_59 ?_
            by_cases hO : vOpen (D 172) is
            · skip
              refine w_vI2 i150_60 c118 (Or.inl rfl) ⟨by decide +kernel, by decide⟩ rfl ⟨rfl, Nat.le_of_ble_eq_true rfl⟩ (T_isOpen_t (by omega) hO) ?_
              refine w_ineNT i150_63 g150_63 (by omega) (by omega) ?_
              refine w_ild2 i150_72 ?_
              refine w_ri i150_73 r150 ?_
              rw [ifp_f h55, ifp_t hO] at h2
              cases h2
              exact hq
            · skip
              refine w_vI2 i150_60 c118 (Or.inl rfl) ⟨by decide +kernel, by decide⟩ rfl ⟨rfl, Nat.le_of_ble_eq_true rfl⟩ (T_isOpen_f (by omega) hO) ?_
              refine w_ineNF i150_63 (by omega) (by omega) ?_
              refine w_inc2 i150_66 (inc1 _) ?_
              refine w_goto i150_69 g150_69 ?_
              first
                | (rw [ifp_t h55] at h2; exact ih _ (by omega) h2)
                | (rw [ifp_f h55, ifp_f hO] at h2; exact ih _ (by omega) h2)
      exact L53 6 0 (by omega) (by exact h2)
    | succ k ih =>
      intro is h6 h1 h2
      unfold chase at h2
      have hL := okHr_eq hh h1
      refine w_ild3 i150_13 ?_
      refine w_bip i150_14 kb_6 ?_
      refine w_cgeNF i150_16 (by omega) (by omega) (by omega) ?_
      refine w_ild2 i150_19 ?_
      refine w_ild1 i150_20 ?_
      refine w_ceqN i150_21 g150_21 (by omega) (by omega) (fun h21 => ?_) (fun h21 => ?_)
      · skip
        refine w_ald0 i150_34 ?_
        refine w_gfR i150_35 (by decide) s_171 rfl ?_
        refine w_ild2 i150_38 ?_
        refine w_const i150_39 kc_1 ?_
        refine w_sI2 i150_40 c114 rfl  rfl ⟨rfl, Nat.le_of_ble_eq_true rfl⟩ T_at ?_
        refine w_ial i150_43 s_172 (by decide) (by omega) (okHr_eq hh (by omega)).1 ?_
        refine w_ist2 i150_44 ?_
        refine w_inc3 i150_45 (inc6 0 _ (by omega)) ?_
        refine w_goto i150_48 g150_48 ?_
        first
          | (rw [ifp_t h21] at h2; exact ih _ (by omega) hL.2 (by exact h2))
          | (rw [ifp_f h21, ifp_f hO] at h2; exact ih _ (by omega) hL.2 (by exact h2))
      · skip
        refine w_ald0 i150_24 ?_
        refine w_ild2 i150_25 ?_
        by_cases hO : vOpen (D 172) is
        · skip
          refine w_vI2 i150_26 c118 (Or.inl rfl) ⟨by decide +kernel, by decide⟩ rfl ⟨rfl, Nat.le_of_ble_eq_true rfl⟩ (T_isOpen_t (by omega) hO) ?_
          refine w_ieqNF i150_29 (by omega) (by omega) ?_
          refine w_ild2 i150_32 ?_
          refine w_ri i150_33 r150 ?_
          rw [ifp_f h21, ifp_t hO] at h2
          cases h2
          exact hq
        · skip
          refine w_vI2 i150_26 c118 (Or.inl rfl) ⟨by decide +kernel, by decide⟩ rfl ⟨rfl, Nat.le_of_ble_eq_true rfl⟩ (T_isOpen_f (by omega) hO) ?_
          refine w_ieqNT i150_29 g150_29 (by omega) (by omega) ?_
          refine w_ald0 i150_34 ?_
          refine w_gfR i150_35 (by decide) s_171 rfl ?_
          refine w_ild2 i150_38 ?_
          refine w_const i150_39 kc_1 ?_
          refine w_sI2 i150_40 c114 rfl  rfl ⟨rfl, Nat.le_of_ble_eq_true rfl⟩ T_at ?_
          refine w_ial i150_43 s_172 (by decide) (by omega) (okHr_eq hh (by omega)).1 ?_
          refine w_ist2 i150_44 ?_
          refine w_inc3 i150_45 (inc6 0 _ (by omega)) ?_
          refine w_goto i150_48 g150_48 ?_
          first
            | (rw [ifp_t h21] at h2; exact ih _ (by omega) hL.2 (by exact h2))
            | (rw [ifp_f h21, ifp_f hO] at h2; exact ih _ (by omega) hL.2 (by exact h2))
  exact L13 6 _ (by omega) (okHr_eq hh hj).2 he
def itr {α : Type} (f : Nat → α → α) : Nat → α → α
  | 0, a => a
  | n + 1, a => f n (itr f n a)
noncomputable def vInh (h r : Nat) : Nat → Nat → Nat → Nat → (Nat → Int32) → Nat × (Nat → Int32)
  | 0, _, _, m, V => (m, V)
  | k + 1, s, n, m, V => ifp (V (30 + 8 * s + 0) = nI h)
      (ifp (mTray n V (nI r) + V (30 + 8 * s + 1) + nI 1 ≤ nI 60) (vInh h r k (s + 1) n m (vup V (30 + 8 * s + 0) (nI r)))
        (vInh h r k s (n - 1) (m + 1) (vGoes (vup V (6 + 4 * r + 2) (V (6 + 4 * r + 2) + V (30 + 8 * s + 1))) s)))
      (vInh h r k (s + 1) n m V)
theorem vGoes_0 {V : Nat → Int32} {s : Nat} : vGoes V s 0 = V 0 - nI 1 := by unfold vGoes; rw [updE]
theorem vGoes_lo {V : Nat → Int32} {s j : Nat} (h : j < 30 + 8 * s) (h0 : j ≠ 0) : vGoes V s j = V j := by unfold vGoes shf; rw [updJ h0, if_neg (by omega)]
theorem vGoes_hi {V : Nat → Int32} {s j : Nat} (h : 30 + 8 * s ≤ j) (hj : j + 8 < 126) (hs : s < 12) : vGoes V s j = V (j + 8) := by
  unfold vGoes shf
  rw [updJ (by omega), if_pos (by omega), if_pos hj]

theorem T_inh {d : Nat} {D : Mm} {Q : Option Value → Mm → Prop} {V : Nat → Int32} {n h r : Nat} (hV : D 172 = V) (hn : V 0 = nI n) (h12 : n ≤ 12) (hr : r < 6) (hq : ∀ D2 : Mm, D2 172 = (vInh h r n 0 n 0 V).2 → (∀ q, q ≠ 172 → D2 q = D q) → Q (some (.int (nI (vInh h r n 0 n 0 V).1))) D2) : Ct (d + 3) 151 [.ref 171, .int (nI h), .int (nI r)] D Q := by
  subst hV
  refine ent m151 rfl rfl (ls := [.ref 171, .int (nI h), .int (nI r), .retAddr 0, .retAddr 0, .retAddr 0]) rfl ?_
  refine w_const i151_0 kc_0 ?_
  refine w_ist3 i151_1 ?_
  refine w_const i151_2 kc_0 ?_
  refine w_ist4 i151_3 ?_
  have L5 : ∀ k s n m (D : Mm) (w : Value), nvB w = true → s + k = n → n ≤ 12 → D 172 0 = nI n → (∀ D2 : Mm, D2 172 = (vInh h r k s n m (D 172)).2 → (∀ q, q ≠ 172 → D2 q = D q) → Q (some (.int (nI (vInh h r k s n m (D 172)).1))) D2) → Wp (d + 2) 151 Q 5 [.ref 171, .int (nI h), .int (nI r), .int (nI m), .int (nI s), w] [] D := by
    intro k
    induction k with
    | zero =>
      intro s n m D w hw hk h12 hn hq
      refine w_ild4 i151_5 ?_
      refine w_ald0 i151_7 ?_
      refine w_gfR i151_8 (by decide) s_171 rfl ?_
      refine w_const i151_11 kc_0 ?_
      refine w_ial i151_12 s_172 (by decide) (by omega) hn ?_
      refine w_cgeNT i151_13 g151_13 (by omega) (by omega) (by omega) ?_
      refine w_ild3 i151_110 ?_
      refine w_ri i151_111 r151 ?_
      exact hq _ rfl (fun q _ => rfl)
    | succ k ih =>
      intro s n m D w hw hk h12 hn hq
      unfold vInh at hq
      refine w_ild4 i151_5 ?_
      refine w_ald0 i151_7 ?_
      refine w_gfR i151_8 (by decide) s_171 rfl ?_
      refine w_const i151_11 kc_0 ?_
      refine w_ial i151_12 s_172 (by decide) (by omega) hn ?_
      refine w_cgeNF i151_13 (by omega) (by omega) (by omega) ?_
      refine w_ald0 i151_16 ?_
      refine w_gfR i151_17 (by decide) s_171 rfl ?_
      refine w_ild4 i151_20 ?_
      refine w_const i151_22 kc_1 ?_
      refine w_sI2 i151_23 c115 rfl  (by show (nvB _ && true) = true; first | rfl | (rw [hw]; rfl)) ⟨rfl, Nat.le_of_ble_eq_true rfl⟩ T_in ?_
      refine w_ial i151_26 s_172 (by decide) (by omega) rfl ?_
      refine w_ist5 i151_27 ?_
      refine w_ald0 i151_29 ?_
      refine w_gfR i151_30 (by decide) s_171 rfl ?_
      refine w_ild4 i151_33 ?_
      refine w_const i151_35 kc_0 ?_
      refine w_sI2 i151_36 c115 rfl  (by show (nvB _ && true) = true; first | rfl | (rw [hw]; rfl)) ⟨rfl, Nat.le_of_ble_eq_true rfl⟩ T_in ?_
      refine w_ial i151_39 s_172 (by decide) (by omega) rfl ?_
      refine w_ild1 i151_40 ?_
      refine w_ceq i151_41 g151_41  (fun h41 => ?_) (fun h41 => ?_)
      · skip
        refine w_ald0 i151_50 ?_
        refine w_ild2 i151_51 ?_
        refine w_vI2 i151_52 c120 (Or.inl rfl) ⟨by decide +kernel, by decide⟩ (by show (nvB _ && true) = true; first | rfl | (rw [hw]; rfl)) ⟨rfl, Nat.le_of_ble_eq_true rfl⟩ (T_tray hn h12) ?_
        refine w_ild5 i151_55 ?_
        refine w_iadd i151_57 rfl ?_
        refine w_const i151_58 kc_1 ?_
        refine w_iadd i151_59 rfl ?_
        refine w_bip i151_60 kb_60 ?_
        refine w_cgt i151_62 g151_62  (fun h62 => ?_) (fun h62 => ?_)
        · skip
          refine w_ald0 i151_83 ?_
          refine w_gfR i151_84 (by decide) s_171 rfl ?_
          refine w_ild2 i151_87 ?_
          refine w_const i151_88 kc_2 ?_
          refine w_sI2 i151_89 c114 rfl  (by show (nvB _ && true) = true; first | rfl | (rw [hw]; rfl)) ⟨rfl, Nat.le_of_ble_eq_true rfl⟩ T_at ?_
          refine w_dup2 i151_92 rfl rfl ?_
          refine w_ial i151_93 s_172 (by decide) (by omega) rfl ?_
          refine w_ild5 i151_94 ?_
          refine w_iadd i151_96 rfl ?_
          refine w_ias i151_97 s_172 (by decide) (by omega) ?_
          refine w_ald0 i151_98 ?_
          refine w_ild4 i151_99 ?_
          refine w_vV2 i151_101 c121 (Or.inl rfl) ⟨by decide +kernel, by decide⟩ (by show (nvB _ && true) = true; first | rfl | (rw [hw]; rfl)) ⟨rfl, Nat.le_of_ble_eq_true rfl⟩ (T_goes (by omega)) ?_
          refine w_inc3 i151_104 (inc1 _) ?_
          refine w_goto i151_107 g151_107 ?_
          first
            | (rw [ifp_f h41] at hq; exact ih (s + 1) n m D _ rfl (by omega) h12 hn hq)
            | (rw [ifp_t h41, ifp_t h62] at hq
               refine ih (s + 1) n m _ _ rfl (by omega) h12 ((mupJ (by omega)).trans hn) (fun D2 g1 g2 => hq D2 ?_ (fun q g => (g2 q g).trans (mupF g)))
               rw [g1]; rfl)
            | (rw [ifp_t h41, ifp_f (Int32.not_le.mpr h62)] at hq
               refine ih s (n - 1) (m + 1) _ _ rfl (by omega) (by omega) ?_ (fun D2 g1 g2 => ?_)
               · rw [setcE, vGoes_0, mupJ (by omega), hn, nI_sub (by omega)]
               · refine hq D2 ?_ (fun q g => (g2 q g).trans ((setcF g).trans (mupF g)))
                 rw [g1]; rfl)
        · skip
          refine w_ald0 i151_65 ?_
          refine w_gfR i151_66 (by decide) s_171 rfl ?_
          refine w_ild4 i151_69 ?_
          refine w_const i151_71 kc_0 ?_
          refine w_sI2 i151_72 c115 rfl  (by show (nvB _ && true) = true; first | rfl | (rw [hw]; rfl)) ⟨rfl, Nat.le_of_ble_eq_true rfl⟩ T_in ?_
          refine w_ild2 i151_75 ?_
          refine w_ias i151_76 s_172 (by decide) (by omega) ?_
          refine w_inc4 i151_77 (inc1 _) ?_
          refine w_goto i151_80 g151_80 ?_
          refine w_goto i151_107 g151_107 ?_
          first
            | (rw [ifp_f h41] at hq; exact ih (s + 1) n m D _ rfl (by omega) h12 hn hq)
            | (rw [ifp_t h41, ifp_t h62] at hq
               refine ih (s + 1) n m _ _ rfl (by omega) h12 ((mupJ (by omega)).trans hn) (fun D2 g1 g2 => hq D2 ?_ (fun q g => (g2 q g).trans (mupF g)))
               rw [g1]; rfl)
            | (rw [ifp_t h41, ifp_f (Int32.not_le.mpr h62)] at hq
               refine ih s (n - 1) (m + 1) _ _ rfl (by omega) (by omega) ?_ (fun D2 g1 g2 => ?_)
               · rw [setcE, vGoes_0, mupJ (by omega), hn, nI_sub (by omega)]
               · refine hq D2 ?_ (fun q g => (g2 q g).trans ((setcF g).trans (mupF g)))
                 rw [g1]; rfl)
      · skip
        refine w_inc4 i151_44 (inc1 _) ?_
        refine w_goto i151_47 g151_47 ?_
        refine w_goto i151_107 g151_107 ?_
        first
          | (rw [ifp_f h41] at hq; exact ih (s + 1) n m D _ rfl (by omega) h12 hn hq)
          | (rw [ifp_t h41, ifp_t h62] at hq
             refine ih (s + 1) n m _ _ rfl (by omega) h12 ((mupJ (by omega)).trans hn) (fun D2 g1 g2 => hq D2 ?_ (fun q g => (g2 q g).trans (mupF g)))
             rw [g1]; rfl)
          | (rw [ifp_t h41, ifp_f (Int32.not_le.mpr h62)] at hq
             refine ih s (n - 1) (m + 1) _ _ rfl (by omega) (by omega) ?_ (fun D2 g1 g2 => ?_)
             · rw [setcE, vGoes_0, mupJ (by omega), hn, nI_sub (by omega)]
             · refine hq D2 ?_ (fun q g => (g2 q g).trans ((setcF g).trans (mupF g)))
               rw [g1]; rfl)
  exact L5 n 0 n 0 D _ rfl (by omega) h12 hn hq
