/-! the class, what ends -/
theorem dec1 (n : Nat) : nI (n + 1) + Int32.ofInt (-1) = nI n := by
  rw [← nI_add]
  show nI n + nI 1 + (-1) = nI n
  rw [Int32.add_assoc]
  exact Int32.add_zero _
theorem add_rc {a b c : Int32} : a + b + c = a + c + b := by rw [Int32.add_assoc, Int32.add_comm b, ← Int32.add_assoc]
theorem mT_set {n s : Nat} {V : Nat → Int32} {h r : Int32} (hs : s < n) (h1 : V (30 + 8 * s + 0) = h) (hr : ¬ h = r) : mTray n (vup V (30 + 8 * s + 0) r) r = mTray n V r + (V (30 + 8 * s + 1) + nI 1) := by
  have H : ∀ m, s < m → sumN m (fun i => ifp (vup V (30 + 8 * s + 0) r (30 + 8 * i + 0) = r) (vup V (30 + 8 * s + 0) r (30 + 8 * i + 1) + nI 1) (nI 0)) = sumN m (fun i => ifp (V (30 + 8 * i + 0) = r) (V (30 + 8 * i + 1) + nI 1) (nI 0)) + (V (30 + 8 * s + 1) + nI 1) := by
    intro m
    induction m with
    | zero => intro h; exact absurd h (Nat.not_lt_zero s)
    | succ m ih =>
      intro hm
      rw [sumS, sumS]
      by_cases e : s = m
      · subst e
        rw [updE, ifp_t rfl, updJ (by omega), ifp_f (by rw [h1]; exact hr), add0]
        have : sumN s (fun i => ifp (vup V (30 + 8 * s + 0) r (30 + 8 * i + 0) = r) (vup V (30 + 8 * s + 0) r (30 + 8 * i + 1) + nI 1) (nI 0)) = sumN s (fun i => ifp (V (30 + 8 * i + 0) = r) (V (30 + 8 * i + 1) + nI 1) (nI 0)) := sum_congr (fun i hi => by rw [updJ (by omega), updJ (by omega)])
        rw [this]
      · rw [ih (by omega), updJ (by omega), updJ (by omega)]
        exact add_rc
  exact H n hs
theorem mT_go {n s : Nat} {V : Nat → Int32} {r : Int32} (h12 : n ≤ 12) (hs : s < n) (h1 : ¬ V (30 + 8 * s + 0) = r) : mTray (n - 1) (vGoes V s) r = mTray n V r := by
  have H : ∀ m, s < m → m ≤ 12 → sumN (m - 1) (fun i => ifp (vGoes V s (30 + 8 * i + 0) = r) (vGoes V s (30 + 8 * i + 1) + nI 1) (nI 0)) = sumN m (fun i => ifp (V (30 + 8 * i + 0) = r) (V (30 + 8 * i + 1) + nI 1) (nI 0)) := by
    intro m
    induction m with
    | zero => intro h; exact absurd h (Nat.not_lt_zero s)
    | succ m ih =>
      intro hm hm2
      rw [Nat.add_sub_cancel]
      by_cases e : s = m
      · subst e
        rw [sumS, ifp_f h1, add0]
        exact sum_congr (fun i hi => by rw [vGoes_lo (by omega) (by omega), vGoes_lo (by omega) (by omega)])
      · obtain ⟨q, rfl⟩ : ∃ q, m = q + 1 := ⟨m - 1, by omega⟩
        rw [sumS, sumS (n := q + 1), ← ih (by omega) (by omega), Nat.add_sub_cancel, vGoes_hi (by omega) (by omega) (by omega), vGoes_hi (by omega) (by omega) (by omega)]
        rw [show 30 + 8 * q + 0 + 8 = 30 + 8 * (q + 1) + 0 by omega, show 30 + 8 * q + 1 + 8 = 30 + 8 * (q + 1) + 1 by omega]
  exact H n hs h12
theorem mP_move {V : Nat → Int32} {h r : Nat} (hh : h < 6) (hr : r < 6) (hne : r ≠ h) : mPooled (vup (vup V (6 + 4 * r + 3) (V (6 + 4 * r + 3) + V (6 + 4 * h + 3))) (6 + 4 * h + 3) (nI 0)) = mPooled V := by
  have e : (nI 0 : Int32) = vup V (6 + 4 * r + 3) (V (6 + 4 * r + 3) + V (6 + 4 * h + 3)) (6 + 4 * h + 3) + (- V (6 + 4 * h + 3)) := by
    rw [updJ (by omega), Int32.add_right_neg]; rfl
  rw [e, mP_add hh, mP_add hr, Int32.add_assoc, Int32.add_right_neg, Int32.add_zero]
theorem mup_id {D : Mm} {c j : Nat} {x : Int32} (h : D c j = x) : mup D c j x = D := by
  funext q i
  unfold mup
  by_cases e : q = c
  · rw [if_pos e]
    by_cases f : i = j
    · rw [if_pos f, e, f, h]
    · rw [if_neg f]
  · rw [if_neg e]
theorem mup_up {D : Mm} {c j : Nat} {x y : Int32} : mup (mup D c j x) c j y = mup D c j y := by
  funext q i
  unfold mup
  by_cases e : q = c
  · rw [if_pos e, if_pos e, if_pos e]
    by_cases f : i = j
    · rw [if_pos f, if_pos f]
    · rw [if_neg f, if_neg f, if_neg f]
  · rw [if_neg e, if_neg e, if_neg e]
theorem mup_comm {D : Mm} {c c2 j j2 : Nat} {x y : Int32} (h : c ≠ c2) : mup (mup D c j x) c2 j2 y = mup (mup D c2 j2 y) c j x := by
  funext q i
  unfold mup
  by_cases e : q = c2
  · have f : ¬ q = c := by omega
    simp only [if_pos e, if_neg f]
  · rw [if_neg e]
    by_cases f : q = c
    · rw [if_pos f, if_pos f, if_neg e]
    · rw [if_neg f, if_neg f, if_neg e]
theorem rel_move {D : Mm} {n : Nat} {V : Nat → Int32} (R : Rel D n V) {h r : Nat} (hh : h < 6) (hr : r < 6) {x y : Int32} (e : mPooled (vup (vup V (6 + 4 * r + 3) x) (6 + 4 * h + 3) y) = mPooled V) : Rel (mup (mup D 14 r x) 14 h y) n (vup (vup V (6 + 4 * r + 3) x) (6 + 4 * h + 3) y) := by
  have g := rel_pooled (rel_pooled R hr (x := x) rfl) hh (x := y) rfl
  rw [mup_comm (c := 1) (c2 := 14) (by decide), mup_up, e, mup_id (c := 1) (j := 5)] at g
  · exact g
  · exact (mupC (by decide)).trans ((mupC (by decide)).trans R.pl)
theorem vCl0_eq {V : Nat → Int32} {h r : Nat} (hne : r ≠ h) : vCl0 V h r = vup (vup (vup (vup (vup V (6 + 4 * h + 0) (nI 0)) (6 + 4 * r + 2) (V (6 + 4 * r + 2) + V (6 + 4 * h + 2))) (6 + 4 * h + 2) (nI 0)) (6 + 4 * r + 3) (V (6 + 4 * r + 3) + V (6 + 4 * h + 3))) (6 + 4 * h + 3) (nI 0) := by
  unfold vCl0
  dsimp only
  have e1 : vup V (6 + 4 * h + 0) (nI 0) (6 + 4 * r + 2) = V (6 + 4 * r + 2) := updJ (by omega)
  have e2 : vup V (6 + 4 * h + 0) (nI 0) (6 + 4 * h + 2) = V (6 + 4 * h + 2) := updJ (by omega)
  rw [e1, e2]
  have e3 : vup (vup V (6 + 4 * h + 0) (nI 0)) (6 + 4 * r + 2) (V (6 + 4 * r + 2) + V (6 + 4 * h + 2)) (6 + 4 * r + 3) = V (6 + 4 * r + 3) := (updJ (by omega)).trans (updJ (by omega))
  have e4 : vup (vup V (6 + 4 * h + 0) (nI 0)) (6 + 4 * r + 2) (V (6 + 4 * r + 2) + V (6 + 4 * h + 2)) (6 + 4 * h + 3) = V (6 + 4 * h + 3) := (updJ (by omega)).trans (updJ (by omega))
  rw [e3, e4, vup_comm (i := 6 + 4 * r + 3) (j := 6 + 4 * h + 2) (by omega)]
theorem nar0 : vp_nar .boolean (nI 0) = nI 0 := by decide
set_option maxHeartbeats 100000 in
theorem K_rights {d : Nat} {D : Mm} {Q : Option Value → Mm → Prop} {n : Nat} {V : Nat → Int32} (R : Rel D n V) (h12 : n ≤ 12) {h r : Nat} (hq : ∀ D2, Rel D2 n (itr (vRt h r) n V) → FrC D D2 → Q none D2) : Ct (d + 2) 28 [.ref 1, .int (nI h), .int (nI r)] D Q := by
  refine ent m28 rfl rfl (ls := [.ref 1, .int (nI h), .int (nI r), .retAddr 0]) rfl ?_
  refine w_const i28_0 kc_0 ?_
  refine w_ist3 i28_1 ?_
  have L2 : ∀ k i D1, i + k = n → Rel D1 n (itr (vRt h r) i V) → FrC D D1 → Wp (d + 1) 28 Q 2 [.ref 1, .int (nI h), .int (nI r), .int (nI i)] [] D1 := by
    intro k
    induction k with
    | zero =>
      intro i D1 hk gR gf
      have hi : i = n := by omega
      subst hi
      refine w_ild3 i28_2 ?_
      refine w_ald0 i28_3 ?_
      refine w_gfR i28_4 (by decide) s_1 rfl ?_
      refine w_gfI i28_7 (by decide) s_2 rfl gR.ct ?_
      refine w_cgeNT i28_10 g28_10 (by omega) (by omega) (by omega) ?_
      refine w_rv i28_63 r28 ?_
      exact hq _ gR gf
    | succ k ih =>
      intro i D1 hk gR gf
      have hi : i < n := by omega
      have e6 : itr (vRt h r) i V (30 + 8 * i + 6) = V (30 + 8 * i + 6) := itr_hi own_Rt (Or.inl (by omega))
      have e3 : itr (vRt h r) i V (30 + 8 * i + 3) = V (30 + 8 * i + 3) := itr_hi own_Rt (Or.inl (by omega))
      have eI : itr (vRt h r) (i + 1) V = vRt h r i (itr (vRt h r) i V) := rfl
      replace ih := fun D1 => ih (i + 1) D1 (by omega)
      rw [eI, vRt_eq, e6, e3, updJ (show 30 + 8 * i + 6 ≠ 30 + 8 * i + 3 by omega), e6] at ih
      refine w_ild3 i28_2 ?_
      refine w_ald0 i28_3 ?_
      refine w_gfR i28_4 (by decide) s_1 rfl ?_
      refine w_gfI i28_7 (by decide) s_2 rfl gR.ct ?_
      refine w_cgeNF i28_10 (by omega) (by omega) (by omega) ?_
      refine w_ald0 i28_13 ?_
      refine w_gfR i28_14 (by decide) s_1 rfl ?_
      refine w_gfR i28_17 (by decide) s_2 rfl ?_
      refine w_ild3 i28_20 ?_
      refine w_ial i28_21 s_6 (by decide) (by omega) ((gR.c6 hi).trans (congrArg (· - nI 1) e3)) ?_
      refine w_ild1 i28_22 ?_
      refine w_cne i28_23 g28_23  (fun h23 => ?_) (fun h23 => ?_)
      · skip
        skip
        refine w_ald0 i28_36 ?_
        refine w_gfR i28_37 (by decide) s_1 rfl ?_
        refine w_gfR i28_40 (by decide) s_2 rfl ?_
        refine w_ild3 i28_43 ?_
        refine w_ial i28_44 s_8 (by decide) (by omega) (by first | exact (gR.c8 hi).trans (congrArg (· - nI 1) e6) | exact (mupC (by decide)).trans ((gR.c8 hi).trans (congrArg (· - nI 1) e6))) ?_
        refine w_ild1 i28_45 ?_
        refine w_cne i28_46 g28_46  (fun h46 => ?_) (fun h46 => ?_)
        · skip
          refine w_inc3 i28_57 (inc1 _) ?_
          refine w_goto i28_60 g28_60 ?_
          have c3 : ∀ {x : Int32}, x - nI 1 = nI h → x = nI (h + 1) := fun e => (sb1 e).trans (nI_add h 1)
          have c3n : ∀ {x : Int32}, ¬ x - nI 1 = nI h → ¬ x = nI (h + 1) := fun e g => e (sb1r (g.trans (nI_add h 1).symm))
          first
            | (rw [ifp_t (c3 h23), ifp_t (c3 h46)] at ih
               exact ih _ (rel_sd (rel_sn (rel_cr gR h12 hi nI_s1) h12 hi neg1E) h12 hi) (FrC.u (FrC.u (FrC.u gf (by decide) (by decide)) (by decide) (by decide)) (by decide) (by decide)))
            | (rw [ifp_t (c3 h23), ifp_f (c3n h46)] at ih
               exact ih _ (rel_cr gR h12 hi nI_s1) (FrC.u gf (by decide) (by decide)))
            | (rw [ifp_f (c3n h23), ifp_t (c3 h46)] at ih
               exact ih _ (rel_sd (rel_sn gR h12 hi neg1E) h12 hi) (FrC.u (FrC.u gf (by decide) (by decide)) (by decide) (by decide)))
            | (rw [ifp_f (c3n h23), ifp_f (c3n h46)] at ih
               exact ih _ gR gf)
        · skip
          refine w_ald0 i28_49 ?_
          refine w_gfR i28_50 (by decide) s_1 rfl ?_
          refine w_ild3 i28_53 ?_
          refine w_vV2 i28_54 c39 (Or.inl rfl) ⟨by decide +kernel, by decide⟩ rfl ⟨rfl, Nat.le_of_ble_eq_true rfl⟩ (K_release (by omega)) ?_
          refine w_inc3 i28_57 (inc1 _) ?_
          refine w_goto i28_60 g28_60 ?_
          have c3 : ∀ {x : Int32}, x - nI 1 = nI h → x = nI (h + 1) := fun e => (sb1 e).trans (nI_add h 1)
          have c3n : ∀ {x : Int32}, ¬ x - nI 1 = nI h → ¬ x = nI (h + 1) := fun e g => e (sb1r (g.trans (nI_add h 1).symm))
          first
            | (rw [ifp_t (c3 h23), ifp_t (c3 h46)] at ih
               exact ih _ (rel_sd (rel_sn (rel_cr gR h12 hi nI_s1) h12 hi neg1E) h12 hi) (FrC.u (FrC.u (FrC.u gf (by decide) (by decide)) (by decide) (by decide)) (by decide) (by decide)))
            | (rw [ifp_t (c3 h23), ifp_f (c3n h46)] at ih
               exact ih _ (rel_cr gR h12 hi nI_s1) (FrC.u gf (by decide) (by decide)))
            | (rw [ifp_f (c3n h23), ifp_t (c3 h46)] at ih
               exact ih _ (rel_sd (rel_sn gR h12 hi neg1E) h12 hi) (FrC.u (FrC.u gf (by decide) (by decide)) (by decide) (by decide)))
            | (rw [ifp_f (c3n h23), ifp_f (c3n h46)] at ih
               exact ih _ gR gf)
      · skip
        refine w_ald0 i28_26 ?_
        refine w_gfR i28_27 (by decide) s_1 rfl ?_
        refine w_gfR i28_30 (by decide) s_2 rfl ?_
        refine w_ild3 i28_33 ?_
        refine w_ild2 i28_34 ?_
        refine w_ias i28_35 s_6 (by decide) (by omega) ?_
        skip
        refine w_ald0 i28_36 ?_
        refine w_gfR i28_37 (by decide) s_1 rfl ?_
        refine w_gfR i28_40 (by decide) s_2 rfl ?_
        refine w_ild3 i28_43 ?_
        refine w_ial i28_44 s_8 (by decide) (by omega) (by first | exact (gR.c8 hi).trans (congrArg (· - nI 1) e6) | exact (mupC (by decide)).trans ((gR.c8 hi).trans (congrArg (· - nI 1) e6))) ?_
        refine w_ild1 i28_45 ?_
        refine w_cne i28_46 g28_46  (fun h46 => ?_) (fun h46 => ?_)
        · skip
          refine w_inc3 i28_57 (inc1 _) ?_
          refine w_goto i28_60 g28_60 ?_
          have c3 : ∀ {x : Int32}, x - nI 1 = nI h → x = nI (h + 1) := fun e => (sb1 e).trans (nI_add h 1)
          have c3n : ∀ {x : Int32}, ¬ x - nI 1 = nI h → ¬ x = nI (h + 1) := fun e g => e (sb1r (g.trans (nI_add h 1).symm))
          first
            | (rw [ifp_t (c3 h23), ifp_t (c3 h46)] at ih
               exact ih _ (rel_sd (rel_sn (rel_cr gR h12 hi nI_s1) h12 hi neg1E) h12 hi) (FrC.u (FrC.u (FrC.u gf (by decide) (by decide)) (by decide) (by decide)) (by decide) (by decide)))
            | (rw [ifp_t (c3 h23), ifp_f (c3n h46)] at ih
               exact ih _ (rel_cr gR h12 hi nI_s1) (FrC.u gf (by decide) (by decide)))
            | (rw [ifp_f (c3n h23), ifp_t (c3 h46)] at ih
               exact ih _ (rel_sd (rel_sn gR h12 hi neg1E) h12 hi) (FrC.u (FrC.u gf (by decide) (by decide)) (by decide) (by decide)))
            | (rw [ifp_f (c3n h23), ifp_f (c3n h46)] at ih
               exact ih _ gR gf)
        · skip
          refine w_ald0 i28_49 ?_
          refine w_gfR i28_50 (by decide) s_1 rfl ?_
          refine w_ild3 i28_53 ?_
          refine w_vV2 i28_54 c39 (Or.inl rfl) ⟨by decide +kernel, by decide⟩ rfl ⟨rfl, Nat.le_of_ble_eq_true rfl⟩ (K_release (by omega)) ?_
          refine w_inc3 i28_57 (inc1 _) ?_
          refine w_goto i28_60 g28_60 ?_
          have c3 : ∀ {x : Int32}, x - nI 1 = nI h → x = nI (h + 1) := fun e => (sb1 e).trans (nI_add h 1)
          have c3n : ∀ {x : Int32}, ¬ x - nI 1 = nI h → ¬ x = nI (h + 1) := fun e g => e (sb1r (g.trans (nI_add h 1).symm))
          first
            | (rw [ifp_t (c3 h23), ifp_t (c3 h46)] at ih
               exact ih _ (rel_sd (rel_sn (rel_cr gR h12 hi nI_s1) h12 hi neg1E) h12 hi) (FrC.u (FrC.u (FrC.u gf (by decide) (by decide)) (by decide) (by decide)) (by decide) (by decide)))
            | (rw [ifp_t (c3 h23), ifp_f (c3n h46)] at ih
               exact ih _ (rel_cr gR h12 hi nI_s1) (FrC.u gf (by decide) (by decide)))
            | (rw [ifp_f (c3n h23), ifp_t (c3 h46)] at ih
               exact ih _ (rel_sd (rel_sn gR h12 hi neg1E) h12 hi) (FrC.u (FrC.u gf (by decide) (by decide)) (by decide) (by decide)))
            | (rw [ifp_f (c3n h23), ifp_f (c3n h46)] at ih
               exact ih _ gR gf)
  exact L2 n 0 D (by omega) R FrC.rf
set_option maxHeartbeats 100000 in
theorem K_stubs {d : Nat} {D : Mm} {Q : Option Value → Mm → Prop} {n : Nat} {V : Nat → Int32} (R : Rel D n V) (h12 : n ≤ 12) (hn : V 0 = nI n) {h r : Nat} (hr : r < 6) (hh : h < 6) (hne : r ≠ h) (hq : ∀ D2, Rel D2 (n - (vInh h r n 0 n 0 V).1) (vInh h r n 0 n 0 V).2 → FrC D D2 → Q none D2) : Ct (d + 3) 29 [.ref 1, .int (nI h), .int (nI r)] D Q := by
  refine ent m29 rfl rfl (ls := [.ref 1, .int (nI h), .int (nI r), .retAddr 0, .retAddr 0, .retAddr 0, .retAddr 0]) rfl ?_
  refine w_ald0 i29_0 ?_
  refine w_gfR i29_1 (by decide) s_1 rfl ?_
  refine w_ild2 i29_4 ?_
  refine w_vI2 i29_5 c43 (Or.inl rfl) ⟨by decide +kernel, by decide⟩ (by repeat (first | exact nv_nil | refine nv_cons (by first | rfl | assumption) ?_)) ⟨rfl, Nat.le_of_ble_eq_true rfl⟩ (K_weightOn R h12) ?_
  refine w_ist3 i29_8 ?_
  refine w_const i29_9 kc_0 ?_
  refine w_ist4 i29_10 ?_
  refine w_ald0 i29_12 ?_
  refine w_gfR i29_13 (by decide) s_1 rfl ?_
  refine w_gfI i29_16 (by decide) s_2 rfl R.ct ?_
  refine w_ist5 i29_19 ?_
  have L21 : ∀ k s n2 m W (D1 : Mm) (u : Value), nvB u = true → Rel D1 n2 W → W 0 = nI n2 → n2 ≤ 12 → s + k = n2 → FrC D D1 → (∀ D2, Rel D2 (n2 + m - (vInh h r k s n2 m W).1) (vInh h r k s n2 m W).2 → FrC D D2 → Q none D2) → Wp (d + 2) 29 Q 21 [.ref 1, .int (nI h), .int (nI r), .int (mTray n2 W (nI r)), .int (nI s), .int (nI k), u] [] D1 := by
    intro k
    induction k with
    | zero =>
      intro s n2 m W D1 u hu gR gW g12 hk gf hqq
      refine w_ild5 i29_21 ?_
      refine w_ileNT i29_23 g29_23 (by omega) (by omega) ?_
      refine w_rv i29_125 r29 ?_
      exact hqq _ (by rw [show n2 + m - (vInh h r 0 s n2 m W).1 = n2 from Nat.add_sub_cancel n2 m]; exact gR) gf
    | succ k ih =>
      intro s n2 m W D1 u hu gR gW g12 hk gf hqq
      unfold vInh at hqq
      have hnr : ¬ nI h = nI r := fun e => hne (nI_inj (by omega) (by omega) e)
      refine w_ild5 i29_21 ?_
      refine w_ileNF i29_23 (by omega) (by omega) ?_
      refine w_ald0 i29_26 ?_
      refine w_gfR i29_27 (by decide) s_1 rfl ?_
      refine w_gfR i29_30 (by decide) s_2 rfl ?_
      refine w_ild4 i29_33 ?_
      refine w_ial i29_35 s_4 (by decide) (by omega) (gR.c4 (by omega)) ?_
      refine w_const i29_36 kc_1 ?_
      refine w_iadd i29_37 rfl ?_
      refine w_ist6 i29_38 ?_
      refine w_ald0 i29_40 ?_
      refine w_gfR i29_41 (by decide) s_1 rfl ?_
      refine w_gfR i29_44 (by decide) s_2 rfl ?_
      refine w_ild4 i29_47 ?_
      refine w_ial i29_49 s_3 (by decide) (by omega) (gR.c3 (by omega)) ?_
      refine w_ild1 i29_50 ?_
      refine w_ceq i29_51 g29_51  (fun h51 => ?_) (fun h51 => ?_)
      · skip
        refine w_ild3 i29_60 ?_
        refine w_ild6 i29_61 ?_
        refine w_iadd i29_63 rfl ?_
        refine w_bip i29_64 kb_60 ?_
        refine w_cgt i29_66 g29_66  (fun h66 => ?_) (fun h66 => ?_)
        · skip
          refine w_ald0 i29_91 ?_
          refine w_gfR i29_92 (by decide) s_1 rfl ?_
          refine w_ild2 i29_95 ?_
          refine w_dup2 i29_96 rfl rfl ?_
          refine w_ial i29_97 s_13 (by decide) (by omega) (gR.c13 hr) ?_
          refine w_ald0 i29_98 ?_
          refine w_gfR i29_99 (by decide) s_1 rfl ?_
          refine w_gfR i29_102 (by decide) s_2 rfl ?_
          refine w_ild4 i29_105 ?_
          refine w_ial i29_107 s_4 (by decide) (by omega) (gR.c4 (by omega)) ?_
          refine w_iadd i29_108 rfl ?_
          refine w_ias i29_109 s_13 (by decide) (by omega) ?_
          refine w_ald0 i29_110 ?_
          refine w_gfR i29_111 (by decide) s_1 rfl ?_
          refine w_ild4 i29_114 ?_
          refine w_vV2 i29_116 c36 (Or.inl rfl) ⟨by decide +kernel, by decide⟩ (by repeat (first | exact nv_nil | refine nv_cons (by first | rfl | assumption) ?_)) ⟨rfl, Nat.le_of_ble_eq_true rfl⟩ (K_remove (rel_store gR hr).ct (by omega) (by omega)) ?_
          refine w_inc5 i29_119 (dec1 _) ?_
          refine w_goto i29_122 g29_122 ?_
          first
            | (rw [ifp_f h51] at hqq
               exact ih _ _ _ _ _ _ (by first | rfl | assumption) gR gW g12 (by omega) gf hqq)
            | (rw [ifp_t h51, ifp_t (by rw [Int32.add_assoc]; exact h66)] at hqq
               have e := mT_set (n := n2) (s := s) (r := nI r) (by omega) h51 hnr
               rw [← e]
               exact ih _ _ _ _ _ _ (by first | rfl | assumption) (rel_of gR g12 (by omega)) ((updJ (by omega)).trans gW) g12 (by omega) (FrC.u gf (by decide) (by decide)) hqq)
            | (rw [ifp_t h51, ifp_f (by rw [Int32.add_assoc]; exact Int32.not_le.mpr h66)] at hqq
               have e := mT_go (n := n2) (s := s) (V := vup W (6 + 4 * r + 2) (W (6 + 4 * r + 2) + W (30 + 8 * s + 1))) (r := nI r) g12 (by omega) (by rw [updJ (by omega), h51]; exact hnr)
               rw [mT_lo (by omega)] at e
               rw [← e]
               refine ih _ _ (m + 1) _ _ _ (by first | rfl | assumption) (rel_goes (rel_store gR hr) g12 (by omega)) (vGoes_0n ((updJ (by omega)).trans gW) (by omega)) (by omega) (by omega) (FrC.tr (FrC.u gf (by decide) (by decide)) fr_goes) ?_
               rw [show n2 - 1 + (m + 1) = n2 + m by omega]
               exact hqq)
        · skip
          refine w_ald0 i29_69 ?_
          refine w_gfR i29_70 (by decide) s_1 rfl ?_
          refine w_gfR i29_73 (by decide) s_2 rfl ?_
          refine w_ild4 i29_76 ?_
          refine w_ild2 i29_78 ?_
          refine w_ias i29_79 s_3 (by decide) (by omega) ?_
          refine w_ild3 i29_80 ?_
          refine w_ild6 i29_81 ?_
          refine w_iadd i29_83 rfl ?_
          refine w_ist3 i29_84 ?_
          refine w_inc4 i29_85 (inc1 _) ?_
          refine w_goto i29_88 g29_88 ?_
          refine w_inc5 i29_119 (dec1 _) ?_
          refine w_goto i29_122 g29_122 ?_
          first
            | (rw [ifp_f h51] at hqq
               exact ih _ _ _ _ _ _ (by first | rfl | assumption) gR gW g12 (by omega) gf hqq)
            | (rw [ifp_t h51, ifp_t (by rw [Int32.add_assoc]; exact h66)] at hqq
               have e := mT_set (n := n2) (s := s) (r := nI r) (by omega) h51 hnr
               rw [← e]
               exact ih _ _ _ _ _ _ (by first | rfl | assumption) (rel_of gR g12 (by omega)) ((updJ (by omega)).trans gW) g12 (by omega) (FrC.u gf (by decide) (by decide)) hqq)
            | (rw [ifp_t h51, ifp_f (by rw [Int32.add_assoc]; exact Int32.not_le.mpr h66)] at hqq
               have e := mT_go (n := n2) (s := s) (V := vup W (6 + 4 * r + 2) (W (6 + 4 * r + 2) + W (30 + 8 * s + 1))) (r := nI r) g12 (by omega) (by rw [updJ (by omega), h51]; exact hnr)
               rw [mT_lo (by omega)] at e
               rw [← e]
               refine ih _ _ (m + 1) _ _ _ (by first | rfl | assumption) (rel_goes (rel_store gR hr) g12 (by omega)) (vGoes_0n ((updJ (by omega)).trans gW) (by omega)) (by omega) (by omega) (FrC.tr (FrC.u gf (by decide) (by decide)) fr_goes) ?_
               rw [show n2 - 1 + (m + 1) = n2 + m by omega]
               exact hqq)
      · skip
        refine w_inc4 i29_54 (inc1 _) ?_
        refine w_goto i29_57 g29_57 ?_
        refine w_inc5 i29_119 (dec1 _) ?_
        refine w_goto i29_122 g29_122 ?_
        first
          | (rw [ifp_f h51] at hqq
             exact ih _ _ _ _ _ _ (by first | rfl | assumption) gR gW g12 (by omega) gf hqq)
          | (rw [ifp_t h51, ifp_t (by rw [Int32.add_assoc]; exact h66)] at hqq
             have e := mT_set (n := n2) (s := s) (r := nI r) (by omega) h51 hnr
             rw [← e]
             exact ih _ _ _ _ _ _ (by first | rfl | assumption) (rel_of gR g12 (by omega)) ((updJ (by omega)).trans gW) g12 (by omega) (FrC.u gf (by decide) (by decide)) hqq)
          | (rw [ifp_t h51, ifp_f (by rw [Int32.add_assoc]; exact Int32.not_le.mpr h66)] at hqq
             have e := mT_go (n := n2) (s := s) (V := vup W (6 + 4 * r + 2) (W (6 + 4 * r + 2) + W (30 + 8 * s + 1))) (r := nI r) g12 (by omega) (by rw [updJ (by omega), h51]; exact hnr)
             rw [mT_lo (by omega)] at e
             rw [← e]
             refine ih _ _ (m + 1) _ _ _ (by first | rfl | assumption) (rel_goes (rel_store gR hr) g12 (by omega)) (vGoes_0n ((updJ (by omega)).trans gW) (by omega)) (by omega) (by omega) (FrC.tr (FrC.u gf (by decide) (by decide)) fr_goes) ?_
             rw [show n2 - 1 + (m + 1) = n2 + m by omega]
             exact hqq)
  exact L21 n 0 n 0 V D _ (by first | rfl | assumption) R hn h12 (by omega) FrC.rf hq
def ownN (n : Nat) (V : Nat → Int32) (r : Nat) : Prop := ∀ s, s < n → ¬ V (30 + 8 * s + 0) = nI r → ¬ V (30 + 8 * s + 3) = V (30 + 8 * s + 0) + nI 1 ∧ ¬ V (30 + 8 * s + 6) = V (30 + 8 * s + 0) + nI 1
theorem c0t {x y : Int32} {r : Nat} (e : x - nI 1 = y) (g : y = nI r) : x = nI (r + 1) := by rw [sb1 e, g, nI_add]
theorem c0f {x y : Int32} {r : Nat} (e : ¬ x - nI 1 = y) (g : y = nI r) : ¬ x = nI (r + 1) := fun q => e (sb1r (by rw [q, g, nI_add]))
set_option maxHeartbeats 100000 in
theorem K_drop {d : Nat} {D : Mm} {Q : Option Value → Mm → Prop} {n : Nat} {V : Nat → Int32} (R : Rel D n V) (h12 : n ≤ 12) {r : Nat} (hw : ownN n V r) (hq : ∀ D2, Rel D2 n (itr (vFr1 r) n V) → FrC D D2 → Q none D2) : Ct (d + 2) 30 [.ref 1] D Q := by
  refine ent m30 rfl rfl (ls := [.ref 1, .retAddr 0]) rfl ?_
  refine w_const i30_0 kc_0 ?_
  refine w_ist1 i30_1 ?_
  have L2 : ∀ k i D1, i + k = n → Rel D1 n (itr (vFr1 r) i V) → FrC D D1 → Wp (d + 1) 30 Q 2 [.ref 1, .int (nI i)] [] D1 := by
    intro k
    induction k with
    | zero =>
      intro i D1 hk gR gf
      have hi : i = n := by omega
      subst hi
      refine w_ild1 i30_2 ?_
      refine w_ald0 i30_3 ?_
      refine w_gfR i30_4 (by decide) s_1 rfl ?_
      refine w_gfI i30_7 (by decide) s_2 rfl gR.ct ?_
      refine w_cgeNT i30_10 g30_10 (by omega) (by omega) (by omega) ?_
      refine w_rv i30_77 r30 ?_
      exact hq _ gR gf
    | succ k ih =>
      intro i D1 hk gR gf
      have hi : i < n := by omega
      have e6 : itr (vFr1 r) i V (30 + 8 * i + 6) = V (30 + 8 * i + 6) := itr_hi own_Fr1 (Or.inl (by omega))
      have e3 : itr (vFr1 r) i V (30 + 8 * i + 3) = V (30 + 8 * i + 3) := itr_hi own_Fr1 (Or.inl (by omega))
      have e0 : itr (vFr1 r) i V (30 + 8 * i + 0) = V (30 + 8 * i + 0) := itr_hi own_Fr1 (Or.inl (by omega))
      have eI : itr (vFr1 r) (i + 1) V = vFr1 r i (itr (vFr1 r) i V) := rfl
      replace ih := fun D1 => ih (i + 1) D1 (by omega)
      rw [eI, vFr1_eq, e6, e3, e0] at ih
      refine w_ild1 i30_2 ?_
      refine w_ald0 i30_3 ?_
      refine w_gfR i30_4 (by decide) s_1 rfl ?_
      refine w_gfI i30_7 (by decide) s_2 rfl gR.ct ?_
      refine w_cgeNF i30_10 (by omega) (by omega) (by omega) ?_
      refine w_ald0 i30_13 ?_
      refine w_gfR i30_14 (by decide) s_1 rfl ?_
      refine w_gfR i30_17 (by decide) s_2 rfl ?_
      refine w_ild1 i30_20 ?_
      refine w_ial i30_21 s_6 (by decide) (by omega) ((gR.c6 hi).trans (congrArg (· - nI 1) e3)) ?_
      refine w_ald0 i30_22 ?_
      refine w_gfR i30_23 (by decide) s_1 rfl ?_
      refine w_gfR i30_26 (by decide) s_2 rfl ?_
      refine w_ild1 i30_29 ?_
      refine w_ial i30_30 s_3 (by decide) (by omega) ((gR.c3 hi).trans e0) ?_
      refine w_cne i30_31 g30_31  (fun h31 => ?_) (fun h31 => ?_)
      · skip
        refine w_ald0 i30_42 ?_
        refine w_gfR i30_43 (by decide) s_1 rfl ?_
        refine w_gfR i30_46 (by decide) s_2 rfl ?_
        refine w_ild1 i30_49 ?_
        refine w_ial i30_50 s_8 (by decide) (by omega) (by first | exact (gR.c8 hi).trans (congrArg (· - nI 1) e6) | exact (mupC (by decide)).trans ((mupC (by decide)).trans ((gR.c8 hi).trans (congrArg (· - nI 1) e6)))) ?_
        refine w_ald0 i30_51 ?_
        refine w_gfR i30_52 (by decide) s_1 rfl ?_
        refine w_gfR i30_55 (by decide) s_2 rfl ?_
        refine w_ild1 i30_58 ?_
        refine w_ial i30_59 s_3 (by decide) (by omega) (by first | exact (gR.c3 hi).trans e0 | exact (mupC (by decide)).trans ((mupC (by decide)).trans ((gR.c3 hi).trans e0))) ?_
        refine w_cne i30_60 g30_60  (fun h60 => ?_) (fun h60 => ?_)
        · skip
          refine w_inc1 i30_71 (inc1 _) ?_
          refine w_goto i30_74 g30_74 ?_
          by_cases hr : V (30 + 8 * i + 0) = nI r
          · rw [ifp_t hr] at ih
            first
              | (rw [ifp_t (c0t h31 hr), ifp_t (c0t h60 hr)] at ih
                 exact ih _ (rel_sd (rel_sn (rel_debt (rel_cr gR h12 hi neg1E) h12 hi) h12 hi neg1E) h12 hi) (FrC.u (FrC.u (FrC.u (FrC.u gf (by decide) (by decide)) (by decide) (by decide)) (by decide) (by decide)) (by decide) (by decide)))
              | (rw [ifp_t (c0t h31 hr), ifp_f (c0f h60 hr)] at ih
                 exact ih _ (rel_debt (rel_cr gR h12 hi neg1E) h12 hi) (FrC.u (FrC.u gf (by decide) (by decide)) (by decide) (by decide)))
              | (rw [ifp_f (c0f h31 hr), ifp_t (c0t h60 hr)] at ih
                 exact ih _ (rel_sd (rel_sn gR h12 hi neg1E) h12 hi) (FrC.u (FrC.u gf (by decide) (by decide)) (by decide) (by decide)))
              | (rw [ifp_f (c0f h31 hr), ifp_f (c0f h60 hr)] at ih
                 exact ih _ gR gf)
          · rw [ifp_f hr] at ih
            have hq2 := hw i hi hr
            first
              | exact absurd (sb1 h31) hq2.1
              | exact absurd (sb1 h60) hq2.2
              | exact ih _ gR gf
        · skip
          refine w_ald0 i30_63 ?_
          refine w_gfR i30_64 (by decide) s_1 rfl ?_
          refine w_ild1 i30_67 ?_
          refine w_vV2 i30_68 c39 (Or.inl rfl) ⟨by decide +kernel, by decide⟩ rfl ⟨rfl, Nat.le_of_ble_eq_true rfl⟩ (K_release (by omega)) ?_
          refine w_inc1 i30_71 (inc1 _) ?_
          refine w_goto i30_74 g30_74 ?_
          by_cases hr : V (30 + 8 * i + 0) = nI r
          · rw [ifp_t hr] at ih
            first
              | (rw [ifp_t (c0t h31 hr), ifp_t (c0t h60 hr)] at ih
                 exact ih _ (rel_sd (rel_sn (rel_debt (rel_cr gR h12 hi neg1E) h12 hi) h12 hi neg1E) h12 hi) (FrC.u (FrC.u (FrC.u (FrC.u gf (by decide) (by decide)) (by decide) (by decide)) (by decide) (by decide)) (by decide) (by decide)))
              | (rw [ifp_t (c0t h31 hr), ifp_f (c0f h60 hr)] at ih
                 exact ih _ (rel_debt (rel_cr gR h12 hi neg1E) h12 hi) (FrC.u (FrC.u gf (by decide) (by decide)) (by decide) (by decide)))
              | (rw [ifp_f (c0f h31 hr), ifp_t (c0t h60 hr)] at ih
                 exact ih _ (rel_sd (rel_sn gR h12 hi neg1E) h12 hi) (FrC.u (FrC.u gf (by decide) (by decide)) (by decide) (by decide)))
              | (rw [ifp_f (c0f h31 hr), ifp_f (c0f h60 hr)] at ih
                 exact ih _ gR gf)
          · rw [ifp_f hr] at ih
            have hq2 := hw i hi hr
            first
              | exact absurd (sb1 h31) hq2.1
              | exact absurd (sb1 h60) hq2.2
              | exact ih _ gR gf
      · skip
        refine w_ald0 i30_34 ?_
        refine w_gfR i30_35 (by decide) s_1 rfl ?_
        refine w_ild1 i30_38 ?_
        refine w_vV2 i30_39 c38 (Or.inl rfl) ⟨by decide +kernel, by decide⟩ rfl ⟨rfl, Nat.le_of_ble_eq_true rfl⟩ (K_forgive (by omega)) ?_
        refine w_ald0 i30_42 ?_
        refine w_gfR i30_43 (by decide) s_1 rfl ?_
        refine w_gfR i30_46 (by decide) s_2 rfl ?_
        refine w_ild1 i30_49 ?_
        refine w_ial i30_50 s_8 (by decide) (by omega) (by first | exact (gR.c8 hi).trans (congrArg (· - nI 1) e6) | exact (mupC (by decide)).trans ((mupC (by decide)).trans ((gR.c8 hi).trans (congrArg (· - nI 1) e6)))) ?_
        refine w_ald0 i30_51 ?_
        refine w_gfR i30_52 (by decide) s_1 rfl ?_
        refine w_gfR i30_55 (by decide) s_2 rfl ?_
        refine w_ild1 i30_58 ?_
        refine w_ial i30_59 s_3 (by decide) (by omega) (by first | exact (gR.c3 hi).trans e0 | exact (mupC (by decide)).trans ((mupC (by decide)).trans ((gR.c3 hi).trans e0))) ?_
        refine w_cne i30_60 g30_60  (fun h60 => ?_) (fun h60 => ?_)
        · skip
          refine w_inc1 i30_71 (inc1 _) ?_
          refine w_goto i30_74 g30_74 ?_
          by_cases hr : V (30 + 8 * i + 0) = nI r
          · rw [ifp_t hr] at ih
            first
              | (rw [ifp_t (c0t h31 hr), ifp_t (c0t h60 hr)] at ih
                 exact ih _ (rel_sd (rel_sn (rel_debt (rel_cr gR h12 hi neg1E) h12 hi) h12 hi neg1E) h12 hi) (FrC.u (FrC.u (FrC.u (FrC.u gf (by decide) (by decide)) (by decide) (by decide)) (by decide) (by decide)) (by decide) (by decide)))
              | (rw [ifp_t (c0t h31 hr), ifp_f (c0f h60 hr)] at ih
                 exact ih _ (rel_debt (rel_cr gR h12 hi neg1E) h12 hi) (FrC.u (FrC.u gf (by decide) (by decide)) (by decide) (by decide)))
              | (rw [ifp_f (c0f h31 hr), ifp_t (c0t h60 hr)] at ih
                 exact ih _ (rel_sd (rel_sn gR h12 hi neg1E) h12 hi) (FrC.u (FrC.u gf (by decide) (by decide)) (by decide) (by decide)))
              | (rw [ifp_f (c0f h31 hr), ifp_f (c0f h60 hr)] at ih
                 exact ih _ gR gf)
          · rw [ifp_f hr] at ih
            have hq2 := hw i hi hr
            first
              | exact absurd (sb1 h31) hq2.1
              | exact absurd (sb1 h60) hq2.2
              | exact ih _ gR gf
        · skip
          refine w_ald0 i30_63 ?_
          refine w_gfR i30_64 (by decide) s_1 rfl ?_
          refine w_ild1 i30_67 ?_
          refine w_vV2 i30_68 c39 (Or.inl rfl) ⟨by decide +kernel, by decide⟩ rfl ⟨rfl, Nat.le_of_ble_eq_true rfl⟩ (K_release (by omega)) ?_
          refine w_inc1 i30_71 (inc1 _) ?_
          refine w_goto i30_74 g30_74 ?_
          by_cases hr : V (30 + 8 * i + 0) = nI r
          · rw [ifp_t hr] at ih
            first
              | (rw [ifp_t (c0t h31 hr), ifp_t (c0t h60 hr)] at ih
                 exact ih _ (rel_sd (rel_sn (rel_debt (rel_cr gR h12 hi neg1E) h12 hi) h12 hi neg1E) h12 hi) (FrC.u (FrC.u (FrC.u (FrC.u gf (by decide) (by decide)) (by decide) (by decide)) (by decide) (by decide)) (by decide) (by decide)))
              | (rw [ifp_t (c0t h31 hr), ifp_f (c0f h60 hr)] at ih
                 exact ih _ (rel_debt (rel_cr gR h12 hi neg1E) h12 hi) (FrC.u (FrC.u gf (by decide) (by decide)) (by decide) (by decide)))
              | (rw [ifp_f (c0f h31 hr), ifp_t (c0t h60 hr)] at ih
                 exact ih _ (rel_sd (rel_sn gR h12 hi neg1E) h12 hi) (FrC.u (FrC.u gf (by decide) (by decide)) (by decide) (by decide)))
              | (rw [ifp_f (c0f h31 hr), ifp_f (c0f h60 hr)] at ih
                 exact ih _ gR gf)
          · rw [ifp_f hr] at ih
            have hq2 := hw i hi hr
            first
              | exact absurd (sb1 h31) hq2.1
              | exact absurd (sb1 h60) hq2.2
              | exact ih _ gR gf
  exact L2 n 0 D (by omega) R FrC.rf
set_option maxHeartbeats 100000 in
theorem K_handOver {d : Nat} {D : Mm} {Q : Option Value → Mm → Prop} {n : Nat} {V : Nat → Int32} (R : Rel D n V) (h12 : n ≤ 12) (hn : V 0 = nI n) {h r : Nat} (hr : r < 6) (hh : h < 6) (hne : r ≠ h) (hw : ownN (n - (vInh h r n 0 n 0 (itr (vRt h r) n (vCl0 V h r))).1) (vInh h r n 0 n 0 (itr (vRt h r) n (vCl0 V h r))).2 r) (hq : ∀ D2, Rel D2 (n - (vClosed n V h r).1) (vClosed n V h r).2 → FrC D D2 → Q none D2) : Ct (d + 5) 27 [.ref 1, .int (nI h), .int (nI r)] D Q := by
  refine ent m27 rfl rfl (ls := [.ref 1, .int (nI h), .int (nI r)]) rfl ?_
  refine w_ald0 i27_0 ?_
  refine w_gfR i27_1 (by decide) s_1 rfl ?_
  refine w_ild1 i27_4 ?_
  refine w_const i27_5 kc_0 ?_
  refine w_zas i27_6 s_11 (by decide) (by omega) ?_
  refine w_ald0 i27_7 ?_
  refine w_gfR i27_8 (by decide) s_1 rfl ?_
  refine w_ild2 i27_11 ?_
  refine w_dup2 i27_12 rfl rfl ?_
  refine w_ial i27_13 s_13 (by decide) (by omega) ((mupC (by decide)).trans (R.c13 hr)) ?_
  refine w_ald0 i27_14 ?_
  refine w_gfR i27_15 (by decide) s_1 rfl ?_
  refine w_ild1 i27_18 ?_
  refine w_ial i27_19 s_13 (by decide) (by omega) ((mupC (by decide)).trans (R.c13 hh)) ?_
  refine w_iadd i27_20 rfl ?_
  refine w_ias i27_21 s_13 (by decide) (by omega) ?_
  refine w_ald0 i27_22 ?_
  refine w_gfR i27_23 (by decide) s_1 rfl ?_
  refine w_ild1 i27_26 ?_
  refine w_const i27_27 kc_0 ?_
  refine w_ias i27_28 s_13 (by decide) (by omega) ?_
  refine w_ald0 i27_29 ?_
  refine w_gfR i27_30 (by decide) s_1 rfl ?_
  refine w_ild2 i27_33 ?_
  refine w_dup2 i27_34 rfl rfl ?_
  refine w_ial i27_35 s_14 (by decide) (by omega) ((mupC (by decide)).trans ((mupC (by decide)).trans ((mupC (by decide)).trans (R.c14 hr)))) ?_
  refine w_ald0 i27_36 ?_
  refine w_gfR i27_37 (by decide) s_1 rfl ?_
  refine w_ild1 i27_40 ?_
  refine w_ial i27_41 s_14 (by decide) (by omega) ((mupC (by decide)).trans ((mupC (by decide)).trans ((mupC (by decide)).trans (R.c14 hh)))) ?_
  refine w_iadd i27_42 rfl ?_
  refine w_ias i27_43 s_14 (by decide) (by omega) ?_
  refine w_ald0 i27_44 ?_
  refine w_gfR i27_45 (by decide) s_1 rfl ?_
  refine w_ild1 i27_48 ?_
  refine w_const i27_49 kc_0 ?_
  refine w_ias i27_50 s_14 (by decide) (by omega) ?_
  have g0 := rel_store (x := nI 0) (rel_store (x := V (6 + 4 * r + 2) + V (6 + 4 * h + 2)) (rel_open (x := vp_nar .boolean (nI 0)) R hh) hr) hh
  have g1 := rel_move (x := V (6 + 4 * r + 3) + V (6 + 4 * h + 3)) (y := nI 0) g0 hh hr (by
    have e1 : (vup (vup (vup V (6 + 4 * h + 0) (vp_nar .boolean (nI 0))) (6 + 4 * r + 2) (V (6 + 4 * r + 2) + V (6 + 4 * h + 2))) (6 + 4 * h + 2) (nI 0)) (6 + 4 * r + 3) = V (6 + 4 * r + 3) := (updJ (by omega)).trans ((updJ (by omega)).trans (updJ (by omega)))
    have e2 : (vup (vup (vup V (6 + 4 * h + 0) (vp_nar .boolean (nI 0))) (6 + 4 * r + 2) (V (6 + 4 * r + 2) + V (6 + 4 * h + 2))) (6 + 4 * h + 2) (nI 0)) (6 + 4 * h + 3) = V (6 + 4 * h + 3) := (updJ (by omega)).trans ((updJ (by omega)).trans (updJ (by omega)))
    rw [← e1, ← e2]
    exact mP_move hh hr hne)
  have g2 : Rel (mup (mup (mup (mup (mup D 11 h (vp_nar .boolean (nI 0))) 13 r (V (6 + 4 * r + 2) + V (6 + 4 * h + 2))) 13 h (nI 0)) 14 r (V (6 + 4 * r + 3) + V (6 + 4 * h + 3))) 14 h (nI 0)) n (vCl0 V h r) := by
    rw [vCl0_eq hne]
    rw [nar0] at g1
    rw [nar0]
    exact g1
  have f1 : FrC D (mup (mup (mup (mup (mup D 11 h (vp_nar .boolean (nI 0))) 13 r (V (6 + 4 * r + 2) + V (6 + 4 * h + 2))) 13 h (nI 0)) 14 r (V (6 + 4 * r + 3) + V (6 + 4 * h + 3))) 14 h (nI 0)) := FrC.u (FrC.u (FrC.u (FrC.u (FrC.u FrC.rf (by decide) (by decide)) (by decide) (by decide)) (by decide) (by decide)) (by decide) (by decide)) (by decide) (by decide)
  have hR0 := Rt_n (n := n) (h := h) (r := r) (i := n) (V := V) hn
  have hI := vInh_n (h := h) (r := r) n 0 n 0 (itr (vRt h r) n (vCl0 V h r)) hR0 (by omega)
  refine w_ald0 i27_51 ?_
  refine w_ild1 i27_52 ?_
  refine w_ild2 i27_53 ?_
  refine w_vG3 i27_54 c28 (Or.inl rfl) ⟨by decide +kernel, by decide⟩ rfl ⟨rfl, Nat.le_of_ble_eq_true rfl⟩ ?_
  refine K_rights g2 h12 (fun D2 g3 f3 => ?_)
  refine w_ald0 i27_57 ?_
  refine w_ild1 i27_58 ?_
  refine w_ild2 i27_59 ?_
  refine w_vG3 i27_60 c29 (Or.inl rfl) ⟨by decide +kernel, by decide⟩ rfl ⟨rfl, Nat.le_of_ble_eq_true rfl⟩ ?_
  refine K_stubs g3 h12 hR0 hr hh hne (fun D3 g4 f4 => ?_)
  refine w_ald0 i27_63 ?_
  refine w_vG1 i27_64 c30 (Or.inl rfl) ⟨by decide +kernel, by decide⟩ rfl ⟨rfl, Nat.le_of_ble_eq_true rfl⟩ ?_
  refine K_drop g4 (by omega) hw (fun D4 g5 f5 => ?_)
  refine w_rv i27_67 r27 ?_
  exact hq _ g5 ((f1.tr f3).tr (f4.tr f5))
set_option maxHeartbeats 100000 in
theorem K_E_bad {d : Nat} {D : Mm} {Q : Option Value → Mm → Prop} {a : Int32} (hb : badH a) (h : OutX (.inl (-1011, [])) D Q) : Ct (d + 7) 95 [.ref 0, .int a] D Q := by
  refine ent m95 rfl rfl (ls := [.ref 0, .int a, .retAddr 0]) rfl ?_
  refine w_ild1 i95_0 ?_
  refine w_sI1 i95_1 c99 rfl  rfl ⟨rfl, Nat.le_of_ble_eq_true rfl⟩ (K_isHouse_f hb) ?_
  refine w_ineNF i95_4 (by omega) (by omega) ?_
  refine w_sip i95_7 ks_m1011 ?_
  refine w_ri i95_10 r95 ?_
  exact OutX_n h
theorem vClosed_0 {n h r : Nat} {V : Nat → Int32} (hn : V 0 = nI n) : (vClosed n V h r).2 0 = nI (n - (vClosed n V h r).1) := by
  have hI := vInh_n (h := h) (r := r) n 0 n 0 (itr (vRt h r) n (vCl0 V h r)) (Rt_n hn) (by omega)
  exact (itr_hi own_Fr1 (Or.inr (by decide))).trans hI.1
set_option maxHeartbeats 100000 in
theorem K_E {d : Nat} {D : Mm} {Q : Option Value → Mm → Prop} {n : Nat} {V : Nat → Int32} (R : Rel D n V) (h12 : n ≤ 12) (hn : V 0 = nI n) (ho : opV V) (hhr : okHr V) {j : Nat} (hj : j < 6) (hw : ∀ r, vSucc V j = some r → ownN (n - (vInh j r n 0 n 0 (itr (vRt j r) n (vCl0 V j r))).1) (vInh j r n 0 n 0 (itr (vRt j r) n (vCl0 V j r))).2 r) (h : OutX (vCloses n V j) D Q) : Ct (d + 7) 95 [.ref 0, .int (nI j)] D Q := by
  refine ent m95 rfl rfl (ls := [.ref 0, .int (nI j), .retAddr 0]) rfl ?_
  refine w_ild1 i95_0 ?_
  refine w_sI1 i95_1 c99 rfl  rfl ⟨rfl, Nat.le_of_ble_eq_true rfl⟩ (K_isHouse_t hj) ?_
  refine w_ineNT i95_4 g95_4 (by omega) (by omega) ?_
  refine w_ald0 i95_11 ?_
  refine w_gfR i95_12 (by decide) s_0 rfl ?_
  refine w_gfR i95_15 (by decide) s_1 rfl ?_
  refine w_ild1 i95_18 ?_
  refine w_zal i95_19 s_11 (by decide) (by omega) (R.c11 (by assumption)) ?_
  refine w_ine i95_20 g95_20  (fun h20 => ?_) (fun h20 => ?_)
  · skip
    refine w_ald0 i95_30 ?_
    refine w_gfR i95_31 (by decide) s_0 rfl ?_
    refine w_ild1 i95_34 ?_
    refine w_vG2 i95_35 c26 (Or.inl rfl) ⟨by decide +kernel, by decide⟩ rfl ⟨rfl, Nat.le_of_ble_eq_true rfl⟩ ?_
    refine K_succ R h12 hj (opV_t ho hj h20) ho hhr ?_
    have hX := OutXT h (opV_t ho hj h20)
    cases he : vSucc V j with
    | none =>
      rw [he] at hX
      refine w_ist2 i95_38 ?_
      refine w_ild2 i95_39 ?_
      refine w_const i95_40 kc_m1 ?_
      refine w_cneF i95_41 rfl ?_
      refine w_ald0 i95_44 ?_
      refine w_bip i95_45 kb_15 ?_
      refine w_ild1 i95_47 ?_
      refine w_vI3 i95_48 c102 (Or.inl rfl) ⟨by decide +kernel, by decide⟩ rfl ⟨rfl, Nat.le_of_ble_eq_true rfl⟩ K_refuse ?_
      exact w_ri i95_51 r95 (OutX_1 hX)
    | some r =>
      rw [he] at hX
      have hr := vSucc_lt hhr hj he
      refine w_ist2 i95_38 ?_
      refine w_ild2 i95_39 ?_
      refine w_const i95_40 kc_m1 ?_
      refine w_cneT i95_41 g95_41 (fun e => ne1 (show r < 2147483648 by omega) e.symm) ?_
      refine w_ald0 i95_52 ?_
      refine w_gfR i95_53 (by decide) s_0 rfl ?_
      refine w_ild1 i95_56 ?_
      refine w_ild2 i95_57 ?_
      refine w_vG3 i95_58 c27 (Or.inl rfl) ⟨by decide +kernel, by decide⟩ rfl ⟨rfl, Nat.le_of_ble_eq_true rfl⟩ ?_
      have hv := vClosed_0 (h := j) (r := r) hn
      refine K_handOver R h12 hn hr.1 hj hr.2.1 (hw r he) (fun D2 g f => ?_)
      refine w_ild2 i95_61 ?_
      exact w_ri i95_62 r95 (OutX_s hX g hv (by omega) f)
  · skip
    refine w_ald0 i95_23 ?_
    refine w_const i95_24 kc_2 ?_
    refine w_ild1 i95_25 ?_
    refine w_vI3 i95_26 c102 (Or.inl rfl) ⟨by decide +kernel, by decide⟩ rfl ⟨rfl, Nat.le_of_ble_eq_true rfl⟩ K_refuse ?_
    refine w_ri i95_29 r95 ?_
    exact OutX_1 (OutXF h (opV_f h20))
